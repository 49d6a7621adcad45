def RX : String := "DesignSpaces"
def TX : u_T := fun k => match k with
  | 0 => ("DesignSpaces", "shape", "LDesignSpaces$Shape;", true)
  | 1 => ("DesignSpaces", "book", "LDesignSpaces$Book;", true)
  | 2 => ("DesignSpaces", "front", "LDesignSpaces$Front;", true)
  | 3 => ("DesignSpaces", "search", "LDesignSpaces$Search;", true)
  | 4 => ("DesignSpaces", "walker", "LDesignSpaces$Walker;", true)
  | _ => ("DesignSpaces", "sweeper", "LDesignSpaces$Sweeper;", true)
def tyX : Nat → FieldType := fun k => match k with
  | 0 => .object "DesignSpaces$Shape"
  | 1 => .object "DesignSpaces$Book"
  | 2 => .object "DesignSpaces$Front"
  | 3 => .object "DesignSpaces$Search"
  | 4 => .object "DesignSpaces$Walker"
  | _ => .object "DesignSpaces$Sweeper"
abbrev wsX0 : List Cond := u_ws RX TX 6
theorem nmX : ∀ a, a < 6 → ∀ b, b < 6 → a ≠ b → (TX a).2.1 ≠ (TX b).2.1 := by decide +kernel
theorem tyX_ok : ∀ k, k < 6 → parseFieldDescriptor (TX k).2.2.1 = some (tyX k) := by decide +kernel
def RSh : String := "DesignSpaces$Shape"
def TSh : u_T := fun k => match k with
  | 0 => ("DesignSpaces$Shape", "sizes", "[I", true)
  | 1 => ("DesignSpaces$Shape", "places", "[I", true)
  | 2 => ("DesignSpaces$Shape", "choices", "I", false)
  | _ => ("DesignSpaces$Shape", "designs", "I", false)
def tySh : Nat → FieldType := fun k => match k with
  | 0 => .array .int
  | 1 => .array .int
  | 2 => .int
  | _ => .int
abbrev wsSh0 : List Cond := u_ws RSh TSh 4
theorem nmSh : ∀ a, a < 4 → ∀ b, b < 4 → a ≠ b → (TSh a).2.1 ≠ (TSh b).2.1 := by decide +kernel
theorem tySh_ok : ∀ k, k < 4 → parseFieldDescriptor (TSh k).2.2.1 = some (tySh k) := by decide +kernel
def RMa : String := "DesignSpaces$Matches"
def TMa : u_T := fun k => match k with
  | 0 => ("DesignSpaces$Matches", "shape", "LDesignSpaces$Shape;", true)
  | 1 => ("DesignSpaces$Matches", "a", "[I", true)
  | 2 => ("DesignSpaces$Matches", "va", "[I", true)
  | 3 => ("DesignSpaces$Matches", "b", "[I", true)
  | _ => ("DesignSpaces$Matches", "vb", "[I", true)
def tyMa : Nat → FieldType := fun k => match k with
  | 0 => .object "DesignSpaces$Shape"
  | 1 => .array .int
  | 2 => .array .int
  | 3 => .array .int
  | _ => .array .int
abbrev wsMa0 : List Cond := u_ws RMa TMa 5
theorem nmMa : ∀ a, a < 5 → ∀ b, b < 5 → a ≠ b → (TMa a).2.1 ≠ (TMa b).2.1 := by decide +kernel
theorem tyMa_ok : ∀ k, k < 5 → parseFieldDescriptor (TMa k).2.2.1 = some (tyMa k) := by decide +kernel
def RBo : String := "DesignSpaces$Book"
def TBo : u_T := fun k => match k with
  | 0 => ("DesignSpaces$Book", "shape", "LDesignSpaces$Shape;", true)
  | 1 => ("DesignSpaces$Book", "matches", "LDesignSpaces$Matches;", true)
  | 2 => ("DesignSpaces$Book", "termsOf", "[I", true)
  | 3 => ("DesignSpaces$Book", "weights", "[I", true)
  | 4 => ("DesignSpaces$Book", "termsTold", "I", false)
  | 5 => ("DesignSpaces$Book", "rulesTold", "I", false)
  | 6 => ("DesignSpaces$Book", "limited", "[Z", true)
  | 7 => ("DesignSpaces$Book", "most", "[I", true)
  | 8 => ("DesignSpaces$Book", "sums", "[I", true)
  | _ => ("DesignSpaces$Book", "barred", "[Z", true)
def tyBo : Nat → FieldType := fun k => match k with
  | 0 => .object "DesignSpaces$Shape"
  | 1 => .object "DesignSpaces$Matches"
  | 2 => .array .int
  | 3 => .array .int
  | 4 => .int
  | 5 => .int
  | 6 => .array .boolean
  | 7 => .array .int
  | 8 => .array .int
  | _ => .array .boolean
abbrev wsBo0 : List Cond := u_ws RBo TBo 10
theorem nmBo : ∀ a, a < 10 → ∀ b, b < 10 → a ≠ b → (TBo a).2.1 ≠ (TBo b).2.1 := by decide +kernel
theorem tyBo_ok : ∀ k, k < 10 → parseFieldDescriptor (TBo k).2.2.1 = some (tyBo k) := by decide +kernel
def RFr : String := "DesignSpaces$Front"
def TFr : u_T := fun k => match k with
  | 0 => ("DesignSpaces$Front", "shape", "LDesignSpaces$Shape;", true)
  | 1 => ("DesignSpaces$Front", "book", "LDesignSpaces$Book;", true)
  | 2 => ("DesignSpaces$Front", "members", "[I", true)
  | 3 => ("DesignSpaces$Front", "heads", "[I", true)
  | 4 => ("DesignSpaces$Front", "size", "I", false)
  | _ => ("DesignSpaces$Front", "fresh", "Z", false)
def tyFr : Nat → FieldType := fun k => match k with
  | 0 => .object "DesignSpaces$Shape"
  | 1 => .object "DesignSpaces$Book"
  | 2 => .array .int
  | 3 => .array .int
  | 4 => .int
  | _ => .boolean
abbrev wsFr0 : List Cond := u_ws RFr TFr 6
theorem nmFr : ∀ a, a < 6 → ∀ b, b < 6 → a ≠ b → (TFr a).2.1 ≠ (TFr b).2.1 := by decide +kernel
theorem tyFr_ok : ∀ k, k < 6 → parseFieldDescriptor (TFr k).2.2.1 = some (tyFr k) := by decide +kernel
def RSe : String := "DesignSpaces$Search"
def TSe : u_T := fun k => match k with
  | 0 => ("DesignSpaces$Search", "shape", "LDesignSpaces$Shape;", true)
  | 1 => ("DesignSpaces$Search", "book", "LDesignSpaces$Book;", true)
  | 2 => ("DesignSpaces$Search", "row", "[I", true)
  | 3 => ("DesignSpaces$Search", "rowsSeen", "I", false)
  | 4 => ("DesignSpaces$Search", "found", "I", false)
  | _ => ("DesignSpaces$Search", "least", "I", false)
def tySe : Nat → FieldType := fun k => match k with
  | 0 => .object "DesignSpaces$Shape"
  | 1 => .object "DesignSpaces$Book"
  | 2 => .array .int
  | 3 => .int
  | 4 => .int
  | _ => .int
abbrev wsSe0 : List Cond := u_ws RSe TSe 6
theorem nmSe : ∀ a, a < 6 → ∀ b, b < 6 → a ≠ b → (TSe a).2.1 ≠ (TSe b).2.1 := by decide +kernel
theorem tySe_ok : ∀ k, k < 6 → parseFieldDescriptor (TSe k).2.2.1 = some (tySe k) := by decide +kernel
def RWa : String := "DesignSpaces$Walker"
def TWa : u_T := fun k => match k with
  | 0 => ("DesignSpaces$Walker", "shape", "LDesignSpaces$Shape;", true)
  | 1 => ("DesignSpaces$Walker", "book", "LDesignSpaces$Book;", true)
  | 2 => ("DesignSpaces$Walker", "x", "I", false)
  | 3 => ("DesignSpaces$Walker", "leeway", "I", false)
  | 4 => ("DesignSpaces$Walker", "cheapest", "I", false)
  | _ => ("DesignSpaces$Walker", "moves", "I", false)
def tyWa : Nat → FieldType := fun k => match k with
  | 0 => .object "DesignSpaces$Shape"
  | 1 => .object "DesignSpaces$Book"
  | 2 => .int
  | 3 => .int
  | 4 => .int
  | _ => .int
abbrev wsWa0 : List Cond := u_ws RWa TWa 6
theorem nmWa : ∀ a, a < 6 → ∀ b, b < 6 → a ≠ b → (TWa a).2.1 ≠ (TWa b).2.1 := by decide +kernel
theorem tyWa_ok : ∀ k, k < 6 → parseFieldDescriptor (TWa k).2.2.1 = some (tyWa k) := by decide +kernel
def RSw : String := "DesignSpaces$Sweeper"
def TSw : u_T := fun k => match k with
  | 0 => ("DesignSpaces$Sweeper", "shape", "LDesignSpaces$Shape;", true)
  | 1 => ("DesignSpaces$Sweeper", "book", "LDesignSpaces$Book;", true)
  | 2 => ("DesignSpaces$Sweeper", "next", "I", false)
  | _ => ("DesignSpaces$Sweeper", "allowed", "I", false)
def tySw : Nat → FieldType := fun k => match k with
  | 0 => .object "DesignSpaces$Shape"
  | 1 => .object "DesignSpaces$Book"
  | 2 => .int
  | _ => .int
abbrev wsSw0 : List Cond := u_ws RSw TSw 4
theorem nmSw : ∀ a, a < 4 → ∀ b, b < 4 → a ≠ b → (TSw a).2.1 ≠ (TSw b).2.1 := by decide +kernel
theorem tySw_ok : ∀ k, k < 4 → parseFieldDescriptor (TSw k).2.2.1 = some (tySw k) := by decide +kernel
def cALL : List Cond := [(Jvm.Cond.selects "DesignSpaces$Front" ({ cls := "DesignSpaces$Front", name := "findHeads", desc := "()V" } : Jvm.MethodName) ({ cls := "DesignSpaces$Front", name := "findHeads", desc := "()V" } : Jvm.MethodName)), (Jvm.Cond.selects "DesignSpaces$Front" ({ cls := "DesignSpaces$Front", name := "headFor", desc := "(I)I" } : Jvm.MethodName) ({ cls := "DesignSpaces$Front", name := "headFor", desc := "(I)I" } : Jvm.MethodName)), (Jvm.Cond.selects "DesignSpaces$Front" ({ cls := "DesignSpaces$Front", name := "dropBeatenBy", desc := "(I)V" } : Jvm.MethodName) ({ cls := "DesignSpaces$Front", name := "dropBeatenBy", desc := "(I)V" } : Jvm.MethodName)), (Jvm.Cond.selects "DesignSpaces$Front" ({ cls := "DesignSpaces$Front", name := "collectMembers", desc := "()V" } : Jvm.MethodName) ({ cls := "DesignSpaces$Front", name := "collectMembers", desc := "()V" } : Jvm.MethodName)), (Jvm.Cond.selects "java/lang/Throwable" ({ cls := "java/lang/Throwable", name := "fillInStackTrace", desc := "(I)Ljava/lang/Throwable;" } : Jvm.MethodName) ({ cls := "java/lang/Throwable", name := "fillInStackTrace", desc := "(I)Ljava/lang/Throwable;" } : Jvm.MethodName)), (Jvm.Cond.selects "DesignSpaces$Book" ({ cls := "DesignSpaces$Book", name := "copyEntries", desc := "(II)V" } : Jvm.MethodName) ({ cls := "DesignSpaces$Book", name := "copyEntries", desc := "(II)V" } : Jvm.MethodName)), (Jvm.Cond.selects "DesignSpaces$Search" ({ cls := "DesignSpaces$Search", name := "isPassedBy", desc := "(II)Z" } : Jvm.MethodName) ({ cls := "DesignSpaces$Search", name := "isPassedBy", desc := "(II)Z" } : Jvm.MethodName)), (Jvm.Cond.selects "DesignSpaces$Search" ({ cls := "DesignSpaces$Search", name := "keepRow", desc := "(I)V" } : Jvm.MethodName) ({ cls := "DesignSpaces$Search", name := "keepRow", desc := "(I)V" } : Jvm.MethodName)), (Jvm.Cond.selects "DesignSpaces$Search" ({ cls := "DesignSpaces$Search", name := "goBehind", desc := "(I)I" } : Jvm.MethodName) ({ cls := "DesignSpaces$Search", name := "goBehind", desc := "(I)I" } : Jvm.MethodName)), (Jvm.Cond.selects "DesignSpaces$Walker" ({ cls := "DesignSpaces$Walker", name := "drawNear", desc := "(I)I" } : Jvm.MethodName) ({ cls := "DesignSpaces$Walker", name := "drawNear", desc := "(I)I" } : Jvm.MethodName)), (Jvm.Cond.selects "DesignSpaces$Book" ({ cls := "DesignSpaces$Book", name := "differenceAlong", desc := "(III)J" } : Jvm.MethodName) ({ cls := "DesignSpaces$Book", name := "differenceAlong", desc := "(III)J" } : Jvm.MethodName)), (Jvm.Cond.initialized "DesignSpaces"), (Jvm.Cond.initialized "DesignSpaces$Shape"), (Jvm.Cond.initialized "DesignSpaces$Book"), (Jvm.Cond.initialized "DesignSpaces$Matches"), (Jvm.Cond.initialized "DesignSpaces$Front"), (Jvm.Cond.initialized "DesignSpaces$Search"), (Jvm.Cond.initialized "DesignSpaces$Walker"), (Jvm.Cond.initialized "DesignSpaces$Sweeper"), (Jvm.Cond.initialized "java/lang/Throwable"), (Jvm.Cond.initialized "java/lang/Exception"), (Jvm.Cond.initialized "java/lang/RuntimeException"), (Jvm.Cond.initialized "java/lang/IllegalArgumentException"), (Jvm.Cond.initialized "java/lang/UnsupportedOperationException"), (Jvm.Cond.initialized "java/lang/IndexOutOfBoundsException"), (Jvm.Cond.initialized "java/lang/IllegalStateException"), (Jvm.Cond.initialized "java/lang/Math"), (Jvm.Cond.instantiable "DesignSpaces" (6 : Nat)), (Jvm.Cond.instanceMethod ({ cls := "DesignSpaces", name := "<init>", desc := "(I)V" } : Jvm.MethodName)), (Jvm.Cond.code ({ cls := "DesignSpaces", name := "<init>", desc := "(I)V" } : Jvm.MethodName) prog_1_method_1_code (2 : Nat) (Option.none : Option Jvm.ClassFile.FieldType)), (Jvm.Cond.methodLink "DesignSpaces" (3 : Nat) ({ cls := "java/lang/Object", name := "<init>", desc := "()V" } : Jvm.MethodName)), (Jvm.Cond.instanceMethod ({ cls := "java/lang/Object", name := "<init>", desc := "()V" } : Jvm.MethodName)), (Jvm.Cond.code ({ cls := "java/lang/Object", name := "<init>", desc := "()V" } : Jvm.MethodName) object_method_1_code (1 : Nat) (Option.none : Option Jvm.ClassFile.FieldType)), (Jvm.Cond.classLink "DesignSpaces" (9 : Nat) "DesignSpaces$Shape"), (Jvm.Cond.instantiable "DesignSpaces$Shape" (4 : Nat)), (Jvm.Cond.instanceMethod ({ cls := "DesignSpaces$Shape", name := "<init>", desc := "()V" } : Jvm.MethodName)), (Jvm.Cond.code ({ cls := "DesignSpaces$Shape", name := "<init>", desc := "()V" } : Jvm.MethodName) prog_6_method_1_code (1 : Nat) (Option.none : Option Jvm.ClassFile.FieldType)), (Jvm.Cond.methodLink "DesignSpaces$Shape" (3 : Nat) ({ cls := "java/lang/Object", name := "<init>", desc := "()V" } : Jvm.MethodName)), (Jvm.Cond.fieldLink "DesignSpaces$Shape" (9 : Nat) "DesignSpaces$Shape" "sizes" "[I"), (Jvm.Cond.fieldLink "DesignSpaces$Search" (60 : Nat) "DesignSpaces$Shape" "sizes" "[I"), (Jvm.Cond.fieldLink "DesignSpaces$Book" (96 : Nat) "DesignSpaces$Shape" "sizes" "[I"), (Jvm.Cond.fieldLink "DesignSpaces$Shape" (15 : Nat) "DesignSpaces$Shape" "places" "[I"), (Jvm.Cond.fieldLink "DesignSpaces$Book" (99 : Nat) "DesignSpaces$Shape" "places" "[I"), (Jvm.Cond.fieldLink "DesignSpaces$Shape" (18 : Nat) "DesignSpaces$Shape" "choices" "I"), (Jvm.Cond.fieldLink "DesignSpaces$Search" (37 : Nat) "DesignSpaces$Shape" "choices" "I"), (Jvm.Cond.fieldLink "DesignSpaces" (87 : Nat) "DesignSpaces$Shape" "choices" "I"), (Jvm.Cond.fieldLink "DesignSpaces$Shape" (22 : Nat) "DesignSpaces$Shape" "designs" "I"), (Jvm.Cond.fieldLink "DesignSpaces$Book" (51 : Nat) "DesignSpaces$Shape" "designs" "I"), (Jvm.Cond.fieldLink "DesignSpaces$Sweeper" (24 : Nat) "DesignSpaces$Shape" "designs" "I"), (Jvm.Cond.fieldLink "DesignSpaces$Front" (40 : Nat) "DesignSpaces$Shape" "designs" "I"), (Jvm.Cond.fieldLink "DesignSpaces" (236 : Nat) "DesignSpaces$Shape" "designs" "I"), (Jvm.Cond.laysFinal "DesignSpaces$Shape" "DesignSpaces$Shape" "sizes" "[I"), (Jvm.Cond.laysFinal "DesignSpaces$Shape" "DesignSpaces$Shape" "places" "[I"), (Jvm.Cond.lays "DesignSpaces$Shape" "DesignSpaces$Shape" "choices" "I"), (Jvm.Cond.lays "DesignSpaces$Shape" "DesignSpaces$Shape" "designs" "I"), (Jvm.Cond.arrayClass Jvm.ClassFile.FieldType.int), (Jvm.Cond.classLink "DesignSpaces" (16 : Nat) "DesignSpaces$Book"), (Jvm.Cond.instantiable "DesignSpaces$Book" (10 : Nat)), (Jvm.Cond.methodLink "DesignSpaces" (18 : Nat) ({ cls := "DesignSpaces$Book", name := "<init>", desc := "(LDesignSpaces$Shape;)V" } : Jvm.MethodName)), (Jvm.Cond.instanceMethod ({ cls := "DesignSpaces$Book", name := "<init>", desc := "(LDesignSpaces$Shape;)V" } : Jvm.MethodName)), (Jvm.Cond.code ({ cls := "DesignSpaces$Book", name := "<init>", desc := "(LDesignSpaces$Shape;)V" } : Jvm.MethodName) prog_2_method_1_code (2 : Nat) (Option.none : Option Jvm.ClassFile.FieldType)), (Jvm.Cond.methodLink "DesignSpaces$Book" (3 : Nat) ({ cls := "java/lang/Object", name := "<init>", desc := "()V" } : Jvm.MethodName)), (Jvm.Cond.classLink "DesignSpaces$Book" (42 : Nat) "DesignSpaces$Matches"), (Jvm.Cond.instantiable "DesignSpaces$Matches" (5 : Nat)), (Jvm.Cond.methodLink "DesignSpaces$Book" (44 : Nat) ({ cls := "DesignSpaces$Matches", name := "<init>", desc := "(LDesignSpaces$Shape;)V" } : Jvm.MethodName)), (Jvm.Cond.instanceMethod ({ cls := "DesignSpaces$Matches", name := "<init>", desc := "(LDesignSpaces$Shape;)V" } : Jvm.MethodName)), (Jvm.Cond.code ({ cls := "DesignSpaces$Matches", name := "<init>", desc := "(LDesignSpaces$Shape;)V" } : Jvm.MethodName) prog_4_method_1_code (2 : Nat) (Option.none : Option Jvm.ClassFile.FieldType)), (Jvm.Cond.methodLink "DesignSpaces$Matches" (3 : Nat) ({ cls := "java/lang/Object", name := "<init>", desc := "()V" } : Jvm.MethodName)), (Jvm.Cond.fieldLink "DesignSpaces$Matches" (24 : Nat) "DesignSpaces$Matches" "shape" "LDesignSpaces$Shape;"), (Jvm.Cond.fieldLink "DesignSpaces$Matches" (9 : Nat) "DesignSpaces$Matches" "a" "[I"), (Jvm.Cond.fieldLink "DesignSpaces$Matches" (15 : Nat) "DesignSpaces$Matches" "va" "[I"), (Jvm.Cond.fieldLink "DesignSpaces$Matches" (18 : Nat) "DesignSpaces$Matches" "b" "[I"), (Jvm.Cond.fieldLink "DesignSpaces$Matches" (21 : Nat) "DesignSpaces$Matches" "vb" "[I"), (Jvm.Cond.laysFinal "DesignSpaces$Matches" "DesignSpaces$Matches" "shape" "LDesignSpaces$Shape;"), (Jvm.Cond.laysFinal "DesignSpaces$Matches" "DesignSpaces$Matches" "a" "[I"), (Jvm.Cond.laysFinal "DesignSpaces$Matches" "DesignSpaces$Matches" "va" "[I"), (Jvm.Cond.laysFinal "DesignSpaces$Matches" "DesignSpaces$Matches" "b" "[I"), (Jvm.Cond.laysFinal "DesignSpaces$Matches" "DesignSpaces$Matches" "vb" "[I"), (Jvm.Cond.arrayClass Jvm.ClassFile.FieldType.boolean), (Jvm.Cond.fieldLink "DesignSpaces$Book" (38 : Nat) "DesignSpaces$Book" "shape" "LDesignSpaces$Shape;"), (Jvm.Cond.fieldLink "DesignSpaces$Book" (47 : Nat) "DesignSpaces$Book" "matches" "LDesignSpaces$Matches;"), (Jvm.Cond.fieldLink "DesignSpaces$Book" (9 : Nat) "DesignSpaces$Book" "termsOf" "[I"), (Jvm.Cond.fieldLink "DesignSpaces$Book" (15 : Nat) "DesignSpaces$Book" "weights" "[I"), (Jvm.Cond.fieldLink "DesignSpaces$Book" (18 : Nat) "DesignSpaces$Book" "termsTold" "I"), (Jvm.Cond.fieldLink "DesignSpaces" (107 : Nat) "DesignSpaces$Book" "termsTold" "I"), (Jvm.Cond.fieldLink "DesignSpaces$Book" (22 : Nat) "DesignSpaces$Book" "rulesTold" "I"), (Jvm.Cond.fieldLink "DesignSpaces" (120 : Nat) "DesignSpaces$Book" "rulesTold" "I"), (Jvm.Cond.fieldLink "DesignSpaces$Book" (25 : Nat) "DesignSpaces$Book" "limited" "[Z"), (Jvm.Cond.fieldLink "DesignSpaces" (131 : Nat) "DesignSpaces$Book" "limited" "[Z"), (Jvm.Cond.fieldLink "DesignSpaces$Book" (29 : Nat) "DesignSpaces$Book" "most" "[I"), (Jvm.Cond.fieldLink "DesignSpaces" (135 : Nat) "DesignSpaces$Book" "most" "[I"), (Jvm.Cond.fieldLink "DesignSpaces$Book" (32 : Nat) "DesignSpaces$Book" "sums" "[I"), (Jvm.Cond.fieldLink "DesignSpaces$Book" (35 : Nat) "DesignSpaces$Book" "barred" "[Z"), (Jvm.Cond.laysFinal "DesignSpaces$Book" "DesignSpaces$Book" "shape" "LDesignSpaces$Shape;"), (Jvm.Cond.laysFinal "DesignSpaces$Book" "DesignSpaces$Book" "matches" "LDesignSpaces$Matches;"), (Jvm.Cond.laysFinal "DesignSpaces$Book" "DesignSpaces$Book" "termsOf" "[I"), (Jvm.Cond.laysFinal "DesignSpaces$Book" "DesignSpaces$Book" "weights" "[I"), (Jvm.Cond.lays "DesignSpaces$Book" "DesignSpaces$Book" "termsTold" "I"), (Jvm.Cond.lays "DesignSpaces$Book" "DesignSpaces$Book" "rulesTold" "I"), (Jvm.Cond.laysFinal "DesignSpaces$Book" "DesignSpaces$Book" "limited" "[Z"), (Jvm.Cond.laysFinal "DesignSpaces$Book" "DesignSpaces$Book" "most" "[I"), (Jvm.Cond.laysFinal "DesignSpaces$Book" "DesignSpaces$Book" "sums" "[I"), (Jvm.Cond.laysFinal "DesignSpaces$Book" "DesignSpaces$Book" "barred" "[Z"), (Jvm.Cond.classLink "DesignSpaces" (25 : Nat) "DesignSpaces$Front"), (Jvm.Cond.instantiable "DesignSpaces$Front" (6 : Nat)), (Jvm.Cond.methodLink "DesignSpaces" (27 : Nat) ({ cls := "DesignSpaces$Front", name := "<init>", desc := "(LDesignSpaces$Shape;LDesignSpaces$Book;)V" } : Jvm.MethodName)), (Jvm.Cond.instanceMethod ({ cls := "DesignSpaces$Front", name := "<init>", desc := "(LDesignSpaces$Shape;LDesignSpaces$Book;)V" } : Jvm.MethodName)), (Jvm.Cond.code ({ cls := "DesignSpaces$Front", name := "<init>", desc := "(LDesignSpaces$Shape;LDesignSpaces$Book;)V" } : Jvm.MethodName) prog_3_method_1_code (3 : Nat) (Option.none : Option Jvm.ClassFile.FieldType)), (Jvm.Cond.methodLink "DesignSpaces$Front" (3 : Nat) ({ cls := "java/lang/Object", name := "<init>", desc := "()V" } : Jvm.MethodName)), (Jvm.Cond.fieldLink "DesignSpaces$Front" (26 : Nat) "DesignSpaces$Front" "shape" "LDesignSpaces$Shape;"), (Jvm.Cond.fieldLink "DesignSpaces$Front" (30 : Nat) "DesignSpaces$Front" "book" "LDesignSpaces$Book;"), (Jvm.Cond.fieldLink "DesignSpaces$Front" (9 : Nat) "DesignSpaces$Front" "members" "[I"), (Jvm.Cond.fieldLink "DesignSpaces" (176 : Nat) "DesignSpaces$Front" "members" "[I"), (Jvm.Cond.fieldLink "DesignSpaces$Front" (15 : Nat) "DesignSpaces$Front" "heads" "[I"), (Jvm.Cond.fieldLink "DesignSpaces$Front" (18 : Nat) "DesignSpaces$Front" "size" "I"), (Jvm.Cond.fieldLink "DesignSpaces" (171 : Nat) "DesignSpaces$Front" "size" "I"), (Jvm.Cond.fieldLink "DesignSpaces$Front" (22 : Nat) "DesignSpaces$Front" "fresh" "Z"), (Jvm.Cond.laysFinal "DesignSpaces$Front" "DesignSpaces$Front" "shape" "LDesignSpaces$Shape;"), (Jvm.Cond.laysFinal "DesignSpaces$Front" "DesignSpaces$Front" "book" "LDesignSpaces$Book;"), (Jvm.Cond.laysFinal "DesignSpaces$Front" "DesignSpaces$Front" "members" "[I"), (Jvm.Cond.laysFinal "DesignSpaces$Front" "DesignSpaces$Front" "heads" "[I"), (Jvm.Cond.lays "DesignSpaces$Front" "DesignSpaces$Front" "size" "I"), (Jvm.Cond.lays "DesignSpaces$Front" "DesignSpaces$Front" "fresh" "Z"), (Jvm.Cond.classLink "DesignSpaces" (34 : Nat) "DesignSpaces$Search"), (Jvm.Cond.instantiable "DesignSpaces$Search" (6 : Nat)), (Jvm.Cond.methodLink "DesignSpaces" (36 : Nat) ({ cls := "DesignSpaces$Search", name := "<init>", desc := "(LDesignSpaces$Shape;LDesignSpaces$Book;)V" } : Jvm.MethodName)), (Jvm.Cond.instanceMethod ({ cls := "DesignSpaces$Search", name := "<init>", desc := "(LDesignSpaces$Shape;LDesignSpaces$Book;)V" } : Jvm.MethodName)), (Jvm.Cond.code ({ cls := "DesignSpaces$Search", name := "<init>", desc := "(LDesignSpaces$Shape;LDesignSpaces$Book;)V" } : Jvm.MethodName) prog_5_method_1_code (3 : Nat) (Option.none : Option Jvm.ClassFile.FieldType)), (Jvm.Cond.methodLink "DesignSpaces$Search" (3 : Nat) ({ cls := "java/lang/Object", name := "<init>", desc := "()V" } : Jvm.MethodName)), (Jvm.Cond.fieldLink "DesignSpaces$Search" (25 : Nat) "DesignSpaces$Search" "shape" "LDesignSpaces$Shape;"), (Jvm.Cond.fieldLink "DesignSpaces$Search" (29 : Nat) "DesignSpaces$Search" "book" "LDesignSpaces$Book;"), (Jvm.Cond.fieldLink "DesignSpaces$Search" (9 : Nat) "DesignSpaces$Search" "row" "[I"), (Jvm.Cond.fieldLink "DesignSpaces$Search" (15 : Nat) "DesignSpaces$Search" "rowsSeen" "I"), (Jvm.Cond.fieldLink "DesignSpaces" (183 : Nat) "DesignSpaces$Search" "rowsSeen" "I"), (Jvm.Cond.fieldLink "DesignSpaces$Search" (19 : Nat) "DesignSpaces$Search" "found" "I"), (Jvm.Cond.fieldLink "DesignSpaces$Search" (22 : Nat) "DesignSpaces$Search" "least" "I"), (Jvm.Cond.laysFinal "DesignSpaces$Search" "DesignSpaces$Search" "shape" "LDesignSpaces$Shape;"), (Jvm.Cond.laysFinal "DesignSpaces$Search" "DesignSpaces$Search" "book" "LDesignSpaces$Book;"), (Jvm.Cond.laysFinal "DesignSpaces$Search" "DesignSpaces$Search" "row" "[I"), (Jvm.Cond.lays "DesignSpaces$Search" "DesignSpaces$Search" "rowsSeen" "I"), (Jvm.Cond.lays "DesignSpaces$Search" "DesignSpaces$Search" "found" "I"), (Jvm.Cond.lays "DesignSpaces$Search" "DesignSpaces$Search" "least" "I"), (Jvm.Cond.classLink "DesignSpaces" (41 : Nat) "DesignSpaces$Walker"), (Jvm.Cond.instantiable "DesignSpaces$Walker" (6 : Nat)), (Jvm.Cond.constant "DesignSpaces" (43 : Nat) (2147483647 : Int32)), (Jvm.Cond.methodLink "DesignSpaces" (44 : Nat) ({ cls := "DesignSpaces$Walker", name := "<init>", desc := "(LDesignSpaces$Shape;LDesignSpaces$Book;I)V" } : Jvm.MethodName)), (Jvm.Cond.instanceMethod ({ cls := "DesignSpaces$Walker", name := "<init>", desc := "(LDesignSpaces$Shape;LDesignSpaces$Book;I)V" } : Jvm.MethodName)), (Jvm.Cond.code ({ cls := "DesignSpaces$Walker", name := "<init>", desc := "(LDesignSpaces$Shape;LDesignSpaces$Book;I)V" } : Jvm.MethodName) prog_8_method_1_code (4 : Nat) (Option.none : Option Jvm.ClassFile.FieldType)), (Jvm.Cond.methodLink "DesignSpaces$Walker" (3 : Nat) ({ cls := "java/lang/Object", name := "<init>", desc := "()V" } : Jvm.MethodName)), (Jvm.Cond.fieldLink "DesignSpaces$Walker" (21 : Nat) "DesignSpaces$Walker" "shape" "LDesignSpaces$Shape;"), (Jvm.Cond.fieldLink "DesignSpaces$Walker" (25 : Nat) "DesignSpaces$Walker" "book" "LDesignSpaces$Book;"), (Jvm.Cond.fieldLink "DesignSpaces$Walker" (29 : Nat) "DesignSpaces$Walker" "x" "I"), (Jvm.Cond.fieldLink "DesignSpaces$Walker" (9 : Nat) "DesignSpaces$Walker" "leeway" "I"), (Jvm.Cond.fieldLink "DesignSpaces" (203 : Nat) "DesignSpaces$Walker" "leeway" "I"), (Jvm.Cond.fieldLink "DesignSpaces$Walker" (15 : Nat) "DesignSpaces$Walker" "cheapest" "I"), (Jvm.Cond.fieldLink "DesignSpaces" (216 : Nat) "DesignSpaces$Walker" "cheapest" "I"), (Jvm.Cond.fieldLink "DesignSpaces$Walker" (18 : Nat) "DesignSpaces$Walker" "moves" "I"), (Jvm.Cond.fieldLink "DesignSpaces" (248 : Nat) "DesignSpaces$Walker" "moves" "I"), (Jvm.Cond.laysFinal "DesignSpaces$Walker" "DesignSpaces$Walker" "shape" "LDesignSpaces$Shape;"), (Jvm.Cond.laysFinal "DesignSpaces$Walker" "DesignSpaces$Walker" "book" "LDesignSpaces$Book;"), (Jvm.Cond.lays "DesignSpaces$Walker" "DesignSpaces$Walker" "x" "I"), (Jvm.Cond.lays "DesignSpaces$Walker" "DesignSpaces$Walker" "leeway" "I"), (Jvm.Cond.lays "DesignSpaces$Walker" "DesignSpaces$Walker" "cheapest" "I"), (Jvm.Cond.lays "DesignSpaces$Walker" "DesignSpaces$Walker" "moves" "I"), (Jvm.Cond.classLink "DesignSpaces" (51 : Nat) "DesignSpaces$Sweeper"), (Jvm.Cond.instantiable "DesignSpaces$Sweeper" (4 : Nat)), (Jvm.Cond.methodLink "DesignSpaces" (53 : Nat) ({ cls := "DesignSpaces$Sweeper", name := "<init>", desc := "(LDesignSpaces$Shape;LDesignSpaces$Book;)V" } : Jvm.MethodName)), (Jvm.Cond.instanceMethod ({ cls := "DesignSpaces$Sweeper", name := "<init>", desc := "(LDesignSpaces$Shape;LDesignSpaces$Book;)V" } : Jvm.MethodName)), (Jvm.Cond.code ({ cls := "DesignSpaces$Sweeper", name := "<init>", desc := "(LDesignSpaces$Shape;LDesignSpaces$Book;)V" } : Jvm.MethodName) prog_7_method_1_code (3 : Nat) (Option.none : Option Jvm.ClassFile.FieldType)), (Jvm.Cond.methodLink "DesignSpaces$Sweeper" (1 : Nat) ({ cls := "java/lang/Object", name := "<init>", desc := "()V" } : Jvm.MethodName)), (Jvm.Cond.fieldLink "DesignSpaces$Sweeper" (16 : Nat) "DesignSpaces$Sweeper" "shape" "LDesignSpaces$Shape;"), (Jvm.Cond.fieldLink "DesignSpaces$Sweeper" (20 : Nat) "DesignSpaces$Sweeper" "book" "LDesignSpaces$Book;"), (Jvm.Cond.fieldLink "DesignSpaces$Sweeper" (7 : Nat) "DesignSpaces$Sweeper" "next" "I"), (Jvm.Cond.fieldLink "DesignSpaces" (242 : Nat) "DesignSpaces$Sweeper" "next" "I"), (Jvm.Cond.fieldLink "DesignSpaces$Sweeper" (13 : Nat) "DesignSpaces$Sweeper" "allowed" "I"), (Jvm.Cond.fieldLink "DesignSpaces" (245 : Nat) "DesignSpaces$Sweeper" "allowed" "I"), (Jvm.Cond.laysFinal "DesignSpaces$Sweeper" "DesignSpaces$Sweeper" "shape" "LDesignSpaces$Shape;"), (Jvm.Cond.laysFinal "DesignSpaces$Sweeper" "DesignSpaces$Sweeper" "book" "LDesignSpaces$Book;"), (Jvm.Cond.lays "DesignSpaces$Sweeper" "DesignSpaces$Sweeper" "next" "I"), (Jvm.Cond.lays "DesignSpaces$Sweeper" "DesignSpaces$Sweeper" "allowed" "I"), (Jvm.Cond.fieldLink "DesignSpaces" (12 : Nat) "DesignSpaces" "shape" "LDesignSpaces$Shape;"), (Jvm.Cond.fieldLink "DesignSpaces" (21 : Nat) "DesignSpaces" "book" "LDesignSpaces$Book;"), (Jvm.Cond.fieldLink "DesignSpaces" (30 : Nat) "DesignSpaces" "front" "LDesignSpaces$Front;"), (Jvm.Cond.fieldLink "DesignSpaces" (37 : Nat) "DesignSpaces" "search" "LDesignSpaces$Search;"), (Jvm.Cond.fieldLink "DesignSpaces" (47 : Nat) "DesignSpaces" "walker" "LDesignSpaces$Walker;"), (Jvm.Cond.fieldLink "DesignSpaces" (54 : Nat) "DesignSpaces" "sweeper" "LDesignSpaces$Sweeper;"), (Jvm.Cond.laysFinal "DesignSpaces" "DesignSpaces" "shape" "LDesignSpaces$Shape;"), (Jvm.Cond.laysFinal "DesignSpaces" "DesignSpaces" "book" "LDesignSpaces$Book;"), (Jvm.Cond.laysFinal "DesignSpaces" "DesignSpaces" "front" "LDesignSpaces$Front;"), (Jvm.Cond.laysFinal "DesignSpaces" "DesignSpaces" "search" "LDesignSpaces$Search;"), (Jvm.Cond.laysFinal "DesignSpaces" "DesignSpaces" "walker" "LDesignSpaces$Walker;"), (Jvm.Cond.laysFinal "DesignSpaces" "DesignSpaces" "sweeper" "LDesignSpaces$Sweeper;"), (Jvm.Cond.instanceMethod ({ cls := "DesignSpaces", name := "undominated", desc := "()I" } : Jvm.MethodName)), (Jvm.Cond.selects "DesignSpaces" ({ cls := "DesignSpaces", name := "undominated", desc := "()I" } : Jvm.MethodName) ({ cls := "DesignSpaces", name := "undominated", desc := "()I" } : Jvm.MethodName)), (Jvm.Cond.code ({ cls := "DesignSpaces", name := "undominated", desc := "()I" } : Jvm.MethodName) prog_1_method_10_code (1 : Nat) (Option.some Jvm.ClassFile.FieldType.int)), (Jvm.Cond.methodLink "DesignSpaces" (168 : Nat) ({ cls := "DesignSpaces$Front", name := "refresh", desc := "()V" } : Jvm.MethodName)), (Jvm.Cond.instanceMethod ({ cls := "DesignSpaces$Front", name := "refresh", desc := "()V" } : Jvm.MethodName)), (Jvm.Cond.selects "DesignSpaces$Front" ({ cls := "DesignSpaces$Front", name := "refresh", desc := "()V" } : Jvm.MethodName) ({ cls := "DesignSpaces$Front", name := "refresh", desc := "()V" } : Jvm.MethodName)), (Jvm.Cond.code ({ cls := "DesignSpaces$Front", name := "refresh", desc := "()V" } : Jvm.MethodName) prog_3_method_3_code (1 : Nat) (Option.none : Option Jvm.ClassFile.FieldType)), (Jvm.Cond.methodLink "DesignSpaces$Front" (34 : Nat) ({ cls := "DesignSpaces$Front", name := "findHeads", desc := "()V" } : Jvm.MethodName)), (Jvm.Cond.instanceMethod ({ cls := "DesignSpaces$Front", name := "findHeads", desc := "()V" } : Jvm.MethodName)), (Jvm.Cond.code ({ cls := "DesignSpaces$Front", name := "findHeads", desc := "()V" } : Jvm.MethodName) prog_3_method_4_code (2 : Nat) (Option.none : Option Jvm.ClassFile.FieldType)), (Jvm.Cond.methodLink "DesignSpaces$Front" (45 : Nat) ({ cls := "DesignSpaces$Book", name := "allows", desc := "(I)Z" } : Jvm.MethodName)), (Jvm.Cond.instanceMethod ({ cls := "DesignSpaces$Book", name := "allows", desc := "(I)Z" } : Jvm.MethodName)), (Jvm.Cond.selects "DesignSpaces$Book" ({ cls := "DesignSpaces$Book", name := "allows", desc := "(I)Z" } : Jvm.MethodName) ({ cls := "DesignSpaces$Book", name := "allows", desc := "(I)Z" } : Jvm.MethodName)), (Jvm.Cond.code ({ cls := "DesignSpaces$Book", name := "allows", desc := "(I)Z" } : Jvm.MethodName) prog_2_method_9_code (3 : Nat) (Option.some Jvm.ClassFile.FieldType.boolean)), (Jvm.Cond.methodLink "DesignSpaces$Book" (68 : Nat) ({ cls := "DesignSpaces$Book", name := "sumOf", desc := "(II)I" } : Jvm.MethodName)), (Jvm.Cond.instanceMethod ({ cls := "DesignSpaces$Book", name := "sumOf", desc := "(II)I" } : Jvm.MethodName)), (Jvm.Cond.selects "DesignSpaces$Book" ({ cls := "DesignSpaces$Book", name := "sumOf", desc := "(II)I" } : Jvm.MethodName) ({ cls := "DesignSpaces$Book", name := "sumOf", desc := "(II)I" } : Jvm.MethodName)), (Jvm.Cond.code ({ cls := "DesignSpaces$Book", name := "sumOf", desc := "(II)I" } : Jvm.MethodName) prog_2_method_7_code (3 : Nat) (Option.some Jvm.ClassFile.FieldType.int)), (Jvm.Cond.methodLink "DesignSpaces$Front" (51 : Nat) ({ cls := "DesignSpaces$Front", name := "headFor", desc := "(I)I" } : Jvm.MethodName)), (Jvm.Cond.instanceMethod ({ cls := "DesignSpaces$Front", name := "headFor", desc := "(I)I" } : Jvm.MethodName)), (Jvm.Cond.code ({ cls := "DesignSpaces$Front", name := "headFor", desc := "(I)I" } : Jvm.MethodName) prog_3_method_5_code (4 : Nat) (Option.some Jvm.ClassFile.FieldType.int)), (Jvm.Cond.methodLink "DesignSpaces$Front" (59 : Nat) ({ cls := "DesignSpaces$Book", name := "isAtMost", desc := "(II)Z" } : Jvm.MethodName)), (Jvm.Cond.instanceMethod ({ cls := "DesignSpaces$Book", name := "isAtMost", desc := "(II)Z" } : Jvm.MethodName)), (Jvm.Cond.selects "DesignSpaces$Book" ({ cls := "DesignSpaces$Book", name := "isAtMost", desc := "(II)Z" } : Jvm.MethodName) ({ cls := "DesignSpaces$Book", name := "isAtMost", desc := "(II)Z" } : Jvm.MethodName)), (Jvm.Cond.code ({ cls := "DesignSpaces$Book", name := "isAtMost", desc := "(II)Z" } : Jvm.MethodName) prog_2_method_10_code (6 : Nat) (Option.some Jvm.ClassFile.FieldType.boolean)), (Jvm.Cond.methodLink "DesignSpaces$Front" (55 : Nat) ({ cls := "DesignSpaces$Front", name := "dropBeatenBy", desc := "(I)V" } : Jvm.MethodName)), (Jvm.Cond.instanceMethod ({ cls := "DesignSpaces$Front", name := "dropBeatenBy", desc := "(I)V" } : Jvm.MethodName)), (Jvm.Cond.code ({ cls := "DesignSpaces$Front", name := "dropBeatenBy", desc := "(I)V" } : Jvm.MethodName) prog_3_method_6_code (5 : Nat) (Option.none : Option Jvm.ClassFile.FieldType)), (Jvm.Cond.methodLink "DesignSpaces$Front" (37 : Nat) ({ cls := "DesignSpaces$Front", name := "collectMembers", desc := "()V" } : Jvm.MethodName)), (Jvm.Cond.instanceMethod ({ cls := "DesignSpaces$Front", name := "collectMembers", desc := "()V" } : Jvm.MethodName)), (Jvm.Cond.code ({ cls := "DesignSpaces$Front", name := "collectMembers", desc := "()V" } : Jvm.MethodName) prog_3_method_7_code (3 : Nat) (Option.none : Option Jvm.ClassFile.FieldType)), (Jvm.Cond.instanceMethod ({ cls := "DesignSpaces", name := "looked", desc := "()I" } : Jvm.MethodName)), (Jvm.Cond.selects "DesignSpaces" ({ cls := "DesignSpaces", name := "looked", desc := "()I" } : Jvm.MethodName) ({ cls := "DesignSpaces", name := "looked", desc := "()I" } : Jvm.MethodName)), (Jvm.Cond.code ({ cls := "DesignSpaces", name := "looked", desc := "()I" } : Jvm.MethodName) prog_1_method_13_code (1 : Nat) (Option.some Jvm.ClassFile.FieldType.int)), (Jvm.Cond.instanceMethod ({ cls := "DesignSpaces", name := "lowest", desc := "()I" } : Jvm.MethodName)), (Jvm.Cond.selects "DesignSpaces" ({ cls := "DesignSpaces", name := "lowest", desc := "()I" } : Jvm.MethodName) ({ cls := "DesignSpaces", name := "lowest", desc := "()I" } : Jvm.MethodName)), (Jvm.Cond.code ({ cls := "DesignSpaces", name := "lowest", desc := "()I" } : Jvm.MethodName) prog_1_method_18_code (1 : Nat) (Option.some Jvm.ClassFile.FieldType.int)), (Jvm.Cond.instanceMethod ({ cls := "DesignSpaces", name := "count", desc := "(I)I" } : Jvm.MethodName)), (Jvm.Cond.selects "DesignSpaces" ({ cls := "DesignSpaces", name := "count", desc := "(I)I" } : Jvm.MethodName) ({ cls := "DesignSpaces", name := "count", desc := "(I)I" } : Jvm.MethodName)), (Jvm.Cond.code ({ cls := "DesignSpaces", name := "count", desc := "(I)I" } : Jvm.MethodName) prog_1_method_21_code (2 : Nat) (Option.some Jvm.ClassFile.FieldType.int)), (Jvm.Cond.methodLink "DesignSpaces" (239 : Nat) ({ cls := "DesignSpaces$Book", name := "limitsOn", desc := "()I" } : Jvm.MethodName)), (Jvm.Cond.instanceMethod ({ cls := "DesignSpaces$Book", name := "limitsOn", desc := "()I" } : Jvm.MethodName)), (Jvm.Cond.selects "DesignSpaces$Book" ({ cls := "DesignSpaces$Book", name := "limitsOn", desc := "()I" } : Jvm.MethodName) ({ cls := "DesignSpaces$Book", name := "limitsOn", desc := "()I" } : Jvm.MethodName)), (Jvm.Cond.code ({ cls := "DesignSpaces$Book", name := "limitsOn", desc := "()I" } : Jvm.MethodName) prog_2_method_6_code (3 : Nat) (Option.some Jvm.ClassFile.FieldType.int)), (Jvm.Cond.methodLink "DesignSpaces" (227 : Nat) ({ cls := "DesignSpaces$Sweeper", name := "isAtEnd", desc := "()Z" } : Jvm.MethodName)), (Jvm.Cond.instanceMethod ({ cls := "DesignSpaces$Sweeper", name := "isAtEnd", desc := "()Z" } : Jvm.MethodName)), (Jvm.Cond.selects "DesignSpaces$Sweeper" ({ cls := "DesignSpaces$Sweeper", name := "isAtEnd", desc := "()Z" } : Jvm.MethodName) ({ cls := "DesignSpaces$Sweeper", name := "isAtEnd", desc := "()Z" } : Jvm.MethodName)), (Jvm.Cond.code ({ cls := "DesignSpaces$Sweeper", name := "isAtEnd", desc := "()Z" } : Jvm.MethodName) prog_7_method_3_code (1 : Nat) (Option.some Jvm.ClassFile.FieldType.boolean)), (Jvm.Cond.instanceMethod ({ cls := "DesignSpaces", name := "choice", desc := "(I)I" } : Jvm.MethodName)), (Jvm.Cond.selects "DesignSpaces" ({ cls := "DesignSpaces", name := "choice", desc := "(I)I" } : Jvm.MethodName) ({ cls := "DesignSpaces", name := "choice", desc := "(I)I" } : Jvm.MethodName)), (Jvm.Cond.code ({ cls := "DesignSpaces", name := "choice", desc := "(I)I" } : Jvm.MethodName) prog_1_method_2_code (2 : Nat) (Option.some Jvm.ClassFile.FieldType.int)), (Jvm.Cond.classLink "DesignSpaces" (58 : Nat) "java/lang/IllegalArgumentException"), (Jvm.Cond.instantiable "java/lang/IllegalArgumentException" (6 : Nat)), (Jvm.Cond.selects "java/lang/IllegalArgumentException" ({ cls := "java/lang/Throwable", name := "fillInStackTrace", desc := "(I)Ljava/lang/Throwable;" } : Jvm.MethodName) ({ cls := "java/lang/Throwable", name := "fillInStackTrace", desc := "(I)Ljava/lang/Throwable;" } : Jvm.MethodName)), (Jvm.Cond.selects "java/lang/IllegalArgumentException" ({ cls := "java/lang/Throwable", name := "fillInStackTrace", desc := "()Ljava/lang/Throwable;" } : Jvm.MethodName) ({ cls := "java/lang/Throwable", name := "fillInStackTrace", desc := "()Ljava/lang/Throwable;" } : Jvm.MethodName)), (Jvm.Cond.lays "java/lang/IllegalArgumentException" "java/lang/Throwable" "cause" "Ljava/lang/Throwable;"), (Jvm.Cond.lays "java/lang/Throwable" "java/lang/Throwable" "cause" "Ljava/lang/Throwable;"), (Jvm.Cond.lays "java/lang/IllegalArgumentException" "java/lang/Throwable" "stackTrace" "[Ljava/lang/StackTraceElement;"), (Jvm.Cond.lays "java/lang/Throwable" "java/lang/Throwable" "stackTrace" "[Ljava/lang/StackTraceElement;"), (Jvm.Cond.lays "java/lang/IllegalArgumentException" "java/lang/Throwable" "suppressedExceptions" "Ljava/util/List;"), (Jvm.Cond.lays "java/lang/Throwable" "java/lang/Throwable" "suppressedExceptions" "Ljava/util/List;"), (Jvm.Cond.lays "java/lang/IllegalArgumentException" "java/lang/Throwable" "detailMessage" "Ljava/lang/String;"), (Jvm.Cond.lays "java/lang/Throwable" "java/lang/Throwable" "detailMessage" "Ljava/lang/String;"), (Jvm.Cond.lays "java/lang/IllegalArgumentException" "java/lang/Throwable" "backtrace" "Ljava/lang/Object;"), (Jvm.Cond.lays "java/lang/Throwable" "java/lang/Throwable" "backtrace" "Ljava/lang/Object;"), (Jvm.Cond.fieldLink "java/lang/Throwable" (198 : Nat) "java/lang/Throwable" "backtrace" "Ljava/lang/Object;"), (Jvm.Cond.superclass "java/lang/Throwable" "java/lang/Object"), (Jvm.Cond.instanceMethod ({ cls := "java/lang/Throwable", name := "<init>", desc := "()V" } : Jvm.MethodName)), (Jvm.Cond.code ({ cls := "java/lang/Throwable", name := "<init>", desc := "()V" } : Jvm.MethodName) prog_18_method_1_code (1 : Nat) (Option.none : Option Jvm.ClassFile.FieldType)), (Jvm.Cond.methodLink "java/lang/Throwable" (1 : Nat) ({ cls := "java/lang/Object", name := "<init>", desc := "()V" } : Jvm.MethodName)), (Jvm.Cond.fieldLink "java/lang/Throwable" (13 : Nat) "java/lang/Throwable" "UNASSIGNED_STACK" "[Ljava/lang/StackTraceElement;"), (Jvm.Cond.fieldLink "java/lang/Throwable" (20 : Nat) "java/lang/Throwable" "SUPPRESSED_SENTINEL" "Ljava/util/List;"), (Jvm.Cond.methodLink "java/lang/Throwable" (27 : Nat) ({ cls := "java/lang/Throwable", name := "fillInStackTrace", desc := "()Ljava/lang/Throwable;" } : Jvm.MethodName)), (Jvm.Cond.instanceMethod ({ cls := "java/lang/Throwable", name := "fillInStackTrace", desc := "()Ljava/lang/Throwable;" } : Jvm.MethodName)), (Jvm.Cond.sameMethod "java/lang/Throwable" "java/lang/Throwable" "fillInStackTrace" "()Ljava/lang/Throwable;"), (Jvm.Cond.selects "java/lang/IllegalStateException" ({ cls := "java/lang/Throwable", name := "fillInStackTrace", desc := "()Ljava/lang/Throwable;" } : Jvm.MethodName) ({ cls := "java/lang/Throwable", name := "fillInStackTrace", desc := "()Ljava/lang/Throwable;" } : Jvm.MethodName)), (Jvm.Cond.selects "java/lang/IndexOutOfBoundsException" ({ cls := "java/lang/Throwable", name := "fillInStackTrace", desc := "()Ljava/lang/Throwable;" } : Jvm.MethodName) ({ cls := "java/lang/Throwable", name := "fillInStackTrace", desc := "()Ljava/lang/Throwable;" } : Jvm.MethodName)), (Jvm.Cond.selects "java/lang/UnsupportedOperationException" ({ cls := "java/lang/Throwable", name := "fillInStackTrace", desc := "()Ljava/lang/Throwable;" } : Jvm.MethodName) ({ cls := "java/lang/Throwable", name := "fillInStackTrace", desc := "()Ljava/lang/Throwable;" } : Jvm.MethodName)), (Jvm.Cond.codeSync ({ cls := "java/lang/Throwable", name := "fillInStackTrace", desc := "()Ljava/lang/Throwable;" } : Jvm.MethodName) prog_18_method_18_code (1 : Nat) (Option.some (Jvm.ClassFile.FieldType.object "java/lang/Throwable"))), (Jvm.Cond.methodLink "java/lang/Throwable" (202 : Nat) ({ cls := "java/lang/Throwable", name := "fillInStackTrace", desc := "(I)Ljava/lang/Throwable;" } : Jvm.MethodName)), (Jvm.Cond.instanceMethod ({ cls := "java/lang/Throwable", name := "fillInStackTrace", desc := "(I)Ljava/lang/Throwable;" } : Jvm.MethodName)), (Jvm.Cond.instantiable "java/lang/Throwable" (6 : Nat)), (Jvm.Cond.native ({ cls := "java/lang/Throwable", name := "fillInStackTrace", desc := "(I)Ljava/lang/Throwable;" } : Jvm.MethodName)), (Jvm.Cond.methodLink "DesignSpaces" (62 : Nat) ({ cls := "java/lang/IllegalArgumentException", name := "<init>", desc := "(Ljava/lang/String;)V" } : Jvm.MethodName)), (Jvm.Cond.instanceMethod ({ cls := "java/lang/IllegalArgumentException", name := "<init>", desc := "(Ljava/lang/String;)V" } : Jvm.MethodName)), (Jvm.Cond.code ({ cls := "java/lang/IllegalArgumentException", name := "<init>", desc := "(Ljava/lang/String;)V" } : Jvm.MethodName) prog_12_method_2_code (2 : Nat) (Option.none : Option Jvm.ClassFile.FieldType)), (Jvm.Cond.methodLink "java/lang/IllegalArgumentException" (7 : Nat) ({ cls := "java/lang/RuntimeException", name := "<init>", desc := "(Ljava/lang/String;)V" } : Jvm.MethodName)), (Jvm.Cond.instanceMethod ({ cls := "java/lang/RuntimeException", name := "<init>", desc := "(Ljava/lang/String;)V" } : Jvm.MethodName)), (Jvm.Cond.code ({ cls := "java/lang/RuntimeException", name := "<init>", desc := "(Ljava/lang/String;)V" } : Jvm.MethodName) prog_16_method_2_code (2 : Nat) (Option.none : Option Jvm.ClassFile.FieldType)), (Jvm.Cond.methodLink "java/lang/RuntimeException" (7 : Nat) ({ cls := "java/lang/Exception", name := "<init>", desc := "(Ljava/lang/String;)V" } : Jvm.MethodName)), (Jvm.Cond.instanceMethod ({ cls := "java/lang/Exception", name := "<init>", desc := "(Ljava/lang/String;)V" } : Jvm.MethodName)), (Jvm.Cond.code ({ cls := "java/lang/Exception", name := "<init>", desc := "(Ljava/lang/String;)V" } : Jvm.MethodName) prog_11_method_2_code (2 : Nat) (Option.none : Option Jvm.ClassFile.FieldType)), (Jvm.Cond.methodLink "java/lang/Exception" (7 : Nat) ({ cls := "java/lang/Throwable", name := "<init>", desc := "(Ljava/lang/String;)V" } : Jvm.MethodName)), (Jvm.Cond.instanceMethod ({ cls := "java/lang/Throwable", name := "<init>", desc := "(Ljava/lang/String;)V" } : Jvm.MethodName)), (Jvm.Cond.code ({ cls := "java/lang/Throwable", name := "<init>", desc := "(Ljava/lang/String;)V" } : Jvm.MethodName) prog_18_method_2_code (2 : Nat) (Option.none : Option Jvm.ClassFile.FieldType)), (Jvm.Cond.fieldLink "java/lang/Throwable" (198 : Nat) "java/lang/Throwable" "backtrace" "Ljava/lang/Object;"), (Jvm.Cond.fieldLink "java/lang/Throwable" (31 : Nat) "java/lang/Throwable" "detailMessage" "Ljava/lang/String;"), (Jvm.Cond.fieldLink "java/lang/Throwable" (7 : Nat) "java/lang/Throwable" "cause" "Ljava/lang/Throwable;"), (Jvm.Cond.fieldLink "java/lang/Throwable" (17 : Nat) "java/lang/Throwable" "stackTrace" "[Ljava/lang/StackTraceElement;"), (Jvm.Cond.fieldLink "java/lang/Throwable" (24 : Nat) "java/lang/Throwable" "suppressedExceptions" "Ljava/util/List;"), (Jvm.Cond.lays "java/lang/IllegalArgumentException" "java/lang/Throwable" "depth" "I"), (Jvm.Cond.superclass "java/lang/IllegalArgumentException" "java/lang/RuntimeException"), (Jvm.Cond.methodLink "DesignSpaces" (65 : Nat) ({ cls := "DesignSpaces$Shape", name := "hasRoomFor", desc := "(I)Z" } : Jvm.MethodName)), (Jvm.Cond.instanceMethod ({ cls := "DesignSpaces$Shape", name := "hasRoomFor", desc := "(I)Z" } : Jvm.MethodName)), (Jvm.Cond.selects "DesignSpaces$Shape" ({ cls := "DesignSpaces$Shape", name := "hasRoomFor", desc := "(I)Z" } : Jvm.MethodName) ({ cls := "DesignSpaces$Shape", name := "hasRoomFor", desc := "(I)Z" } : Jvm.MethodName)), (Jvm.Cond.code ({ cls := "DesignSpaces$Shape", name := "hasRoomFor", desc := "(I)Z" } : Jvm.MethodName) prog_6_method_2_code (2 : Nat) (Option.some Jvm.ClassFile.FieldType.boolean)), (Jvm.Cond.classLink "DesignSpaces" (69 : Nat) "java/lang/UnsupportedOperationException"), (Jvm.Cond.instantiable "java/lang/UnsupportedOperationException" (6 : Nat)), (Jvm.Cond.selects "java/lang/UnsupportedOperationException" ({ cls := "java/lang/Throwable", name := "fillInStackTrace", desc := "(I)Ljava/lang/Throwable;" } : Jvm.MethodName) ({ cls := "java/lang/Throwable", name := "fillInStackTrace", desc := "(I)Ljava/lang/Throwable;" } : Jvm.MethodName)), (Jvm.Cond.lays "java/lang/UnsupportedOperationException" "java/lang/Throwable" "cause" "Ljava/lang/Throwable;"), (Jvm.Cond.lays "java/lang/UnsupportedOperationException" "java/lang/Throwable" "stackTrace" "[Ljava/lang/StackTraceElement;"), (Jvm.Cond.lays "java/lang/UnsupportedOperationException" "java/lang/Throwable" "suppressedExceptions" "Ljava/util/List;"), (Jvm.Cond.lays "java/lang/UnsupportedOperationException" "java/lang/Throwable" "detailMessage" "Ljava/lang/String;"), (Jvm.Cond.lays "java/lang/UnsupportedOperationException" "java/lang/Throwable" "backtrace" "Ljava/lang/Object;"), (Jvm.Cond.methodLink "DesignSpaces" (73 : Nat) ({ cls := "java/lang/UnsupportedOperationException", name := "<init>", desc := "(Ljava/lang/String;)V" } : Jvm.MethodName)), (Jvm.Cond.instanceMethod ({ cls := "java/lang/UnsupportedOperationException", name := "<init>", desc := "(Ljava/lang/String;)V" } : Jvm.MethodName)), (Jvm.Cond.code ({ cls := "java/lang/UnsupportedOperationException", name := "<init>", desc := "(Ljava/lang/String;)V" } : Jvm.MethodName) prog_19_method_2_code (2 : Nat) (Option.none : Option Jvm.ClassFile.FieldType)), (Jvm.Cond.methodLink "java/lang/UnsupportedOperationException" (7 : Nat) ({ cls := "java/lang/RuntimeException", name := "<init>", desc := "(Ljava/lang/String;)V" } : Jvm.MethodName)), (Jvm.Cond.lays "java/lang/UnsupportedOperationException" "java/lang/Throwable" "depth" "I"), (Jvm.Cond.superclass "java/lang/UnsupportedOperationException" "java/lang/RuntimeException"), (Jvm.Cond.methodLink "DesignSpaces" (74 : Nat) ({ cls := "DesignSpaces$Book", name := "splitDesigns", desc := "(I)V" } : Jvm.MethodName)), (Jvm.Cond.instanceMethod ({ cls := "DesignSpaces$Book", name := "splitDesigns", desc := "(I)V" } : Jvm.MethodName)), (Jvm.Cond.selects "DesignSpaces$Book" ({ cls := "DesignSpaces$Book", name := "splitDesigns", desc := "(I)V" } : Jvm.MethodName) ({ cls := "DesignSpaces$Book", name := "splitDesigns", desc := "(I)V" } : Jvm.MethodName)), (Jvm.Cond.code ({ cls := "DesignSpaces$Book", name := "splitDesigns", desc := "(I)V" } : Jvm.MethodName) prog_2_method_2_code (4 : Nat) (Option.none : Option Jvm.ClassFile.FieldType)), (Jvm.Cond.methodLink "DesignSpaces$Book" (56 : Nat) ({ cls := "DesignSpaces$Book", name := "copyEntries", desc := "(II)V" } : Jvm.MethodName)), (Jvm.Cond.instanceMethod ({ cls := "DesignSpaces$Book", name := "copyEntries", desc := "(II)V" } : Jvm.MethodName)), (Jvm.Cond.code ({ cls := "DesignSpaces$Book", name := "copyEntries", desc := "(II)V" } : Jvm.MethodName) prog_2_method_3_code (4 : Nat) (Option.none : Option Jvm.ClassFile.FieldType)), (Jvm.Cond.methodLink "DesignSpaces" (78 : Nat) ({ cls := "DesignSpaces$Shape", name := "addChoice", desc := "(I)V" } : Jvm.MethodName)), (Jvm.Cond.instanceMethod ({ cls := "DesignSpaces$Shape", name := "addChoice", desc := "(I)V" } : Jvm.MethodName)), (Jvm.Cond.selects "DesignSpaces$Shape" ({ cls := "DesignSpaces$Shape", name := "addChoice", desc := "(I)V" } : Jvm.MethodName) ({ cls := "DesignSpaces$Shape", name := "addChoice", desc := "(I)V" } : Jvm.MethodName)), (Jvm.Cond.code ({ cls := "DesignSpaces$Shape", name := "addChoice", desc := "(I)V" } : Jvm.MethodName) prog_6_method_3_code (3 : Nat) (Option.none : Option Jvm.ClassFile.FieldType)), (Jvm.Cond.methodLink "DesignSpaces" (81 : Nat) ({ cls := "DesignSpaces$Sweeper", name := "beginAnew", desc := "()V" } : Jvm.MethodName)), (Jvm.Cond.instanceMethod ({ cls := "DesignSpaces$Sweeper", name := "beginAnew", desc := "()V" } : Jvm.MethodName)), (Jvm.Cond.selects "DesignSpaces$Sweeper" ({ cls := "DesignSpaces$Sweeper", name := "beginAnew", desc := "()V" } : Jvm.MethodName) ({ cls := "DesignSpaces$Sweeper", name := "beginAnew", desc := "()V" } : Jvm.MethodName)), (Jvm.Cond.code ({ cls := "DesignSpaces$Sweeper", name := "beginAnew", desc := "()V" } : Jvm.MethodName) prog_7_method_2_code (1 : Nat) (Option.none : Option Jvm.ClassFile.FieldType)), (Jvm.Cond.methodLink "DesignSpaces" (84 : Nat) ({ cls := "DesignSpaces$Front", name := "forget", desc := "()V" } : Jvm.MethodName)), (Jvm.Cond.instanceMethod ({ cls := "DesignSpaces$Front", name := "forget", desc := "()V" } : Jvm.MethodName)), (Jvm.Cond.selects "DesignSpaces$Front" ({ cls := "DesignSpaces$Front", name := "forget", desc := "()V" } : Jvm.MethodName) ({ cls := "DesignSpaces$Front", name := "forget", desc := "()V" } : Jvm.MethodName)), (Jvm.Cond.code ({ cls := "DesignSpaces$Front", name := "forget", desc := "()V" } : Jvm.MethodName) prog_3_method_2_code (1 : Nat) (Option.none : Option Jvm.ClassFile.FieldType)), (Jvm.Cond.instanceMethod ({ cls := "DesignSpaces", name := "term", desc := "(IIIIII)I" } : Jvm.MethodName)), (Jvm.Cond.selects "DesignSpaces" ({ cls := "DesignSpaces", name := "term", desc := "(IIIIII)I" } : Jvm.MethodName) ({ cls := "DesignSpaces", name := "term", desc := "(IIIIII)I" } : Jvm.MethodName)), (Jvm.Cond.code ({ cls := "DesignSpaces", name := "term", desc := "(IIIIII)I" } : Jvm.MethodName) prog_1_method_3_code (8 : Nat) (Option.some Jvm.ClassFile.FieldType.int)), (Jvm.Cond.methodLink "DesignSpaces" (91 : Nat) ({ cls := "DesignSpaces", name := "isNumber", desc := "(I)Z" } : Jvm.MethodName)), (Jvm.Cond.static ({ cls := "DesignSpaces", name := "isNumber", desc := "(I)Z" } : Jvm.MethodName)), (Jvm.Cond.code ({ cls := "DesignSpaces", name := "isNumber", desc := "(I)Z" } : Jvm.MethodName) prog_1_method_22_code (1 : Nat) (Option.some Jvm.ClassFile.FieldType.boolean)), (Jvm.Cond.methodLink "DesignSpaces" (94 : Nat) ({ cls := "DesignSpaces$Shape", name := "hasValue", desc := "(II)Z" } : Jvm.MethodName)), (Jvm.Cond.instanceMethod ({ cls := "DesignSpaces$Shape", name := "hasValue", desc := "(II)Z" } : Jvm.MethodName)), (Jvm.Cond.selects "DesignSpaces$Shape" ({ cls := "DesignSpaces$Shape", name := "hasValue", desc := "(II)Z" } : Jvm.MethodName) ({ cls := "DesignSpaces$Shape", name := "hasValue", desc := "(II)Z" } : Jvm.MethodName)), (Jvm.Cond.code ({ cls := "DesignSpaces$Shape", name := "hasValue", desc := "(II)Z" } : Jvm.MethodName) prog_6_method_6_code (3 : Nat) (Option.some Jvm.ClassFile.FieldType.boolean)), (Jvm.Cond.methodLink "DesignSpaces$Shape" (25 : Nat) ({ cls := "DesignSpaces$Shape", name := "hasChoice", desc := "(I)Z" } : Jvm.MethodName)), (Jvm.Cond.instanceMethod ({ cls := "DesignSpaces$Shape", name := "hasChoice", desc := "(I)Z" } : Jvm.MethodName)), (Jvm.Cond.selects "DesignSpaces$Shape" ({ cls := "DesignSpaces$Shape", name := "hasChoice", desc := "(I)Z" } : Jvm.MethodName) ({ cls := "DesignSpaces$Shape", name := "hasChoice", desc := "(I)Z" } : Jvm.MethodName)), (Jvm.Cond.code ({ cls := "DesignSpaces$Shape", name := "hasChoice", desc := "(I)Z" } : Jvm.MethodName) prog_6_method_5_code (2 : Nat) (Option.some Jvm.ClassFile.FieldType.boolean)), (Jvm.Cond.classLink "DesignSpaces" (98 : Nat) "java/lang/IndexOutOfBoundsException"), (Jvm.Cond.instantiable "java/lang/IndexOutOfBoundsException" (6 : Nat)), (Jvm.Cond.selects "java/lang/IndexOutOfBoundsException" ({ cls := "java/lang/Throwable", name := "fillInStackTrace", desc := "(I)Ljava/lang/Throwable;" } : Jvm.MethodName) ({ cls := "java/lang/Throwable", name := "fillInStackTrace", desc := "(I)Ljava/lang/Throwable;" } : Jvm.MethodName)), (Jvm.Cond.lays "java/lang/IndexOutOfBoundsException" "java/lang/Throwable" "cause" "Ljava/lang/Throwable;"), (Jvm.Cond.lays "java/lang/IndexOutOfBoundsException" "java/lang/Throwable" "stackTrace" "[Ljava/lang/StackTraceElement;"), (Jvm.Cond.lays "java/lang/IndexOutOfBoundsException" "java/lang/Throwable" "suppressedExceptions" "Ljava/util/List;"), (Jvm.Cond.lays "java/lang/IndexOutOfBoundsException" "java/lang/Throwable" "detailMessage" "Ljava/lang/String;"), (Jvm.Cond.lays "java/lang/IndexOutOfBoundsException" "java/lang/Throwable" "backtrace" "Ljava/lang/Object;"), (Jvm.Cond.methodLink "DesignSpaces" (102 : Nat) ({ cls := "java/lang/IndexOutOfBoundsException", name := "<init>", desc := "(Ljava/lang/String;)V" } : Jvm.MethodName)), (Jvm.Cond.instanceMethod ({ cls := "java/lang/IndexOutOfBoundsException", name := "<init>", desc := "(Ljava/lang/String;)V" } : Jvm.MethodName)), (Jvm.Cond.code ({ cls := "java/lang/IndexOutOfBoundsException", name := "<init>", desc := "(Ljava/lang/String;)V" } : Jvm.MethodName) prog_14_method_2_code (2 : Nat) (Option.none : Option Jvm.ClassFile.FieldType)), (Jvm.Cond.methodLink "java/lang/IndexOutOfBoundsException" (7 : Nat) ({ cls := "java/lang/RuntimeException", name := "<init>", desc := "(Ljava/lang/String;)V" } : Jvm.MethodName)), (Jvm.Cond.lays "java/lang/IndexOutOfBoundsException" "java/lang/Throwable" "depth" "I"), (Jvm.Cond.superclass "java/lang/IndexOutOfBoundsException" "java/lang/RuntimeException"), (Jvm.Cond.constant "DesignSpaces" (103 : Nat) (-1000000 : Int32)), (Jvm.Cond.constant "DesignSpaces" (104 : Nat) (1000000 : Int32)), (Jvm.Cond.methodLink "DesignSpaces" (112 : Nat) ({ cls := "DesignSpaces$Book", name := "addTerm", desc := "(IIIIII)V" } : Jvm.MethodName)), (Jvm.Cond.instanceMethod ({ cls := "DesignSpaces$Book", name := "addTerm", desc := "(IIIIII)V" } : Jvm.MethodName)), (Jvm.Cond.selects "DesignSpaces$Book" ({ cls := "DesignSpaces$Book", name := "addTerm", desc := "(IIIIII)V" } : Jvm.MethodName) ({ cls := "DesignSpaces$Book", name := "addTerm", desc := "(IIIIII)V" } : Jvm.MethodName)), (Jvm.Cond.code ({ cls := "DesignSpaces$Book", name := "addTerm", desc := "(IIIIII)V" } : Jvm.MethodName) prog_2_method_4_code (9 : Nat) (Option.none : Option Jvm.ClassFile.FieldType)), (Jvm.Cond.methodLink "DesignSpaces$Book" (60 : Nat) ({ cls := "DesignSpaces$Matches", name := "put", desc := "(IIIII)V" } : Jvm.MethodName)), (Jvm.Cond.instanceMethod ({ cls := "DesignSpaces$Matches", name := "put", desc := "(IIIII)V" } : Jvm.MethodName)), (Jvm.Cond.selects "DesignSpaces$Matches" ({ cls := "DesignSpaces$Matches", name := "put", desc := "(IIIII)V" } : Jvm.MethodName) ({ cls := "DesignSpaces$Matches", name := "put", desc := "(IIIII)V" } : Jvm.MethodName)), (Jvm.Cond.code ({ cls := "DesignSpaces$Matches", name := "put", desc := "(IIIII)V" } : Jvm.MethodName) prog_4_method_2_code (6 : Nat) (Option.none : Option Jvm.ClassFile.FieldType)), (Jvm.Cond.methodLink "DesignSpaces$Book" (64 : Nat) ({ cls := "DesignSpaces$Matches", name := "fits", desc := "(II)Z" } : Jvm.MethodName)), (Jvm.Cond.instanceMethod ({ cls := "DesignSpaces$Matches", name := "fits", desc := "(II)Z" } : Jvm.MethodName)), (Jvm.Cond.selects "DesignSpaces$Matches" ({ cls := "DesignSpaces$Matches", name := "fits", desc := "(II)Z" } : Jvm.MethodName) ({ cls := "DesignSpaces$Matches", name := "fits", desc := "(II)Z" } : Jvm.MethodName)), (Jvm.Cond.code ({ cls := "DesignSpaces$Matches", name := "fits", desc := "(II)Z" } : Jvm.MethodName) prog_4_method_3_code (3 : Nat) (Option.some Jvm.ClassFile.FieldType.boolean)), (Jvm.Cond.methodLink "DesignSpaces$Matches" (28 : Nat) ({ cls := "DesignSpaces$Shape", name := "digit", desc := "(II)I" } : Jvm.MethodName)), (Jvm.Cond.instanceMethod ({ cls := "DesignSpaces$Shape", name := "digit", desc := "(II)I" } : Jvm.MethodName)), (Jvm.Cond.selects "DesignSpaces$Shape" ({ cls := "DesignSpaces$Shape", name := "digit", desc := "(II)I" } : Jvm.MethodName) ({ cls := "DesignSpaces$Shape", name := "digit", desc := "(II)I" } : Jvm.MethodName)), (Jvm.Cond.code ({ cls := "DesignSpaces$Shape", name := "digit", desc := "(II)I" } : Jvm.MethodName) prog_6_method_7_code (5 : Nat) (Option.some Jvm.ClassFile.FieldType.int)), (Jvm.Cond.instanceMethod ({ cls := "DesignSpaces", name := "rule", desc := "(IIII)I" } : Jvm.MethodName)), (Jvm.Cond.selects "DesignSpaces" ({ cls := "DesignSpaces", name := "rule", desc := "(IIII)I" } : Jvm.MethodName) ({ cls := "DesignSpaces", name := "rule", desc := "(IIII)I" } : Jvm.MethodName)), (Jvm.Cond.code ({ cls := "DesignSpaces", name := "rule", desc := "(IIII)I" } : Jvm.MethodName) prog_1_method_4_code (5 : Nat) (Option.some Jvm.ClassFile.FieldType.int)), (Jvm.Cond.methodLink "DesignSpaces" (125 : Nat) ({ cls := "DesignSpaces$Book", name := "addRule", desc := "(IIII)V" } : Jvm.MethodName)), (Jvm.Cond.instanceMethod ({ cls := "DesignSpaces$Book", name := "addRule", desc := "(IIII)V" } : Jvm.MethodName)), (Jvm.Cond.selects "DesignSpaces$Book" ({ cls := "DesignSpaces$Book", name := "addRule", desc := "(IIII)V" } : Jvm.MethodName) ({ cls := "DesignSpaces$Book", name := "addRule", desc := "(IIII)V" } : Jvm.MethodName)), (Jvm.Cond.code ({ cls := "DesignSpaces$Book", name := "addRule", desc := "(IIII)V" } : Jvm.MethodName) prog_2_method_5_code (7 : Nat) (Option.none : Option Jvm.ClassFile.FieldType)), (Jvm.Cond.instanceMethod ({ cls := "DesignSpaces", name := "limit", desc := "(IZI)Z" } : Jvm.MethodName)), (Jvm.Cond.selects "DesignSpaces" ({ cls := "DesignSpaces", name := "limit", desc := "(IZI)Z" } : Jvm.MethodName) ({ cls := "DesignSpaces", name := "limit", desc := "(IZI)Z" } : Jvm.MethodName)), (Jvm.Cond.code ({ cls := "DesignSpaces", name := "limit", desc := "(IZI)Z" } : Jvm.MethodName) prog_1_method_5_code (5 : Nat) (Option.some Jvm.ClassFile.FieldType.boolean)), (Jvm.Cond.instanceMethod ({ cls := "DesignSpaces", name := "number", desc := "(II)I" } : Jvm.MethodName)), (Jvm.Cond.selects "DesignSpaces" ({ cls := "DesignSpaces", name := "number", desc := "(II)I" } : Jvm.MethodName) ({ cls := "DesignSpaces", name := "number", desc := "(II)I" } : Jvm.MethodName)), (Jvm.Cond.code ({ cls := "DesignSpaces", name := "number", desc := "(II)I" } : Jvm.MethodName) prog_1_method_6_code (3 : Nat) (Option.some Jvm.ClassFile.FieldType.int)), (Jvm.Cond.methodLink "DesignSpaces" (139 : Nat) ({ cls := "DesignSpaces$Shape", name := "hasDesign", desc := "(I)Z" } : Jvm.MethodName)), (Jvm.Cond.instanceMethod ({ cls := "DesignSpaces$Shape", name := "hasDesign", desc := "(I)Z" } : Jvm.MethodName)), (Jvm.Cond.selects "DesignSpaces$Shape" ({ cls := "DesignSpaces$Shape", name := "hasDesign", desc := "(I)Z" } : Jvm.MethodName) ({ cls := "DesignSpaces$Shape", name := "hasDesign", desc := "(I)Z" } : Jvm.MethodName)), (Jvm.Cond.code ({ cls := "DesignSpaces$Shape", name := "hasDesign", desc := "(I)Z" } : Jvm.MethodName) prog_6_method_4_code (2 : Nat) (Option.some Jvm.ClassFile.FieldType.boolean)), (Jvm.Cond.methodLink "DesignSpaces" (144 : Nat) ({ cls := "DesignSpaces$Book", name := "sumOf", desc := "(II)I" } : Jvm.MethodName)), (Jvm.Cond.instanceMethod ({ cls := "DesignSpaces", name := "value", desc := "(II)I" } : Jvm.MethodName)), (Jvm.Cond.selects "DesignSpaces" ({ cls := "DesignSpaces", name := "value", desc := "(II)I" } : Jvm.MethodName) ({ cls := "DesignSpaces", name := "value", desc := "(II)I" } : Jvm.MethodName)), (Jvm.Cond.code ({ cls := "DesignSpaces", name := "value", desc := "(II)I" } : Jvm.MethodName) prog_1_method_7_code (3 : Nat) (Option.some Jvm.ClassFile.FieldType.int)), (Jvm.Cond.methodLink "DesignSpaces" (148 : Nat) ({ cls := "DesignSpaces$Shape", name := "hasChoice", desc := "(I)Z" } : Jvm.MethodName)), (Jvm.Cond.methodLink "DesignSpaces" (153 : Nat) ({ cls := "DesignSpaces$Shape", name := "digit", desc := "(II)I" } : Jvm.MethodName)), (Jvm.Cond.instanceMethod ({ cls := "DesignSpaces", name := "legal", desc := "(I)Z" } : Jvm.MethodName)), (Jvm.Cond.selects "DesignSpaces" ({ cls := "DesignSpaces", name := "legal", desc := "(I)Z" } : Jvm.MethodName) ({ cls := "DesignSpaces", name := "legal", desc := "(I)Z" } : Jvm.MethodName)), (Jvm.Cond.code ({ cls := "DesignSpaces", name := "legal", desc := "(I)Z" } : Jvm.MethodName) prog_1_method_8_code (2 : Nat) (Option.some Jvm.ClassFile.FieldType.boolean)), (Jvm.Cond.methodLink "DesignSpaces" (158 : Nat) ({ cls := "DesignSpaces$Book", name := "allows", desc := "(I)Z" } : Jvm.MethodName)), (Jvm.Cond.instanceMethod ({ cls := "DesignSpaces", name := "beats", desc := "(II)Z" } : Jvm.MethodName)), (Jvm.Cond.selects "DesignSpaces" ({ cls := "DesignSpaces", name := "beats", desc := "(II)Z" } : Jvm.MethodName) ({ cls := "DesignSpaces", name := "beats", desc := "(II)Z" } : Jvm.MethodName)), (Jvm.Cond.code ({ cls := "DesignSpaces", name := "beats", desc := "(II)Z" } : Jvm.MethodName) prog_1_method_9_code (3 : Nat) (Option.some Jvm.ClassFile.FieldType.boolean)), (Jvm.Cond.methodLink "DesignSpaces" (165 : Nat) ({ cls := "DesignSpaces$Book", name := "isAtMost", desc := "(II)Z" } : Jvm.MethodName)), (Jvm.Cond.instanceMethod ({ cls := "DesignSpaces", name := "at", desc := "(I)I" } : Jvm.MethodName)), (Jvm.Cond.selects "DesignSpaces" ({ cls := "DesignSpaces", name := "at", desc := "(I)I" } : Jvm.MethodName) ({ cls := "DesignSpaces", name := "at", desc := "(I)I" } : Jvm.MethodName)), (Jvm.Cond.code ({ cls := "DesignSpaces", name := "at", desc := "(I)I" } : Jvm.MethodName) prog_1_method_11_code (2 : Nat) (Option.some Jvm.ClassFile.FieldType.int)), (Jvm.Cond.instanceMethod ({ cls := "DesignSpaces", name := "best", desc := "(I)I" } : Jvm.MethodName)), (Jvm.Cond.selects "DesignSpaces" ({ cls := "DesignSpaces", name := "best", desc := "(I)I" } : Jvm.MethodName) ({ cls := "DesignSpaces", name := "best", desc := "(I)I" } : Jvm.MethodName)), (Jvm.Cond.code ({ cls := "DesignSpaces", name := "best", desc := "(I)I" } : Jvm.MethodName) prog_1_method_12_code (2 : Nat) (Option.some Jvm.ClassFile.FieldType.int)), (Jvm.Cond.methodLink "DesignSpaces" (179 : Nat) ({ cls := "DesignSpaces$Search", name := "leastOf", desc := "(I)I" } : Jvm.MethodName)), (Jvm.Cond.instanceMethod ({ cls := "DesignSpaces$Search", name := "leastOf", desc := "(I)I" } : Jvm.MethodName)), (Jvm.Cond.selects "DesignSpaces$Search" ({ cls := "DesignSpaces$Search", name := "leastOf", desc := "(I)I" } : Jvm.MethodName) ({ cls := "DesignSpaces$Search", name := "leastOf", desc := "(I)I" } : Jvm.MethodName)), (Jvm.Cond.code ({ cls := "DesignSpaces$Search", name := "leastOf", desc := "(I)I" } : Jvm.MethodName) prog_5_method_2_code (5 : Nat) (Option.some Jvm.ClassFile.FieldType.int)), (Jvm.Cond.methodLink "DesignSpaces$Search" (33 : Nat) ({ cls := "DesignSpaces$Search", name := "isPassedBy", desc := "(II)Z" } : Jvm.MethodName)), (Jvm.Cond.instanceMethod ({ cls := "DesignSpaces$Search", name := "isPassedBy", desc := "(II)Z" } : Jvm.MethodName)), (Jvm.Cond.code ({ cls := "DesignSpaces$Search", name := "isPassedBy", desc := "(II)Z" } : Jvm.MethodName) prog_5_method_5_code (3 : Nat) (Option.some Jvm.ClassFile.FieldType.boolean)), (Jvm.Cond.methodLink "DesignSpaces$Search" (63 : Nat) ({ cls := "DesignSpaces$Book", name := "barsRow", desc := "([II)Z" } : Jvm.MethodName)), (Jvm.Cond.instanceMethod ({ cls := "DesignSpaces$Book", name := "barsRow", desc := "([II)Z" } : Jvm.MethodName)), (Jvm.Cond.selects "DesignSpaces$Book" ({ cls := "DesignSpaces$Book", name := "barsRow", desc := "([II)Z" } : Jvm.MethodName) ({ cls := "DesignSpaces$Book", name := "barsRow", desc := "([II)Z" } : Jvm.MethodName)), (Jvm.Cond.code ({ cls := "DesignSpaces$Book", name := "barsRow", desc := "([II)Z" } : Jvm.MethodName) prog_2_method_12_code (5 : Nat) (Option.some Jvm.ClassFile.FieldType.boolean)), (Jvm.Cond.methodLink "DesignSpaces$Book" (76 : Nat) ({ cls := "DesignSpaces$Matches", name := "isSettled", desc := "(II)Z" } : Jvm.MethodName)), (Jvm.Cond.instanceMethod ({ cls := "DesignSpaces$Matches", name := "isSettled", desc := "(II)Z" } : Jvm.MethodName)), (Jvm.Cond.selects "DesignSpaces$Matches" ({ cls := "DesignSpaces$Matches", name := "isSettled", desc := "(II)Z" } : Jvm.MethodName) ({ cls := "DesignSpaces$Matches", name := "isSettled", desc := "(II)Z" } : Jvm.MethodName)), (Jvm.Cond.code ({ cls := "DesignSpaces$Matches", name := "isSettled", desc := "(II)Z" } : Jvm.MethodName) prog_4_method_5_code (3 : Nat) (Option.some Jvm.ClassFile.FieldType.boolean)), (Jvm.Cond.methodLink "DesignSpaces$Book" (72 : Nat) ({ cls := "DesignSpaces$Matches", name := "isOpen", desc := "(I[II)Z" } : Jvm.MethodName)), (Jvm.Cond.instanceMethod ({ cls := "DesignSpaces$Matches", name := "isOpen", desc := "(I[II)Z" } : Jvm.MethodName)), (Jvm.Cond.selects "DesignSpaces$Matches" ({ cls := "DesignSpaces$Matches", name := "isOpen", desc := "(I[II)Z" } : Jvm.MethodName) ({ cls := "DesignSpaces$Matches", name := "isOpen", desc := "(I[II)Z" } : Jvm.MethodName)), (Jvm.Cond.code ({ cls := "DesignSpaces$Matches", name := "isOpen", desc := "(I[II)Z" } : Jvm.MethodName) prog_4_method_4_code (6 : Nat) (Option.some Jvm.ClassFile.FieldType.boolean)), (Jvm.Cond.methodLink "DesignSpaces$Search" (67 : Nat) ({ cls := "DesignSpaces$Book", name := "limitsRow", desc := "([II)Z" } : Jvm.MethodName)), (Jvm.Cond.instanceMethod ({ cls := "DesignSpaces$Book", name := "limitsRow", desc := "([II)Z" } : Jvm.MethodName)), (Jvm.Cond.selects "DesignSpaces$Book" ({ cls := "DesignSpaces$Book", name := "limitsRow", desc := "([II)Z" } : Jvm.MethodName) ({ cls := "DesignSpaces$Book", name := "limitsRow", desc := "([II)Z" } : Jvm.MethodName)), (Jvm.Cond.code ({ cls := "DesignSpaces$Book", name := "limitsRow", desc := "([II)Z" } : Jvm.MethodName) prog_2_method_13_code (4 : Nat) (Option.some Jvm.ClassFile.FieldType.boolean)), (Jvm.Cond.methodLink "DesignSpaces$Book" (79 : Nat) ({ cls := "DesignSpaces$Book", name := "boundOf", desc := "(I[II)I" } : Jvm.MethodName)), (Jvm.Cond.instanceMethod ({ cls := "DesignSpaces$Book", name := "boundOf", desc := "(I[II)I" } : Jvm.MethodName)), (Jvm.Cond.selects "DesignSpaces$Book" ({ cls := "DesignSpaces$Book", name := "boundOf", desc := "(I[II)I" } : Jvm.MethodName) ({ cls := "DesignSpaces$Book", name := "boundOf", desc := "(I[II)I" } : Jvm.MethodName)), (Jvm.Cond.code ({ cls := "DesignSpaces$Book", name := "boundOf", desc := "(I[II)I" } : Jvm.MethodName) prog_2_method_11_code (8 : Nat) (Option.some Jvm.ClassFile.FieldType.int)), (Jvm.Cond.methodLink "DesignSpaces$Search" (70 : Nat) ({ cls := "DesignSpaces$Book", name := "boundOf", desc := "(I[II)I" } : Jvm.MethodName)), (Jvm.Cond.methodLink "DesignSpaces$Search" (42 : Nat) ({ cls := "DesignSpaces$Search", name := "keepRow", desc := "(I)V" } : Jvm.MethodName)), (Jvm.Cond.instanceMethod ({ cls := "DesignSpaces$Search", name := "keepRow", desc := "(I)V" } : Jvm.MethodName)), (Jvm.Cond.code ({ cls := "DesignSpaces$Search", name := "keepRow", desc := "(I)V" } : Jvm.MethodName) prog_5_method_3_code (2 : Nat) (Option.none : Option Jvm.ClassFile.FieldType)), (Jvm.Cond.methodLink "DesignSpaces$Search" (50 : Nat) ({ cls := "DesignSpaces$Shape", name := "designOf", desc := "([I)I" } : Jvm.MethodName)), (Jvm.Cond.instanceMethod ({ cls := "DesignSpaces$Shape", name := "designOf", desc := "([I)I" } : Jvm.MethodName)), (Jvm.Cond.selects "DesignSpaces$Shape" ({ cls := "DesignSpaces$Shape", name := "designOf", desc := "([I)I" } : Jvm.MethodName) ({ cls := "DesignSpaces$Shape", name := "designOf", desc := "([I)I" } : Jvm.MethodName)), (Jvm.Cond.code ({ cls := "DesignSpaces$Shape", name := "designOf", desc := "([I)I" } : Jvm.MethodName) prog_6_method_8_code (4 : Nat) (Option.some Jvm.ClassFile.FieldType.int)), (Jvm.Cond.methodLink "DesignSpaces$Search" (54 : Nat) ({ cls := "DesignSpaces$Book", name := "sumOf", desc := "(II)I" } : Jvm.MethodName)), (Jvm.Cond.methodLink "DesignSpaces$Search" (46 : Nat) ({ cls := "DesignSpaces$Search", name := "goBehind", desc := "(I)I" } : Jvm.MethodName)), (Jvm.Cond.instanceMethod ({ cls := "DesignSpaces$Search", name := "goBehind", desc := "(I)I" } : Jvm.MethodName)), (Jvm.Cond.code ({ cls := "DesignSpaces$Search", name := "goBehind", desc := "(I)I" } : Jvm.MethodName) prog_5_method_4_code (3 : Nat) (Option.some Jvm.ClassFile.FieldType.int)), (Jvm.Cond.instanceMethod ({ cls := "DesignSpaces", name := "bound", desc := "(III)I" } : Jvm.MethodName)), (Jvm.Cond.selects "DesignSpaces" ({ cls := "DesignSpaces", name := "bound", desc := "(III)I" } : Jvm.MethodName) ({ cls := "DesignSpaces", name := "bound", desc := "(III)I" } : Jvm.MethodName)), (Jvm.Cond.code ({ cls := "DesignSpaces", name := "bound", desc := "(III)I" } : Jvm.MethodName) prog_1_method_14_code (4 : Nat) (Option.some Jvm.ClassFile.FieldType.int)), (Jvm.Cond.methodLink "DesignSpaces" (188 : Nat) ({ cls := "DesignSpaces$Search", name := "boundFor", desc := "(III)I" } : Jvm.MethodName)), (Jvm.Cond.instanceMethod ({ cls := "DesignSpaces$Search", name := "boundFor", desc := "(III)I" } : Jvm.MethodName)), (Jvm.Cond.selects "DesignSpaces$Search" ({ cls := "DesignSpaces$Search", name := "boundFor", desc := "(III)I" } : Jvm.MethodName) ({ cls := "DesignSpaces$Search", name := "boundFor", desc := "(III)I" } : Jvm.MethodName)), (Jvm.Cond.code ({ cls := "DesignSpaces$Search", name := "boundFor", desc := "(III)I" } : Jvm.MethodName) prog_5_method_6_code (5 : Nat) (Option.some Jvm.ClassFile.FieldType.int)), (Jvm.Cond.methodLink "DesignSpaces$Search" (74 : Nat) ({ cls := "DesignSpaces$Shape", name := "digit", desc := "(II)I" } : Jvm.MethodName)), (Jvm.Cond.instanceMethod ({ cls := "DesignSpaces", name := "near", desc := "(II)I" } : Jvm.MethodName)), (Jvm.Cond.selects "DesignSpaces" ({ cls := "DesignSpaces", name := "near", desc := "(II)I" } : Jvm.MethodName) ({ cls := "DesignSpaces", name := "near", desc := "(II)I" } : Jvm.MethodName)), (Jvm.Cond.code ({ cls := "DesignSpaces", name := "near", desc := "(II)I" } : Jvm.MethodName) prog_1_method_15_code (3 : Nat) (Option.some Jvm.ClassFile.FieldType.int)), (Jvm.Cond.methodLink "DesignSpaces" (192 : Nat) ({ cls := "DesignSpaces$Shape", name := "neighbours", desc := "()I" } : Jvm.MethodName)), (Jvm.Cond.instanceMethod ({ cls := "DesignSpaces$Shape", name := "neighbours", desc := "()I" } : Jvm.MethodName)), (Jvm.Cond.selects "DesignSpaces$Shape" ({ cls := "DesignSpaces$Shape", name := "neighbours", desc := "()I" } : Jvm.MethodName) ({ cls := "DesignSpaces$Shape", name := "neighbours", desc := "()I" } : Jvm.MethodName)), (Jvm.Cond.code ({ cls := "DesignSpaces$Shape", name := "neighbours", desc := "()I" } : Jvm.MethodName) prog_6_method_9_code (3 : Nat) (Option.some Jvm.ClassFile.FieldType.int)), (Jvm.Cond.methodLink "DesignSpaces" (198 : Nat) ({ cls := "DesignSpaces$Shape", name := "neighbour", desc := "(II)I" } : Jvm.MethodName)), (Jvm.Cond.instanceMethod ({ cls := "DesignSpaces$Shape", name := "neighbour", desc := "(II)I" } : Jvm.MethodName)), (Jvm.Cond.selects "DesignSpaces$Shape" ({ cls := "DesignSpaces$Shape", name := "neighbour", desc := "(II)I" } : Jvm.MethodName) ({ cls := "DesignSpaces$Shape", name := "neighbour", desc := "(II)I" } : Jvm.MethodName)), (Jvm.Cond.code ({ cls := "DesignSpaces$Shape", name := "neighbour", desc := "(II)I" } : Jvm.MethodName) prog_6_method_10_code (8 : Nat) (Option.some Jvm.ClassFile.FieldType.int)), (Jvm.Cond.methodLink "DesignSpaces$Shape" (29 : Nat) ({ cls := "DesignSpaces$Shape", name := "digit", desc := "(II)I" } : Jvm.MethodName)), (Jvm.Cond.instanceMethod ({ cls := "DesignSpaces", name := "slack", desc := "(I)I" } : Jvm.MethodName)), (Jvm.Cond.selects "DesignSpaces" ({ cls := "DesignSpaces", name := "slack", desc := "(I)I" } : Jvm.MethodName) ({ cls := "DesignSpaces", name := "slack", desc := "(I)I" } : Jvm.MethodName)), (Jvm.Cond.code ({ cls := "DesignSpaces", name := "slack", desc := "(I)I" } : Jvm.MethodName) prog_1_method_16_code (3 : Nat) (Option.some Jvm.ClassFile.FieldType.int)), (Jvm.Cond.instanceMethod ({ cls := "DesignSpaces", name := "walk", desc := "(II)I" } : Jvm.MethodName)), (Jvm.Cond.selects "DesignSpaces" ({ cls := "DesignSpaces", name := "walk", desc := "(II)I" } : Jvm.MethodName) ({ cls := "DesignSpaces", name := "walk", desc := "(II)I" } : Jvm.MethodName)), (Jvm.Cond.code ({ cls := "DesignSpaces", name := "walk", desc := "(II)I" } : Jvm.MethodName) prog_1_method_17_code (3 : Nat) (Option.some Jvm.ClassFile.FieldType.int)), (Jvm.Cond.classLink "DesignSpaces" (208 : Nat) "java/lang/IllegalStateException"), (Jvm.Cond.instantiable "java/lang/IllegalStateException" (6 : Nat)), (Jvm.Cond.selects "java/lang/IllegalStateException" ({ cls := "java/lang/Throwable", name := "fillInStackTrace", desc := "(I)Ljava/lang/Throwable;" } : Jvm.MethodName) ({ cls := "java/lang/Throwable", name := "fillInStackTrace", desc := "(I)Ljava/lang/Throwable;" } : Jvm.MethodName)), (Jvm.Cond.lays "java/lang/IllegalStateException" "java/lang/Throwable" "cause" "Ljava/lang/Throwable;"), (Jvm.Cond.lays "java/lang/IllegalStateException" "java/lang/Throwable" "stackTrace" "[Ljava/lang/StackTraceElement;"), (Jvm.Cond.lays "java/lang/IllegalStateException" "java/lang/Throwable" "suppressedExceptions" "Ljava/util/List;"), (Jvm.Cond.lays "java/lang/IllegalStateException" "java/lang/Throwable" "detailMessage" "Ljava/lang/String;"), (Jvm.Cond.lays "java/lang/IllegalStateException" "java/lang/Throwable" "backtrace" "Ljava/lang/Object;"), (Jvm.Cond.methodLink "DesignSpaces" (212 : Nat) ({ cls := "java/lang/IllegalStateException", name := "<init>", desc := "(Ljava/lang/String;)V" } : Jvm.MethodName)), (Jvm.Cond.instanceMethod ({ cls := "java/lang/IllegalStateException", name := "<init>", desc := "(Ljava/lang/String;)V" } : Jvm.MethodName)), (Jvm.Cond.code ({ cls := "java/lang/IllegalStateException", name := "<init>", desc := "(Ljava/lang/String;)V" } : Jvm.MethodName) prog_13_method_2_code (2 : Nat) (Option.none : Option Jvm.ClassFile.FieldType)), (Jvm.Cond.methodLink "java/lang/IllegalStateException" (7 : Nat) ({ cls := "java/lang/RuntimeException", name := "<init>", desc := "(Ljava/lang/String;)V" } : Jvm.MethodName)), (Jvm.Cond.lays "java/lang/IllegalStateException" "java/lang/Throwable" "depth" "I"), (Jvm.Cond.superclass "java/lang/IllegalStateException" "java/lang/RuntimeException"), (Jvm.Cond.methodLink "DesignSpaces" (213 : Nat) ({ cls := "DesignSpaces$Walker", name := "go", desc := "(II)I" } : Jvm.MethodName)), (Jvm.Cond.instanceMethod ({ cls := "DesignSpaces$Walker", name := "go", desc := "(II)I" } : Jvm.MethodName)), (Jvm.Cond.selects "DesignSpaces$Walker" ({ cls := "DesignSpaces$Walker", name := "go", desc := "(II)I" } : Jvm.MethodName) ({ cls := "DesignSpaces$Walker", name := "go", desc := "(II)I" } : Jvm.MethodName)), (Jvm.Cond.code ({ cls := "DesignSpaces$Walker", name := "go", desc := "(II)I" } : Jvm.MethodName) prog_8_method_2_code (12 : Nat) (Option.some Jvm.ClassFile.FieldType.int)), (Jvm.Cond.methodLink "DesignSpaces$Walker" (32 : Nat) ({ cls := "DesignSpaces$Book", name := "costOf", desc := "(I)J" } : Jvm.MethodName)), (Jvm.Cond.instanceMethod ({ cls := "DesignSpaces$Book", name := "costOf", desc := "(I)J" } : Jvm.MethodName)), (Jvm.Cond.selects "DesignSpaces$Book" ({ cls := "DesignSpaces$Book", name := "costOf", desc := "(I)J" } : Jvm.MethodName) ({ cls := "DesignSpaces$Book", name := "costOf", desc := "(I)J" } : Jvm.MethodName)), (Jvm.Cond.code ({ cls := "DesignSpaces$Book", name := "costOf", desc := "(I)J" } : Jvm.MethodName) prog_2_method_8_code (5 : Nat) (Option.some Jvm.ClassFile.FieldType.long)), (Jvm.Cond.methodLink "DesignSpaces$Walker" (38 : Nat) ({ cls := "DesignSpaces$Walker", name := "drawNear", desc := "(I)I" } : Jvm.MethodName)), (Jvm.Cond.instanceMethod ({ cls := "DesignSpaces$Walker", name := "drawNear", desc := "(I)I" } : Jvm.MethodName)), (Jvm.Cond.code ({ cls := "DesignSpaces$Walker", name := "drawNear", desc := "(I)I" } : Jvm.MethodName) prog_8_method_3_code (3 : Nat) (Option.some Jvm.ClassFile.FieldType.int)), (Jvm.Cond.constant "DesignSpaces$Walker" (46 : Nat) (1103515245 : Int32)), (Jvm.Cond.constant "DesignSpaces$Walker" (47 : Nat) (2147483647 : Int32)), (Jvm.Cond.methodLink "DesignSpaces$Walker" (48 : Nat) ({ cls := "DesignSpaces$Shape", name := "neighbours", desc := "()I" } : Jvm.MethodName)), (Jvm.Cond.constant "DesignSpaces$Walker" (54 : Nat) (65536 : Int32)), (Jvm.Cond.methodLink "DesignSpaces$Walker" (55 : Nat) ({ cls := "DesignSpaces$Shape", name := "neighbour", desc := "(II)I" } : Jvm.MethodName)), (Jvm.Cond.methodLink "DesignSpaces$Walker" (42 : Nat) ({ cls := "DesignSpaces$Book", name := "allows", desc := "(I)Z" } : Jvm.MethodName)), (Jvm.Cond.instanceMethod ({ cls := "DesignSpaces", name := "matters", desc := "(II)J" } : Jvm.MethodName)), (Jvm.Cond.selects "DesignSpaces" ({ cls := "DesignSpaces", name := "matters", desc := "(II)J" } : Jvm.MethodName) ({ cls := "DesignSpaces", name := "matters", desc := "(II)J" } : Jvm.MethodName)), (Jvm.Cond.code ({ cls := "DesignSpaces", name := "matters", desc := "(II)J" } : Jvm.MethodName) prog_1_method_19_code (3 : Nat) (Option.some Jvm.ClassFile.FieldType.long)), (Jvm.Cond.methodLink "DesignSpaces" (221 : Nat) ({ cls := "DesignSpaces$Book", name := "greatestDifference", desc := "(II)J" } : Jvm.MethodName)), (Jvm.Cond.instanceMethod ({ cls := "DesignSpaces$Book", name := "greatestDifference", desc := "(II)J" } : Jvm.MethodName)), (Jvm.Cond.selects "DesignSpaces$Book" ({ cls := "DesignSpaces$Book", name := "greatestDifference", desc := "(II)J" } : Jvm.MethodName) ({ cls := "DesignSpaces$Book", name := "greatestDifference", desc := "(II)J" } : Jvm.MethodName)), (Jvm.Cond.code ({ cls := "DesignSpaces$Book", name := "greatestDifference", desc := "(II)J" } : Jvm.MethodName) prog_2_method_14_code (6 : Nat) (Option.some Jvm.ClassFile.FieldType.long)), (Jvm.Cond.methodLink "DesignSpaces$Book" (83 : Nat) ({ cls := "DesignSpaces$Shape", name := "digit", desc := "(II)I" } : Jvm.MethodName)), (Jvm.Cond.methodLink "DesignSpaces$Book" (86 : Nat) ({ cls := "DesignSpaces$Book", name := "differenceAlong", desc := "(III)J" } : Jvm.MethodName)), (Jvm.Cond.instanceMethod ({ cls := "DesignSpaces$Book", name := "differenceAlong", desc := "(III)J" } : Jvm.MethodName)), (Jvm.Cond.code ({ cls := "DesignSpaces$Book", name := "differenceAlong", desc := "(III)J" } : Jvm.MethodName) prog_2_method_15_code (13 : Nat) (Option.some Jvm.ClassFile.FieldType.long)), (Jvm.Cond.methodLink "DesignSpaces$Book" (102 : Nat) ({ cls := "DesignSpaces$Book", name := "allows", desc := "(I)Z" } : Jvm.MethodName)), (Jvm.Cond.methodLink "DesignSpaces$Book" (106 : Nat) ({ cls := "java/lang/Math", name := "min", desc := "(JJ)J" } : Jvm.MethodName)), (Jvm.Cond.static ({ cls := "java/lang/Math", name := "min", desc := "(JJ)J" } : Jvm.MethodName)), (Jvm.Cond.code ({ cls := "java/lang/Math", name := "min", desc := "(JJ)J" } : Jvm.MethodName) prog_15_method_70_code (4 : Nat) (Option.some Jvm.ClassFile.FieldType.long)), (Jvm.Cond.methodLink "DesignSpaces$Book" (90 : Nat) ({ cls := "java/lang/Math", name := "max", desc := "(JJ)J" } : Jvm.MethodName)), (Jvm.Cond.static ({ cls := "java/lang/Math", name := "max", desc := "(JJ)J" } : Jvm.MethodName)), (Jvm.Cond.code ({ cls := "java/lang/Math", name := "max", desc := "(JJ)J" } : Jvm.MethodName) prog_15_method_66_code (4 : Nat) (Option.some Jvm.ClassFile.FieldType.long)), (Jvm.Cond.instanceMethod ({ cls := "DesignSpaces", name := "sweep", desc := "(I)I" } : Jvm.MethodName)), (Jvm.Cond.selects "DesignSpaces" ({ cls := "DesignSpaces", name := "sweep", desc := "(I)I" } : Jvm.MethodName) ({ cls := "DesignSpaces", name := "sweep", desc := "(I)I" } : Jvm.MethodName)), (Jvm.Cond.code ({ cls := "DesignSpaces", name := "sweep", desc := "(I)I" } : Jvm.MethodName) prog_1_method_20_code (2 : Nat) (Option.some Jvm.ClassFile.FieldType.int)), (Jvm.Cond.methodLink "DesignSpaces" (233 : Nat) ({ cls := "DesignSpaces$Sweeper", name := "goOn", desc := "(I)I" } : Jvm.MethodName)), (Jvm.Cond.instanceMethod ({ cls := "DesignSpaces$Sweeper", name := "goOn", desc := "(I)I" } : Jvm.MethodName)), (Jvm.Cond.selects "DesignSpaces$Sweeper" ({ cls := "DesignSpaces$Sweeper", name := "goOn", desc := "(I)I" } : Jvm.MethodName) ({ cls := "DesignSpaces$Sweeper", name := "goOn", desc := "(I)I" } : Jvm.MethodName)), (Jvm.Cond.code ({ cls := "DesignSpaces$Sweeper", name := "goOn", desc := "(I)I" } : Jvm.MethodName) prog_7_method_4_code (5 : Nat) (Option.some Jvm.ClassFile.FieldType.int)), (Jvm.Cond.methodLink "DesignSpaces$Sweeper" (29 : Nat) ({ cls := "java/lang/Math", name := "min", desc := "(II)I" } : Jvm.MethodName)), (Jvm.Cond.static ({ cls := "java/lang/Math", name := "min", desc := "(II)I" } : Jvm.MethodName)), (Jvm.Cond.code ({ cls := "java/lang/Math", name := "min", desc := "(II)I" } : Jvm.MethodName) prog_15_method_69_code (2 : Nat) (Option.some Jvm.ClassFile.FieldType.int)), (Jvm.Cond.methodLink "DesignSpaces$Sweeper" (35 : Nat) ({ cls := "DesignSpaces$Book", name := "allows", desc := "(I)Z" } : Jvm.MethodName)), (Jvm.Cond.arrayClass Jvm.ClassFile.FieldType.long), (Jvm.Cond.sameMethod "java/lang/Throwable" "java/lang/Throwable" "fillInStackTrace" "(I)Ljava/lang/Throwable;")]
set_option maxRecDepth 100000 in
theorem cALL_good : ∀ w ∈ cALL, ((w.onTables && w.keeps) = true ∨ ∃ ty, w = Cond.arrayClass ty) := fun w hw => good_of_word (List.all_eq_true.mp (show cALL.all goodWord = true by decide +kernel) w hw)
set_option maxRecDepth 100000 in
theorem inX_all : ∀ w ∈ wsX0, w ∈ cALL := by decide +kernel
set_option maxRecDepth 100000 in
theorem inSh_all : ∀ w ∈ wsSh0, w ∈ cALL := by decide +kernel
set_option maxRecDepth 100000 in
theorem inMa_all : ∀ w ∈ wsMa0, w ∈ cALL := by decide +kernel
set_option maxRecDepth 100000 in
theorem inBo_all : ∀ w ∈ wsBo0, w ∈ cALL := by decide +kernel
set_option maxRecDepth 100000 in
theorem inFr_all : ∀ w ∈ wsFr0, w ∈ cALL := by decide +kernel
set_option maxRecDepth 100000 in
theorem inSe_all : ∀ w ∈ wsSe0, w ∈ cALL := by decide +kernel
set_option maxRecDepth 100000 in
theorem inWa_all : ∀ w ∈ wsWa0, w ∈ cALL := by decide +kernel
set_option maxRecDepth 100000 in
theorem inSw_all : ∀ w ∈ wsSw0, w ∈ cALL := by decide +kernel
abbrev cX_init : ByteArray := prog_1_method_1_code
def yX_init : MethodName := ⟨RX, "<init>", "(I)V"⟩
def wsX_init : List Cond := .code yX_init cX_init 2 (Option.none : Option Jvm.ClassFile.FieldType) :: cALL
set_option maxRecDepth 100000 in
theorem mcX_init : Cond.code yX_init cX_init 2 (Option.none : Option Jvm.ClassFile.FieldType) ∈ cALL := List.mem_of_getElem? (i := 29) rfl
abbrev cX_choice : ByteArray := prog_1_method_2_code
def yX_choice : MethodName := ⟨RX, "choice", "(I)I"⟩
def wsX_choice : List Cond := .code yX_choice cX_choice 2 (Option.some Jvm.ClassFile.FieldType.int) :: cALL
set_option maxRecDepth 100000 in
theorem mcX_choice : Cond.code yX_choice cX_choice 2 (Option.some Jvm.ClassFile.FieldType.int) ∈ cALL := List.mem_of_getElem? (i := 242) rfl
abbrev cX_term : ByteArray := prog_1_method_3_code
def yX_term : MethodName := ⟨RX, "term", "(IIIIII)I"⟩
def wsX_term : List Cond := .code yX_term cX_term 8 (Option.some Jvm.ClassFile.FieldType.int) :: cALL
set_option maxRecDepth 100000 in
theorem mcX_term : Cond.code yX_term cX_term 8 (Option.some Jvm.ClassFile.FieldType.int) ∈ cALL := List.mem_of_getElem? (i := 333) rfl
abbrev cX_rule : ByteArray := prog_1_method_4_code
def yX_rule : MethodName := ⟨RX, "rule", "(IIII)I"⟩
def wsX_rule : List Cond := .code yX_rule cX_rule 5 (Option.some Jvm.ClassFile.FieldType.int) :: cALL
set_option maxRecDepth 100000 in
theorem mcX_rule : Cond.code yX_rule cX_rule 5 (Option.some Jvm.ClassFile.FieldType.int) ∈ cALL := List.mem_of_getElem? (i := 379) rfl
abbrev cX_limit : ByteArray := prog_1_method_5_code
def yX_limit : MethodName := ⟨RX, "limit", "(IZI)Z"⟩
def wsX_limit : List Cond := .code yX_limit cX_limit 5 (Option.some Jvm.ClassFile.FieldType.boolean) :: cALL
set_option maxRecDepth 100000 in
theorem mcX_limit : Cond.code yX_limit cX_limit 5 (Option.some Jvm.ClassFile.FieldType.boolean) ∈ cALL := List.mem_of_getElem? (i := 386) rfl
abbrev cX_number : ByteArray := prog_1_method_6_code
def yX_number : MethodName := ⟨RX, "number", "(II)I"⟩
def wsX_number : List Cond := .code yX_number cX_number 3 (Option.some Jvm.ClassFile.FieldType.int) :: cALL
set_option maxRecDepth 100000 in
theorem mcX_number : Cond.code yX_number cX_number 3 (Option.some Jvm.ClassFile.FieldType.int) ∈ cALL := List.mem_of_getElem? (i := 389) rfl
abbrev cX_value : ByteArray := prog_1_method_7_code
def yX_value : MethodName := ⟨RX, "value", "(II)I"⟩
def wsX_value : List Cond := .code yX_value cX_value 3 (Option.some Jvm.ClassFile.FieldType.int) :: cALL
set_option maxRecDepth 100000 in
theorem mcX_value : Cond.code yX_value cX_value 3 (Option.some Jvm.ClassFile.FieldType.int) ∈ cALL := List.mem_of_getElem? (i := 397) rfl
abbrev cX_legal : ByteArray := prog_1_method_8_code
def yX_legal : MethodName := ⟨RX, "legal", "(I)Z"⟩
def wsX_legal : List Cond := .code yX_legal cX_legal 2 (Option.some Jvm.ClassFile.FieldType.boolean) :: cALL
set_option maxRecDepth 100000 in
theorem mcX_legal : Cond.code yX_legal cX_legal 2 (Option.some Jvm.ClassFile.FieldType.boolean) ∈ cALL := List.mem_of_getElem? (i := 402) rfl
abbrev cX_beats : ByteArray := prog_1_method_9_code
def yX_beats : MethodName := ⟨RX, "beats", "(II)Z"⟩
def wsX_beats : List Cond := .code yX_beats cX_beats 3 (Option.some Jvm.ClassFile.FieldType.boolean) :: cALL
set_option maxRecDepth 100000 in
theorem mcX_beats : Cond.code yX_beats cX_beats 3 (Option.some Jvm.ClassFile.FieldType.boolean) ∈ cALL := List.mem_of_getElem? (i := 406) rfl
abbrev cX_undominated : ByteArray := prog_1_method_10_code
def yX_undominated : MethodName := ⟨RX, "undominated", "()I"⟩
def wsX_undominated : List Cond := .code yX_undominated cX_undominated 1 (Option.some Jvm.ClassFile.FieldType.int) :: cALL
set_option maxRecDepth 100000 in
theorem mcX_undominated : Cond.code yX_undominated cX_undominated 1 (Option.some Jvm.ClassFile.FieldType.int) ∈ cALL := List.mem_of_getElem? (i := 194) rfl
abbrev cX_at : ByteArray := prog_1_method_11_code
def yX_at : MethodName := ⟨RX, "at", "(I)I"⟩
def wsX_at : List Cond := .code yX_at cX_at 2 (Option.some Jvm.ClassFile.FieldType.int) :: cALL
set_option maxRecDepth 100000 in
theorem mcX_at : Cond.code yX_at cX_at 2 (Option.some Jvm.ClassFile.FieldType.int) ∈ cALL := List.mem_of_getElem? (i := 410) rfl
abbrev cX_best : ByteArray := prog_1_method_12_code
def yX_best : MethodName := ⟨RX, "best", "(I)I"⟩
def wsX_best : List Cond := .code yX_best cX_best 2 (Option.some Jvm.ClassFile.FieldType.int) :: cALL
set_option maxRecDepth 100000 in
theorem mcX_best : Cond.code yX_best cX_best 2 (Option.some Jvm.ClassFile.FieldType.int) ∈ cALL := List.mem_of_getElem? (i := 413) rfl
abbrev cX_looked : ByteArray := prog_1_method_13_code
def yX_looked : MethodName := ⟨RX, "looked", "()I"⟩
def wsX_looked : List Cond := .code yX_looked cX_looked 1 (Option.some Jvm.ClassFile.FieldType.int) :: cALL
set_option maxRecDepth 100000 in
theorem mcX_looked : Cond.code yX_looked cX_looked 1 (Option.some Jvm.ClassFile.FieldType.int) ∈ cALL := List.mem_of_getElem? (i := 225) rfl
abbrev cX_bound : ByteArray := prog_1_method_14_code
def yX_bound : MethodName := ⟨RX, "bound", "(III)I"⟩
def wsX_bound : List Cond := .code yX_bound cX_bound 4 (Option.some Jvm.ClassFile.FieldType.int) :: cALL
set_option maxRecDepth 100000 in
theorem mcX_bound : Cond.code yX_bound cX_bound 4 (Option.some Jvm.ClassFile.FieldType.int) ∈ cALL := List.mem_of_getElem? (i := 455) rfl
abbrev cX_near : ByteArray := prog_1_method_15_code
def yX_near : MethodName := ⟨RX, "near", "(II)I"⟩
def wsX_near : List Cond := .code yX_near cX_near 3 (Option.some Jvm.ClassFile.FieldType.int) :: cALL
set_option maxRecDepth 100000 in
theorem mcX_near : Cond.code yX_near cX_near 3 (Option.some Jvm.ClassFile.FieldType.int) ∈ cALL := List.mem_of_getElem? (i := 463) rfl
abbrev cX_slack : ByteArray := prog_1_method_16_code
def yX_slack : MethodName := ⟨RX, "slack", "(I)I"⟩
def wsX_slack : List Cond := .code yX_slack cX_slack 3 (Option.some Jvm.ClassFile.FieldType.int) :: cALL
set_option maxRecDepth 100000 in
theorem mcX_slack : Cond.code yX_slack cX_slack 3 (Option.some Jvm.ClassFile.FieldType.int) ∈ cALL := List.mem_of_getElem? (i := 475) rfl
abbrev cX_walk : ByteArray := prog_1_method_17_code
def yX_walk : MethodName := ⟨RX, "walk", "(II)I"⟩
def wsX_walk : List Cond := .code yX_walk cX_walk 3 (Option.some Jvm.ClassFile.FieldType.int) :: cALL
set_option maxRecDepth 100000 in
theorem mcX_walk : Cond.code yX_walk cX_walk 3 (Option.some Jvm.ClassFile.FieldType.int) ∈ cALL := List.mem_of_getElem? (i := 478) rfl
abbrev cX_lowest : ByteArray := prog_1_method_18_code
def yX_lowest : MethodName := ⟨RX, "lowest", "()I"⟩
def wsX_lowest : List Cond := .code yX_lowest cX_lowest 1 (Option.some Jvm.ClassFile.FieldType.int) :: cALL
set_option maxRecDepth 100000 in
theorem mcX_lowest : Cond.code yX_lowest cX_lowest 1 (Option.some Jvm.ClassFile.FieldType.int) ∈ cALL := List.mem_of_getElem? (i := 228) rfl
abbrev cX_matters : ByteArray := prog_1_method_19_code
def yX_matters : MethodName := ⟨RX, "matters", "(II)J"⟩
def wsX_matters : List Cond := .code yX_matters cX_matters 3 (Option.some Jvm.ClassFile.FieldType.long) :: cALL
set_option maxRecDepth 100000 in
theorem mcX_matters : Cond.code yX_matters cX_matters 3 (Option.some Jvm.ClassFile.FieldType.long) ∈ cALL := List.mem_of_getElem? (i := 512) rfl
abbrev cX_sweep : ByteArray := prog_1_method_20_code
def yX_sweep : MethodName := ⟨RX, "sweep", "(I)I"⟩
def wsX_sweep : List Cond := .code yX_sweep cX_sweep 2 (Option.some Jvm.ClassFile.FieldType.int) :: cALL
set_option maxRecDepth 100000 in
theorem mcX_sweep : Cond.code yX_sweep cX_sweep 2 (Option.some Jvm.ClassFile.FieldType.int) ∈ cALL := List.mem_of_getElem? (i := 530) rfl
abbrev cX_count : ByteArray := prog_1_method_21_code
def yX_count : MethodName := ⟨RX, "count", "(I)I"⟩
def wsX_count : List Cond := .code yX_count cX_count 2 (Option.some Jvm.ClassFile.FieldType.int) :: cALL
set_option maxRecDepth 100000 in
theorem mcX_count : Cond.code yX_count cX_count 2 (Option.some Jvm.ClassFile.FieldType.int) ∈ cALL := List.mem_of_getElem? (i := 231) rfl
abbrev cX_isNumber : ByteArray := prog_1_method_22_code
def yX_isNumber : MethodName := ⟨RX, "isNumber", "(I)Z"⟩
def wsX_isNumber : List Cond := .code yX_isNumber cX_isNumber 1 (Option.some Jvm.ClassFile.FieldType.boolean) :: cALL
set_option maxRecDepth 100000 in
theorem mcX_isNumber : Cond.code yX_isNumber cX_isNumber 1 (Option.some Jvm.ClassFile.FieldType.boolean) ∈ cALL := List.mem_of_getElem? (i := 336) rfl
abbrev cBo_init : ByteArray := prog_2_method_1_code
def yBo_init : MethodName := ⟨RBo, "<init>", "(LDesignSpaces$Shape;)V"⟩
def wsBo_init : List Cond := .code yBo_init cBo_init 2 (Option.none : Option Jvm.ClassFile.FieldType) :: cALL
set_option maxRecDepth 100000 in
theorem mcBo_init : Cond.code yBo_init cBo_init 2 (Option.none : Option Jvm.ClassFile.FieldType) ∈ cALL := List.mem_of_getElem? (i := 60) rfl
abbrev cBo_splitDesigns : ByteArray := prog_2_method_2_code
def yBo_splitDesigns : MethodName := ⟨RBo, "splitDesigns", "(I)V"⟩
def wsBo_splitDesigns : List Cond := .code yBo_splitDesigns cBo_splitDesigns 4 (Option.none : Option Jvm.ClassFile.FieldType) :: cALL
set_option maxRecDepth 100000 in
theorem mcBo_splitDesigns : Cond.code yBo_splitDesigns cBo_splitDesigns 4 (Option.none : Option Jvm.ClassFile.FieldType) ∈ cALL := List.mem_of_getElem? (i := 315) rfl
abbrev cBo_copyEntries : ByteArray := prog_2_method_3_code
def yBo_copyEntries : MethodName := ⟨RBo, "copyEntries", "(II)V"⟩
def wsBo_copyEntries : List Cond := .code yBo_copyEntries cBo_copyEntries 4 (Option.none : Option Jvm.ClassFile.FieldType) :: cALL
set_option maxRecDepth 100000 in
theorem mcBo_copyEntries : Cond.code yBo_copyEntries cBo_copyEntries 4 (Option.none : Option Jvm.ClassFile.FieldType) ∈ cALL := List.mem_of_getElem? (i := 318) rfl
abbrev cBo_addTerm : ByteArray := prog_2_method_4_code
def yBo_addTerm : MethodName := ⟨RBo, "addTerm", "(IIIIII)V"⟩
def wsBo_addTerm : List Cond := .code yBo_addTerm cBo_addTerm 9 (Option.none : Option Jvm.ClassFile.FieldType) :: cALL
set_option maxRecDepth 100000 in
theorem mcBo_addTerm : Cond.code yBo_addTerm cBo_addTerm 9 (Option.none : Option Jvm.ClassFile.FieldType) ∈ cALL := List.mem_of_getElem? (i := 364) rfl
abbrev cBo_addRule : ByteArray := prog_2_method_5_code
def yBo_addRule : MethodName := ⟨RBo, "addRule", "(IIII)V"⟩
def wsBo_addRule : List Cond := .code yBo_addRule cBo_addRule 7 (Option.none : Option Jvm.ClassFile.FieldType) :: cALL
set_option maxRecDepth 100000 in
theorem mcBo_addRule : Cond.code yBo_addRule cBo_addRule 7 (Option.none : Option Jvm.ClassFile.FieldType) ∈ cALL := List.mem_of_getElem? (i := 383) rfl
abbrev cBo_limitsOn : ByteArray := prog_2_method_6_code
def yBo_limitsOn : MethodName := ⟨RBo, "limitsOn", "()I"⟩
def wsBo_limitsOn : List Cond := .code yBo_limitsOn cBo_limitsOn 3 (Option.some Jvm.ClassFile.FieldType.int) :: cALL
set_option maxRecDepth 100000 in
theorem mcBo_limitsOn : Cond.code yBo_limitsOn cBo_limitsOn 3 (Option.some Jvm.ClassFile.FieldType.int) ∈ cALL := List.mem_of_getElem? (i := 235) rfl
abbrev cBo_sumOf : ByteArray := prog_2_method_7_code
def yBo_sumOf : MethodName := ⟨RBo, "sumOf", "(II)I"⟩
def wsBo_sumOf : List Cond := .code yBo_sumOf cBo_sumOf 3 (Option.some Jvm.ClassFile.FieldType.int) :: cALL
set_option maxRecDepth 100000 in
theorem mcBo_sumOf : Cond.code yBo_sumOf cBo_sumOf 3 (Option.some Jvm.ClassFile.FieldType.int) ∈ cALL := List.mem_of_getElem? (i := 209) rfl
abbrev cBo_costOf : ByteArray := prog_2_method_8_code
def yBo_costOf : MethodName := ⟨RBo, "costOf", "(I)J"⟩
def wsBo_costOf : List Cond := .code yBo_costOf cBo_costOf 5 (Option.some Jvm.ClassFile.FieldType.long) :: cALL
set_option maxRecDepth 100000 in
theorem mcBo_costOf : Cond.code yBo_costOf cBo_costOf 5 (Option.some Jvm.ClassFile.FieldType.long) ∈ cALL := List.mem_of_getElem? (i := 500) rfl
abbrev cBo_allows : ByteArray := prog_2_method_9_code
def yBo_allows : MethodName := ⟨RBo, "allows", "(I)Z"⟩
def wsBo_allows : List Cond := .code yBo_allows cBo_allows 3 (Option.some Jvm.ClassFile.FieldType.boolean) :: cALL
set_option maxRecDepth 100000 in
theorem mcBo_allows : Cond.code yBo_allows cBo_allows 3 (Option.some Jvm.ClassFile.FieldType.boolean) ∈ cALL := List.mem_of_getElem? (i := 205) rfl
abbrev cBo_isAtMost : ByteArray := prog_2_method_10_code
def yBo_isAtMost : MethodName := ⟨RBo, "isAtMost", "(II)Z"⟩
def wsBo_isAtMost : List Cond := .code yBo_isAtMost cBo_isAtMost 6 (Option.some Jvm.ClassFile.FieldType.boolean) :: cALL
set_option maxRecDepth 100000 in
theorem mcBo_isAtMost : Cond.code yBo_isAtMost cBo_isAtMost 6 (Option.some Jvm.ClassFile.FieldType.boolean) ∈ cALL := List.mem_of_getElem? (i := 216) rfl
abbrev cBo_boundOf : ByteArray := prog_2_method_11_code
def yBo_boundOf : MethodName := ⟨RBo, "boundOf", "(I[II)I"⟩
def wsBo_boundOf : List Cond := .code yBo_boundOf cBo_boundOf 8 (Option.some Jvm.ClassFile.FieldType.int) :: cALL
set_option maxRecDepth 100000 in
theorem mcBo_boundOf : Cond.code yBo_boundOf cBo_boundOf 8 (Option.some Jvm.ClassFile.FieldType.int) ∈ cALL := List.mem_of_getElem? (i := 440) rfl
abbrev cBo_barsRow : ByteArray := prog_2_method_12_code
def yBo_barsRow : MethodName := ⟨RBo, "barsRow", "([II)Z"⟩
def wsBo_barsRow : List Cond := .code yBo_barsRow cBo_barsRow 5 (Option.some Jvm.ClassFile.FieldType.boolean) :: cALL
set_option maxRecDepth 100000 in
theorem mcBo_barsRow : Cond.code yBo_barsRow cBo_barsRow 5 (Option.some Jvm.ClassFile.FieldType.boolean) ∈ cALL := List.mem_of_getElem? (i := 424) rfl
abbrev cBo_limitsRow : ByteArray := prog_2_method_13_code
def yBo_limitsRow : MethodName := ⟨RBo, "limitsRow", "([II)Z"⟩
def wsBo_limitsRow : List Cond := .code yBo_limitsRow cBo_limitsRow 4 (Option.some Jvm.ClassFile.FieldType.boolean) :: cALL
set_option maxRecDepth 100000 in
theorem mcBo_limitsRow : Cond.code yBo_limitsRow cBo_limitsRow 4 (Option.some Jvm.ClassFile.FieldType.boolean) ∈ cALL := List.mem_of_getElem? (i := 436) rfl
abbrev cBo_greatestDifference : ByteArray := prog_2_method_14_code
def yBo_greatestDifference : MethodName := ⟨RBo, "greatestDifference", "(II)J"⟩
def wsBo_greatestDifference : List Cond := .code yBo_greatestDifference cBo_greatestDifference 6 (Option.some Jvm.ClassFile.FieldType.long) :: cALL
set_option maxRecDepth 100000 in
theorem mcBo_greatestDifference : Cond.code yBo_greatestDifference cBo_greatestDifference 6 (Option.some Jvm.ClassFile.FieldType.long) ∈ cALL := List.mem_of_getElem? (i := 516) rfl
abbrev cBo_differenceAlong : ByteArray := prog_2_method_15_code
def yBo_differenceAlong : MethodName := ⟨RBo, "differenceAlong", "(III)J"⟩
def wsBo_differenceAlong : List Cond := .code yBo_differenceAlong cBo_differenceAlong 13 (Option.some Jvm.ClassFile.FieldType.long) :: cALL
set_option maxRecDepth 100000 in
theorem mcBo_differenceAlong : Cond.code yBo_differenceAlong cBo_differenceAlong 13 (Option.some Jvm.ClassFile.FieldType.long) ∈ cALL := List.mem_of_getElem? (i := 520) rfl
abbrev cFr_init : ByteArray := prog_3_method_1_code
def yFr_init : MethodName := ⟨RFr, "<init>", "(LDesignSpaces$Shape;LDesignSpaces$Book;)V"⟩
def wsFr_init : List Cond := .code yFr_init cFr_init 3 (Option.none : Option Jvm.ClassFile.FieldType) :: cALL
set_option maxRecDepth 100000 in
theorem mcFr_init : Cond.code yFr_init cFr_init 3 (Option.none : Option Jvm.ClassFile.FieldType) ∈ cALL := List.mem_of_getElem? (i := 107) rfl
abbrev cFr_forget : ByteArray := prog_3_method_2_code
def yFr_forget : MethodName := ⟨RFr, "forget", "()V"⟩
def wsFr_forget : List Cond := .code yFr_forget cFr_forget 1 (Option.none : Option Jvm.ClassFile.FieldType) :: cALL
set_option maxRecDepth 100000 in
theorem mcFr_forget : Cond.code yFr_forget cFr_forget 1 (Option.none : Option Jvm.ClassFile.FieldType) ∈ cALL := List.mem_of_getElem? (i := 330) rfl
abbrev cFr_refresh : ByteArray := prog_3_method_3_code
def yFr_refresh : MethodName := ⟨RFr, "refresh", "()V"⟩
def wsFr_refresh : List Cond := .code yFr_refresh cFr_refresh 1 (Option.none : Option Jvm.ClassFile.FieldType) :: cALL
set_option maxRecDepth 100000 in
theorem mcFr_refresh : Cond.code yFr_refresh cFr_refresh 1 (Option.none : Option Jvm.ClassFile.FieldType) ∈ cALL := List.mem_of_getElem? (i := 198) rfl
abbrev cFr_findHeads : ByteArray := prog_3_method_4_code
def yFr_findHeads : MethodName := ⟨RFr, "findHeads", "()V"⟩
def wsFr_findHeads : List Cond := .code yFr_findHeads cFr_findHeads 2 (Option.none : Option Jvm.ClassFile.FieldType) :: cALL
set_option maxRecDepth 100000 in
theorem mcFr_findHeads : Cond.code yFr_findHeads cFr_findHeads 2 (Option.none : Option Jvm.ClassFile.FieldType) ∈ cALL := List.mem_of_getElem? (i := 201) rfl
abbrev cFr_headFor : ByteArray := prog_3_method_5_code
def yFr_headFor : MethodName := ⟨RFr, "headFor", "(I)I"⟩
def wsFr_headFor : List Cond := .code yFr_headFor cFr_headFor 4 (Option.some Jvm.ClassFile.FieldType.int) :: cALL
set_option maxRecDepth 100000 in
theorem mcFr_headFor : Cond.code yFr_headFor cFr_headFor 4 (Option.some Jvm.ClassFile.FieldType.int) ∈ cALL := List.mem_of_getElem? (i := 212) rfl
abbrev cFr_dropBeatenBy : ByteArray := prog_3_method_6_code
def yFr_dropBeatenBy : MethodName := ⟨RFr, "dropBeatenBy", "(I)V"⟩
def wsFr_dropBeatenBy : List Cond := .code yFr_dropBeatenBy cFr_dropBeatenBy 5 (Option.none : Option Jvm.ClassFile.FieldType) :: cALL
set_option maxRecDepth 100000 in
theorem mcFr_dropBeatenBy : Cond.code yFr_dropBeatenBy cFr_dropBeatenBy 5 (Option.none : Option Jvm.ClassFile.FieldType) ∈ cALL := List.mem_of_getElem? (i := 219) rfl
abbrev cFr_collectMembers : ByteArray := prog_3_method_7_code
def yFr_collectMembers : MethodName := ⟨RFr, "collectMembers", "()V"⟩
def wsFr_collectMembers : List Cond := .code yFr_collectMembers cFr_collectMembers 3 (Option.none : Option Jvm.ClassFile.FieldType) :: cALL
set_option maxRecDepth 100000 in
theorem mcFr_collectMembers : Cond.code yFr_collectMembers cFr_collectMembers 3 (Option.none : Option Jvm.ClassFile.FieldType) ∈ cALL := List.mem_of_getElem? (i := 222) rfl
abbrev cMa_init : ByteArray := prog_4_method_1_code
def yMa_init : MethodName := ⟨RMa, "<init>", "(LDesignSpaces$Shape;)V"⟩
def wsMa_init : List Cond := .code yMa_init cMa_init 2 (Option.none : Option Jvm.ClassFile.FieldType) :: cALL
set_option maxRecDepth 100000 in
theorem mcMa_init : Cond.code yMa_init cMa_init 2 (Option.none : Option Jvm.ClassFile.FieldType) ∈ cALL := List.mem_of_getElem? (i := 66) rfl
abbrev cMa_put : ByteArray := prog_4_method_2_code
def yMa_put : MethodName := ⟨RMa, "put", "(IIIII)V"⟩
def wsMa_put : List Cond := .code yMa_put cMa_put 6 (Option.none : Option Jvm.ClassFile.FieldType) :: cALL
set_option maxRecDepth 100000 in
theorem mcMa_put : Cond.code yMa_put cMa_put 6 (Option.none : Option Jvm.ClassFile.FieldType) ∈ cALL := List.mem_of_getElem? (i := 368) rfl
abbrev cMa_fits : ByteArray := prog_4_method_3_code
def yMa_fits : MethodName := ⟨RMa, "fits", "(II)Z"⟩
def wsMa_fits : List Cond := .code yMa_fits cMa_fits 3 (Option.some Jvm.ClassFile.FieldType.boolean) :: cALL
set_option maxRecDepth 100000 in
theorem mcMa_fits : Cond.code yMa_fits cMa_fits 3 (Option.some Jvm.ClassFile.FieldType.boolean) ∈ cALL := List.mem_of_getElem? (i := 372) rfl
abbrev cMa_isOpen : ByteArray := prog_4_method_4_code
def yMa_isOpen : MethodName := ⟨RMa, "isOpen", "(I[II)Z"⟩
def wsMa_isOpen : List Cond := .code yMa_isOpen cMa_isOpen 6 (Option.some Jvm.ClassFile.FieldType.boolean) :: cALL
set_option maxRecDepth 100000 in
theorem mcMa_isOpen : Cond.code yMa_isOpen cMa_isOpen 6 (Option.some Jvm.ClassFile.FieldType.boolean) ∈ cALL := List.mem_of_getElem? (i := 432) rfl
abbrev cMa_isSettled : ByteArray := prog_4_method_5_code
def yMa_isSettled : MethodName := ⟨RMa, "isSettled", "(II)Z"⟩
def wsMa_isSettled : List Cond := .code yMa_isSettled cMa_isSettled 3 (Option.some Jvm.ClassFile.FieldType.boolean) :: cALL
set_option maxRecDepth 100000 in
theorem mcMa_isSettled : Cond.code yMa_isSettled cMa_isSettled 3 (Option.some Jvm.ClassFile.FieldType.boolean) ∈ cALL := List.mem_of_getElem? (i := 428) rfl
abbrev cSe_init : ByteArray := prog_5_method_1_code
def ySe_init : MethodName := ⟨RSe, "<init>", "(LDesignSpaces$Shape;LDesignSpaces$Book;)V"⟩
def wsSe_init : List Cond := .code ySe_init cSe_init 3 (Option.none : Option Jvm.ClassFile.FieldType) :: cALL
set_option maxRecDepth 100000 in
theorem mcSe_init : Cond.code ySe_init cSe_init 3 (Option.none : Option Jvm.ClassFile.FieldType) ∈ cALL := List.mem_of_getElem? (i := 127) rfl
abbrev cSe_leastOf : ByteArray := prog_5_method_2_code
def ySe_leastOf : MethodName := ⟨RSe, "leastOf", "(I)I"⟩
def wsSe_leastOf : List Cond := .code ySe_leastOf cSe_leastOf 5 (Option.some Jvm.ClassFile.FieldType.int) :: cALL
set_option maxRecDepth 100000 in
theorem mcSe_leastOf : Cond.code ySe_leastOf cSe_leastOf 5 (Option.some Jvm.ClassFile.FieldType.int) ∈ cALL := List.mem_of_getElem? (i := 417) rfl
abbrev cSe_keepRow : ByteArray := prog_5_method_3_code
def ySe_keepRow : MethodName := ⟨RSe, "keepRow", "(I)V"⟩
def wsSe_keepRow : List Cond := .code ySe_keepRow cSe_keepRow 2 (Option.none : Option Jvm.ClassFile.FieldType) :: cALL
set_option maxRecDepth 100000 in
theorem mcSe_keepRow : Cond.code ySe_keepRow cSe_keepRow 2 (Option.none : Option Jvm.ClassFile.FieldType) ∈ cALL := List.mem_of_getElem? (i := 444) rfl
abbrev cSe_goBehind : ByteArray := prog_5_method_4_code
def ySe_goBehind : MethodName := ⟨RSe, "goBehind", "(I)I"⟩
def wsSe_goBehind : List Cond := .code ySe_goBehind cSe_goBehind 3 (Option.some Jvm.ClassFile.FieldType.int) :: cALL
set_option maxRecDepth 100000 in
theorem mcSe_goBehind : Cond.code ySe_goBehind cSe_goBehind 3 (Option.some Jvm.ClassFile.FieldType.int) ∈ cALL := List.mem_of_getElem? (i := 452) rfl
abbrev cSe_isPassedBy : ByteArray := prog_5_method_5_code
def ySe_isPassedBy : MethodName := ⟨RSe, "isPassedBy", "(II)Z"⟩
def wsSe_isPassedBy : List Cond := .code ySe_isPassedBy cSe_isPassedBy 3 (Option.some Jvm.ClassFile.FieldType.boolean) :: cALL
set_option maxRecDepth 100000 in
theorem mcSe_isPassedBy : Cond.code ySe_isPassedBy cSe_isPassedBy 3 (Option.some Jvm.ClassFile.FieldType.boolean) ∈ cALL := List.mem_of_getElem? (i := 420) rfl
abbrev cSe_boundFor : ByteArray := prog_5_method_6_code
def ySe_boundFor : MethodName := ⟨RSe, "boundFor", "(III)I"⟩
def wsSe_boundFor : List Cond := .code ySe_boundFor cSe_boundFor 5 (Option.some Jvm.ClassFile.FieldType.int) :: cALL
set_option maxRecDepth 100000 in
theorem mcSe_boundFor : Cond.code ySe_boundFor cSe_boundFor 5 (Option.some Jvm.ClassFile.FieldType.int) ∈ cALL := List.mem_of_getElem? (i := 459) rfl
abbrev cSh_init : ByteArray := prog_6_method_1_code
def ySh_init : MethodName := ⟨RSh, "<init>", "()V"⟩
def wsSh_init : List Cond := .code ySh_init cSh_init 1 (Option.none : Option Jvm.ClassFile.FieldType) :: cALL
set_option maxRecDepth 100000 in
theorem mcSh_init : Cond.code ySh_init cSh_init 1 (Option.none : Option Jvm.ClassFile.FieldType) ∈ cALL := List.mem_of_getElem? (i := 36) rfl
abbrev cSh_hasRoomFor : ByteArray := prog_6_method_2_code
def ySh_hasRoomFor : MethodName := ⟨RSh, "hasRoomFor", "(I)Z"⟩
def wsSh_hasRoomFor : List Cond := .code ySh_hasRoomFor cSh_hasRoomFor 2 (Option.some Jvm.ClassFile.FieldType.boolean) :: cALL
set_option maxRecDepth 100000 in
theorem mcSh_hasRoomFor : Cond.code ySh_hasRoomFor cSh_hasRoomFor 2 (Option.some Jvm.ClassFile.FieldType.boolean) ∈ cALL := List.mem_of_getElem? (i := 297) rfl
abbrev cSh_addChoice : ByteArray := prog_6_method_3_code
def ySh_addChoice : MethodName := ⟨RSh, "addChoice", "(I)V"⟩
def wsSh_addChoice : List Cond := .code ySh_addChoice cSh_addChoice 3 (Option.none : Option Jvm.ClassFile.FieldType) :: cALL
set_option maxRecDepth 100000 in
theorem mcSh_addChoice : Cond.code ySh_addChoice cSh_addChoice 3 (Option.none : Option Jvm.ClassFile.FieldType) ∈ cALL := List.mem_of_getElem? (i := 322) rfl
abbrev cSh_hasDesign : ByteArray := prog_6_method_4_code
def ySh_hasDesign : MethodName := ⟨RSh, "hasDesign", "(I)Z"⟩
def wsSh_hasDesign : List Cond := .code ySh_hasDesign cSh_hasDesign 2 (Option.some Jvm.ClassFile.FieldType.boolean) :: cALL
set_option maxRecDepth 100000 in
theorem mcSh_hasDesign : Cond.code ySh_hasDesign cSh_hasDesign 2 (Option.some Jvm.ClassFile.FieldType.boolean) ∈ cALL := List.mem_of_getElem? (i := 393) rfl
abbrev cSh_hasChoice : ByteArray := prog_6_method_5_code
def ySh_hasChoice : MethodName := ⟨RSh, "hasChoice", "(I)Z"⟩
def wsSh_hasChoice : List Cond := .code ySh_hasChoice cSh_hasChoice 2 (Option.some Jvm.ClassFile.FieldType.boolean) :: cALL
set_option maxRecDepth 100000 in
theorem mcSh_hasChoice : Cond.code ySh_hasChoice cSh_hasChoice 2 (Option.some Jvm.ClassFile.FieldType.boolean) ∈ cALL := List.mem_of_getElem? (i := 344) rfl
abbrev cSh_hasValue : ByteArray := prog_6_method_6_code
def ySh_hasValue : MethodName := ⟨RSh, "hasValue", "(II)Z"⟩
def wsSh_hasValue : List Cond := .code ySh_hasValue cSh_hasValue 3 (Option.some Jvm.ClassFile.FieldType.boolean) :: cALL
set_option maxRecDepth 100000 in
theorem mcSh_hasValue : Cond.code ySh_hasValue cSh_hasValue 3 (Option.some Jvm.ClassFile.FieldType.boolean) ∈ cALL := List.mem_of_getElem? (i := 340) rfl
abbrev cSh_digit : ByteArray := prog_6_method_7_code
def ySh_digit : MethodName := ⟨RSh, "digit", "(II)I"⟩
def wsSh_digit : List Cond := .code ySh_digit cSh_digit 5 (Option.some Jvm.ClassFile.FieldType.int) :: cALL
set_option maxRecDepth 100000 in
theorem mcSh_digit : Cond.code ySh_digit cSh_digit 5 (Option.some Jvm.ClassFile.FieldType.int) ∈ cALL := List.mem_of_getElem? (i := 376) rfl
abbrev cSh_designOf : ByteArray := prog_6_method_8_code
def ySh_designOf : MethodName := ⟨RSh, "designOf", "([I)I"⟩
def wsSh_designOf : List Cond := .code ySh_designOf cSh_designOf 4 (Option.some Jvm.ClassFile.FieldType.int) :: cALL
set_option maxRecDepth 100000 in
theorem mcSh_designOf : Cond.code ySh_designOf cSh_designOf 4 (Option.some Jvm.ClassFile.FieldType.int) ∈ cALL := List.mem_of_getElem? (i := 448) rfl
abbrev cSh_neighbours : ByteArray := prog_6_method_9_code
def ySh_neighbours : MethodName := ⟨RSh, "neighbours", "()I"⟩
def wsSh_neighbours : List Cond := .code ySh_neighbours cSh_neighbours 3 (Option.some Jvm.ClassFile.FieldType.int) :: cALL
set_option maxRecDepth 100000 in
theorem mcSh_neighbours : Cond.code ySh_neighbours cSh_neighbours 3 (Option.some Jvm.ClassFile.FieldType.int) ∈ cALL := List.mem_of_getElem? (i := 467) rfl
abbrev cSh_neighbour : ByteArray := prog_6_method_10_code
def ySh_neighbour : MethodName := ⟨RSh, "neighbour", "(II)I"⟩
def wsSh_neighbour : List Cond := .code ySh_neighbour cSh_neighbour 8 (Option.some Jvm.ClassFile.FieldType.int) :: cALL
set_option maxRecDepth 100000 in
theorem mcSh_neighbour : Cond.code ySh_neighbour cSh_neighbour 8 (Option.some Jvm.ClassFile.FieldType.int) ∈ cALL := List.mem_of_getElem? (i := 471) rfl
abbrev cSw_init : ByteArray := prog_7_method_1_code
def ySw_init : MethodName := ⟨RSw, "<init>", "(LDesignSpaces$Shape;LDesignSpaces$Book;)V"⟩
def wsSw_init : List Cond := .code ySw_init cSw_init 3 (Option.none : Option Jvm.ClassFile.FieldType) :: cALL
set_option maxRecDepth 100000 in
theorem mcSw_init : Cond.code ySw_init cSw_init 3 (Option.none : Option Jvm.ClassFile.FieldType) ∈ cALL := List.mem_of_getElem? (i := 168) rfl
abbrev cSw_beginAnew : ByteArray := prog_7_method_2_code
def ySw_beginAnew : MethodName := ⟨RSw, "beginAnew", "()V"⟩
def wsSw_beginAnew : List Cond := .code ySw_beginAnew cSw_beginAnew 1 (Option.none : Option Jvm.ClassFile.FieldType) :: cALL
set_option maxRecDepth 100000 in
theorem mcSw_beginAnew : Cond.code ySw_beginAnew cSw_beginAnew 1 (Option.none : Option Jvm.ClassFile.FieldType) ∈ cALL := List.mem_of_getElem? (i := 326) rfl
abbrev cSw_isAtEnd : ByteArray := prog_7_method_3_code
def ySw_isAtEnd : MethodName := ⟨RSw, "isAtEnd", "()Z"⟩
def wsSw_isAtEnd : List Cond := .code ySw_isAtEnd cSw_isAtEnd 1 (Option.some Jvm.ClassFile.FieldType.boolean) :: cALL
set_option maxRecDepth 100000 in
theorem mcSw_isAtEnd : Cond.code ySw_isAtEnd cSw_isAtEnd 1 (Option.some Jvm.ClassFile.FieldType.boolean) ∈ cALL := List.mem_of_getElem? (i := 239) rfl
abbrev cSw_goOn : ByteArray := prog_7_method_4_code
def ySw_goOn : MethodName := ⟨RSw, "goOn", "(I)I"⟩
def wsSw_goOn : List Cond := .code ySw_goOn cSw_goOn 5 (Option.some Jvm.ClassFile.FieldType.int) :: cALL
set_option maxRecDepth 100000 in
theorem mcSw_goOn : Cond.code ySw_goOn cSw_goOn 5 (Option.some Jvm.ClassFile.FieldType.int) ∈ cALL := List.mem_of_getElem? (i := 534) rfl
abbrev cWa_init : ByteArray := prog_8_method_1_code
def yWa_init : MethodName := ⟨RWa, "<init>", "(LDesignSpaces$Shape;LDesignSpaces$Book;I)V"⟩
def wsWa_init : List Cond := .code yWa_init cWa_init 4 (Option.none : Option Jvm.ClassFile.FieldType) :: cALL
set_option maxRecDepth 100000 in
theorem mcWa_init : Cond.code yWa_init cWa_init 4 (Option.none : Option Jvm.ClassFile.FieldType) ∈ cALL := List.mem_of_getElem? (i := 147) rfl
abbrev cWa_go : ByteArray := prog_8_method_2_code
def yWa_go : MethodName := ⟨RWa, "go", "(II)I"⟩
def wsWa_go : List Cond := .code yWa_go cWa_go 12 (Option.some Jvm.ClassFile.FieldType.int) :: cALL
set_option maxRecDepth 100000 in
theorem mcWa_go : Cond.code yWa_go cWa_go 12 (Option.some Jvm.ClassFile.FieldType.int) ∈ cALL := List.mem_of_getElem? (i := 496) rfl
abbrev cWa_drawNear : ByteArray := prog_8_method_3_code
def yWa_drawNear : MethodName := ⟨RWa, "drawNear", "(I)I"⟩
def wsWa_drawNear : List Cond := .code yWa_drawNear cWa_drawNear 3 (Option.some Jvm.ClassFile.FieldType.int) :: cALL
set_option maxRecDepth 100000 in
theorem mcWa_drawNear : Cond.code yWa_drawNear cWa_drawNear 3 (Option.some Jvm.ClassFile.FieldType.int) ∈ cALL := List.mem_of_getElem? (i := 503) rfl
set_option maxRecDepth 100000 in
theorem meFr_findHeads : Cond.selects RFr yFr_findHeads yFr_findHeads ∈ cALL := List.mem_of_getElem? (i := 0) rfl
set_option maxRecDepth 100000 in
theorem meFr_headFor : Cond.selects RFr yFr_headFor yFr_headFor ∈ cALL := List.mem_of_getElem? (i := 1) rfl
set_option maxRecDepth 100000 in
theorem meFr_dropBeatenBy : Cond.selects RFr yFr_dropBeatenBy yFr_dropBeatenBy ∈ cALL := List.mem_of_getElem? (i := 2) rfl
set_option maxRecDepth 100000 in
theorem meFr_collectMembers : Cond.selects RFr yFr_collectMembers yFr_collectMembers ∈ cALL := List.mem_of_getElem? (i := 3) rfl
set_option maxRecDepth 100000 in
theorem meBo_copyEntries : Cond.selects RBo yBo_copyEntries yBo_copyEntries ∈ cALL := List.mem_of_getElem? (i := 5) rfl
set_option maxRecDepth 100000 in
theorem meSe_isPassedBy : Cond.selects RSe ySe_isPassedBy ySe_isPassedBy ∈ cALL := List.mem_of_getElem? (i := 6) rfl
set_option maxRecDepth 100000 in
theorem meSe_keepRow : Cond.selects RSe ySe_keepRow ySe_keepRow ∈ cALL := List.mem_of_getElem? (i := 7) rfl
set_option maxRecDepth 100000 in
theorem meSe_goBehind : Cond.selects RSe ySe_goBehind ySe_goBehind ∈ cALL := List.mem_of_getElem? (i := 8) rfl
set_option maxRecDepth 100000 in
theorem meWa_drawNear : Cond.selects RWa yWa_drawNear yWa_drawNear ∈ cALL := List.mem_of_getElem? (i := 9) rfl
set_option maxRecDepth 100000 in
theorem meBo_differenceAlong : Cond.selects RBo yBo_differenceAlong yBo_differenceAlong ∈ cALL := List.mem_of_getElem? (i := 10) rfl
set_option maxRecDepth 100000 in
theorem mnX : Cond.initialized RX ∈ cALL := List.mem_of_getElem? (i := 11) rfl
set_option maxRecDepth 100000 in
theorem mnSh : Cond.initialized RSh ∈ cALL := List.mem_of_getElem? (i := 12) rfl
set_option maxRecDepth 100000 in
theorem mnBo : Cond.initialized RBo ∈ cALL := List.mem_of_getElem? (i := 13) rfl
set_option maxRecDepth 100000 in
theorem mnMa : Cond.initialized RMa ∈ cALL := List.mem_of_getElem? (i := 14) rfl
set_option maxRecDepth 100000 in
theorem mnFr : Cond.initialized RFr ∈ cALL := List.mem_of_getElem? (i := 15) rfl
set_option maxRecDepth 100000 in
theorem mnSe : Cond.initialized RSe ∈ cALL := List.mem_of_getElem? (i := 16) rfl
set_option maxRecDepth 100000 in
theorem mnWa : Cond.initialized RWa ∈ cALL := List.mem_of_getElem? (i := 17) rfl
set_option maxRecDepth 100000 in
theorem mnSw : Cond.initialized RSw ∈ cALL := List.mem_of_getElem? (i := 18) rfl
set_option maxRecDepth 100000 in
theorem mnE_2 : Cond.initialized "java/lang/IllegalArgumentException" ∈ cALL := List.mem_of_getElem? (i := 22) rfl
set_option maxRecDepth 100000 in
theorem mnE_3 : Cond.initialized "java/lang/UnsupportedOperationException" ∈ cALL := List.mem_of_getElem? (i := 23) rfl
set_option maxRecDepth 100000 in
theorem mnE_1 : Cond.initialized "java/lang/IndexOutOfBoundsException" ∈ cALL := List.mem_of_getElem? (i := 24) rfl
set_option maxRecDepth 100000 in
theorem mnE_4 : Cond.initialized "java/lang/IllegalStateException" ∈ cALL := List.mem_of_getElem? (i := 25) rfl
set_option maxRecDepth 100000 in
theorem mnMath : Cond.initialized "java/lang/Math" ∈ cALL := List.mem_of_getElem? (i := 26) rfl
set_option maxRecDepth 100000 in
theorem mtX : Cond.instantiable RX 6 ∈ cALL := List.mem_of_getElem? (i := 27) rfl
set_option maxRecDepth 100000 in
theorem miX_init : Cond.instanceMethod yX_init ∈ cALL := List.mem_of_getElem? (i := 28) rfl
set_option maxRecDepth 100000 in
theorem mlX_3 : Cond.methodLink RX 3 objectInit ∈ cALL := List.mem_of_getElem? (i := 30) rfl
set_option maxRecDepth 100000 in
theorem miO_cALL : Cond.instanceMethod objectInit ∈ cALL := List.mem_of_getElem? (i := 31) rfl
set_option maxRecDepth 100000 in
theorem mcO_cALL : Cond.code objectInit ⟨#[0xb1]⟩ 1 none ∈ cALL := List.mem_of_getElem? (i := 32) rfl
set_option maxRecDepth 100000 in
theorem mxX_9 : Cond.classLink RX 9 RSh ∈ cALL := List.mem_of_getElem? (i := 33) rfl
set_option maxRecDepth 100000 in
theorem mtSh : Cond.instantiable RSh 4 ∈ cALL := List.mem_of_getElem? (i := 34) rfl
set_option maxRecDepth 100000 in
theorem miSh_init : Cond.instanceMethod ySh_init ∈ cALL := List.mem_of_getElem? (i := 35) rfl
set_option maxRecDepth 100000 in
theorem mlSh_3 : Cond.methodLink RSh 3 objectInit ∈ cALL := List.mem_of_getElem? (i := 37) rfl
set_option maxRecDepth 100000 in
theorem mfSh_9 : Cond.fieldLink RSh 9 "DesignSpaces$Shape" "sizes" "[I" ∈ cALL := List.mem_of_getElem? (i := 38) rfl
set_option maxRecDepth 100000 in
theorem mfSe_60 : Cond.fieldLink RSe 60 "DesignSpaces$Shape" "sizes" "[I" ∈ cALL := List.mem_of_getElem? (i := 39) rfl
set_option maxRecDepth 100000 in
theorem mfBo_96 : Cond.fieldLink RBo 96 "DesignSpaces$Shape" "sizes" "[I" ∈ cALL := List.mem_of_getElem? (i := 40) rfl
set_option maxRecDepth 100000 in
theorem mfSh_15 : Cond.fieldLink RSh 15 "DesignSpaces$Shape" "places" "[I" ∈ cALL := List.mem_of_getElem? (i := 41) rfl
set_option maxRecDepth 100000 in
theorem mfBo_99 : Cond.fieldLink RBo 99 "DesignSpaces$Shape" "places" "[I" ∈ cALL := List.mem_of_getElem? (i := 42) rfl
set_option maxRecDepth 100000 in
theorem mfSh_18 : Cond.fieldLink RSh 18 "DesignSpaces$Shape" "choices" "I" ∈ cALL := List.mem_of_getElem? (i := 43) rfl
set_option maxRecDepth 100000 in
theorem mfSe_37 : Cond.fieldLink RSe 37 "DesignSpaces$Shape" "choices" "I" ∈ cALL := List.mem_of_getElem? (i := 44) rfl
set_option maxRecDepth 100000 in
theorem mfX_87 : Cond.fieldLink RX 87 "DesignSpaces$Shape" "choices" "I" ∈ cALL := List.mem_of_getElem? (i := 45) rfl
set_option maxRecDepth 100000 in
theorem mfSh_22 : Cond.fieldLink RSh 22 "DesignSpaces$Shape" "designs" "I" ∈ cALL := List.mem_of_getElem? (i := 46) rfl
set_option maxRecDepth 100000 in
theorem mfBo_51 : Cond.fieldLink RBo 51 "DesignSpaces$Shape" "designs" "I" ∈ cALL := List.mem_of_getElem? (i := 47) rfl
set_option maxRecDepth 100000 in
theorem mfSw_24 : Cond.fieldLink RSw 24 "DesignSpaces$Shape" "designs" "I" ∈ cALL := List.mem_of_getElem? (i := 48) rfl
set_option maxRecDepth 100000 in
theorem mfFr_40 : Cond.fieldLink RFr 40 "DesignSpaces$Shape" "designs" "I" ∈ cALL := List.mem_of_getElem? (i := 49) rfl
set_option maxRecDepth 100000 in
theorem mfX_236 : Cond.fieldLink RX 236 "DesignSpaces$Shape" "designs" "I" ∈ cALL := List.mem_of_getElem? (i := 50) rfl
set_option maxRecDepth 100000 in
theorem ma_cALL_int : Cond.arrayClass .int ∈ cALL := List.mem_of_getElem? (i := 55) rfl
set_option maxRecDepth 100000 in
theorem mxX_16 : Cond.classLink RX 16 RBo ∈ cALL := List.mem_of_getElem? (i := 56) rfl
set_option maxRecDepth 100000 in
theorem mtBo : Cond.instantiable RBo 10 ∈ cALL := List.mem_of_getElem? (i := 57) rfl
set_option maxRecDepth 100000 in
theorem mlX_18 : Cond.methodLink RX 18 yBo_init ∈ cALL := List.mem_of_getElem? (i := 58) rfl
set_option maxRecDepth 100000 in
theorem miBo_init : Cond.instanceMethod yBo_init ∈ cALL := List.mem_of_getElem? (i := 59) rfl
set_option maxRecDepth 100000 in
theorem mlBo_3 : Cond.methodLink RBo 3 objectInit ∈ cALL := List.mem_of_getElem? (i := 61) rfl
set_option maxRecDepth 100000 in
theorem mxBo_42 : Cond.classLink RBo 42 RMa ∈ cALL := List.mem_of_getElem? (i := 62) rfl
set_option maxRecDepth 100000 in
theorem mtMa : Cond.instantiable RMa 5 ∈ cALL := List.mem_of_getElem? (i := 63) rfl
set_option maxRecDepth 100000 in
theorem mlBo_44 : Cond.methodLink RBo 44 yMa_init ∈ cALL := List.mem_of_getElem? (i := 64) rfl
set_option maxRecDepth 100000 in
theorem miMa_init : Cond.instanceMethod yMa_init ∈ cALL := List.mem_of_getElem? (i := 65) rfl
set_option maxRecDepth 100000 in
theorem mlMa_3 : Cond.methodLink RMa 3 objectInit ∈ cALL := List.mem_of_getElem? (i := 67) rfl
set_option maxRecDepth 100000 in
theorem mfMa_24 : Cond.fieldLink RMa 24 "DesignSpaces$Matches" "shape" "LDesignSpaces$Shape;" ∈ cALL := List.mem_of_getElem? (i := 68) rfl
set_option maxRecDepth 100000 in
theorem mfMa_9 : Cond.fieldLink RMa 9 "DesignSpaces$Matches" "a" "[I" ∈ cALL := List.mem_of_getElem? (i := 69) rfl
set_option maxRecDepth 100000 in
theorem mfMa_15 : Cond.fieldLink RMa 15 "DesignSpaces$Matches" "va" "[I" ∈ cALL := List.mem_of_getElem? (i := 70) rfl
set_option maxRecDepth 100000 in
theorem mfMa_18 : Cond.fieldLink RMa 18 "DesignSpaces$Matches" "b" "[I" ∈ cALL := List.mem_of_getElem? (i := 71) rfl
set_option maxRecDepth 100000 in
theorem mfMa_21 : Cond.fieldLink RMa 21 "DesignSpaces$Matches" "vb" "[I" ∈ cALL := List.mem_of_getElem? (i := 72) rfl
set_option maxRecDepth 100000 in
theorem ma_cALL_boolean : Cond.arrayClass .boolean ∈ cALL := List.mem_of_getElem? (i := 78) rfl
set_option maxRecDepth 100000 in
theorem mfBo_38 : Cond.fieldLink RBo 38 "DesignSpaces$Book" "shape" "LDesignSpaces$Shape;" ∈ cALL := List.mem_of_getElem? (i := 79) rfl
set_option maxRecDepth 100000 in
theorem mfBo_47 : Cond.fieldLink RBo 47 "DesignSpaces$Book" "matches" "LDesignSpaces$Matches;" ∈ cALL := List.mem_of_getElem? (i := 80) rfl
set_option maxRecDepth 100000 in
theorem mfBo_9 : Cond.fieldLink RBo 9 "DesignSpaces$Book" "termsOf" "[I" ∈ cALL := List.mem_of_getElem? (i := 81) rfl
set_option maxRecDepth 100000 in
theorem mfBo_15 : Cond.fieldLink RBo 15 "DesignSpaces$Book" "weights" "[I" ∈ cALL := List.mem_of_getElem? (i := 82) rfl
set_option maxRecDepth 100000 in
theorem mfBo_18 : Cond.fieldLink RBo 18 "DesignSpaces$Book" "termsTold" "I" ∈ cALL := List.mem_of_getElem? (i := 83) rfl
set_option maxRecDepth 100000 in
theorem mfX_107 : Cond.fieldLink RX 107 "DesignSpaces$Book" "termsTold" "I" ∈ cALL := List.mem_of_getElem? (i := 84) rfl
set_option maxRecDepth 100000 in
theorem mfBo_22 : Cond.fieldLink RBo 22 "DesignSpaces$Book" "rulesTold" "I" ∈ cALL := List.mem_of_getElem? (i := 85) rfl
set_option maxRecDepth 100000 in
theorem mfX_120 : Cond.fieldLink RX 120 "DesignSpaces$Book" "rulesTold" "I" ∈ cALL := List.mem_of_getElem? (i := 86) rfl
set_option maxRecDepth 100000 in
theorem mfBo_25 : Cond.fieldLink RBo 25 "DesignSpaces$Book" "limited" "[Z" ∈ cALL := List.mem_of_getElem? (i := 87) rfl
set_option maxRecDepth 100000 in
theorem mfX_131 : Cond.fieldLink RX 131 "DesignSpaces$Book" "limited" "[Z" ∈ cALL := List.mem_of_getElem? (i := 88) rfl
set_option maxRecDepth 100000 in
theorem mfBo_29 : Cond.fieldLink RBo 29 "DesignSpaces$Book" "most" "[I" ∈ cALL := List.mem_of_getElem? (i := 89) rfl
set_option maxRecDepth 100000 in
theorem mfX_135 : Cond.fieldLink RX 135 "DesignSpaces$Book" "most" "[I" ∈ cALL := List.mem_of_getElem? (i := 90) rfl
set_option maxRecDepth 100000 in
theorem mfBo_32 : Cond.fieldLink RBo 32 "DesignSpaces$Book" "sums" "[I" ∈ cALL := List.mem_of_getElem? (i := 91) rfl
set_option maxRecDepth 100000 in
theorem mfBo_35 : Cond.fieldLink RBo 35 "DesignSpaces$Book" "barred" "[Z" ∈ cALL := List.mem_of_getElem? (i := 92) rfl
set_option maxRecDepth 100000 in
theorem mxX_25 : Cond.classLink RX 25 RFr ∈ cALL := List.mem_of_getElem? (i := 103) rfl
set_option maxRecDepth 100000 in
theorem mtFr : Cond.instantiable RFr 6 ∈ cALL := List.mem_of_getElem? (i := 104) rfl
set_option maxRecDepth 100000 in
theorem mlX_27 : Cond.methodLink RX 27 yFr_init ∈ cALL := List.mem_of_getElem? (i := 105) rfl
set_option maxRecDepth 100000 in
theorem miFr_init : Cond.instanceMethod yFr_init ∈ cALL := List.mem_of_getElem? (i := 106) rfl
set_option maxRecDepth 100000 in
theorem mlFr_3 : Cond.methodLink RFr 3 objectInit ∈ cALL := List.mem_of_getElem? (i := 108) rfl
set_option maxRecDepth 100000 in
theorem mfFr_26 : Cond.fieldLink RFr 26 "DesignSpaces$Front" "shape" "LDesignSpaces$Shape;" ∈ cALL := List.mem_of_getElem? (i := 109) rfl
set_option maxRecDepth 100000 in
theorem mfFr_30 : Cond.fieldLink RFr 30 "DesignSpaces$Front" "book" "LDesignSpaces$Book;" ∈ cALL := List.mem_of_getElem? (i := 110) rfl
set_option maxRecDepth 100000 in
theorem mfFr_9 : Cond.fieldLink RFr 9 "DesignSpaces$Front" "members" "[I" ∈ cALL := List.mem_of_getElem? (i := 111) rfl
set_option maxRecDepth 100000 in
theorem mfX_176 : Cond.fieldLink RX 176 "DesignSpaces$Front" "members" "[I" ∈ cALL := List.mem_of_getElem? (i := 112) rfl
set_option maxRecDepth 100000 in
theorem mfFr_15 : Cond.fieldLink RFr 15 "DesignSpaces$Front" "heads" "[I" ∈ cALL := List.mem_of_getElem? (i := 113) rfl
set_option maxRecDepth 100000 in
theorem mfFr_18 : Cond.fieldLink RFr 18 "DesignSpaces$Front" "size" "I" ∈ cALL := List.mem_of_getElem? (i := 114) rfl
set_option maxRecDepth 100000 in
theorem mfX_171 : Cond.fieldLink RX 171 "DesignSpaces$Front" "size" "I" ∈ cALL := List.mem_of_getElem? (i := 115) rfl
set_option maxRecDepth 100000 in
theorem mfFr_22 : Cond.fieldLink RFr 22 "DesignSpaces$Front" "fresh" "Z" ∈ cALL := List.mem_of_getElem? (i := 116) rfl
set_option maxRecDepth 100000 in
theorem mxX_34 : Cond.classLink RX 34 RSe ∈ cALL := List.mem_of_getElem? (i := 123) rfl
set_option maxRecDepth 100000 in
theorem mtSe : Cond.instantiable RSe 6 ∈ cALL := List.mem_of_getElem? (i := 124) rfl
set_option maxRecDepth 100000 in
theorem mlX_36 : Cond.methodLink RX 36 ySe_init ∈ cALL := List.mem_of_getElem? (i := 125) rfl
set_option maxRecDepth 100000 in
theorem miSe_init : Cond.instanceMethod ySe_init ∈ cALL := List.mem_of_getElem? (i := 126) rfl
set_option maxRecDepth 100000 in
theorem mlSe_3 : Cond.methodLink RSe 3 objectInit ∈ cALL := List.mem_of_getElem? (i := 128) rfl
set_option maxRecDepth 100000 in
theorem mfSe_25 : Cond.fieldLink RSe 25 "DesignSpaces$Search" "shape" "LDesignSpaces$Shape;" ∈ cALL := List.mem_of_getElem? (i := 129) rfl
set_option maxRecDepth 100000 in
theorem mfSe_29 : Cond.fieldLink RSe 29 "DesignSpaces$Search" "book" "LDesignSpaces$Book;" ∈ cALL := List.mem_of_getElem? (i := 130) rfl
set_option maxRecDepth 100000 in
theorem mfSe_9 : Cond.fieldLink RSe 9 "DesignSpaces$Search" "row" "[I" ∈ cALL := List.mem_of_getElem? (i := 131) rfl
set_option maxRecDepth 100000 in
theorem mfSe_15 : Cond.fieldLink RSe 15 "DesignSpaces$Search" "rowsSeen" "I" ∈ cALL := List.mem_of_getElem? (i := 132) rfl
set_option maxRecDepth 100000 in
theorem mfX_183 : Cond.fieldLink RX 183 "DesignSpaces$Search" "rowsSeen" "I" ∈ cALL := List.mem_of_getElem? (i := 133) rfl
set_option maxRecDepth 100000 in
theorem mfSe_19 : Cond.fieldLink RSe 19 "DesignSpaces$Search" "found" "I" ∈ cALL := List.mem_of_getElem? (i := 134) rfl
set_option maxRecDepth 100000 in
theorem mfSe_22 : Cond.fieldLink RSe 22 "DesignSpaces$Search" "least" "I" ∈ cALL := List.mem_of_getElem? (i := 135) rfl
set_option maxRecDepth 100000 in
theorem mxX_41 : Cond.classLink RX 41 RWa ∈ cALL := List.mem_of_getElem? (i := 142) rfl
set_option maxRecDepth 100000 in
theorem mtWa : Cond.instantiable RWa 6 ∈ cALL := List.mem_of_getElem? (i := 143) rfl
set_option maxRecDepth 100000 in
theorem mkX_43 : Cond.constant RX 43 (2147483647) ∈ cALL := List.mem_of_getElem? (i := 144) rfl
set_option maxRecDepth 100000 in
theorem mlX_44 : Cond.methodLink RX 44 yWa_init ∈ cALL := List.mem_of_getElem? (i := 145) rfl
set_option maxRecDepth 100000 in
theorem miWa_init : Cond.instanceMethod yWa_init ∈ cALL := List.mem_of_getElem? (i := 146) rfl
set_option maxRecDepth 100000 in
theorem mlWa_3 : Cond.methodLink RWa 3 objectInit ∈ cALL := List.mem_of_getElem? (i := 148) rfl
set_option maxRecDepth 100000 in
theorem mfWa_21 : Cond.fieldLink RWa 21 "DesignSpaces$Walker" "shape" "LDesignSpaces$Shape;" ∈ cALL := List.mem_of_getElem? (i := 149) rfl
set_option maxRecDepth 100000 in
theorem mfWa_25 : Cond.fieldLink RWa 25 "DesignSpaces$Walker" "book" "LDesignSpaces$Book;" ∈ cALL := List.mem_of_getElem? (i := 150) rfl
set_option maxRecDepth 100000 in
theorem mfWa_29 : Cond.fieldLink RWa 29 "DesignSpaces$Walker" "x" "I" ∈ cALL := List.mem_of_getElem? (i := 151) rfl
set_option maxRecDepth 100000 in
theorem mfWa_9 : Cond.fieldLink RWa 9 "DesignSpaces$Walker" "leeway" "I" ∈ cALL := List.mem_of_getElem? (i := 152) rfl
set_option maxRecDepth 100000 in
theorem mfX_203 : Cond.fieldLink RX 203 "DesignSpaces$Walker" "leeway" "I" ∈ cALL := List.mem_of_getElem? (i := 153) rfl
set_option maxRecDepth 100000 in
theorem mfWa_15 : Cond.fieldLink RWa 15 "DesignSpaces$Walker" "cheapest" "I" ∈ cALL := List.mem_of_getElem? (i := 154) rfl
set_option maxRecDepth 100000 in
theorem mfX_216 : Cond.fieldLink RX 216 "DesignSpaces$Walker" "cheapest" "I" ∈ cALL := List.mem_of_getElem? (i := 155) rfl
set_option maxRecDepth 100000 in
theorem mfWa_18 : Cond.fieldLink RWa 18 "DesignSpaces$Walker" "moves" "I" ∈ cALL := List.mem_of_getElem? (i := 156) rfl
set_option maxRecDepth 100000 in
theorem mfX_248 : Cond.fieldLink RX 248 "DesignSpaces$Walker" "moves" "I" ∈ cALL := List.mem_of_getElem? (i := 157) rfl
set_option maxRecDepth 100000 in
theorem mxX_51 : Cond.classLink RX 51 RSw ∈ cALL := List.mem_of_getElem? (i := 164) rfl
set_option maxRecDepth 100000 in
theorem mtSw : Cond.instantiable RSw 4 ∈ cALL := List.mem_of_getElem? (i := 165) rfl
set_option maxRecDepth 100000 in
theorem mlX_53 : Cond.methodLink RX 53 ySw_init ∈ cALL := List.mem_of_getElem? (i := 166) rfl
set_option maxRecDepth 100000 in
theorem miSw_init : Cond.instanceMethod ySw_init ∈ cALL := List.mem_of_getElem? (i := 167) rfl
set_option maxRecDepth 100000 in
theorem mlSw_1 : Cond.methodLink RSw 1 objectInit ∈ cALL := List.mem_of_getElem? (i := 169) rfl
set_option maxRecDepth 100000 in
theorem mfSw_16 : Cond.fieldLink RSw 16 "DesignSpaces$Sweeper" "shape" "LDesignSpaces$Shape;" ∈ cALL := List.mem_of_getElem? (i := 170) rfl
set_option maxRecDepth 100000 in
theorem mfSw_20 : Cond.fieldLink RSw 20 "DesignSpaces$Sweeper" "book" "LDesignSpaces$Book;" ∈ cALL := List.mem_of_getElem? (i := 171) rfl
set_option maxRecDepth 100000 in
theorem mfSw_7 : Cond.fieldLink RSw 7 "DesignSpaces$Sweeper" "next" "I" ∈ cALL := List.mem_of_getElem? (i := 172) rfl
set_option maxRecDepth 100000 in
theorem mfX_242 : Cond.fieldLink RX 242 "DesignSpaces$Sweeper" "next" "I" ∈ cALL := List.mem_of_getElem? (i := 173) rfl
set_option maxRecDepth 100000 in
theorem mfSw_13 : Cond.fieldLink RSw 13 "DesignSpaces$Sweeper" "allowed" "I" ∈ cALL := List.mem_of_getElem? (i := 174) rfl
set_option maxRecDepth 100000 in
theorem mfX_245 : Cond.fieldLink RX 245 "DesignSpaces$Sweeper" "allowed" "I" ∈ cALL := List.mem_of_getElem? (i := 175) rfl
set_option maxRecDepth 100000 in
theorem mfX_12 : Cond.fieldLink RX 12 "DesignSpaces" "shape" "LDesignSpaces$Shape;" ∈ cALL := List.mem_of_getElem? (i := 180) rfl
set_option maxRecDepth 100000 in
theorem mfX_21 : Cond.fieldLink RX 21 "DesignSpaces" "book" "LDesignSpaces$Book;" ∈ cALL := List.mem_of_getElem? (i := 181) rfl
set_option maxRecDepth 100000 in
theorem mfX_30 : Cond.fieldLink RX 30 "DesignSpaces" "front" "LDesignSpaces$Front;" ∈ cALL := List.mem_of_getElem? (i := 182) rfl
set_option maxRecDepth 100000 in
theorem mfX_37 : Cond.fieldLink RX 37 "DesignSpaces" "search" "LDesignSpaces$Search;" ∈ cALL := List.mem_of_getElem? (i := 183) rfl
set_option maxRecDepth 100000 in
theorem mfX_47 : Cond.fieldLink RX 47 "DesignSpaces" "walker" "LDesignSpaces$Walker;" ∈ cALL := List.mem_of_getElem? (i := 184) rfl
set_option maxRecDepth 100000 in
theorem mfX_54 : Cond.fieldLink RX 54 "DesignSpaces" "sweeper" "LDesignSpaces$Sweeper;" ∈ cALL := List.mem_of_getElem? (i := 185) rfl
set_option maxRecDepth 100000 in
theorem miX_undominated : Cond.instanceMethod yX_undominated ∈ cALL := List.mem_of_getElem? (i := 192) rfl
set_option maxRecDepth 100000 in
theorem meX_undominated : Cond.selects RX yX_undominated yX_undominated ∈ cALL := List.mem_of_getElem? (i := 193) rfl
set_option maxRecDepth 100000 in
theorem mlX_168 : Cond.methodLink RX 168 yFr_refresh ∈ cALL := List.mem_of_getElem? (i := 195) rfl
set_option maxRecDepth 100000 in
theorem miFr_refresh : Cond.instanceMethod yFr_refresh ∈ cALL := List.mem_of_getElem? (i := 196) rfl
set_option maxRecDepth 100000 in
theorem meFr_refresh : Cond.selects RFr yFr_refresh yFr_refresh ∈ cALL := List.mem_of_getElem? (i := 197) rfl
set_option maxRecDepth 100000 in
theorem mlFr_34 : Cond.methodLink RFr 34 yFr_findHeads ∈ cALL := List.mem_of_getElem? (i := 199) rfl
set_option maxRecDepth 100000 in
theorem miFr_findHeads : Cond.instanceMethod yFr_findHeads ∈ cALL := List.mem_of_getElem? (i := 200) rfl
set_option maxRecDepth 100000 in
theorem mlFr_45 : Cond.methodLink RFr 45 yBo_allows ∈ cALL := List.mem_of_getElem? (i := 202) rfl
set_option maxRecDepth 100000 in
theorem miBo_allows : Cond.instanceMethod yBo_allows ∈ cALL := List.mem_of_getElem? (i := 203) rfl
set_option maxRecDepth 100000 in
theorem meBo_allows : Cond.selects RBo yBo_allows yBo_allows ∈ cALL := List.mem_of_getElem? (i := 204) rfl
set_option maxRecDepth 100000 in
theorem mlBo_68 : Cond.methodLink RBo 68 yBo_sumOf ∈ cALL := List.mem_of_getElem? (i := 206) rfl
set_option maxRecDepth 100000 in
theorem miBo_sumOf : Cond.instanceMethod yBo_sumOf ∈ cALL := List.mem_of_getElem? (i := 207) rfl
set_option maxRecDepth 100000 in
theorem meBo_sumOf : Cond.selects RBo yBo_sumOf yBo_sumOf ∈ cALL := List.mem_of_getElem? (i := 208) rfl
set_option maxRecDepth 100000 in
theorem mlFr_51 : Cond.methodLink RFr 51 yFr_headFor ∈ cALL := List.mem_of_getElem? (i := 210) rfl
set_option maxRecDepth 100000 in
theorem miFr_headFor : Cond.instanceMethod yFr_headFor ∈ cALL := List.mem_of_getElem? (i := 211) rfl
set_option maxRecDepth 100000 in
theorem mlFr_59 : Cond.methodLink RFr 59 yBo_isAtMost ∈ cALL := List.mem_of_getElem? (i := 213) rfl
set_option maxRecDepth 100000 in
theorem miBo_isAtMost : Cond.instanceMethod yBo_isAtMost ∈ cALL := List.mem_of_getElem? (i := 214) rfl
set_option maxRecDepth 100000 in
theorem meBo_isAtMost : Cond.selects RBo yBo_isAtMost yBo_isAtMost ∈ cALL := List.mem_of_getElem? (i := 215) rfl
set_option maxRecDepth 100000 in
theorem mlFr_55 : Cond.methodLink RFr 55 yFr_dropBeatenBy ∈ cALL := List.mem_of_getElem? (i := 217) rfl
set_option maxRecDepth 100000 in
theorem miFr_dropBeatenBy : Cond.instanceMethod yFr_dropBeatenBy ∈ cALL := List.mem_of_getElem? (i := 218) rfl
set_option maxRecDepth 100000 in
theorem mlFr_37 : Cond.methodLink RFr 37 yFr_collectMembers ∈ cALL := List.mem_of_getElem? (i := 220) rfl
set_option maxRecDepth 100000 in
theorem miFr_collectMembers : Cond.instanceMethod yFr_collectMembers ∈ cALL := List.mem_of_getElem? (i := 221) rfl
set_option maxRecDepth 100000 in
theorem miX_looked : Cond.instanceMethod yX_looked ∈ cALL := List.mem_of_getElem? (i := 223) rfl
set_option maxRecDepth 100000 in
theorem meX_looked : Cond.selects RX yX_looked yX_looked ∈ cALL := List.mem_of_getElem? (i := 224) rfl
set_option maxRecDepth 100000 in
theorem miX_lowest : Cond.instanceMethod yX_lowest ∈ cALL := List.mem_of_getElem? (i := 226) rfl
set_option maxRecDepth 100000 in
theorem meX_lowest : Cond.selects RX yX_lowest yX_lowest ∈ cALL := List.mem_of_getElem? (i := 227) rfl
set_option maxRecDepth 100000 in
theorem miX_count : Cond.instanceMethod yX_count ∈ cALL := List.mem_of_getElem? (i := 229) rfl
set_option maxRecDepth 100000 in
theorem meX_count : Cond.selects RX yX_count yX_count ∈ cALL := List.mem_of_getElem? (i := 230) rfl
set_option maxRecDepth 100000 in
theorem mlX_239 : Cond.methodLink RX 239 yBo_limitsOn ∈ cALL := List.mem_of_getElem? (i := 232) rfl
set_option maxRecDepth 100000 in
theorem miBo_limitsOn : Cond.instanceMethod yBo_limitsOn ∈ cALL := List.mem_of_getElem? (i := 233) rfl
set_option maxRecDepth 100000 in
theorem meBo_limitsOn : Cond.selects RBo yBo_limitsOn yBo_limitsOn ∈ cALL := List.mem_of_getElem? (i := 234) rfl
set_option maxRecDepth 100000 in
theorem mlX_227 : Cond.methodLink RX 227 ySw_isAtEnd ∈ cALL := List.mem_of_getElem? (i := 236) rfl
set_option maxRecDepth 100000 in
theorem miSw_isAtEnd : Cond.instanceMethod ySw_isAtEnd ∈ cALL := List.mem_of_getElem? (i := 237) rfl
set_option maxRecDepth 100000 in
theorem meSw_isAtEnd : Cond.selects RSw ySw_isAtEnd ySw_isAtEnd ∈ cALL := List.mem_of_getElem? (i := 238) rfl
set_option maxRecDepth 100000 in
theorem miX_choice : Cond.instanceMethod yX_choice ∈ cALL := List.mem_of_getElem? (i := 240) rfl
set_option maxRecDepth 100000 in
theorem meX_choice : Cond.selects RX yX_choice yX_choice ∈ cALL := List.mem_of_getElem? (i := 241) rfl
set_option maxRecDepth 100000 in
theorem mxX_58 : Cond.classLink RX 58 "java/lang/IllegalArgumentException" ∈ cALL := List.mem_of_getElem? (i := 243) rfl
set_option maxRecDepth 100000 in
theorem mtE_2 : Cond.instantiable "java/lang/IllegalArgumentException" 6 ∈ cALL := List.mem_of_getElem? (i := 244) rfl
set_option maxRecDepth 100000 in
theorem mlX_65 : Cond.methodLink RX 65 ySh_hasRoomFor ∈ cALL := List.mem_of_getElem? (i := 294) rfl
set_option maxRecDepth 100000 in
theorem miSh_hasRoomFor : Cond.instanceMethod ySh_hasRoomFor ∈ cALL := List.mem_of_getElem? (i := 295) rfl
set_option maxRecDepth 100000 in
theorem meSh_hasRoomFor : Cond.selects RSh ySh_hasRoomFor ySh_hasRoomFor ∈ cALL := List.mem_of_getElem? (i := 296) rfl
set_option maxRecDepth 100000 in
theorem mxX_69 : Cond.classLink RX 69 "java/lang/UnsupportedOperationException" ∈ cALL := List.mem_of_getElem? (i := 298) rfl
set_option maxRecDepth 100000 in
theorem mtE_3 : Cond.instantiable "java/lang/UnsupportedOperationException" 6 ∈ cALL := List.mem_of_getElem? (i := 299) rfl
set_option maxRecDepth 100000 in
theorem mlX_74 : Cond.methodLink RX 74 yBo_splitDesigns ∈ cALL := List.mem_of_getElem? (i := 312) rfl
set_option maxRecDepth 100000 in
theorem miBo_splitDesigns : Cond.instanceMethod yBo_splitDesigns ∈ cALL := List.mem_of_getElem? (i := 313) rfl
set_option maxRecDepth 100000 in
theorem meBo_splitDesigns : Cond.selects RBo yBo_splitDesigns yBo_splitDesigns ∈ cALL := List.mem_of_getElem? (i := 314) rfl
set_option maxRecDepth 100000 in
theorem mlBo_56 : Cond.methodLink RBo 56 yBo_copyEntries ∈ cALL := List.mem_of_getElem? (i := 316) rfl
set_option maxRecDepth 100000 in
theorem miBo_copyEntries : Cond.instanceMethod yBo_copyEntries ∈ cALL := List.mem_of_getElem? (i := 317) rfl
set_option maxRecDepth 100000 in
theorem mlX_78 : Cond.methodLink RX 78 ySh_addChoice ∈ cALL := List.mem_of_getElem? (i := 319) rfl
set_option maxRecDepth 100000 in
theorem miSh_addChoice : Cond.instanceMethod ySh_addChoice ∈ cALL := List.mem_of_getElem? (i := 320) rfl
set_option maxRecDepth 100000 in
theorem meSh_addChoice : Cond.selects RSh ySh_addChoice ySh_addChoice ∈ cALL := List.mem_of_getElem? (i := 321) rfl
set_option maxRecDepth 100000 in
theorem mlX_81 : Cond.methodLink RX 81 ySw_beginAnew ∈ cALL := List.mem_of_getElem? (i := 323) rfl
set_option maxRecDepth 100000 in
theorem miSw_beginAnew : Cond.instanceMethod ySw_beginAnew ∈ cALL := List.mem_of_getElem? (i := 324) rfl
set_option maxRecDepth 100000 in
theorem meSw_beginAnew : Cond.selects RSw ySw_beginAnew ySw_beginAnew ∈ cALL := List.mem_of_getElem? (i := 325) rfl
set_option maxRecDepth 100000 in
theorem mlX_84 : Cond.methodLink RX 84 yFr_forget ∈ cALL := List.mem_of_getElem? (i := 327) rfl
set_option maxRecDepth 100000 in
theorem miFr_forget : Cond.instanceMethod yFr_forget ∈ cALL := List.mem_of_getElem? (i := 328) rfl
set_option maxRecDepth 100000 in
theorem meFr_forget : Cond.selects RFr yFr_forget yFr_forget ∈ cALL := List.mem_of_getElem? (i := 329) rfl
set_option maxRecDepth 100000 in
theorem miX_term : Cond.instanceMethod yX_term ∈ cALL := List.mem_of_getElem? (i := 331) rfl
set_option maxRecDepth 100000 in
theorem meX_term : Cond.selects RX yX_term yX_term ∈ cALL := List.mem_of_getElem? (i := 332) rfl
set_option maxRecDepth 100000 in
theorem mlX_91 : Cond.methodLink RX 91 yX_isNumber ∈ cALL := List.mem_of_getElem? (i := 334) rfl
set_option maxRecDepth 100000 in
theorem msX_isNumber : Cond.static yX_isNumber ∈ cALL := List.mem_of_getElem? (i := 335) rfl
set_option maxRecDepth 100000 in
theorem mlX_94 : Cond.methodLink RX 94 ySh_hasValue ∈ cALL := List.mem_of_getElem? (i := 337) rfl
set_option maxRecDepth 100000 in
theorem miSh_hasValue : Cond.instanceMethod ySh_hasValue ∈ cALL := List.mem_of_getElem? (i := 338) rfl
set_option maxRecDepth 100000 in
theorem meSh_hasValue : Cond.selects RSh ySh_hasValue ySh_hasValue ∈ cALL := List.mem_of_getElem? (i := 339) rfl
set_option maxRecDepth 100000 in
theorem mlSh_25 : Cond.methodLink RSh 25 ySh_hasChoice ∈ cALL := List.mem_of_getElem? (i := 341) rfl
set_option maxRecDepth 100000 in
theorem miSh_hasChoice : Cond.instanceMethod ySh_hasChoice ∈ cALL := List.mem_of_getElem? (i := 342) rfl
set_option maxRecDepth 100000 in
theorem meSh_hasChoice : Cond.selects RSh ySh_hasChoice ySh_hasChoice ∈ cALL := List.mem_of_getElem? (i := 343) rfl
set_option maxRecDepth 100000 in
theorem mxX_98 : Cond.classLink RX 98 "java/lang/IndexOutOfBoundsException" ∈ cALL := List.mem_of_getElem? (i := 345) rfl
set_option maxRecDepth 100000 in
theorem mtE_1 : Cond.instantiable "java/lang/IndexOutOfBoundsException" 6 ∈ cALL := List.mem_of_getElem? (i := 346) rfl
set_option maxRecDepth 100000 in
theorem mkX_103 : Cond.constant RX 103 (-1000000) ∈ cALL := List.mem_of_getElem? (i := 359) rfl
set_option maxRecDepth 100000 in
theorem mkX_104 : Cond.constant RX 104 (1000000) ∈ cALL := List.mem_of_getElem? (i := 360) rfl
set_option maxRecDepth 100000 in
theorem mlX_112 : Cond.methodLink RX 112 yBo_addTerm ∈ cALL := List.mem_of_getElem? (i := 361) rfl
set_option maxRecDepth 100000 in
theorem miBo_addTerm : Cond.instanceMethod yBo_addTerm ∈ cALL := List.mem_of_getElem? (i := 362) rfl
set_option maxRecDepth 100000 in
theorem meBo_addTerm : Cond.selects RBo yBo_addTerm yBo_addTerm ∈ cALL := List.mem_of_getElem? (i := 363) rfl
set_option maxRecDepth 100000 in
theorem mlBo_60 : Cond.methodLink RBo 60 yMa_put ∈ cALL := List.mem_of_getElem? (i := 365) rfl
set_option maxRecDepth 100000 in
theorem miMa_put : Cond.instanceMethod yMa_put ∈ cALL := List.mem_of_getElem? (i := 366) rfl
set_option maxRecDepth 100000 in
theorem meMa_put : Cond.selects RMa yMa_put yMa_put ∈ cALL := List.mem_of_getElem? (i := 367) rfl
set_option maxRecDepth 100000 in
theorem mlBo_64 : Cond.methodLink RBo 64 yMa_fits ∈ cALL := List.mem_of_getElem? (i := 369) rfl
set_option maxRecDepth 100000 in
theorem miMa_fits : Cond.instanceMethod yMa_fits ∈ cALL := List.mem_of_getElem? (i := 370) rfl
set_option maxRecDepth 100000 in
theorem meMa_fits : Cond.selects RMa yMa_fits yMa_fits ∈ cALL := List.mem_of_getElem? (i := 371) rfl
set_option maxRecDepth 100000 in
theorem mlMa_28 : Cond.methodLink RMa 28 ySh_digit ∈ cALL := List.mem_of_getElem? (i := 373) rfl
set_option maxRecDepth 100000 in
theorem miSh_digit : Cond.instanceMethod ySh_digit ∈ cALL := List.mem_of_getElem? (i := 374) rfl
set_option maxRecDepth 100000 in
theorem meSh_digit : Cond.selects RSh ySh_digit ySh_digit ∈ cALL := List.mem_of_getElem? (i := 375) rfl
set_option maxRecDepth 100000 in
theorem miX_rule : Cond.instanceMethod yX_rule ∈ cALL := List.mem_of_getElem? (i := 377) rfl
set_option maxRecDepth 100000 in
theorem meX_rule : Cond.selects RX yX_rule yX_rule ∈ cALL := List.mem_of_getElem? (i := 378) rfl
set_option maxRecDepth 100000 in
theorem mlX_125 : Cond.methodLink RX 125 yBo_addRule ∈ cALL := List.mem_of_getElem? (i := 380) rfl
set_option maxRecDepth 100000 in
theorem miBo_addRule : Cond.instanceMethod yBo_addRule ∈ cALL := List.mem_of_getElem? (i := 381) rfl
set_option maxRecDepth 100000 in
theorem meBo_addRule : Cond.selects RBo yBo_addRule yBo_addRule ∈ cALL := List.mem_of_getElem? (i := 382) rfl
set_option maxRecDepth 100000 in
theorem miX_limit : Cond.instanceMethod yX_limit ∈ cALL := List.mem_of_getElem? (i := 384) rfl
set_option maxRecDepth 100000 in
theorem meX_limit : Cond.selects RX yX_limit yX_limit ∈ cALL := List.mem_of_getElem? (i := 385) rfl
set_option maxRecDepth 100000 in
theorem miX_number : Cond.instanceMethod yX_number ∈ cALL := List.mem_of_getElem? (i := 387) rfl
set_option maxRecDepth 100000 in
theorem meX_number : Cond.selects RX yX_number yX_number ∈ cALL := List.mem_of_getElem? (i := 388) rfl
set_option maxRecDepth 100000 in
theorem mlX_139 : Cond.methodLink RX 139 ySh_hasDesign ∈ cALL := List.mem_of_getElem? (i := 390) rfl
set_option maxRecDepth 100000 in
theorem miSh_hasDesign : Cond.instanceMethod ySh_hasDesign ∈ cALL := List.mem_of_getElem? (i := 391) rfl
set_option maxRecDepth 100000 in
theorem meSh_hasDesign : Cond.selects RSh ySh_hasDesign ySh_hasDesign ∈ cALL := List.mem_of_getElem? (i := 392) rfl
set_option maxRecDepth 100000 in
theorem mlX_144 : Cond.methodLink RX 144 yBo_sumOf ∈ cALL := List.mem_of_getElem? (i := 394) rfl
set_option maxRecDepth 100000 in
theorem miX_value : Cond.instanceMethod yX_value ∈ cALL := List.mem_of_getElem? (i := 395) rfl
set_option maxRecDepth 100000 in
theorem meX_value : Cond.selects RX yX_value yX_value ∈ cALL := List.mem_of_getElem? (i := 396) rfl
set_option maxRecDepth 100000 in
theorem mlX_148 : Cond.methodLink RX 148 ySh_hasChoice ∈ cALL := List.mem_of_getElem? (i := 398) rfl
set_option maxRecDepth 100000 in
theorem mlX_153 : Cond.methodLink RX 153 ySh_digit ∈ cALL := List.mem_of_getElem? (i := 399) rfl
set_option maxRecDepth 100000 in
theorem miX_legal : Cond.instanceMethod yX_legal ∈ cALL := List.mem_of_getElem? (i := 400) rfl
set_option maxRecDepth 100000 in
theorem meX_legal : Cond.selects RX yX_legal yX_legal ∈ cALL := List.mem_of_getElem? (i := 401) rfl
set_option maxRecDepth 100000 in
theorem mlX_158 : Cond.methodLink RX 158 yBo_allows ∈ cALL := List.mem_of_getElem? (i := 403) rfl
set_option maxRecDepth 100000 in
theorem miX_beats : Cond.instanceMethod yX_beats ∈ cALL := List.mem_of_getElem? (i := 404) rfl
set_option maxRecDepth 100000 in
theorem meX_beats : Cond.selects RX yX_beats yX_beats ∈ cALL := List.mem_of_getElem? (i := 405) rfl
set_option maxRecDepth 100000 in
theorem mlX_165 : Cond.methodLink RX 165 yBo_isAtMost ∈ cALL := List.mem_of_getElem? (i := 407) rfl
set_option maxRecDepth 100000 in
theorem miX_at : Cond.instanceMethod yX_at ∈ cALL := List.mem_of_getElem? (i := 408) rfl
set_option maxRecDepth 100000 in
theorem meX_at : Cond.selects RX yX_at yX_at ∈ cALL := List.mem_of_getElem? (i := 409) rfl
set_option maxRecDepth 100000 in
theorem miX_best : Cond.instanceMethod yX_best ∈ cALL := List.mem_of_getElem? (i := 411) rfl
set_option maxRecDepth 100000 in
theorem meX_best : Cond.selects RX yX_best yX_best ∈ cALL := List.mem_of_getElem? (i := 412) rfl
set_option maxRecDepth 100000 in
theorem mlX_179 : Cond.methodLink RX 179 ySe_leastOf ∈ cALL := List.mem_of_getElem? (i := 414) rfl
set_option maxRecDepth 100000 in
theorem miSe_leastOf : Cond.instanceMethod ySe_leastOf ∈ cALL := List.mem_of_getElem? (i := 415) rfl
set_option maxRecDepth 100000 in
theorem meSe_leastOf : Cond.selects RSe ySe_leastOf ySe_leastOf ∈ cALL := List.mem_of_getElem? (i := 416) rfl
set_option maxRecDepth 100000 in
theorem mlSe_33 : Cond.methodLink RSe 33 ySe_isPassedBy ∈ cALL := List.mem_of_getElem? (i := 418) rfl
set_option maxRecDepth 100000 in
theorem miSe_isPassedBy : Cond.instanceMethod ySe_isPassedBy ∈ cALL := List.mem_of_getElem? (i := 419) rfl
set_option maxRecDepth 100000 in
theorem mlSe_63 : Cond.methodLink RSe 63 yBo_barsRow ∈ cALL := List.mem_of_getElem? (i := 421) rfl
set_option maxRecDepth 100000 in
theorem miBo_barsRow : Cond.instanceMethod yBo_barsRow ∈ cALL := List.mem_of_getElem? (i := 422) rfl
set_option maxRecDepth 100000 in
theorem meBo_barsRow : Cond.selects RBo yBo_barsRow yBo_barsRow ∈ cALL := List.mem_of_getElem? (i := 423) rfl
set_option maxRecDepth 100000 in
theorem mlBo_76 : Cond.methodLink RBo 76 yMa_isSettled ∈ cALL := List.mem_of_getElem? (i := 425) rfl
set_option maxRecDepth 100000 in
theorem miMa_isSettled : Cond.instanceMethod yMa_isSettled ∈ cALL := List.mem_of_getElem? (i := 426) rfl
set_option maxRecDepth 100000 in
theorem meMa_isSettled : Cond.selects RMa yMa_isSettled yMa_isSettled ∈ cALL := List.mem_of_getElem? (i := 427) rfl
set_option maxRecDepth 100000 in
theorem mlBo_72 : Cond.methodLink RBo 72 yMa_isOpen ∈ cALL := List.mem_of_getElem? (i := 429) rfl
set_option maxRecDepth 100000 in
theorem miMa_isOpen : Cond.instanceMethod yMa_isOpen ∈ cALL := List.mem_of_getElem? (i := 430) rfl
set_option maxRecDepth 100000 in
theorem meMa_isOpen : Cond.selects RMa yMa_isOpen yMa_isOpen ∈ cALL := List.mem_of_getElem? (i := 431) rfl
set_option maxRecDepth 100000 in
theorem mlSe_67 : Cond.methodLink RSe 67 yBo_limitsRow ∈ cALL := List.mem_of_getElem? (i := 433) rfl
set_option maxRecDepth 100000 in
theorem miBo_limitsRow : Cond.instanceMethod yBo_limitsRow ∈ cALL := List.mem_of_getElem? (i := 434) rfl
set_option maxRecDepth 100000 in
theorem meBo_limitsRow : Cond.selects RBo yBo_limitsRow yBo_limitsRow ∈ cALL := List.mem_of_getElem? (i := 435) rfl
set_option maxRecDepth 100000 in
theorem mlBo_79 : Cond.methodLink RBo 79 yBo_boundOf ∈ cALL := List.mem_of_getElem? (i := 437) rfl
set_option maxRecDepth 100000 in
theorem miBo_boundOf : Cond.instanceMethod yBo_boundOf ∈ cALL := List.mem_of_getElem? (i := 438) rfl
set_option maxRecDepth 100000 in
theorem meBo_boundOf : Cond.selects RBo yBo_boundOf yBo_boundOf ∈ cALL := List.mem_of_getElem? (i := 439) rfl
set_option maxRecDepth 100000 in
theorem mlSe_70 : Cond.methodLink RSe 70 yBo_boundOf ∈ cALL := List.mem_of_getElem? (i := 441) rfl
set_option maxRecDepth 100000 in
theorem mlSe_42 : Cond.methodLink RSe 42 ySe_keepRow ∈ cALL := List.mem_of_getElem? (i := 442) rfl
set_option maxRecDepth 100000 in
theorem miSe_keepRow : Cond.instanceMethod ySe_keepRow ∈ cALL := List.mem_of_getElem? (i := 443) rfl
set_option maxRecDepth 100000 in
theorem mlSe_50 : Cond.methodLink RSe 50 ySh_designOf ∈ cALL := List.mem_of_getElem? (i := 445) rfl
set_option maxRecDepth 100000 in
theorem miSh_designOf : Cond.instanceMethod ySh_designOf ∈ cALL := List.mem_of_getElem? (i := 446) rfl
set_option maxRecDepth 100000 in
theorem meSh_designOf : Cond.selects RSh ySh_designOf ySh_designOf ∈ cALL := List.mem_of_getElem? (i := 447) rfl
set_option maxRecDepth 100000 in
theorem mlSe_54 : Cond.methodLink RSe 54 yBo_sumOf ∈ cALL := List.mem_of_getElem? (i := 449) rfl
set_option maxRecDepth 100000 in
theorem mlSe_46 : Cond.methodLink RSe 46 ySe_goBehind ∈ cALL := List.mem_of_getElem? (i := 450) rfl
set_option maxRecDepth 100000 in
theorem miSe_goBehind : Cond.instanceMethod ySe_goBehind ∈ cALL := List.mem_of_getElem? (i := 451) rfl
set_option maxRecDepth 100000 in
theorem miX_bound : Cond.instanceMethod yX_bound ∈ cALL := List.mem_of_getElem? (i := 453) rfl
set_option maxRecDepth 100000 in
theorem meX_bound : Cond.selects RX yX_bound yX_bound ∈ cALL := List.mem_of_getElem? (i := 454) rfl
set_option maxRecDepth 100000 in
theorem mlX_188 : Cond.methodLink RX 188 ySe_boundFor ∈ cALL := List.mem_of_getElem? (i := 456) rfl
set_option maxRecDepth 100000 in
theorem miSe_boundFor : Cond.instanceMethod ySe_boundFor ∈ cALL := List.mem_of_getElem? (i := 457) rfl
set_option maxRecDepth 100000 in
theorem meSe_boundFor : Cond.selects RSe ySe_boundFor ySe_boundFor ∈ cALL := List.mem_of_getElem? (i := 458) rfl
set_option maxRecDepth 100000 in
theorem mlSe_74 : Cond.methodLink RSe 74 ySh_digit ∈ cALL := List.mem_of_getElem? (i := 460) rfl
set_option maxRecDepth 100000 in
theorem miX_near : Cond.instanceMethod yX_near ∈ cALL := List.mem_of_getElem? (i := 461) rfl
set_option maxRecDepth 100000 in
theorem meX_near : Cond.selects RX yX_near yX_near ∈ cALL := List.mem_of_getElem? (i := 462) rfl
set_option maxRecDepth 100000 in
theorem mlX_192 : Cond.methodLink RX 192 ySh_neighbours ∈ cALL := List.mem_of_getElem? (i := 464) rfl
set_option maxRecDepth 100000 in
theorem miSh_neighbours : Cond.instanceMethod ySh_neighbours ∈ cALL := List.mem_of_getElem? (i := 465) rfl
set_option maxRecDepth 100000 in
theorem meSh_neighbours : Cond.selects RSh ySh_neighbours ySh_neighbours ∈ cALL := List.mem_of_getElem? (i := 466) rfl
set_option maxRecDepth 100000 in
theorem mlX_198 : Cond.methodLink RX 198 ySh_neighbour ∈ cALL := List.mem_of_getElem? (i := 468) rfl
set_option maxRecDepth 100000 in
theorem miSh_neighbour : Cond.instanceMethod ySh_neighbour ∈ cALL := List.mem_of_getElem? (i := 469) rfl
set_option maxRecDepth 100000 in
theorem meSh_neighbour : Cond.selects RSh ySh_neighbour ySh_neighbour ∈ cALL := List.mem_of_getElem? (i := 470) rfl
set_option maxRecDepth 100000 in
theorem mlSh_29 : Cond.methodLink RSh 29 ySh_digit ∈ cALL := List.mem_of_getElem? (i := 472) rfl
set_option maxRecDepth 100000 in
theorem miX_slack : Cond.instanceMethod yX_slack ∈ cALL := List.mem_of_getElem? (i := 473) rfl
set_option maxRecDepth 100000 in
theorem meX_slack : Cond.selects RX yX_slack yX_slack ∈ cALL := List.mem_of_getElem? (i := 474) rfl
set_option maxRecDepth 100000 in
theorem miX_walk : Cond.instanceMethod yX_walk ∈ cALL := List.mem_of_getElem? (i := 476) rfl
set_option maxRecDepth 100000 in
theorem meX_walk : Cond.selects RX yX_walk yX_walk ∈ cALL := List.mem_of_getElem? (i := 477) rfl
set_option maxRecDepth 100000 in
theorem mxX_208 : Cond.classLink RX 208 "java/lang/IllegalStateException" ∈ cALL := List.mem_of_getElem? (i := 479) rfl
set_option maxRecDepth 100000 in
theorem mtE_4 : Cond.instantiable "java/lang/IllegalStateException" 6 ∈ cALL := List.mem_of_getElem? (i := 480) rfl
set_option maxRecDepth 100000 in
theorem mlX_213 : Cond.methodLink RX 213 yWa_go ∈ cALL := List.mem_of_getElem? (i := 493) rfl
set_option maxRecDepth 100000 in
theorem miWa_go : Cond.instanceMethod yWa_go ∈ cALL := List.mem_of_getElem? (i := 494) rfl
set_option maxRecDepth 100000 in
theorem meWa_go : Cond.selects RWa yWa_go yWa_go ∈ cALL := List.mem_of_getElem? (i := 495) rfl
set_option maxRecDepth 100000 in
theorem mlWa_32 : Cond.methodLink RWa 32 yBo_costOf ∈ cALL := List.mem_of_getElem? (i := 497) rfl
set_option maxRecDepth 100000 in
theorem miBo_costOf : Cond.instanceMethod yBo_costOf ∈ cALL := List.mem_of_getElem? (i := 498) rfl
set_option maxRecDepth 100000 in
theorem meBo_costOf : Cond.selects RBo yBo_costOf yBo_costOf ∈ cALL := List.mem_of_getElem? (i := 499) rfl
set_option maxRecDepth 100000 in
theorem mlWa_38 : Cond.methodLink RWa 38 yWa_drawNear ∈ cALL := List.mem_of_getElem? (i := 501) rfl
set_option maxRecDepth 100000 in
theorem miWa_drawNear : Cond.instanceMethod yWa_drawNear ∈ cALL := List.mem_of_getElem? (i := 502) rfl
set_option maxRecDepth 100000 in
theorem mkWa_46 : Cond.constant RWa 46 (1103515245) ∈ cALL := List.mem_of_getElem? (i := 504) rfl
set_option maxRecDepth 100000 in
theorem mkWa_47 : Cond.constant RWa 47 (2147483647) ∈ cALL := List.mem_of_getElem? (i := 505) rfl
set_option maxRecDepth 100000 in
theorem mlWa_48 : Cond.methodLink RWa 48 ySh_neighbours ∈ cALL := List.mem_of_getElem? (i := 506) rfl
set_option maxRecDepth 100000 in
theorem mkWa_54 : Cond.constant RWa 54 (65536) ∈ cALL := List.mem_of_getElem? (i := 507) rfl
set_option maxRecDepth 100000 in
theorem mlWa_55 : Cond.methodLink RWa 55 ySh_neighbour ∈ cALL := List.mem_of_getElem? (i := 508) rfl
set_option maxRecDepth 100000 in
theorem mlWa_42 : Cond.methodLink RWa 42 yBo_allows ∈ cALL := List.mem_of_getElem? (i := 509) rfl
set_option maxRecDepth 100000 in
theorem miX_matters : Cond.instanceMethod yX_matters ∈ cALL := List.mem_of_getElem? (i := 510) rfl
set_option maxRecDepth 100000 in
theorem meX_matters : Cond.selects RX yX_matters yX_matters ∈ cALL := List.mem_of_getElem? (i := 511) rfl
set_option maxRecDepth 100000 in
theorem mlX_221 : Cond.methodLink RX 221 yBo_greatestDifference ∈ cALL := List.mem_of_getElem? (i := 513) rfl
set_option maxRecDepth 100000 in
theorem miBo_greatestDifference : Cond.instanceMethod yBo_greatestDifference ∈ cALL := List.mem_of_getElem? (i := 514) rfl
set_option maxRecDepth 100000 in
theorem meBo_greatestDifference : Cond.selects RBo yBo_greatestDifference yBo_greatestDifference ∈ cALL := List.mem_of_getElem? (i := 515) rfl
set_option maxRecDepth 100000 in
theorem mlBo_83 : Cond.methodLink RBo 83 ySh_digit ∈ cALL := List.mem_of_getElem? (i := 517) rfl
set_option maxRecDepth 100000 in
theorem mlBo_86 : Cond.methodLink RBo 86 yBo_differenceAlong ∈ cALL := List.mem_of_getElem? (i := 518) rfl
set_option maxRecDepth 100000 in
theorem miBo_differenceAlong : Cond.instanceMethod yBo_differenceAlong ∈ cALL := List.mem_of_getElem? (i := 519) rfl
set_option maxRecDepth 100000 in
theorem mlBo_102 : Cond.methodLink RBo 102 yBo_allows ∈ cALL := List.mem_of_getElem? (i := 521) rfl
set_option maxRecDepth 100000 in
theorem mlBo_106 : Cond.methodLink RBo 106 Lib.MathLoose.min_long.x ∈ cALL := List.mem_of_getElem? (i := 522) rfl
set_option maxRecDepth 100000 in
theorem msMath_minJ : Cond.static Lib.MathLoose.min_long.x ∈ cALL := List.mem_of_getElem? (i := 523) rfl
set_option maxRecDepth 100000 in
theorem mcMath_minJ : Cond.code Lib.MathLoose.min_long.x Lib.MathLoose.min_long.code 4 (some .long) ∈ cALL := List.mem_of_getElem? (i := 524) rfl
set_option maxRecDepth 100000 in
theorem mlBo_90 : Cond.methodLink RBo 90 Lib.MathLoose.max_long.x ∈ cALL := List.mem_of_getElem? (i := 525) rfl
set_option maxRecDepth 100000 in
theorem msMath_maxJ : Cond.static Lib.MathLoose.max_long.x ∈ cALL := List.mem_of_getElem? (i := 526) rfl
set_option maxRecDepth 100000 in
theorem mcMath_maxJ : Cond.code Lib.MathLoose.max_long.x Lib.MathLoose.max_long.code 4 (some .long) ∈ cALL := List.mem_of_getElem? (i := 527) rfl
set_option maxRecDepth 100000 in
theorem miX_sweep : Cond.instanceMethod yX_sweep ∈ cALL := List.mem_of_getElem? (i := 528) rfl
set_option maxRecDepth 100000 in
theorem meX_sweep : Cond.selects RX yX_sweep yX_sweep ∈ cALL := List.mem_of_getElem? (i := 529) rfl
set_option maxRecDepth 100000 in
theorem mlX_233 : Cond.methodLink RX 233 ySw_goOn ∈ cALL := List.mem_of_getElem? (i := 531) rfl
set_option maxRecDepth 100000 in
theorem miSw_goOn : Cond.instanceMethod ySw_goOn ∈ cALL := List.mem_of_getElem? (i := 532) rfl
set_option maxRecDepth 100000 in
theorem meSw_goOn : Cond.selects RSw ySw_goOn ySw_goOn ∈ cALL := List.mem_of_getElem? (i := 533) rfl
set_option maxRecDepth 100000 in
theorem mlSw_29 : Cond.methodLink RSw 29 Lib.Math.min.name ∈ cALL := List.mem_of_getElem? (i := 535) rfl
set_option maxRecDepth 100000 in
theorem msMath_min : Cond.static Lib.Math.min.name ∈ cALL := List.mem_of_getElem? (i := 536) rfl
set_option maxRecDepth 100000 in
theorem mcMath_min : Cond.code Lib.Math.min.name Lib.Math.min.code 2 (some .int) ∈ cALL := List.mem_of_getElem? (i := 537) rfl
set_option maxRecDepth 100000 in
theorem mlSw_35 : Cond.methodLink RSw 35 yBo_allows ∈ cALL := List.mem_of_getElem? (i := 538) rfl
set_option maxRecDepth 100000 in
theorem ma_cALL_long : Cond.arrayClass .long ∈ cALL := List.mem_of_getElem? (i := 539) rfl
theorem gV_cALL {cw cw' : Cond} {own C : String} {idx : Nat} {y : MethodName} (h1 : Cond.methodLink own idx y ∈ cALL) (h2 : Cond.instanceMethod y ∈ cALL) (h3 : Cond.selects C y y ∈ cALL) (h4 : Cond.initialized C ∈ cALL) (h5 : cw' ∈ cALL) : GoodIn (cw :: cALL) (wsV own idx C y (cw' :: cALL)) := by
  intro w hw
  have hm : w ∈ cALL := by
    unfold wsV at hw
    simp only [List.cons_append, List.nil_append, List.mem_cons] at hw
    rcases hw with rfl | rfl | rfl | rfl | rfl | hw
    · exact h1
    · exact h2
    · exact h3
    · exact h4
    · exact h5
    · exact hw
  exact ⟨List.mem_cons_of_mem _ hm, cALL_good w hm⟩
theorem gS_cALL {cw cw' : Cond} {own : String} {idx : Nat} {y : MethodName} (h1 : Cond.methodLink own idx y ∈ cALL) (h2 : Cond.static y ∈ cALL) (h4 : Cond.initialized y.cls ∈ cALL) (h5 : cw' ∈ cALL) : GoodIn (cw :: cALL) (va_wsS own idx y (cw' :: cALL)) := by
  intro w hw
  have hm : w ∈ cALL := by
    unfold va_wsS at hw
    simp only [List.cons_append, List.nil_append, List.mem_cons] at hw
    rcases hw with rfl | rfl | rfl | rfl | hw
    · exact h1
    · exact h2
    · exact h4
    · exact h5
    · exact hw
  exact ⟨List.mem_cons_of_mem _ hm, cALL_good w hm⟩
