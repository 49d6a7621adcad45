-- ===== PART A: goes FIRST, ahead of the names: the tables' words, and 'selects' of the private methods out of them =====
/-- a private method of a class that the tables say can be made, by its rows of tables_1 -/
def lw_okq (q : MethodName × Nat) : Prop := (q.1.cls ≠ "java/lang/invoke/MethodHandle" ∧ q.1.cls ≠ "java/lang/invoke/VarHandle") ∧ Cond.instantiable q.1.cls q.2 ∈ tables_1 ∧ Cond.privateMethod q.1 ∈ tables_1 ∧ Cond.instanceMethod q.1 ∈ tables_1
theorem lw_p0 : lw_okq (⟨"DesignSpaces$Front", "findHeads", "()V"⟩, 6) := ⟨⟨by decide +kernel, by decide +kernel⟩, List.mem_of_getElem? (i := 120) (by decide +kernel), List.mem_of_getElem? (i := 250) (by decide +kernel), List.mem_of_getElem? (i := 251) (by decide +kernel)⟩
theorem lw_p1 : lw_okq (⟨"DesignSpaces$Front", "headFor", "(I)I"⟩, 6) := ⟨⟨by decide +kernel, by decide +kernel⟩, List.mem_of_getElem? (i := 120) (by decide +kernel), List.mem_of_getElem? (i := 262) (by decide +kernel), List.mem_of_getElem? (i := 263) (by decide +kernel)⟩
theorem lw_p2 : lw_okq (⟨"DesignSpaces$Front", "dropBeatenBy", "(I)V"⟩, 6) := ⟨⟨by decide +kernel, by decide +kernel⟩, List.mem_of_getElem? (i := 120) (by decide +kernel), List.mem_of_getElem? (i := 270) (by decide +kernel), List.mem_of_getElem? (i := 271) (by decide +kernel)⟩
theorem lw_p3 : lw_okq (⟨"DesignSpaces$Front", "collectMembers", "()V"⟩, 6) := ⟨⟨by decide +kernel, by decide +kernel⟩, List.mem_of_getElem? (i := 120) (by decide +kernel), List.mem_of_getElem? (i := 274) (by decide +kernel), List.mem_of_getElem? (i := 275) (by decide +kernel)⟩
theorem lw_p4 : lw_okq (⟨"java/lang/Throwable", "fillInStackTrace", "(I)Ljava/lang/Throwable;"⟩, 6) := ⟨⟨by decide +kernel, by decide +kernel⟩, List.mem_of_getElem? (i := 349) (by decide +kernel), List.mem_of_getElem? (i := 347) (by decide +kernel), List.mem_of_getElem? (i := 348) (by decide +kernel)⟩
theorem lw_p5 : lw_okq (⟨"DesignSpaces$Book", "copyEntries", "(II)V"⟩, 10) := ⟨⟨by decide +kernel, by decide +kernel⟩, List.mem_of_getElem? (i := 56) (by decide +kernel), List.mem_of_getElem? (i := 403) (by decide +kernel), List.mem_of_getElem? (i := 404) (by decide +kernel)⟩
theorem lw_p6 : lw_okq (⟨"DesignSpaces$Search", "isPassedBy", "(II)Z"⟩, 6) := ⟨⟨by decide +kernel, by decide +kernel⟩, List.mem_of_getElem? (i := 147) (by decide +kernel), List.mem_of_getElem? (i := 557) (by decide +kernel), List.mem_of_getElem? (i := 558) (by decide +kernel)⟩
theorem lw_p7 : lw_okq (⟨"DesignSpaces$Search", "keepRow", "(I)V"⟩, 6) := ⟨⟨by decide +kernel, by decide +kernel⟩, List.mem_of_getElem? (i := 147) (by decide +kernel), List.mem_of_getElem? (i := 582) (by decide +kernel), List.mem_of_getElem? (i := 583) (by decide +kernel)⟩
theorem lw_p8 : lw_okq (⟨"DesignSpaces$Search", "goBehind", "(I)I"⟩, 6) := ⟨⟨by decide +kernel, by decide +kernel⟩, List.mem_of_getElem? (i := 147) (by decide +kernel), List.mem_of_getElem? (i := 591) (by decide +kernel), List.mem_of_getElem? (i := 592) (by decide +kernel)⟩
theorem lw_p9 : lw_okq (⟨"DesignSpaces$Walker", "drawNear", "(I)I"⟩, 6) := ⟨⟨by decide +kernel, by decide +kernel⟩, List.mem_of_getElem? (i := 173) (by decide +kernel), List.mem_of_getElem? (i := 666) (by decide +kernel), List.mem_of_getElem? (i := 667) (by decide +kernel)⟩
theorem lw_p10 : lw_okq (⟨"DesignSpaces$Book", "differenceAlong", "(III)J"⟩, 10) := ⟨⟨by decide +kernel, by decide +kernel⟩, List.mem_of_getElem? (i := 56) (by decide +kernel), List.mem_of_getElem? (i := 689) (by decide +kernel), List.mem_of_getElem? (i := 690) (by decide +kernel)⟩
theorem lw_p11 : lw_okq (⟨"DesignSpacesModel", "fail", "(I)I"⟩, 29) := ⟨⟨by decide +kernel, by decide +kernel⟩, List.mem_of_getElem? (i := 717) (by decide +kernel), List.mem_of_getElem? (i := 823) (by decide +kernel), List.mem_of_getElem? (i := 824) (by decide +kernel)⟩
theorem lw_p12 : lw_okq (⟨"DesignSpacesModel", "isValue", "(II)Z"⟩, 29) := ⟨⟨by decide +kernel, by decide +kernel⟩, List.mem_of_getElem? (i := 717) (by decide +kernel), List.mem_of_getElem? (i := 831) (by decide +kernel), List.mem_of_getElem? (i := 832) (by decide +kernel)⟩
theorem lw_p13 : lw_okq (⟨"DesignSpacesModel", "isDesign", "(I)Z"⟩, 29) := ⟨⟨by decide +kernel, by decide +kernel⟩, List.mem_of_getElem? (i := 717) (by decide +kernel), List.mem_of_getElem? (i := 849) (by decide +kernel), List.mem_of_getElem? (i := 850) (by decide +kernel)⟩
theorem lw_p14 : lw_okq (⟨"DesignSpacesModel", "know", "()V"⟩, 29) := ⟨⟨by decide +kernel, by decide +kernel⟩, List.mem_of_getElem? (i := 717) (by decide +kernel), List.mem_of_getElem? (i := 853) (by decide +kernel), List.mem_of_getElem? (i := 854) (by decide +kernel)⟩
theorem lw_p15 : lw_okq (⟨"DesignSpacesModel", "open", "(II)V"⟩, 29) := ⟨⟨by decide +kernel, by decide +kernel⟩, List.mem_of_getElem? (i := 717) (by decide +kernel), List.mem_of_getElem? (i := 857) (by decide +kernel), List.mem_of_getElem? (i := 858) (by decide +kernel)⟩
def lw_privs_1 : List (MethodName × Nat) := [(⟨"DesignSpaces$Front", "findHeads", "()V"⟩, 6), (⟨"DesignSpaces$Front", "headFor", "(I)I"⟩, 6), (⟨"DesignSpaces$Front", "dropBeatenBy", "(I)V"⟩, 6), (⟨"DesignSpaces$Front", "collectMembers", "()V"⟩, 6), (⟨"java/lang/Throwable", "fillInStackTrace", "(I)Ljava/lang/Throwable;"⟩, 6), (⟨"DesignSpaces$Book", "copyEntries", "(II)V"⟩, 10), (⟨"DesignSpaces$Search", "isPassedBy", "(II)Z"⟩, 6), (⟨"DesignSpaces$Search", "keepRow", "(I)V"⟩, 6), (⟨"DesignSpaces$Search", "goBehind", "(I)I"⟩, 6), (⟨"DesignSpaces$Walker", "drawNear", "(I)I"⟩, 6), (⟨"DesignSpaces$Book", "differenceAlong", "(III)J"⟩, 10), (⟨"DesignSpacesModel", "fail", "(I)I"⟩, 29), (⟨"DesignSpacesModel", "isValue", "(II)Z"⟩, 29), (⟨"DesignSpacesModel", "isDesign", "(I)Z"⟩, 29), (⟨"DesignSpacesModel", "know", "()V"⟩, 29), (⟨"DesignSpacesModel", "open", "(II)V"⟩, 29)]
theorem lw_r1 : ∀ q ∈ lw_privs_1, lw_okq q := List.forall_mem_cons.mpr ⟨lw_p0, List.forall_mem_cons.mpr ⟨lw_p1, List.forall_mem_cons.mpr ⟨lw_p2, List.forall_mem_cons.mpr ⟨lw_p3, List.forall_mem_cons.mpr ⟨lw_p4, List.forall_mem_cons.mpr ⟨lw_p5, List.forall_mem_cons.mpr ⟨lw_p6, List.forall_mem_cons.mpr ⟨lw_p7, List.forall_mem_cons.mpr ⟨lw_p8, List.forall_mem_cons.mpr ⟨lw_p9, List.forall_mem_cons.mpr ⟨lw_p10, List.forall_mem_cons.mpr ⟨lw_p11, List.forall_mem_cons.mpr ⟨lw_p12, List.forall_mem_cons.mpr ⟨lw_p13, List.forall_mem_cons.mpr ⟨lw_p14, List.forall_mem_cons.mpr ⟨lw_p15, fun _ h => absurd h List.not_mem_nil⟩⟩⟩⟩⟩⟩⟩⟩⟩⟩⟩⟩⟩⟩⟩⟩
theorem lw_p16 : lw_okq (⟨"DesignSpacesModel", "isBarred", "()Z"⟩, 29) := ⟨⟨by decide +kernel, by decide +kernel⟩, List.mem_of_getElem? (i := 717) (by decide +kernel), List.mem_of_getElem? (i := 861) (by decide +kernel), List.mem_of_getElem? (i := 862) (by decide +kernel)⟩
theorem lw_p17 : lw_okq (⟨"DesignSpacesModel", "passesLimits", "()Z"⟩, 29) := ⟨⟨by decide +kernel, by decide +kernel⟩, List.mem_of_getElem? (i := 717) (by decide +kernel), List.mem_of_getElem? (i := 865) (by decide +kernel), List.mem_of_getElem? (i := 866) (by decide +kernel)⟩
theorem lw_p18 : lw_okq (⟨"DesignSpacesModel", "boundOf", "(I)I"⟩, 29) := ⟨⟨by decide +kernel, by decide +kernel⟩, List.mem_of_getElem? (i := 717) (by decide +kernel), List.mem_of_getElem? (i := 869) (by decide +kernel), List.mem_of_getElem? (i := 870) (by decide +kernel)⟩
theorem lw_p19 : lw_okq (⟨"DesignSpacesModel", "counts", "(I)I"⟩, 29) := ⟨⟨by decide +kernel, by decide +kernel⟩, List.mem_of_getElem? (i := 717) (by decide +kernel), List.mem_of_getElem? (i := 873) (by decide +kernel), List.mem_of_getElem? (i := 874) (by decide +kernel)⟩
theorem lw_p20 : lw_okq (⟨"DesignSpacesModel", "isBeaten", "(II)Z"⟩, 29) := ⟨⟨by decide +kernel, by decide +kernel⟩, List.mem_of_getElem? (i := 717) (by decide +kernel), List.mem_of_getElem? (i := 889) (by decide +kernel), List.mem_of_getElem? (i := 890) (by decide +kernel)⟩
theorem lw_p21 : lw_okq (⟨"DesignSpacesModel", "isUndominated", "(I)Z"⟩, 29) := ⟨⟨by decide +kernel, by decide +kernel⟩, List.mem_of_getElem? (i := 717) (by decide +kernel), List.mem_of_getElem? (i := 897) (by decide +kernel), List.mem_of_getElem? (i := 898) (by decide +kernel)⟩
theorem lw_p22 : lw_okq (⟨"DesignSpacesModel", "closed", "()I"⟩, 29) := ⟨⟨by decide +kernel, by decide +kernel⟩, List.mem_of_getElem? (i := 717) (by decide +kernel), List.mem_of_getElem? (i := 909) (by decide +kernel), List.mem_of_getElem? (i := 910) (by decide +kernel)⟩
theorem lw_p23 : lw_okq (⟨"DesignSpacesModel", "nextRow", "(I)I"⟩, 29) := ⟨⟨by decide +kernel, by decide +kernel⟩, List.mem_of_getElem? (i := 717) (by decide +kernel), List.mem_of_getElem? (i := 913) (by decide +kernel), List.mem_of_getElem? (i := 914) (by decide +kernel)⟩
theorem lw_p24 : lw_okq (⟨"DesignSpacesModel", "nears", "()I"⟩, 29) := ⟨⟨by decide +kernel, by decide +kernel⟩, List.mem_of_getElem? (i := 717) (by decide +kernel), List.mem_of_getElem? (i := 929) (by decide +kernel), List.mem_of_getElem? (i := 930) (by decide +kernel)⟩
theorem lw_p25 : lw_okq (⟨"DesignSpacesModel", "nearOf", "(II)I"⟩, 29) := ⟨⟨by decide +kernel, by decide +kernel⟩, List.mem_of_getElem? (i := 717) (by decide +kernel), List.mem_of_getElem? (i := 933) (by decide +kernel), List.mem_of_getElem? (i := 934) (by decide +kernel)⟩
theorem lw_p26 : lw_okq (⟨"DesignSpacesModel", "cost", "(I)J"⟩, 29) := ⟨⟨by decide +kernel, by decide +kernel⟩, List.mem_of_getElem? (i := 717) (by decide +kernel), List.mem_of_getElem? (i := 947) (by decide +kernel), List.mem_of_getElem? (i := 948) (by decide +kernel)⟩
def lw_privs_2 : List (MethodName × Nat) := [(⟨"DesignSpacesModel", "isBarred", "()Z"⟩, 29), (⟨"DesignSpacesModel", "passesLimits", "()Z"⟩, 29), (⟨"DesignSpacesModel", "boundOf", "(I)I"⟩, 29), (⟨"DesignSpacesModel", "counts", "(I)I"⟩, 29), (⟨"DesignSpacesModel", "isBeaten", "(II)Z"⟩, 29), (⟨"DesignSpacesModel", "isUndominated", "(I)Z"⟩, 29), (⟨"DesignSpacesModel", "closed", "()I"⟩, 29), (⟨"DesignSpacesModel", "nextRow", "(I)I"⟩, 29), (⟨"DesignSpacesModel", "nears", "()I"⟩, 29), (⟨"DesignSpacesModel", "nearOf", "(II)I"⟩, 29), (⟨"DesignSpacesModel", "cost", "(I)J"⟩, 29)]
theorem lw_r2 : ∀ q ∈ lw_privs_2, lw_okq q := List.forall_mem_cons.mpr ⟨lw_p16, List.forall_mem_cons.mpr ⟨lw_p17, List.forall_mem_cons.mpr ⟨lw_p18, List.forall_mem_cons.mpr ⟨lw_p19, List.forall_mem_cons.mpr ⟨lw_p20, List.forall_mem_cons.mpr ⟨lw_p21, List.forall_mem_cons.mpr ⟨lw_p22, List.forall_mem_cons.mpr ⟨lw_p23, List.forall_mem_cons.mpr ⟨lw_p24, List.forall_mem_cons.mpr ⟨lw_p25, List.forall_mem_cons.mpr ⟨lw_p26, fun _ h => absurd h List.not_mem_nil⟩⟩⟩⟩⟩⟩⟩⟩⟩⟩⟩
def lw_privs : List (MethodName × Nat) := lw_privs_1 ++ (lw_privs_2)
def lw_tbl : List Cond := k2_sels lw_privs ++ tables_1
theorem lw_privs_ok : ∀ q ∈ lw_privs, lw_okq q := by
  show ∀ q ∈ lw_privs_1 ++ (lw_privs_2), lw_okq q
  exact List.forall_mem_append.mpr ⟨lw_r1, lw_r2⟩
-- ===== end of PART A; then your names; then what follows =====
/-! ===== BEGIN words of one list among another's, by their places ===== -/
theorem goodIn_r {big : List Cond} (ws : List Cond) (ps : List Nat) (hp : ws = ps.filterMap (fun i => big[i]?)) (h : ws.all goodWord = true) : GoodIn big ws := by
  intro w hw
  have h1 := List.all_eq_true.mp h w hw
  rw [hp] at hw
  obtain ⟨i, -, hi⟩ := List.mem_filterMap.mp hw
  have hm : w ∈ big := by first | exact List.mem_of_getElem? hi | exact List.getElem?_mem hi
  exact ⟨hm, good_of_word h1⟩
theorem goodIn_app {big a b : List Cond} (ha : GoodIn big a) (hb : GoodIn big b) : GoodIn big (a ++ b) := fun w h => (List.mem_append.mp h).elim (ha w) (hb w)
theorem goodIn_ca {big a b : List Cond} {c : Cond} (ha : GoodIn big (c :: a)) (hb : GoodIn big b) : GoodIn big (c :: (a ++ b)) := fun w h => (List.mem_cons.mp h).elim (fun e => ha w (List.mem_cons.mpr (Or.inl e))) (fun h => (List.mem_append.mp h).elim (fun h => ha w (List.mem_cons.mpr (Or.inr h))) (hb w))
theorem goodIn_sub {big ws : List Cond} (hm : ∀ w ∈ ws, w ∈ big) (h : ws.all goodWord = true) : GoodIn big ws := fun w hw => ⟨hm w hw, good_of_word (List.all_eq_true.mp h w hw)⟩
/-! ===== END ===== -/
def RM : String := "DesignSpacesModel"
def TM : u_T := fun k => match k with
  | 0 => ("DesignSpacesModel", "thrown", "I", false)
  | 1 => ("DesignSpacesModel", "x", "I", false)
  | 2 => ("DesignSpacesModel", "choices", "I", false)
  | 3 => ("DesignSpacesModel", "terms", "I", false)
  | 4 => ("DesignSpacesModel", "rules", "I", false)
  | 5 => ("DesignSpacesModel", "designs", "I", false)
  | 6 => ("DesignSpacesModel", "values", "[I", true)
  | 7 => ("DesignSpacesModel", "termNumber", "[I", true)
  | 8 => ("DesignSpacesModel", "termA", "[I", true)
  | 9 => ("DesignSpacesModel", "termVa", "[I", true)
  | 10 => ("DesignSpacesModel", "termB", "[I", true)
  | 11 => ("DesignSpacesModel", "termVb", "[I", true)
  | 12 => ("DesignSpacesModel", "weight", "[I", true)
  | 13 => ("DesignSpacesModel", "ruleA", "[I", true)
  | 14 => ("DesignSpacesModel", "ruleVa", "[I", true)
  | 15 => ("DesignSpacesModel", "ruleB", "[I", true)
  | 16 => ("DesignSpacesModel", "ruleVb", "[I", true)
  | 17 => ("DesignSpacesModel", "hasLimit", "[Z", true)
  | 18 => ("DesignSpacesModel", "limit", "[I", true)
  | 19 => ("DesignSpacesModel", "row", "[I", true)
  | 20 => ("DesignSpacesModel", "looked", "I", false)
  | 21 => ("DesignSpacesModel", "slack", "I", false)
  | 22 => ("DesignSpacesModel", "lowest", "I", false)
  | 23 => ("DesignSpacesModel", "went", "I", false)
  | 24 => ("DesignSpacesModel", "place", "I", false)
  | 25 => ("DesignSpacesModel", "legalSwept", "I", false)
  | 26 => ("DesignSpacesModel", "isKnown", "Z", false)
  | 27 => ("DesignSpacesModel", "isLegal", "[Z", true)
  | _ => ("DesignSpacesModel", "numbers", "[I", true)
def tyM : Nat → FieldType := fun k => match k with
  | 0 => .int
  | 1 => .int
  | 2 => .int
  | 3 => .int
  | 4 => .int
  | 5 => .int
  | 6 => .array .int
  | 7 => .array .int
  | 8 => .array .int
  | 9 => .array .int
  | 10 => .array .int
  | 11 => .array .int
  | 12 => .array .int
  | 13 => .array .int
  | 14 => .array .int
  | 15 => .array .int
  | 16 => .array .int
  | 17 => .array .boolean
  | 18 => .array .int
  | 19 => .array .int
  | 20 => .int
  | 21 => .int
  | 22 => .int
  | 23 => .int
  | 24 => .int
  | 25 => .int
  | 26 => .boolean
  | 27 => .array .boolean
  | _ => .array .int
abbrev wsM0 : List Cond := u_ws RM TM 29
theorem nmM : ∀ a, a < 29 → ∀ b, b < 29 → a ≠ b → (TM a).2.1 ≠ (TM b).2.1 := by decide +kernel
theorem tyM_ok : ∀ k, k < 29 → parseFieldDescriptor (TM k).2.2.1 = some (tyM k) := by decide +kernel
def rALL : List Cond := [(Jvm.Cond.selects "DesignSpacesModel" ({ cls := "DesignSpacesModel", name := "fail", desc := "(I)I" } : Jvm.MethodName) ({ cls := "DesignSpacesModel", name := "fail", desc := "(I)I" } : Jvm.MethodName)), (Jvm.Cond.selects "DesignSpacesModel" ({ cls := "DesignSpacesModel", name := "isValue", desc := "(II)Z" } : Jvm.MethodName) ({ cls := "DesignSpacesModel", name := "isValue", desc := "(II)Z" } : Jvm.MethodName)), (Jvm.Cond.selects "DesignSpacesModel" ({ cls := "DesignSpacesModel", name := "isDesign", desc := "(I)Z" } : Jvm.MethodName) ({ cls := "DesignSpacesModel", name := "isDesign", desc := "(I)Z" } : Jvm.MethodName)), (Jvm.Cond.selects "DesignSpacesModel" ({ cls := "DesignSpacesModel", name := "know", desc := "()V" } : Jvm.MethodName) ({ cls := "DesignSpacesModel", name := "know", desc := "()V" } : Jvm.MethodName)), (Jvm.Cond.selects "DesignSpacesModel" ({ cls := "DesignSpacesModel", name := "open", desc := "(II)V" } : Jvm.MethodName) ({ cls := "DesignSpacesModel", name := "open", desc := "(II)V" } : Jvm.MethodName)), (Jvm.Cond.selects "DesignSpacesModel" ({ cls := "DesignSpacesModel", name := "isBarred", desc := "()Z" } : Jvm.MethodName) ({ cls := "DesignSpacesModel", name := "isBarred", desc := "()Z" } : Jvm.MethodName)), (Jvm.Cond.selects "DesignSpacesModel" ({ cls := "DesignSpacesModel", name := "passesLimits", desc := "()Z" } : Jvm.MethodName) ({ cls := "DesignSpacesModel", name := "passesLimits", desc := "()Z" } : Jvm.MethodName)), (Jvm.Cond.selects "DesignSpacesModel" ({ cls := "DesignSpacesModel", name := "boundOf", desc := "(I)I" } : Jvm.MethodName) ({ cls := "DesignSpacesModel", name := "boundOf", desc := "(I)I" } : Jvm.MethodName)), (Jvm.Cond.selects "DesignSpacesModel" ({ cls := "DesignSpacesModel", name := "counts", desc := "(I)I" } : Jvm.MethodName) ({ cls := "DesignSpacesModel", name := "counts", desc := "(I)I" } : Jvm.MethodName)), (Jvm.Cond.selects "DesignSpacesModel" ({ cls := "DesignSpacesModel", name := "isBeaten", desc := "(II)Z" } : Jvm.MethodName) ({ cls := "DesignSpacesModel", name := "isBeaten", desc := "(II)Z" } : Jvm.MethodName)), (Jvm.Cond.selects "DesignSpacesModel" ({ cls := "DesignSpacesModel", name := "isUndominated", desc := "(I)Z" } : Jvm.MethodName) ({ cls := "DesignSpacesModel", name := "isUndominated", desc := "(I)Z" } : Jvm.MethodName)), (Jvm.Cond.selects "DesignSpacesModel" ({ cls := "DesignSpacesModel", name := "closed", desc := "()I" } : Jvm.MethodName) ({ cls := "DesignSpacesModel", name := "closed", desc := "()I" } : Jvm.MethodName)), (Jvm.Cond.selects "DesignSpacesModel" ({ cls := "DesignSpacesModel", name := "nextRow", desc := "(I)I" } : Jvm.MethodName) ({ cls := "DesignSpacesModel", name := "nextRow", desc := "(I)I" } : Jvm.MethodName)), (Jvm.Cond.selects "DesignSpacesModel" ({ cls := "DesignSpacesModel", name := "nears", desc := "()I" } : Jvm.MethodName) ({ cls := "DesignSpacesModel", name := "nears", desc := "()I" } : Jvm.MethodName)), (Jvm.Cond.selects "DesignSpacesModel" ({ cls := "DesignSpacesModel", name := "nearOf", desc := "(II)I" } : Jvm.MethodName) ({ cls := "DesignSpacesModel", name := "nearOf", desc := "(II)I" } : Jvm.MethodName)), (Jvm.Cond.selects "DesignSpacesModel" ({ cls := "DesignSpacesModel", name := "cost", desc := "(I)J" } : Jvm.MethodName) ({ cls := "DesignSpacesModel", name := "cost", desc := "(I)J" } : Jvm.MethodName)), (Jvm.Cond.initialized "DesignSpacesModel"), (Jvm.Cond.instanceMethod ({ cls := "java/lang/Object", name := "<init>", desc := "()V" } : Jvm.MethodName)), (Jvm.Cond.code ({ cls := "java/lang/Object", name := "<init>", desc := "()V" } : Jvm.MethodName) object_method_1_code (1 : Nat) (Option.none : Option Jvm.ClassFile.FieldType)), (Jvm.Cond.arrayClass Jvm.ClassFile.FieldType.int), (Jvm.Cond.arrayClass Jvm.ClassFile.FieldType.boolean), (Jvm.Cond.instantiable "DesignSpacesModel" (29 : Nat)), (Jvm.Cond.instanceMethod ({ cls := "DesignSpacesModel", name := "<init>", desc := "(I)V" } : Jvm.MethodName)), (Jvm.Cond.code ({ cls := "DesignSpacesModel", name := "<init>", desc := "(I)V" } : Jvm.MethodName) prog_10_method_1_code (2 : Nat) (Option.none : Option Jvm.ClassFile.FieldType)), (Jvm.Cond.methodLink "DesignSpacesModel" (1 : Nat) ({ cls := "java/lang/Object", name := "<init>", desc := "()V" } : Jvm.MethodName)), (Jvm.Cond.constant "DesignSpacesModel" (66 : Nat) (2147483647 : Int32)), (Jvm.Cond.fieldLink "DesignSpacesModel" (70 : Nat) "DesignSpacesModel" "thrown" "I"), (Jvm.Cond.fieldLink "DesignSpacesModel" (67 : Nat) "DesignSpacesModel" "x" "I"), (Jvm.Cond.fieldLink "DesignSpacesModel" (81 : Nat) "DesignSpacesModel" "choices" "I"), (Jvm.Cond.fieldLink "DesignSpacesModel" (100 : Nat) "DesignSpacesModel" "terms" "I"), (Jvm.Cond.fieldLink "DesignSpacesModel" (103 : Nat) "DesignSpacesModel" "rules" "I"), (Jvm.Cond.fieldLink "DesignSpacesModel" (7 : Nat) "DesignSpacesModel" "designs" "I"), (Jvm.Cond.fieldLink "DesignSpacesModel" (13 : Nat) "DesignSpacesModel" "values" "[I"), (Jvm.Cond.fieldLink "DesignSpacesModel" (17 : Nat) "DesignSpacesModel" "termNumber" "[I"), (Jvm.Cond.fieldLink "DesignSpacesModel" (20 : Nat) "DesignSpacesModel" "termA" "[I"), (Jvm.Cond.fieldLink "DesignSpacesModel" (23 : Nat) "DesignSpacesModel" "termVa" "[I"), (Jvm.Cond.fieldLink "DesignSpacesModel" (26 : Nat) "DesignSpacesModel" "termB" "[I"), (Jvm.Cond.fieldLink "DesignSpacesModel" (29 : Nat) "DesignSpacesModel" "termVb" "[I"), (Jvm.Cond.fieldLink "DesignSpacesModel" (32 : Nat) "DesignSpacesModel" "weight" "[I"), (Jvm.Cond.fieldLink "DesignSpacesModel" (35 : Nat) "DesignSpacesModel" "ruleA" "[I"), (Jvm.Cond.fieldLink "DesignSpacesModel" (38 : Nat) "DesignSpacesModel" "ruleVa" "[I"), (Jvm.Cond.fieldLink "DesignSpacesModel" (41 : Nat) "DesignSpacesModel" "ruleB" "[I"), (Jvm.Cond.fieldLink "DesignSpacesModel" (44 : Nat) "DesignSpacesModel" "ruleVb" "[I"), (Jvm.Cond.fieldLink "DesignSpacesModel" (47 : Nat) "DesignSpacesModel" "hasLimit" "[Z"), (Jvm.Cond.fieldLink "DesignSpacesModel" (51 : Nat) "DesignSpacesModel" "limit" "[I"), (Jvm.Cond.fieldLink "DesignSpacesModel" (54 : Nat) "DesignSpacesModel" "row" "[I"), (Jvm.Cond.fieldLink "DesignSpacesModel" (136 : Nat) "DesignSpacesModel" "looked" "I"), (Jvm.Cond.fieldLink "DesignSpacesModel" (153 : Nat) "DesignSpacesModel" "slack" "I"), (Jvm.Cond.fieldLink "DesignSpacesModel" (57 : Nat) "DesignSpacesModel" "lowest" "I"), (Jvm.Cond.fieldLink "DesignSpacesModel" (156 : Nat) "DesignSpacesModel" "went" "I"), (Jvm.Cond.fieldLink "DesignSpacesModel" (84 : Nat) "DesignSpacesModel" "place" "I"), (Jvm.Cond.fieldLink "DesignSpacesModel" (87 : Nat) "DesignSpacesModel" "legalSwept" "I"), (Jvm.Cond.fieldLink "DesignSpacesModel" (90 : Nat) "DesignSpacesModel" "isKnown" "Z"), (Jvm.Cond.fieldLink "DesignSpacesModel" (60 : Nat) "DesignSpacesModel" "isLegal" "[Z"), (Jvm.Cond.fieldLink "DesignSpacesModel" (63 : Nat) "DesignSpacesModel" "numbers" "[I"), (Jvm.Cond.lays "DesignSpacesModel" "DesignSpacesModel" "thrown" "I"), (Jvm.Cond.lays "DesignSpacesModel" "DesignSpacesModel" "x" "I"), (Jvm.Cond.lays "DesignSpacesModel" "DesignSpacesModel" "choices" "I"), (Jvm.Cond.lays "DesignSpacesModel" "DesignSpacesModel" "terms" "I"), (Jvm.Cond.lays "DesignSpacesModel" "DesignSpacesModel" "rules" "I"), (Jvm.Cond.lays "DesignSpacesModel" "DesignSpacesModel" "designs" "I"), (Jvm.Cond.laysFinal "DesignSpacesModel" "DesignSpacesModel" "values" "[I"), (Jvm.Cond.laysFinal "DesignSpacesModel" "DesignSpacesModel" "termNumber" "[I"), (Jvm.Cond.laysFinal "DesignSpacesModel" "DesignSpacesModel" "termA" "[I"), (Jvm.Cond.laysFinal "DesignSpacesModel" "DesignSpacesModel" "termVa" "[I"), (Jvm.Cond.laysFinal "DesignSpacesModel" "DesignSpacesModel" "termB" "[I"), (Jvm.Cond.laysFinal "DesignSpacesModel" "DesignSpacesModel" "termVb" "[I"), (Jvm.Cond.laysFinal "DesignSpacesModel" "DesignSpacesModel" "weight" "[I"), (Jvm.Cond.laysFinal "DesignSpacesModel" "DesignSpacesModel" "ruleA" "[I"), (Jvm.Cond.laysFinal "DesignSpacesModel" "DesignSpacesModel" "ruleVa" "[I"), (Jvm.Cond.laysFinal "DesignSpacesModel" "DesignSpacesModel" "ruleB" "[I"), (Jvm.Cond.laysFinal "DesignSpacesModel" "DesignSpacesModel" "ruleVb" "[I"), (Jvm.Cond.laysFinal "DesignSpacesModel" "DesignSpacesModel" "hasLimit" "[Z"), (Jvm.Cond.laysFinal "DesignSpacesModel" "DesignSpacesModel" "limit" "[I"), (Jvm.Cond.laysFinal "DesignSpacesModel" "DesignSpacesModel" "row" "[I"), (Jvm.Cond.lays "DesignSpacesModel" "DesignSpacesModel" "looked" "I"), (Jvm.Cond.lays "DesignSpacesModel" "DesignSpacesModel" "slack" "I"), (Jvm.Cond.lays "DesignSpacesModel" "DesignSpacesModel" "lowest" "I"), (Jvm.Cond.lays "DesignSpacesModel" "DesignSpacesModel" "went" "I"), (Jvm.Cond.lays "DesignSpacesModel" "DesignSpacesModel" "place" "I"), (Jvm.Cond.lays "DesignSpacesModel" "DesignSpacesModel" "legalSwept" "I"), (Jvm.Cond.lays "DesignSpacesModel" "DesignSpacesModel" "isKnown" "Z"), (Jvm.Cond.laysFinal "DesignSpacesModel" "DesignSpacesModel" "isLegal" "[Z"), (Jvm.Cond.laysFinal "DesignSpacesModel" "DesignSpacesModel" "numbers" "[I"), (Jvm.Cond.instanceMethod ({ cls := "DesignSpacesModel", name := "thrown", desc := "()I" } : Jvm.MethodName)), (Jvm.Cond.selects "DesignSpacesModel" ({ cls := "DesignSpacesModel", name := "thrown", desc := "()I" } : Jvm.MethodName) ({ cls := "DesignSpacesModel", name := "thrown", desc := "()I" } : Jvm.MethodName)), (Jvm.Cond.code ({ cls := "DesignSpacesModel", name := "thrown", desc := "()I" } : Jvm.MethodName) prog_10_method_2_code (1 : Nat) (Option.some Jvm.ClassFile.FieldType.int)), (Jvm.Cond.instanceMethod ({ cls := "DesignSpacesModel", name := "choice", desc := "(I)I" } : Jvm.MethodName)), (Jvm.Cond.selects "DesignSpacesModel" ({ cls := "DesignSpacesModel", name := "choice", desc := "(I)I" } : Jvm.MethodName) ({ cls := "DesignSpacesModel", name := "choice", desc := "(I)I" } : Jvm.MethodName)), (Jvm.Cond.code ({ cls := "DesignSpacesModel", name := "choice", desc := "(I)I" } : Jvm.MethodName) prog_10_method_5_code (2 : Nat) (Option.some Jvm.ClassFile.FieldType.int)), (Jvm.Cond.methodLink "DesignSpacesModel" (73 : Nat) ({ cls := "DesignSpacesModel", name := "within", desc := "(III)Z" } : Jvm.MethodName)), (Jvm.Cond.static ({ cls := "DesignSpacesModel", name := "within", desc := "(III)Z" } : Jvm.MethodName)), (Jvm.Cond.code ({ cls := "DesignSpacesModel", name := "within", desc := "(III)Z" } : Jvm.MethodName) prog_10_method_4_code (3 : Nat) (Option.some Jvm.ClassFile.FieldType.boolean)), (Jvm.Cond.methodLink "DesignSpacesModel" (77 : Nat) ({ cls := "DesignSpacesModel", name := "fail", desc := "(I)I" } : Jvm.MethodName)), (Jvm.Cond.instanceMethod ({ cls := "DesignSpacesModel", name := "fail", desc := "(I)I" } : Jvm.MethodName)), (Jvm.Cond.code ({ cls := "DesignSpacesModel", name := "fail", desc := "(I)I" } : Jvm.MethodName) prog_10_method_3_code (2 : Nat) (Option.some Jvm.ClassFile.FieldType.int)), (Jvm.Cond.instanceMethod ({ cls := "DesignSpacesModel", name := "term", desc := "(IIIIII)I" } : Jvm.MethodName)), (Jvm.Cond.selects "DesignSpacesModel" ({ cls := "DesignSpacesModel", name := "term", desc := "(IIIIII)I" } : Jvm.MethodName) ({ cls := "DesignSpacesModel", name := "term", desc := "(IIIIII)I" } : Jvm.MethodName)), (Jvm.Cond.code ({ cls := "DesignSpacesModel", name := "term", desc := "(IIIIII)I" } : Jvm.MethodName) prog_10_method_7_code (7 : Nat) (Option.some Jvm.ClassFile.FieldType.int)), (Jvm.Cond.methodLink "DesignSpacesModel" (94 : Nat) ({ cls := "DesignSpacesModel", name := "isValue", desc := "(II)Z" } : Jvm.MethodName)), (Jvm.Cond.instanceMethod ({ cls := "DesignSpacesModel", name := "isValue", desc := "(II)Z" } : Jvm.MethodName)), (Jvm.Cond.code ({ cls := "DesignSpacesModel", name := "isValue", desc := "(II)Z" } : Jvm.MethodName) prog_10_method_6_code (3 : Nat) (Option.some Jvm.ClassFile.FieldType.boolean)), (Jvm.Cond.constant "DesignSpacesModel" (98 : Nat) (-1000000 : Int32)), (Jvm.Cond.constant "DesignSpacesModel" (99 : Nat) (1000000 : Int32)), (Jvm.Cond.instanceMethod ({ cls := "DesignSpacesModel", name := "rule", desc := "(IIII)I" } : Jvm.MethodName)), (Jvm.Cond.selects "DesignSpacesModel" ({ cls := "DesignSpacesModel", name := "rule", desc := "(IIII)I" } : Jvm.MethodName) ({ cls := "DesignSpacesModel", name := "rule", desc := "(IIII)I" } : Jvm.MethodName)), (Jvm.Cond.code ({ cls := "DesignSpacesModel", name := "rule", desc := "(IIII)I" } : Jvm.MethodName) prog_10_method_8_code (5 : Nat) (Option.some Jvm.ClassFile.FieldType.int)), (Jvm.Cond.instanceMethod ({ cls := "DesignSpacesModel", name := "limit", desc := "(IZI)Z" } : Jvm.MethodName)), (Jvm.Cond.selects "DesignSpacesModel" ({ cls := "DesignSpacesModel", name := "limit", desc := "(IZI)Z" } : Jvm.MethodName) ({ cls := "DesignSpacesModel", name := "limit", desc := "(IZI)Z" } : Jvm.MethodName)), (Jvm.Cond.code ({ cls := "DesignSpacesModel", name := "limit", desc := "(IZI)Z" } : Jvm.MethodName) prog_10_method_9_code (5 : Nat) (Option.some Jvm.ClassFile.FieldType.boolean)), (Jvm.Cond.instanceMethod ({ cls := "DesignSpacesModel", name := "number", desc := "(II)I" } : Jvm.MethodName)), (Jvm.Cond.selects "DesignSpacesModel" ({ cls := "DesignSpacesModel", name := "number", desc := "(II)I" } : Jvm.MethodName) ({ cls := "DesignSpacesModel", name := "number", desc := "(II)I" } : Jvm.MethodName)), (Jvm.Cond.code ({ cls := "DesignSpacesModel", name := "number", desc := "(II)I" } : Jvm.MethodName) prog_10_method_18_code (3 : Nat) (Option.some Jvm.ClassFile.FieldType.int)), (Jvm.Cond.methodLink "DesignSpacesModel" (123 : Nat) ({ cls := "DesignSpacesModel", name := "isDesign", desc := "(I)Z" } : Jvm.MethodName)), (Jvm.Cond.instanceMethod ({ cls := "DesignSpacesModel", name := "isDesign", desc := "(I)Z" } : Jvm.MethodName)), (Jvm.Cond.code ({ cls := "DesignSpacesModel", name := "isDesign", desc := "(I)Z" } : Jvm.MethodName) prog_10_method_16_code (2 : Nat) (Option.some Jvm.ClassFile.FieldType.boolean)), (Jvm.Cond.methodLink "DesignSpacesModel" (127 : Nat) ({ cls := "DesignSpacesModel", name := "know", desc := "()V" } : Jvm.MethodName)), (Jvm.Cond.instanceMethod ({ cls := "DesignSpacesModel", name := "know", desc := "()V" } : Jvm.MethodName)), (Jvm.Cond.code ({ cls := "DesignSpacesModel", name := "know", desc := "()V" } : Jvm.MethodName) prog_10_method_17_code (3 : Nat) (Option.none : Option Jvm.ClassFile.FieldType)), (Jvm.Cond.methodLink "DesignSpacesModel" (112 : Nat) ({ cls := "DesignSpacesModel", name := "open", desc := "(II)V" } : Jvm.MethodName)), (Jvm.Cond.instanceMethod ({ cls := "DesignSpacesModel", name := "open", desc := "(II)V" } : Jvm.MethodName)), (Jvm.Cond.code ({ cls := "DesignSpacesModel", name := "open", desc := "(II)V" } : Jvm.MethodName) prog_10_method_10_code (5 : Nat) (Option.none : Option Jvm.ClassFile.FieldType)), (Jvm.Cond.methodLink "DesignSpacesModel" (116 : Nat) ({ cls := "DesignSpacesModel", name := "isBarred", desc := "()Z" } : Jvm.MethodName)), (Jvm.Cond.instanceMethod ({ cls := "DesignSpacesModel", name := "isBarred", desc := "()Z" } : Jvm.MethodName)), (Jvm.Cond.code ({ cls := "DesignSpacesModel", name := "isBarred", desc := "()Z" } : Jvm.MethodName) prog_10_method_12_code (3 : Nat) (Option.some Jvm.ClassFile.FieldType.boolean)), (Jvm.Cond.methodLink "DesignSpacesModel" (120 : Nat) ({ cls := "DesignSpacesModel", name := "passesLimits", desc := "()Z" } : Jvm.MethodName)), (Jvm.Cond.instanceMethod ({ cls := "DesignSpacesModel", name := "passesLimits", desc := "()Z" } : Jvm.MethodName)), (Jvm.Cond.code ({ cls := "DesignSpacesModel", name := "passesLimits", desc := "()Z" } : Jvm.MethodName) prog_10_method_15_code (3 : Nat) (Option.some Jvm.ClassFile.FieldType.boolean)), (Jvm.Cond.methodLink "DesignSpacesModel" (109 : Nat) ({ cls := "DesignSpacesModel", name := "boundOf", desc := "(I)I" } : Jvm.MethodName)), (Jvm.Cond.instanceMethod ({ cls := "DesignSpacesModel", name := "boundOf", desc := "(I)I" } : Jvm.MethodName)), (Jvm.Cond.code ({ cls := "DesignSpacesModel", name := "boundOf", desc := "(I)I" } : Jvm.MethodName) prog_10_method_14_code (5 : Nat) (Option.some Jvm.ClassFile.FieldType.int)), (Jvm.Cond.methodLink "DesignSpacesModel" (106 : Nat) ({ cls := "DesignSpacesModel", name := "counts", desc := "(I)I" } : Jvm.MethodName)), (Jvm.Cond.instanceMethod ({ cls := "DesignSpacesModel", name := "counts", desc := "(I)I" } : Jvm.MethodName)), (Jvm.Cond.code ({ cls := "DesignSpacesModel", name := "counts", desc := "(I)I" } : Jvm.MethodName) prog_10_method_13_code (5 : Nat) (Option.some Jvm.ClassFile.FieldType.int)), (Jvm.Cond.instanceMethod ({ cls := "DesignSpacesModel", name := "value", desc := "(II)I" } : Jvm.MethodName)), (Jvm.Cond.selects "DesignSpacesModel" ({ cls := "DesignSpacesModel", name := "value", desc := "(II)I" } : Jvm.MethodName) ({ cls := "DesignSpacesModel", name := "value", desc := "(II)I" } : Jvm.MethodName)), (Jvm.Cond.code ({ cls := "DesignSpacesModel", name := "value", desc := "(II)I" } : Jvm.MethodName) prog_10_method_19_code (3 : Nat) (Option.some Jvm.ClassFile.FieldType.int)), (Jvm.Cond.instanceMethod ({ cls := "DesignSpacesModel", name := "legal", desc := "(I)Z" } : Jvm.MethodName)), (Jvm.Cond.selects "DesignSpacesModel" ({ cls := "DesignSpacesModel", name := "legal", desc := "(I)Z" } : Jvm.MethodName) ({ cls := "DesignSpacesModel", name := "legal", desc := "(I)Z" } : Jvm.MethodName)), (Jvm.Cond.code ({ cls := "DesignSpacesModel", name := "legal", desc := "(I)Z" } : Jvm.MethodName) prog_10_method_20_code (2 : Nat) (Option.some Jvm.ClassFile.FieldType.boolean)), (Jvm.Cond.instanceMethod ({ cls := "DesignSpacesModel", name := "beats", desc := "(II)Z" } : Jvm.MethodName)), (Jvm.Cond.selects "DesignSpacesModel" ({ cls := "DesignSpacesModel", name := "beats", desc := "(II)Z" } : Jvm.MethodName) ({ cls := "DesignSpacesModel", name := "beats", desc := "(II)Z" } : Jvm.MethodName)), (Jvm.Cond.code ({ cls := "DesignSpacesModel", name := "beats", desc := "(II)Z" } : Jvm.MethodName) prog_10_method_22_code (3 : Nat) (Option.some Jvm.ClassFile.FieldType.boolean)), (Jvm.Cond.methodLink "DesignSpacesModel" (130 : Nat) ({ cls := "DesignSpacesModel", name := "isBeaten", desc := "(II)Z" } : Jvm.MethodName)), (Jvm.Cond.instanceMethod ({ cls := "DesignSpacesModel", name := "isBeaten", desc := "(II)Z" } : Jvm.MethodName)), (Jvm.Cond.code ({ cls := "DesignSpacesModel", name := "isBeaten", desc := "(II)Z" } : Jvm.MethodName) prog_10_method_21_code (6 : Nat) (Option.some Jvm.ClassFile.FieldType.boolean)), (Jvm.Cond.instanceMethod ({ cls := "DesignSpacesModel", name := "undominated", desc := "()I" } : Jvm.MethodName)), (Jvm.Cond.selects "DesignSpacesModel" ({ cls := "DesignSpacesModel", name := "undominated", desc := "()I" } : Jvm.MethodName) ({ cls := "DesignSpacesModel", name := "undominated", desc := "()I" } : Jvm.MethodName)), (Jvm.Cond.code ({ cls := "DesignSpacesModel", name := "undominated", desc := "()I" } : Jvm.MethodName) prog_10_method_24_code (3 : Nat) (Option.some Jvm.ClassFile.FieldType.int)), (Jvm.Cond.methodLink "DesignSpacesModel" (133 : Nat) ({ cls := "DesignSpacesModel", name := "isUndominated", desc := "(I)Z" } : Jvm.MethodName)), (Jvm.Cond.instanceMethod ({ cls := "DesignSpacesModel", name := "isUndominated", desc := "(I)Z" } : Jvm.MethodName)), (Jvm.Cond.code ({ cls := "DesignSpacesModel", name := "isUndominated", desc := "(I)Z" } : Jvm.MethodName) prog_10_method_23_code (3 : Nat) (Option.some Jvm.ClassFile.FieldType.boolean)), (Jvm.Cond.instanceMethod ({ cls := "DesignSpacesModel", name := "at", desc := "(I)I" } : Jvm.MethodName)), (Jvm.Cond.selects "DesignSpacesModel" ({ cls := "DesignSpacesModel", name := "at", desc := "(I)I" } : Jvm.MethodName) ({ cls := "DesignSpacesModel", name := "at", desc := "(I)I" } : Jvm.MethodName)), (Jvm.Cond.code ({ cls := "DesignSpacesModel", name := "at", desc := "(I)I" } : Jvm.MethodName) prog_10_method_25_code (4 : Nat) (Option.some Jvm.ClassFile.FieldType.int)), (Jvm.Cond.instanceMethod ({ cls := "DesignSpacesModel", name := "best", desc := "(I)I" } : Jvm.MethodName)), (Jvm.Cond.selects "DesignSpacesModel" ({ cls := "DesignSpacesModel", name := "best", desc := "(I)I" } : Jvm.MethodName) ({ cls := "DesignSpacesModel", name := "best", desc := "(I)I" } : Jvm.MethodName)), (Jvm.Cond.code ({ cls := "DesignSpacesModel", name := "best", desc := "(I)I" } : Jvm.MethodName) prog_10_method_27_code (6 : Nat) (Option.some Jvm.ClassFile.FieldType.int)), (Jvm.Cond.methodLink "DesignSpacesModel" (139 : Nat) ({ cls := "DesignSpacesModel", name := "closed", desc := "()I" } : Jvm.MethodName)), (Jvm.Cond.instanceMethod ({ cls := "DesignSpacesModel", name := "closed", desc := "()I" } : Jvm.MethodName)), (Jvm.Cond.code ({ cls := "DesignSpacesModel", name := "closed", desc := "()I" } : Jvm.MethodName) prog_10_method_11_code (3 : Nat) (Option.some Jvm.ClassFile.FieldType.int)), (Jvm.Cond.methodLink "DesignSpacesModel" (143 : Nat) ({ cls := "DesignSpacesModel", name := "nextRow", desc := "(I)I" } : Jvm.MethodName)), (Jvm.Cond.instanceMethod ({ cls := "DesignSpacesModel", name := "nextRow", desc := "(I)I" } : Jvm.MethodName)), (Jvm.Cond.code ({ cls := "DesignSpacesModel", name := "nextRow", desc := "(I)I" } : Jvm.MethodName) prog_10_method_26_code (3 : Nat) (Option.some Jvm.ClassFile.FieldType.int)), (Jvm.Cond.instanceMethod ({ cls := "DesignSpacesModel", name := "looked", desc := "()I" } : Jvm.MethodName)), (Jvm.Cond.selects "DesignSpacesModel" ({ cls := "DesignSpacesModel", name := "looked", desc := "()I" } : Jvm.MethodName) ({ cls := "DesignSpacesModel", name := "looked", desc := "()I" } : Jvm.MethodName)), (Jvm.Cond.code ({ cls := "DesignSpacesModel", name := "looked", desc := "()I" } : Jvm.MethodName) prog_10_method_28_code (1 : Nat) (Option.some Jvm.ClassFile.FieldType.int)), (Jvm.Cond.instanceMethod ({ cls := "DesignSpacesModel", name := "bound", desc := "(III)I" } : Jvm.MethodName)), (Jvm.Cond.selects "DesignSpacesModel" ({ cls := "DesignSpacesModel", name := "bound", desc := "(III)I" } : Jvm.MethodName) ({ cls := "DesignSpacesModel", name := "bound", desc := "(III)I" } : Jvm.MethodName)), (Jvm.Cond.code ({ cls := "DesignSpacesModel", name := "bound", desc := "(III)I" } : Jvm.MethodName) prog_10_method_29_code (4 : Nat) (Option.some Jvm.ClassFile.FieldType.int)), (Jvm.Cond.instanceMethod ({ cls := "DesignSpacesModel", name := "near", desc := "(II)I" } : Jvm.MethodName)), (Jvm.Cond.selects "DesignSpacesModel" ({ cls := "DesignSpacesModel", name := "near", desc := "(II)I" } : Jvm.MethodName) ({ cls := "DesignSpacesModel", name := "near", desc := "(II)I" } : Jvm.MethodName)), (Jvm.Cond.code ({ cls := "DesignSpacesModel", name := "near", desc := "(II)I" } : Jvm.MethodName) prog_10_method_32_code (3 : Nat) (Option.some Jvm.ClassFile.FieldType.int)), (Jvm.Cond.methodLink "DesignSpacesModel" (146 : Nat) ({ cls := "DesignSpacesModel", name := "nears", desc := "()I" } : Jvm.MethodName)), (Jvm.Cond.instanceMethod ({ cls := "DesignSpacesModel", name := "nears", desc := "()I" } : Jvm.MethodName)), (Jvm.Cond.code ({ cls := "DesignSpacesModel", name := "nears", desc := "()I" } : Jvm.MethodName) prog_10_method_30_code (3 : Nat) (Option.some Jvm.ClassFile.FieldType.int)), (Jvm.Cond.methodLink "DesignSpacesModel" (149 : Nat) ({ cls := "DesignSpacesModel", name := "nearOf", desc := "(II)I" } : Jvm.MethodName)), (Jvm.Cond.instanceMethod ({ cls := "DesignSpacesModel", name := "nearOf", desc := "(II)I" } : Jvm.MethodName)), (Jvm.Cond.code ({ cls := "DesignSpacesModel", name := "nearOf", desc := "(II)I" } : Jvm.MethodName) prog_10_method_31_code (6 : Nat) (Option.some Jvm.ClassFile.FieldType.int)), (Jvm.Cond.instanceMethod ({ cls := "DesignSpacesModel", name := "slack", desc := "(I)I" } : Jvm.MethodName)), (Jvm.Cond.selects "DesignSpacesModel" ({ cls := "DesignSpacesModel", name := "slack", desc := "(I)I" } : Jvm.MethodName) ({ cls := "DesignSpacesModel", name := "slack", desc := "(I)I" } : Jvm.MethodName)), (Jvm.Cond.code ({ cls := "DesignSpacesModel", name := "slack", desc := "(I)I" } : Jvm.MethodName) prog_10_method_33_code (3 : Nat) (Option.some Jvm.ClassFile.FieldType.int)), (Jvm.Cond.instanceMethod ({ cls := "DesignSpacesModel", name := "walk", desc := "(II)I" } : Jvm.MethodName)), (Jvm.Cond.selects "DesignSpacesModel" ({ cls := "DesignSpacesModel", name := "walk", desc := "(II)I" } : Jvm.MethodName) ({ cls := "DesignSpacesModel", name := "walk", desc := "(II)I" } : Jvm.MethodName)), (Jvm.Cond.code ({ cls := "DesignSpacesModel", name := "walk", desc := "(II)I" } : Jvm.MethodName) prog_10_method_35_code (6 : Nat) (Option.some Jvm.ClassFile.FieldType.int)), (Jvm.Cond.constant "DesignSpacesModel" (159 : Nat) (1103515245 : Int32)), (Jvm.Cond.constant "DesignSpacesModel" (160 : Nat) (65536 : Int32)), (Jvm.Cond.methodLink "DesignSpacesModel" (161 : Nat) ({ cls := "DesignSpacesModel", name := "cost", desc := "(I)J" } : Jvm.MethodName)), (Jvm.Cond.instanceMethod ({ cls := "DesignSpacesModel", name := "cost", desc := "(I)J" } : Jvm.MethodName)), (Jvm.Cond.code ({ cls := "DesignSpacesModel", name := "cost", desc := "(I)J" } : Jvm.MethodName) prog_10_method_34_code (2 : Nat) (Option.some Jvm.ClassFile.FieldType.long)), (Jvm.Cond.instanceMethod ({ cls := "DesignSpacesModel", name := "lowest", desc := "()I" } : Jvm.MethodName)), (Jvm.Cond.selects "DesignSpacesModel" ({ cls := "DesignSpacesModel", name := "lowest", desc := "()I" } : Jvm.MethodName) ({ cls := "DesignSpacesModel", name := "lowest", desc := "()I" } : Jvm.MethodName)), (Jvm.Cond.code ({ cls := "DesignSpacesModel", name := "lowest", desc := "()I" } : Jvm.MethodName) prog_10_method_36_code (1 : Nat) (Option.some Jvm.ClassFile.FieldType.int)), (Jvm.Cond.instanceMethod ({ cls := "DesignSpacesModel", name := "matters", desc := "(II)J" } : Jvm.MethodName)), (Jvm.Cond.selects "DesignSpacesModel" ({ cls := "DesignSpacesModel", name := "matters", desc := "(II)J" } : Jvm.MethodName) ({ cls := "DesignSpacesModel", name := "matters", desc := "(II)J" } : Jvm.MethodName)), (Jvm.Cond.code ({ cls := "DesignSpacesModel", name := "matters", desc := "(II)J" } : Jvm.MethodName) prog_10_method_37_code (10 : Nat) (Option.some Jvm.ClassFile.FieldType.long)), (Jvm.Cond.instanceMethod ({ cls := "DesignSpacesModel", name := "sweep", desc := "(I)I" } : Jvm.MethodName)), (Jvm.Cond.selects "DesignSpacesModel" ({ cls := "DesignSpacesModel", name := "sweep", desc := "(I)I" } : Jvm.MethodName) ({ cls := "DesignSpacesModel", name := "sweep", desc := "(I)I" } : Jvm.MethodName)), (Jvm.Cond.code ({ cls := "DesignSpacesModel", name := "sweep", desc := "(I)I" } : Jvm.MethodName) prog_10_method_38_code (4 : Nat) (Option.some Jvm.ClassFile.FieldType.int)), (Jvm.Cond.instanceMethod ({ cls := "DesignSpacesModel", name := "count", desc := "(I)I" } : Jvm.MethodName)), (Jvm.Cond.selects "DesignSpacesModel" ({ cls := "DesignSpacesModel", name := "count", desc := "(I)I" } : Jvm.MethodName) ({ cls := "DesignSpacesModel", name := "count", desc := "(I)I" } : Jvm.MethodName)), (Jvm.Cond.code ({ cls := "DesignSpacesModel", name := "count", desc := "(I)I" } : Jvm.MethodName) prog_10_method_39_code (4 : Nat) (Option.some Jvm.ClassFile.FieldType.int))]
set_option maxRecDepth 100000 in
theorem rALL_good : ∀ w ∈ rALL, ((w.onTables && w.keeps) = true ∨ ∃ ty, w = Cond.arrayClass ty) := fun w hw => good_of_word (List.all_eq_true.mp (show rALL.all goodWord = true by decide +kernel) w hw)
set_option maxRecDepth 100000 in
theorem inM_all : ∀ w ∈ wsM0, w ∈ rALL := by decide +kernel
abbrev cM_init : ByteArray := prog_10_method_1_code
def yM_init : MethodName := ⟨RM, "<init>", "(I)V"⟩
def wsM_init : List Cond := .code yM_init cM_init 2 (Option.none : Option Jvm.ClassFile.FieldType) :: rALL
theorem mcM_init : Cond.code yM_init cM_init 2 (Option.none : Option Jvm.ClassFile.FieldType) ∈ rALL := List.mem_of_getElem? (i := 23) rfl
abbrev cM_thrown : ByteArray := prog_10_method_2_code
def yM_thrown : MethodName := ⟨RM, "thrown", "()I"⟩
def wsM_thrown : List Cond := .code yM_thrown cM_thrown 1 (Option.some Jvm.ClassFile.FieldType.int) :: rALL
theorem mcM_thrown : Cond.code yM_thrown cM_thrown 1 (Option.some Jvm.ClassFile.FieldType.int) ∈ rALL := List.mem_of_getElem? (i := 86) rfl
abbrev cM_fail : ByteArray := prog_10_method_3_code
def yM_fail : MethodName := ⟨RM, "fail", "(I)I"⟩
def wsM_fail : List Cond := .code yM_fail cM_fail 2 (Option.some Jvm.ClassFile.FieldType.int) :: rALL
theorem mcM_fail : Cond.code yM_fail cM_fail 2 (Option.some Jvm.ClassFile.FieldType.int) ∈ rALL := List.mem_of_getElem? (i := 95) rfl
abbrev cM_within : ByteArray := prog_10_method_4_code
def yM_within : MethodName := ⟨RM, "within", "(III)Z"⟩
def wsM_within : List Cond := .code yM_within cM_within 3 (Option.some Jvm.ClassFile.FieldType.boolean) :: rALL
theorem mcM_within : Cond.code yM_within cM_within 3 (Option.some Jvm.ClassFile.FieldType.boolean) ∈ rALL := List.mem_of_getElem? (i := 92) rfl
abbrev cM_choice : ByteArray := prog_10_method_5_code
def yM_choice : MethodName := ⟨RM, "choice", "(I)I"⟩
def wsM_choice : List Cond := .code yM_choice cM_choice 2 (Option.some Jvm.ClassFile.FieldType.int) :: rALL
theorem mcM_choice : Cond.code yM_choice cM_choice 2 (Option.some Jvm.ClassFile.FieldType.int) ∈ rALL := List.mem_of_getElem? (i := 89) rfl
abbrev cM_isValue : ByteArray := prog_10_method_6_code
def yM_isValue : MethodName := ⟨RM, "isValue", "(II)Z"⟩
def wsM_isValue : List Cond := .code yM_isValue cM_isValue 3 (Option.some Jvm.ClassFile.FieldType.boolean) :: rALL
theorem mcM_isValue : Cond.code yM_isValue cM_isValue 3 (Option.some Jvm.ClassFile.FieldType.boolean) ∈ rALL := List.mem_of_getElem? (i := 101) rfl
abbrev cM_term : ByteArray := prog_10_method_7_code
def yM_term : MethodName := ⟨RM, "term", "(IIIIII)I"⟩
def wsM_term : List Cond := .code yM_term cM_term 7 (Option.some Jvm.ClassFile.FieldType.int) :: rALL
theorem mcM_term : Cond.code yM_term cM_term 7 (Option.some Jvm.ClassFile.FieldType.int) ∈ rALL := List.mem_of_getElem? (i := 98) rfl
abbrev cM_rule : ByteArray := prog_10_method_8_code
def yM_rule : MethodName := ⟨RM, "rule", "(IIII)I"⟩
def wsM_rule : List Cond := .code yM_rule cM_rule 5 (Option.some Jvm.ClassFile.FieldType.int) :: rALL
theorem mcM_rule : Cond.code yM_rule cM_rule 5 (Option.some Jvm.ClassFile.FieldType.int) ∈ rALL := List.mem_of_getElem? (i := 106) rfl
abbrev cM_limit : ByteArray := prog_10_method_9_code
def yM_limit : MethodName := ⟨RM, "limit", "(IZI)Z"⟩
def wsM_limit : List Cond := .code yM_limit cM_limit 5 (Option.some Jvm.ClassFile.FieldType.boolean) :: rALL
theorem mcM_limit : Cond.code yM_limit cM_limit 5 (Option.some Jvm.ClassFile.FieldType.boolean) ∈ rALL := List.mem_of_getElem? (i := 109) rfl
abbrev cM_open : ByteArray := prog_10_method_10_code
def yM_open : MethodName := ⟨RM, "open", "(II)V"⟩
def wsM_open : List Cond := .code yM_open cM_open 5 (Option.none : Option Jvm.ClassFile.FieldType) :: rALL
theorem mcM_open : Cond.code yM_open cM_open 5 (Option.none : Option Jvm.ClassFile.FieldType) ∈ rALL := List.mem_of_getElem? (i := 121) rfl
abbrev cM_closed : ByteArray := prog_10_method_11_code
def yM_closed : MethodName := ⟨RM, "closed", "()I"⟩
def wsM_closed : List Cond := .code yM_closed cM_closed 3 (Option.some Jvm.ClassFile.FieldType.int) :: rALL
theorem mcM_closed : Cond.code yM_closed cM_closed 3 (Option.some Jvm.ClassFile.FieldType.int) ∈ rALL := List.mem_of_getElem? (i := 160) rfl
abbrev cM_isBarred : ByteArray := prog_10_method_12_code
def yM_isBarred : MethodName := ⟨RM, "isBarred", "()Z"⟩
def wsM_isBarred : List Cond := .code yM_isBarred cM_isBarred 3 (Option.some Jvm.ClassFile.FieldType.boolean) :: rALL
theorem mcM_isBarred : Cond.code yM_isBarred cM_isBarred 3 (Option.some Jvm.ClassFile.FieldType.boolean) ∈ rALL := List.mem_of_getElem? (i := 124) rfl
abbrev cM_counts : ByteArray := prog_10_method_13_code
def yM_counts : MethodName := ⟨RM, "counts", "(I)I"⟩
def wsM_counts : List Cond := .code yM_counts cM_counts 5 (Option.some Jvm.ClassFile.FieldType.int) :: rALL
theorem mcM_counts : Cond.code yM_counts cM_counts 5 (Option.some Jvm.ClassFile.FieldType.int) ∈ rALL := List.mem_of_getElem? (i := 133) rfl
abbrev cM_boundOf : ByteArray := prog_10_method_14_code
def yM_boundOf : MethodName := ⟨RM, "boundOf", "(I)I"⟩
def wsM_boundOf : List Cond := .code yM_boundOf cM_boundOf 5 (Option.some Jvm.ClassFile.FieldType.int) :: rALL
theorem mcM_boundOf : Cond.code yM_boundOf cM_boundOf 5 (Option.some Jvm.ClassFile.FieldType.int) ∈ rALL := List.mem_of_getElem? (i := 130) rfl
abbrev cM_passesLimits : ByteArray := prog_10_method_15_code
def yM_passesLimits : MethodName := ⟨RM, "passesLimits", "()Z"⟩
def wsM_passesLimits : List Cond := .code yM_passesLimits cM_passesLimits 3 (Option.some Jvm.ClassFile.FieldType.boolean) :: rALL
theorem mcM_passesLimits : Cond.code yM_passesLimits cM_passesLimits 3 (Option.some Jvm.ClassFile.FieldType.boolean) ∈ rALL := List.mem_of_getElem? (i := 127) rfl
abbrev cM_isDesign : ByteArray := prog_10_method_16_code
def yM_isDesign : MethodName := ⟨RM, "isDesign", "(I)Z"⟩
def wsM_isDesign : List Cond := .code yM_isDesign cM_isDesign 2 (Option.some Jvm.ClassFile.FieldType.boolean) :: rALL
theorem mcM_isDesign : Cond.code yM_isDesign cM_isDesign 2 (Option.some Jvm.ClassFile.FieldType.boolean) ∈ rALL := List.mem_of_getElem? (i := 115) rfl
abbrev cM_know : ByteArray := prog_10_method_17_code
def yM_know : MethodName := ⟨RM, "know", "()V"⟩
def wsM_know : List Cond := .code yM_know cM_know 3 (Option.none : Option Jvm.ClassFile.FieldType) :: rALL
theorem mcM_know : Cond.code yM_know cM_know 3 (Option.none : Option Jvm.ClassFile.FieldType) ∈ rALL := List.mem_of_getElem? (i := 118) rfl
abbrev cM_number : ByteArray := prog_10_method_18_code
def yM_number : MethodName := ⟨RM, "number", "(II)I"⟩
def wsM_number : List Cond := .code yM_number cM_number 3 (Option.some Jvm.ClassFile.FieldType.int) :: rALL
theorem mcM_number : Cond.code yM_number cM_number 3 (Option.some Jvm.ClassFile.FieldType.int) ∈ rALL := List.mem_of_getElem? (i := 112) rfl
abbrev cM_value : ByteArray := prog_10_method_19_code
def yM_value : MethodName := ⟨RM, "value", "(II)I"⟩
def wsM_value : List Cond := .code yM_value cM_value 3 (Option.some Jvm.ClassFile.FieldType.int) :: rALL
theorem mcM_value : Cond.code yM_value cM_value 3 (Option.some Jvm.ClassFile.FieldType.int) ∈ rALL := List.mem_of_getElem? (i := 136) rfl
abbrev cM_legal : ByteArray := prog_10_method_20_code
def yM_legal : MethodName := ⟨RM, "legal", "(I)Z"⟩
def wsM_legal : List Cond := .code yM_legal cM_legal 2 (Option.some Jvm.ClassFile.FieldType.boolean) :: rALL
theorem mcM_legal : Cond.code yM_legal cM_legal 2 (Option.some Jvm.ClassFile.FieldType.boolean) ∈ rALL := List.mem_of_getElem? (i := 139) rfl
abbrev cM_isBeaten : ByteArray := prog_10_method_21_code
def yM_isBeaten : MethodName := ⟨RM, "isBeaten", "(II)Z"⟩
def wsM_isBeaten : List Cond := .code yM_isBeaten cM_isBeaten 6 (Option.some Jvm.ClassFile.FieldType.boolean) :: rALL
theorem mcM_isBeaten : Cond.code yM_isBeaten cM_isBeaten 6 (Option.some Jvm.ClassFile.FieldType.boolean) ∈ rALL := List.mem_of_getElem? (i := 145) rfl
abbrev cM_beats : ByteArray := prog_10_method_22_code
def yM_beats : MethodName := ⟨RM, "beats", "(II)Z"⟩
def wsM_beats : List Cond := .code yM_beats cM_beats 3 (Option.some Jvm.ClassFile.FieldType.boolean) :: rALL
theorem mcM_beats : Cond.code yM_beats cM_beats 3 (Option.some Jvm.ClassFile.FieldType.boolean) ∈ rALL := List.mem_of_getElem? (i := 142) rfl
abbrev cM_isUndominated : ByteArray := prog_10_method_23_code
def yM_isUndominated : MethodName := ⟨RM, "isUndominated", "(I)Z"⟩
def wsM_isUndominated : List Cond := .code yM_isUndominated cM_isUndominated 3 (Option.some Jvm.ClassFile.FieldType.boolean) :: rALL
theorem mcM_isUndominated : Cond.code yM_isUndominated cM_isUndominated 3 (Option.some Jvm.ClassFile.FieldType.boolean) ∈ rALL := List.mem_of_getElem? (i := 151) rfl
abbrev cM_undominated : ByteArray := prog_10_method_24_code
def yM_undominated : MethodName := ⟨RM, "undominated", "()I"⟩
def wsM_undominated : List Cond := .code yM_undominated cM_undominated 3 (Option.some Jvm.ClassFile.FieldType.int) :: rALL
theorem mcM_undominated : Cond.code yM_undominated cM_undominated 3 (Option.some Jvm.ClassFile.FieldType.int) ∈ rALL := List.mem_of_getElem? (i := 148) rfl
abbrev cM_at : ByteArray := prog_10_method_25_code
def yM_at : MethodName := ⟨RM, "at", "(I)I"⟩
def wsM_at : List Cond := .code yM_at cM_at 4 (Option.some Jvm.ClassFile.FieldType.int) :: rALL
theorem mcM_at : Cond.code yM_at cM_at 4 (Option.some Jvm.ClassFile.FieldType.int) ∈ rALL := List.mem_of_getElem? (i := 154) rfl
abbrev cM_nextRow : ByteArray := prog_10_method_26_code
def yM_nextRow : MethodName := ⟨RM, "nextRow", "(I)I"⟩
def wsM_nextRow : List Cond := .code yM_nextRow cM_nextRow 3 (Option.some Jvm.ClassFile.FieldType.int) :: rALL
theorem mcM_nextRow : Cond.code yM_nextRow cM_nextRow 3 (Option.some Jvm.ClassFile.FieldType.int) ∈ rALL := List.mem_of_getElem? (i := 163) rfl
abbrev cM_best : ByteArray := prog_10_method_27_code
def yM_best : MethodName := ⟨RM, "best", "(I)I"⟩
def wsM_best : List Cond := .code yM_best cM_best 6 (Option.some Jvm.ClassFile.FieldType.int) :: rALL
theorem mcM_best : Cond.code yM_best cM_best 6 (Option.some Jvm.ClassFile.FieldType.int) ∈ rALL := List.mem_of_getElem? (i := 157) rfl
abbrev cM_looked : ByteArray := prog_10_method_28_code
def yM_looked : MethodName := ⟨RM, "looked", "()I"⟩
def wsM_looked : List Cond := .code yM_looked cM_looked 1 (Option.some Jvm.ClassFile.FieldType.int) :: rALL
theorem mcM_looked : Cond.code yM_looked cM_looked 1 (Option.some Jvm.ClassFile.FieldType.int) ∈ rALL := List.mem_of_getElem? (i := 166) rfl
abbrev cM_bound : ByteArray := prog_10_method_29_code
def yM_bound : MethodName := ⟨RM, "bound", "(III)I"⟩
def wsM_bound : List Cond := .code yM_bound cM_bound 4 (Option.some Jvm.ClassFile.FieldType.int) :: rALL
theorem mcM_bound : Cond.code yM_bound cM_bound 4 (Option.some Jvm.ClassFile.FieldType.int) ∈ rALL := List.mem_of_getElem? (i := 169) rfl
abbrev cM_nears : ByteArray := prog_10_method_30_code
def yM_nears : MethodName := ⟨RM, "nears", "()I"⟩
def wsM_nears : List Cond := .code yM_nears cM_nears 3 (Option.some Jvm.ClassFile.FieldType.int) :: rALL
theorem mcM_nears : Cond.code yM_nears cM_nears 3 (Option.some Jvm.ClassFile.FieldType.int) ∈ rALL := List.mem_of_getElem? (i := 175) rfl
abbrev cM_nearOf : ByteArray := prog_10_method_31_code
def yM_nearOf : MethodName := ⟨RM, "nearOf", "(II)I"⟩
def wsM_nearOf : List Cond := .code yM_nearOf cM_nearOf 6 (Option.some Jvm.ClassFile.FieldType.int) :: rALL
theorem mcM_nearOf : Cond.code yM_nearOf cM_nearOf 6 (Option.some Jvm.ClassFile.FieldType.int) ∈ rALL := List.mem_of_getElem? (i := 178) rfl
abbrev cM_near : ByteArray := prog_10_method_32_code
def yM_near : MethodName := ⟨RM, "near", "(II)I"⟩
def wsM_near : List Cond := .code yM_near cM_near 3 (Option.some Jvm.ClassFile.FieldType.int) :: rALL
theorem mcM_near : Cond.code yM_near cM_near 3 (Option.some Jvm.ClassFile.FieldType.int) ∈ rALL := List.mem_of_getElem? (i := 172) rfl
abbrev cM_slack : ByteArray := prog_10_method_33_code
def yM_slack : MethodName := ⟨RM, "slack", "(I)I"⟩
def wsM_slack : List Cond := .code yM_slack cM_slack 3 (Option.some Jvm.ClassFile.FieldType.int) :: rALL
theorem mcM_slack : Cond.code yM_slack cM_slack 3 (Option.some Jvm.ClassFile.FieldType.int) ∈ rALL := List.mem_of_getElem? (i := 181) rfl
abbrev cM_cost : ByteArray := prog_10_method_34_code
def yM_cost : MethodName := ⟨RM, "cost", "(I)J"⟩
def wsM_cost : List Cond := .code yM_cost cM_cost 2 (Option.some Jvm.ClassFile.FieldType.long) :: rALL
theorem mcM_cost : Cond.code yM_cost cM_cost 2 (Option.some Jvm.ClassFile.FieldType.long) ∈ rALL := List.mem_of_getElem? (i := 189) rfl
abbrev cM_walk : ByteArray := prog_10_method_35_code
def yM_walk : MethodName := ⟨RM, "walk", "(II)I"⟩
def wsM_walk : List Cond := .code yM_walk cM_walk 6 (Option.some Jvm.ClassFile.FieldType.int) :: rALL
theorem mcM_walk : Cond.code yM_walk cM_walk 6 (Option.some Jvm.ClassFile.FieldType.int) ∈ rALL := List.mem_of_getElem? (i := 184) rfl
abbrev cM_lowest : ByteArray := prog_10_method_36_code
def yM_lowest : MethodName := ⟨RM, "lowest", "()I"⟩
def wsM_lowest : List Cond := .code yM_lowest cM_lowest 1 (Option.some Jvm.ClassFile.FieldType.int) :: rALL
theorem mcM_lowest : Cond.code yM_lowest cM_lowest 1 (Option.some Jvm.ClassFile.FieldType.int) ∈ rALL := List.mem_of_getElem? (i := 192) rfl
abbrev cM_matters : ByteArray := prog_10_method_37_code
def yM_matters : MethodName := ⟨RM, "matters", "(II)J"⟩
def wsM_matters : List Cond := .code yM_matters cM_matters 10 (Option.some Jvm.ClassFile.FieldType.long) :: rALL
theorem mcM_matters : Cond.code yM_matters cM_matters 10 (Option.some Jvm.ClassFile.FieldType.long) ∈ rALL := List.mem_of_getElem? (i := 195) rfl
abbrev cM_sweep : ByteArray := prog_10_method_38_code
def yM_sweep : MethodName := ⟨RM, "sweep", "(I)I"⟩
def wsM_sweep : List Cond := .code yM_sweep cM_sweep 4 (Option.some Jvm.ClassFile.FieldType.int) :: rALL
theorem mcM_sweep : Cond.code yM_sweep cM_sweep 4 (Option.some Jvm.ClassFile.FieldType.int) ∈ rALL := List.mem_of_getElem? (i := 198) rfl
abbrev cM_count : ByteArray := prog_10_method_39_code
def yM_count : MethodName := ⟨RM, "count", "(I)I"⟩
def wsM_count : List Cond := .code yM_count cM_count 4 (Option.some Jvm.ClassFile.FieldType.int) :: rALL
theorem mcM_count : Cond.code yM_count cM_count 4 (Option.some Jvm.ClassFile.FieldType.int) ∈ rALL := List.mem_of_getElem? (i := 201) rfl
theorem meM_fail : Cond.selects RM yM_fail yM_fail ∈ rALL := List.mem_of_getElem? (i := 0) rfl
theorem meM_isValue : Cond.selects RM yM_isValue yM_isValue ∈ rALL := List.mem_of_getElem? (i := 1) rfl
theorem meM_isDesign : Cond.selects RM yM_isDesign yM_isDesign ∈ rALL := List.mem_of_getElem? (i := 2) rfl
theorem meM_know : Cond.selects RM yM_know yM_know ∈ rALL := List.mem_of_getElem? (i := 3) rfl
theorem meM_open : Cond.selects RM yM_open yM_open ∈ rALL := List.mem_of_getElem? (i := 4) rfl
theorem meM_isBarred : Cond.selects RM yM_isBarred yM_isBarred ∈ rALL := List.mem_of_getElem? (i := 5) rfl
theorem meM_passesLimits : Cond.selects RM yM_passesLimits yM_passesLimits ∈ rALL := List.mem_of_getElem? (i := 6) rfl
theorem meM_boundOf : Cond.selects RM yM_boundOf yM_boundOf ∈ rALL := List.mem_of_getElem? (i := 7) rfl
theorem meM_counts : Cond.selects RM yM_counts yM_counts ∈ rALL := List.mem_of_getElem? (i := 8) rfl
theorem meM_isBeaten : Cond.selects RM yM_isBeaten yM_isBeaten ∈ rALL := List.mem_of_getElem? (i := 9) rfl
theorem meM_isUndominated : Cond.selects RM yM_isUndominated yM_isUndominated ∈ rALL := List.mem_of_getElem? (i := 10) rfl
theorem meM_closed : Cond.selects RM yM_closed yM_closed ∈ rALL := List.mem_of_getElem? (i := 11) rfl
theorem meM_nextRow : Cond.selects RM yM_nextRow yM_nextRow ∈ rALL := List.mem_of_getElem? (i := 12) rfl
theorem meM_nears : Cond.selects RM yM_nears yM_nears ∈ rALL := List.mem_of_getElem? (i := 13) rfl
theorem meM_nearOf : Cond.selects RM yM_nearOf yM_nearOf ∈ rALL := List.mem_of_getElem? (i := 14) rfl
theorem meM_cost : Cond.selects RM yM_cost yM_cost ∈ rALL := List.mem_of_getElem? (i := 15) rfl
theorem mnM : Cond.initialized RM ∈ rALL := List.mem_of_getElem? (i := 16) rfl
theorem miOM : Cond.instanceMethod objectInit ∈ rALL := List.mem_of_getElem? (i := 17) rfl
theorem mcOM : Cond.code objectInit ⟨#[0xb1]⟩ 1 none ∈ rALL := List.mem_of_getElem? (i := 18) rfl
theorem maM_int : Cond.arrayClass .int ∈ rALL := List.mem_of_getElem? (i := 19) rfl
theorem maM_boolean : Cond.arrayClass .boolean ∈ rALL := List.mem_of_getElem? (i := 20) rfl
theorem miM_init : Cond.instanceMethod yM_init ∈ rALL := List.mem_of_getElem? (i := 22) rfl
theorem mlM_1 : Cond.methodLink RM 1 objectInit ∈ rALL := List.mem_of_getElem? (i := 24) rfl
theorem mkM_66 : Cond.constant RM 66 (2147483647) ∈ rALL := List.mem_of_getElem? (i := 25) rfl
theorem mfM_70 : Cond.fieldLink RM 70 "DesignSpacesModel" "thrown" "I" ∈ rALL := List.mem_of_getElem? (i := 26) rfl
theorem mfM_67 : Cond.fieldLink RM 67 "DesignSpacesModel" "x" "I" ∈ rALL := List.mem_of_getElem? (i := 27) rfl
theorem mfM_81 : Cond.fieldLink RM 81 "DesignSpacesModel" "choices" "I" ∈ rALL := List.mem_of_getElem? (i := 28) rfl
theorem mfM_100 : Cond.fieldLink RM 100 "DesignSpacesModel" "terms" "I" ∈ rALL := List.mem_of_getElem? (i := 29) rfl
theorem mfM_103 : Cond.fieldLink RM 103 "DesignSpacesModel" "rules" "I" ∈ rALL := List.mem_of_getElem? (i := 30) rfl
theorem mfM_7 : Cond.fieldLink RM 7 "DesignSpacesModel" "designs" "I" ∈ rALL := List.mem_of_getElem? (i := 31) rfl
theorem mfM_13 : Cond.fieldLink RM 13 "DesignSpacesModel" "values" "[I" ∈ rALL := List.mem_of_getElem? (i := 32) rfl
theorem mfM_17 : Cond.fieldLink RM 17 "DesignSpacesModel" "termNumber" "[I" ∈ rALL := List.mem_of_getElem? (i := 33) rfl
theorem mfM_20 : Cond.fieldLink RM 20 "DesignSpacesModel" "termA" "[I" ∈ rALL := List.mem_of_getElem? (i := 34) rfl
theorem mfM_23 : Cond.fieldLink RM 23 "DesignSpacesModel" "termVa" "[I" ∈ rALL := List.mem_of_getElem? (i := 35) rfl
theorem mfM_26 : Cond.fieldLink RM 26 "DesignSpacesModel" "termB" "[I" ∈ rALL := List.mem_of_getElem? (i := 36) rfl
theorem mfM_29 : Cond.fieldLink RM 29 "DesignSpacesModel" "termVb" "[I" ∈ rALL := List.mem_of_getElem? (i := 37) rfl
theorem mfM_32 : Cond.fieldLink RM 32 "DesignSpacesModel" "weight" "[I" ∈ rALL := List.mem_of_getElem? (i := 38) rfl
theorem mfM_35 : Cond.fieldLink RM 35 "DesignSpacesModel" "ruleA" "[I" ∈ rALL := List.mem_of_getElem? (i := 39) rfl
theorem mfM_38 : Cond.fieldLink RM 38 "DesignSpacesModel" "ruleVa" "[I" ∈ rALL := List.mem_of_getElem? (i := 40) rfl
theorem mfM_41 : Cond.fieldLink RM 41 "DesignSpacesModel" "ruleB" "[I" ∈ rALL := List.mem_of_getElem? (i := 41) rfl
theorem mfM_44 : Cond.fieldLink RM 44 "DesignSpacesModel" "ruleVb" "[I" ∈ rALL := List.mem_of_getElem? (i := 42) rfl
theorem mfM_47 : Cond.fieldLink RM 47 "DesignSpacesModel" "hasLimit" "[Z" ∈ rALL := List.mem_of_getElem? (i := 43) rfl
theorem mfM_51 : Cond.fieldLink RM 51 "DesignSpacesModel" "limit" "[I" ∈ rALL := List.mem_of_getElem? (i := 44) rfl
theorem mfM_54 : Cond.fieldLink RM 54 "DesignSpacesModel" "row" "[I" ∈ rALL := List.mem_of_getElem? (i := 45) rfl
theorem mfM_136 : Cond.fieldLink RM 136 "DesignSpacesModel" "looked" "I" ∈ rALL := List.mem_of_getElem? (i := 46) rfl
theorem mfM_153 : Cond.fieldLink RM 153 "DesignSpacesModel" "slack" "I" ∈ rALL := List.mem_of_getElem? (i := 47) rfl
theorem mfM_57 : Cond.fieldLink RM 57 "DesignSpacesModel" "lowest" "I" ∈ rALL := List.mem_of_getElem? (i := 48) rfl
theorem mfM_156 : Cond.fieldLink RM 156 "DesignSpacesModel" "went" "I" ∈ rALL := List.mem_of_getElem? (i := 49) rfl
theorem mfM_84 : Cond.fieldLink RM 84 "DesignSpacesModel" "place" "I" ∈ rALL := List.mem_of_getElem? (i := 50) rfl
theorem mfM_87 : Cond.fieldLink RM 87 "DesignSpacesModel" "legalSwept" "I" ∈ rALL := List.mem_of_getElem? (i := 51) rfl
theorem mfM_90 : Cond.fieldLink RM 90 "DesignSpacesModel" "isKnown" "Z" ∈ rALL := List.mem_of_getElem? (i := 52) rfl
theorem mfM_60 : Cond.fieldLink RM 60 "DesignSpacesModel" "isLegal" "[Z" ∈ rALL := List.mem_of_getElem? (i := 53) rfl
theorem mfM_63 : Cond.fieldLink RM 63 "DesignSpacesModel" "numbers" "[I" ∈ rALL := List.mem_of_getElem? (i := 54) rfl
theorem miM_thrown : Cond.instanceMethod yM_thrown ∈ rALL := List.mem_of_getElem? (i := 84) rfl
theorem meM_thrown : Cond.selects RM yM_thrown yM_thrown ∈ rALL := List.mem_of_getElem? (i := 85) rfl
theorem miM_choice : Cond.instanceMethod yM_choice ∈ rALL := List.mem_of_getElem? (i := 87) rfl
theorem meM_choice : Cond.selects RM yM_choice yM_choice ∈ rALL := List.mem_of_getElem? (i := 88) rfl
theorem mlM_73 : Cond.methodLink RM 73 yM_within ∈ rALL := List.mem_of_getElem? (i := 90) rfl
theorem msM_within : Cond.static yM_within ∈ rALL := List.mem_of_getElem? (i := 91) rfl
theorem mlM_77 : Cond.methodLink RM 77 yM_fail ∈ rALL := List.mem_of_getElem? (i := 93) rfl
theorem miM_fail : Cond.instanceMethod yM_fail ∈ rALL := List.mem_of_getElem? (i := 94) rfl
theorem miM_term : Cond.instanceMethod yM_term ∈ rALL := List.mem_of_getElem? (i := 96) rfl
theorem meM_term : Cond.selects RM yM_term yM_term ∈ rALL := List.mem_of_getElem? (i := 97) rfl
theorem mlM_94 : Cond.methodLink RM 94 yM_isValue ∈ rALL := List.mem_of_getElem? (i := 99) rfl
theorem miM_isValue : Cond.instanceMethod yM_isValue ∈ rALL := List.mem_of_getElem? (i := 100) rfl
theorem mkM_98 : Cond.constant RM 98 (-1000000) ∈ rALL := List.mem_of_getElem? (i := 102) rfl
theorem mkM_99 : Cond.constant RM 99 (1000000) ∈ rALL := List.mem_of_getElem? (i := 103) rfl
theorem miM_rule : Cond.instanceMethod yM_rule ∈ rALL := List.mem_of_getElem? (i := 104) rfl
theorem meM_rule : Cond.selects RM yM_rule yM_rule ∈ rALL := List.mem_of_getElem? (i := 105) rfl
theorem miM_limit : Cond.instanceMethod yM_limit ∈ rALL := List.mem_of_getElem? (i := 107) rfl
theorem meM_limit : Cond.selects RM yM_limit yM_limit ∈ rALL := List.mem_of_getElem? (i := 108) rfl
theorem miM_number : Cond.instanceMethod yM_number ∈ rALL := List.mem_of_getElem? (i := 110) rfl
theorem meM_number : Cond.selects RM yM_number yM_number ∈ rALL := List.mem_of_getElem? (i := 111) rfl
theorem mlM_123 : Cond.methodLink RM 123 yM_isDesign ∈ rALL := List.mem_of_getElem? (i := 113) rfl
theorem miM_isDesign : Cond.instanceMethod yM_isDesign ∈ rALL := List.mem_of_getElem? (i := 114) rfl
theorem mlM_127 : Cond.methodLink RM 127 yM_know ∈ rALL := List.mem_of_getElem? (i := 116) rfl
theorem miM_know : Cond.instanceMethod yM_know ∈ rALL := List.mem_of_getElem? (i := 117) rfl
theorem mlM_112 : Cond.methodLink RM 112 yM_open ∈ rALL := List.mem_of_getElem? (i := 119) rfl
theorem miM_open : Cond.instanceMethod yM_open ∈ rALL := List.mem_of_getElem? (i := 120) rfl
theorem mlM_116 : Cond.methodLink RM 116 yM_isBarred ∈ rALL := List.mem_of_getElem? (i := 122) rfl
theorem miM_isBarred : Cond.instanceMethod yM_isBarred ∈ rALL := List.mem_of_getElem? (i := 123) rfl
theorem mlM_120 : Cond.methodLink RM 120 yM_passesLimits ∈ rALL := List.mem_of_getElem? (i := 125) rfl
theorem miM_passesLimits : Cond.instanceMethod yM_passesLimits ∈ rALL := List.mem_of_getElem? (i := 126) rfl
theorem mlM_109 : Cond.methodLink RM 109 yM_boundOf ∈ rALL := List.mem_of_getElem? (i := 128) rfl
theorem miM_boundOf : Cond.instanceMethod yM_boundOf ∈ rALL := List.mem_of_getElem? (i := 129) rfl
theorem mlM_106 : Cond.methodLink RM 106 yM_counts ∈ rALL := List.mem_of_getElem? (i := 131) rfl
theorem miM_counts : Cond.instanceMethod yM_counts ∈ rALL := List.mem_of_getElem? (i := 132) rfl
theorem miM_value : Cond.instanceMethod yM_value ∈ rALL := List.mem_of_getElem? (i := 134) rfl
theorem meM_value : Cond.selects RM yM_value yM_value ∈ rALL := List.mem_of_getElem? (i := 135) rfl
theorem miM_legal : Cond.instanceMethod yM_legal ∈ rALL := List.mem_of_getElem? (i := 137) rfl
theorem meM_legal : Cond.selects RM yM_legal yM_legal ∈ rALL := List.mem_of_getElem? (i := 138) rfl
theorem miM_beats : Cond.instanceMethod yM_beats ∈ rALL := List.mem_of_getElem? (i := 140) rfl
theorem meM_beats : Cond.selects RM yM_beats yM_beats ∈ rALL := List.mem_of_getElem? (i := 141) rfl
theorem mlM_130 : Cond.methodLink RM 130 yM_isBeaten ∈ rALL := List.mem_of_getElem? (i := 143) rfl
theorem miM_isBeaten : Cond.instanceMethod yM_isBeaten ∈ rALL := List.mem_of_getElem? (i := 144) rfl
theorem miM_undominated : Cond.instanceMethod yM_undominated ∈ rALL := List.mem_of_getElem? (i := 146) rfl
theorem meM_undominated : Cond.selects RM yM_undominated yM_undominated ∈ rALL := List.mem_of_getElem? (i := 147) rfl
theorem mlM_133 : Cond.methodLink RM 133 yM_isUndominated ∈ rALL := List.mem_of_getElem? (i := 149) rfl
theorem miM_isUndominated : Cond.instanceMethod yM_isUndominated ∈ rALL := List.mem_of_getElem? (i := 150) rfl
theorem miM_at : Cond.instanceMethod yM_at ∈ rALL := List.mem_of_getElem? (i := 152) rfl
theorem meM_at : Cond.selects RM yM_at yM_at ∈ rALL := List.mem_of_getElem? (i := 153) rfl
theorem miM_best : Cond.instanceMethod yM_best ∈ rALL := List.mem_of_getElem? (i := 155) rfl
theorem meM_best : Cond.selects RM yM_best yM_best ∈ rALL := List.mem_of_getElem? (i := 156) rfl
theorem mlM_139 : Cond.methodLink RM 139 yM_closed ∈ rALL := List.mem_of_getElem? (i := 158) rfl
theorem miM_closed : Cond.instanceMethod yM_closed ∈ rALL := List.mem_of_getElem? (i := 159) rfl
theorem mlM_143 : Cond.methodLink RM 143 yM_nextRow ∈ rALL := List.mem_of_getElem? (i := 161) rfl
theorem miM_nextRow : Cond.instanceMethod yM_nextRow ∈ rALL := List.mem_of_getElem? (i := 162) rfl
theorem miM_looked : Cond.instanceMethod yM_looked ∈ rALL := List.mem_of_getElem? (i := 164) rfl
theorem meM_looked : Cond.selects RM yM_looked yM_looked ∈ rALL := List.mem_of_getElem? (i := 165) rfl
theorem miM_bound : Cond.instanceMethod yM_bound ∈ rALL := List.mem_of_getElem? (i := 167) rfl
theorem meM_bound : Cond.selects RM yM_bound yM_bound ∈ rALL := List.mem_of_getElem? (i := 168) rfl
theorem miM_near : Cond.instanceMethod yM_near ∈ rALL := List.mem_of_getElem? (i := 170) rfl
theorem meM_near : Cond.selects RM yM_near yM_near ∈ rALL := List.mem_of_getElem? (i := 171) rfl
theorem mlM_146 : Cond.methodLink RM 146 yM_nears ∈ rALL := List.mem_of_getElem? (i := 173) rfl
theorem miM_nears : Cond.instanceMethod yM_nears ∈ rALL := List.mem_of_getElem? (i := 174) rfl
theorem mlM_149 : Cond.methodLink RM 149 yM_nearOf ∈ rALL := List.mem_of_getElem? (i := 176) rfl
theorem miM_nearOf : Cond.instanceMethod yM_nearOf ∈ rALL := List.mem_of_getElem? (i := 177) rfl
theorem miM_slack : Cond.instanceMethod yM_slack ∈ rALL := List.mem_of_getElem? (i := 179) rfl
theorem meM_slack : Cond.selects RM yM_slack yM_slack ∈ rALL := List.mem_of_getElem? (i := 180) rfl
theorem miM_walk : Cond.instanceMethod yM_walk ∈ rALL := List.mem_of_getElem? (i := 182) rfl
theorem meM_walk : Cond.selects RM yM_walk yM_walk ∈ rALL := List.mem_of_getElem? (i := 183) rfl
theorem mkM_159 : Cond.constant RM 159 (1103515245) ∈ rALL := List.mem_of_getElem? (i := 185) rfl
theorem mkM_160 : Cond.constant RM 160 (65536) ∈ rALL := List.mem_of_getElem? (i := 186) rfl
theorem mlM_161 : Cond.methodLink RM 161 yM_cost ∈ rALL := List.mem_of_getElem? (i := 187) rfl
theorem miM_cost : Cond.instanceMethod yM_cost ∈ rALL := List.mem_of_getElem? (i := 188) rfl
theorem miM_lowest : Cond.instanceMethod yM_lowest ∈ rALL := List.mem_of_getElem? (i := 190) rfl
theorem meM_lowest : Cond.selects RM yM_lowest yM_lowest ∈ rALL := List.mem_of_getElem? (i := 191) rfl
theorem miM_matters : Cond.instanceMethod yM_matters ∈ rALL := List.mem_of_getElem? (i := 193) rfl
theorem meM_matters : Cond.selects RM yM_matters yM_matters ∈ rALL := List.mem_of_getElem? (i := 194) rfl
theorem miM_sweep : Cond.instanceMethod yM_sweep ∈ rALL := List.mem_of_getElem? (i := 196) rfl
theorem meM_sweep : Cond.selects RM yM_sweep yM_sweep ∈ rALL := List.mem_of_getElem? (i := 197) rfl
theorem miM_count : Cond.instanceMethod yM_count ∈ rALL := List.mem_of_getElem? (i := 199) rfl
theorem meM_count : Cond.selects RM yM_count yM_count ∈ rALL := List.mem_of_getElem? (i := 200) rfl
theorem gVM {cw cw' : Cond} {idx : Nat} {C : String} {y : MethodName} (h1 : Cond.methodLink RM idx y ∈ rALL) (h2 : Cond.instanceMethod y ∈ rALL) (h3 : Cond.selects C y y ∈ rALL) (h4 : Cond.initialized C ∈ rALL) (h5 : cw' ∈ rALL) : GoodIn (cw :: rALL) (wsV RM idx C y (cw' :: rALL)) := by
  intro w hw
  have hm : w ∈ rALL := by
    unfold wsV at hw
    simp only [List.cons_append, List.nil_append, List.mem_cons] at hw
    rcases hw with rfl | rfl | rfl | rfl | rfl | hw
    · exact h1
    · exact h2
    · exact h3
    · exact h4
    · exact h5
    · exact hw
  exact ⟨List.mem_cons_of_mem _ hm, rALL_good w hm⟩
theorem gSM {cw cw' : Cond} {idx : Nat} {y : MethodName} (h1 : Cond.methodLink RM idx y ∈ rALL) (h2 : Cond.static y ∈ rALL) (h4 : Cond.initialized y.cls ∈ rALL) (h5 : cw' ∈ rALL) : GoodIn (cw :: rALL) (va_wsS RM idx y (cw' :: rALL)) := by
  intro w hw
  have hm : w ∈ rALL := by
    unfold va_wsS at hw
    simp only [List.cons_append, List.nil_append, List.mem_cons] at hw
    rcases hw with rfl | rfl | rfl | rfl | hw
    · exact h1
    · exact h2
    · exact h4
    · exact h5
    · exact hw
  exact ⟨List.mem_cons_of_mem _ hm, rALL_good w hm⟩
abbrev vwCl : List vw_C := [(RM, TM, 29)]
