section
-- ===== PART A: goes FIRST, ahead of the names: the tables' words, and 'selects' of the private methods out of them =====
/-- a private method of a class that the tables say can be made, by its rows of tables_1 -/
def lw_okq (q : MethodName × Nat) : Prop := (q.1.cls ≠ "java/lang/invoke/MethodHandle" ∧ q.1.cls ≠ "java/lang/invoke/VarHandle") ∧ Cond.instantiable q.1.cls q.2 ∈ tables_1 ∧ Cond.privateMethod q.1 ∈ tables_1 ∧ Cond.instanceMethod q.1 ∈ tables_1
theorem lw_p0 : lw_okq (⟨"DesignSpaces$Front", "findHeads", "()V"⟩, 6) := ⟨⟨by decide +kernel, by decide +kernel⟩, List.mem_of_getElem? (i := 100) (by decide +kernel), List.mem_of_getElem? (i := 230) (by decide +kernel), List.mem_of_getElem? (i := 231) (by decide +kernel)⟩
theorem lw_p1 : lw_okq (⟨"DesignSpaces$Front", "headFor", "(I)I"⟩, 6) := ⟨⟨by decide +kernel, by decide +kernel⟩, List.mem_of_getElem? (i := 100) (by decide +kernel), List.mem_of_getElem? (i := 242) (by decide +kernel), List.mem_of_getElem? (i := 243) (by decide +kernel)⟩
theorem lw_p2 : lw_okq (⟨"DesignSpaces$Front", "dropBeatenBy", "(I)V"⟩, 6) := ⟨⟨by decide +kernel, by decide +kernel⟩, List.mem_of_getElem? (i := 100) (by decide +kernel), List.mem_of_getElem? (i := 250) (by decide +kernel), List.mem_of_getElem? (i := 251) (by decide +kernel)⟩
theorem lw_p3 : lw_okq (⟨"DesignSpaces$Front", "collectMembers", "()V"⟩, 6) := ⟨⟨by decide +kernel, by decide +kernel⟩, List.mem_of_getElem? (i := 100) (by decide +kernel), List.mem_of_getElem? (i := 254) (by decide +kernel), List.mem_of_getElem? (i := 255) (by decide +kernel)⟩
theorem lw_p4 : lw_okq (⟨"java/lang/Throwable", "fillInStackTrace", "(I)Ljava/lang/Throwable;"⟩, 6) := ⟨⟨by decide +kernel, by decide +kernel⟩, List.mem_of_getElem? (i := 329) (by decide +kernel), List.mem_of_getElem? (i := 327) (by decide +kernel), List.mem_of_getElem? (i := 328) (by decide +kernel)⟩
theorem lw_p5 : lw_okq (⟨"DesignSpaces$Search", "isPassedBy", "(II)Z"⟩, 6) := ⟨⟨by decide +kernel, by decide +kernel⟩, List.mem_of_getElem? (i := 127) (by decide +kernel), List.mem_of_getElem? (i := 584) (by decide +kernel), List.mem_of_getElem? (i := 585) (by decide +kernel)⟩
theorem lw_p6 : lw_okq (⟨"DesignSpaces$Search", "keepRow", "(I)V"⟩, 6) := ⟨⟨by decide +kernel, by decide +kernel⟩, List.mem_of_getElem? (i := 127) (by decide +kernel), List.mem_of_getElem? (i := 609) (by decide +kernel), List.mem_of_getElem? (i := 610) (by decide +kernel)⟩
theorem lw_p7 : lw_okq (⟨"DesignSpaces$Search", "goBehind", "(I)I"⟩, 6) := ⟨⟨by decide +kernel, by decide +kernel⟩, List.mem_of_getElem? (i := 127) (by decide +kernel), List.mem_of_getElem? (i := 618) (by decide +kernel), List.mem_of_getElem? (i := 619) (by decide +kernel)⟩
theorem lw_p8 : lw_okq (⟨"DesignSpaces$Walker", "drawNear", "(I)I"⟩, 6) := ⟨⟨by decide +kernel, by decide +kernel⟩, List.mem_of_getElem? (i := 153) (by decide +kernel), List.mem_of_getElem? (i := 693) (by decide +kernel), List.mem_of_getElem? (i := 694) (by decide +kernel)⟩
theorem lw_p9 : lw_okq (⟨"DesignSpaces$Book", "differenceAlong", "(III)J"⟩, 9) := ⟨⟨by decide +kernel, by decide +kernel⟩, List.mem_of_getElem? (i := 59) (by decide +kernel), List.mem_of_getElem? (i := 716) (by decide +kernel), List.mem_of_getElem? (i := 717) (by decide +kernel)⟩
theorem lw_p10 : lw_okq (⟨"DesignSpacesModel", "fail", "(I)I"⟩, 29) := ⟨⟨by decide +kernel, by decide +kernel⟩, List.mem_of_getElem? (i := 744) (by decide +kernel), List.mem_of_getElem? (i := 850) (by decide +kernel), List.mem_of_getElem? (i := 851) (by decide +kernel)⟩
theorem lw_p11 : lw_okq (⟨"DesignSpacesModel", "isValue", "(II)Z"⟩, 29) := ⟨⟨by decide +kernel, by decide +kernel⟩, List.mem_of_getElem? (i := 744) (by decide +kernel), List.mem_of_getElem? (i := 858) (by decide +kernel), List.mem_of_getElem? (i := 859) (by decide +kernel)⟩
theorem lw_p12 : lw_okq (⟨"DesignSpacesModel", "isDesign", "(I)Z"⟩, 29) := ⟨⟨by decide +kernel, by decide +kernel⟩, List.mem_of_getElem? (i := 744) (by decide +kernel), List.mem_of_getElem? (i := 876) (by decide +kernel), List.mem_of_getElem? (i := 877) (by decide +kernel)⟩
theorem lw_p13 : lw_okq (⟨"DesignSpacesModel", "know", "()V"⟩, 29) := ⟨⟨by decide +kernel, by decide +kernel⟩, List.mem_of_getElem? (i := 744) (by decide +kernel), List.mem_of_getElem? (i := 880) (by decide +kernel), List.mem_of_getElem? (i := 881) (by decide +kernel)⟩
theorem lw_p14 : lw_okq (⟨"DesignSpacesModel", "open", "(II)V"⟩, 29) := ⟨⟨by decide +kernel, by decide +kernel⟩, List.mem_of_getElem? (i := 744) (by decide +kernel), List.mem_of_getElem? (i := 884) (by decide +kernel), List.mem_of_getElem? (i := 885) (by decide +kernel)⟩
theorem lw_p15 : lw_okq (⟨"DesignSpacesModel", "isBarred", "()Z"⟩, 29) := ⟨⟨by decide +kernel, by decide +kernel⟩, List.mem_of_getElem? (i := 744) (by decide +kernel), List.mem_of_getElem? (i := 888) (by decide +kernel), List.mem_of_getElem? (i := 889) (by decide +kernel)⟩
def lw_privs_1 : List (MethodName × Nat) := [(⟨"DesignSpaces$Front", "findHeads", "()V"⟩, 6), (⟨"DesignSpaces$Front", "headFor", "(I)I"⟩, 6), (⟨"DesignSpaces$Front", "dropBeatenBy", "(I)V"⟩, 6), (⟨"DesignSpaces$Front", "collectMembers", "()V"⟩, 6), (⟨"java/lang/Throwable", "fillInStackTrace", "(I)Ljava/lang/Throwable;"⟩, 6), (⟨"DesignSpaces$Search", "isPassedBy", "(II)Z"⟩, 6), (⟨"DesignSpaces$Search", "keepRow", "(I)V"⟩, 6), (⟨"DesignSpaces$Search", "goBehind", "(I)I"⟩, 6), (⟨"DesignSpaces$Walker", "drawNear", "(I)I"⟩, 6), (⟨"DesignSpaces$Book", "differenceAlong", "(III)J"⟩, 9), (⟨"DesignSpacesModel", "fail", "(I)I"⟩, 29), (⟨"DesignSpacesModel", "isValue", "(II)Z"⟩, 29), (⟨"DesignSpacesModel", "isDesign", "(I)Z"⟩, 29), (⟨"DesignSpacesModel", "know", "()V"⟩, 29), (⟨"DesignSpacesModel", "open", "(II)V"⟩, 29), (⟨"DesignSpacesModel", "isBarred", "()Z"⟩, 29)]
theorem lw_r1 : ∀ q ∈ lw_privs_1, lw_okq q := List.forall_mem_cons.mpr ⟨lw_p0, List.forall_mem_cons.mpr ⟨lw_p1, List.forall_mem_cons.mpr ⟨lw_p2, List.forall_mem_cons.mpr ⟨lw_p3, List.forall_mem_cons.mpr ⟨lw_p4, List.forall_mem_cons.mpr ⟨lw_p5, List.forall_mem_cons.mpr ⟨lw_p6, List.forall_mem_cons.mpr ⟨lw_p7, List.forall_mem_cons.mpr ⟨lw_p8, List.forall_mem_cons.mpr ⟨lw_p9, List.forall_mem_cons.mpr ⟨lw_p10, List.forall_mem_cons.mpr ⟨lw_p11, List.forall_mem_cons.mpr ⟨lw_p12, List.forall_mem_cons.mpr ⟨lw_p13, List.forall_mem_cons.mpr ⟨lw_p14, List.forall_mem_cons.mpr ⟨lw_p15, fun _ h => absurd h List.not_mem_nil⟩⟩⟩⟩⟩⟩⟩⟩⟩⟩⟩⟩⟩⟩⟩⟩
theorem lw_p16 : lw_okq (⟨"DesignSpacesModel", "passesLimits", "()Z"⟩, 29) := ⟨⟨by decide +kernel, by decide +kernel⟩, List.mem_of_getElem? (i := 744) (by decide +kernel), List.mem_of_getElem? (i := 892) (by decide +kernel), List.mem_of_getElem? (i := 893) (by decide +kernel)⟩
theorem lw_p17 : lw_okq (⟨"DesignSpacesModel", "boundOf", "(I)I"⟩, 29) := ⟨⟨by decide +kernel, by decide +kernel⟩, List.mem_of_getElem? (i := 744) (by decide +kernel), List.mem_of_getElem? (i := 896) (by decide +kernel), List.mem_of_getElem? (i := 897) (by decide +kernel)⟩
theorem lw_p18 : lw_okq (⟨"DesignSpacesModel", "counts", "(I)I"⟩, 29) := ⟨⟨by decide +kernel, by decide +kernel⟩, List.mem_of_getElem? (i := 744) (by decide +kernel), List.mem_of_getElem? (i := 900) (by decide +kernel), List.mem_of_getElem? (i := 901) (by decide +kernel)⟩
theorem lw_p19 : lw_okq (⟨"DesignSpacesModel", "isBeaten", "(II)Z"⟩, 29) := ⟨⟨by decide +kernel, by decide +kernel⟩, List.mem_of_getElem? (i := 744) (by decide +kernel), List.mem_of_getElem? (i := 916) (by decide +kernel), List.mem_of_getElem? (i := 917) (by decide +kernel)⟩
theorem lw_p20 : lw_okq (⟨"DesignSpacesModel", "isUndominated", "(I)Z"⟩, 29) := ⟨⟨by decide +kernel, by decide +kernel⟩, List.mem_of_getElem? (i := 744) (by decide +kernel), List.mem_of_getElem? (i := 924) (by decide +kernel), List.mem_of_getElem? (i := 925) (by decide +kernel)⟩
theorem lw_p21 : lw_okq (⟨"DesignSpacesModel", "closed", "()I"⟩, 29) := ⟨⟨by decide +kernel, by decide +kernel⟩, List.mem_of_getElem? (i := 744) (by decide +kernel), List.mem_of_getElem? (i := 936) (by decide +kernel), List.mem_of_getElem? (i := 937) (by decide +kernel)⟩
theorem lw_p22 : lw_okq (⟨"DesignSpacesModel", "nextRow", "(I)I"⟩, 29) := ⟨⟨by decide +kernel, by decide +kernel⟩, List.mem_of_getElem? (i := 744) (by decide +kernel), List.mem_of_getElem? (i := 940) (by decide +kernel), List.mem_of_getElem? (i := 941) (by decide +kernel)⟩
theorem lw_p23 : lw_okq (⟨"DesignSpacesModel", "nears", "()I"⟩, 29) := ⟨⟨by decide +kernel, by decide +kernel⟩, List.mem_of_getElem? (i := 744) (by decide +kernel), List.mem_of_getElem? (i := 956) (by decide +kernel), List.mem_of_getElem? (i := 957) (by decide +kernel)⟩
theorem lw_p24 : lw_okq (⟨"DesignSpacesModel", "nearOf", "(II)I"⟩, 29) := ⟨⟨by decide +kernel, by decide +kernel⟩, List.mem_of_getElem? (i := 744) (by decide +kernel), List.mem_of_getElem? (i := 960) (by decide +kernel), List.mem_of_getElem? (i := 961) (by decide +kernel)⟩
theorem lw_p25 : lw_okq (⟨"DesignSpacesModel", "cost", "(I)J"⟩, 29) := ⟨⟨by decide +kernel, by decide +kernel⟩, List.mem_of_getElem? (i := 744) (by decide +kernel), List.mem_of_getElem? (i := 974) (by decide +kernel), List.mem_of_getElem? (i := 975) (by decide +kernel)⟩
def lw_privs_2 : List (MethodName × Nat) := [(⟨"DesignSpacesModel", "passesLimits", "()Z"⟩, 29), (⟨"DesignSpacesModel", "boundOf", "(I)I"⟩, 29), (⟨"DesignSpacesModel", "counts", "(I)I"⟩, 29), (⟨"DesignSpacesModel", "isBeaten", "(II)Z"⟩, 29), (⟨"DesignSpacesModel", "isUndominated", "(I)Z"⟩, 29), (⟨"DesignSpacesModel", "closed", "()I"⟩, 29), (⟨"DesignSpacesModel", "nextRow", "(I)I"⟩, 29), (⟨"DesignSpacesModel", "nears", "()I"⟩, 29), (⟨"DesignSpacesModel", "nearOf", "(II)I"⟩, 29), (⟨"DesignSpacesModel", "cost", "(I)J"⟩, 29)]
theorem lw_r2 : ∀ q ∈ lw_privs_2, lw_okq q := List.forall_mem_cons.mpr ⟨lw_p16, List.forall_mem_cons.mpr ⟨lw_p17, List.forall_mem_cons.mpr ⟨lw_p18, List.forall_mem_cons.mpr ⟨lw_p19, List.forall_mem_cons.mpr ⟨lw_p20, List.forall_mem_cons.mpr ⟨lw_p21, List.forall_mem_cons.mpr ⟨lw_p22, List.forall_mem_cons.mpr ⟨lw_p23, List.forall_mem_cons.mpr ⟨lw_p24, List.forall_mem_cons.mpr ⟨lw_p25, fun _ h => absurd h List.not_mem_nil⟩⟩⟩⟩⟩⟩⟩⟩⟩⟩
def lw_privs : List (MethodName × Nat) := lw_privs_1 ++ (lw_privs_2)
def lw_tbl : List Cond := k2_sels lw_privs ++ tables_1
theorem lw_privs_ok : ∀ q ∈ lw_privs, lw_okq q := by
  show ∀ q ∈ lw_privs_1 ++ (lw_privs_2), lw_okq q
  exact List.forall_mem_append.mpr ⟨lw_r1, lw_r2⟩
-- ===== end of PART A; then your names; then what follows =====
/-! ===== BEGIN words of one list among another's, by their places ===== -/
theorem goodIn_r {big : List Cond} (ws : List Cond) (ps : List Nat) (hp : ws = ps.filterMap (fun i => big[i]?)) (h : ws.all goodWord = true) : GoodIn big ws := by
  intro w hw
  have h1 := List.all_eq_true.mp h w hw
  rw [hp] at hw
  obtain ⟨i, -, hi⟩ := List.mem_filterMap.mp hw
  have hm : w ∈ big := by first | exact List.mem_of_getElem? hi | exact List.getElem?_mem hi
  exact ⟨hm, good_of_word h1⟩
theorem goodIn_app {big a b : List Cond} (ha : GoodIn big a) (hb : GoodIn big b) : GoodIn big (a ++ b) := fun w h => (List.mem_append.mp h).elim (ha w) (hb w)
theorem goodIn_ca {big a b : List Cond} {c : Cond} (ha : GoodIn big (c :: a)) (hb : GoodIn big b) : GoodIn big (c :: (a ++ b)) := fun w h => (List.mem_cons.mp h).elim (fun e => ha w (List.mem_cons.mpr (Or.inl e))) (fun h => (List.mem_append.mp h).elim (fun h => ha w (List.mem_cons.mpr (Or.inr h))) (hb w))
theorem goodIn_sub {big ws : List Cond} (hm : ∀ w ∈ ws, w ∈ big) (h : ws.all goodWord = true) : GoodIn big ws := fun w hw => ⟨hm w hw, good_of_word (List.all_eq_true.mp h w hw)⟩
/-! ===== END ===== -/
def RM : String := "DesignSpacesModel"
def TM : u_T := fun k => match k with
  | 0 => ("DesignSpacesModel", "thrown", "I", false)
  | 1 => ("DesignSpacesModel", "x", "I", false)
  | 2 => ("DesignSpacesModel", "choices", "I", false)
  | 3 => ("DesignSpacesModel", "terms", "I", false)
  | 4 => ("DesignSpacesModel", "rules", "I", false)
  | 5 => ("DesignSpacesModel", "designs", "I", false)
  | 6 => ("DesignSpacesModel", "values", "[I", true)
  | 7 => ("DesignSpacesModel", "termNumber", "[I", true)
  | 8 => ("DesignSpacesModel", "termA", "[I", true)
  | 9 => ("DesignSpacesModel", "termVa", "[I", true)
  | 10 => ("DesignSpacesModel", "termB", "[I", true)
  | 11 => ("DesignSpacesModel", "termVb", "[I", true)
  | 12 => ("DesignSpacesModel", "weight", "[I", true)
  | 13 => ("DesignSpacesModel", "ruleA", "[I", true)
  | 14 => ("DesignSpacesModel", "ruleVa", "[I", true)
  | 15 => ("DesignSpacesModel", "ruleB", "[I", true)
  | 16 => ("DesignSpacesModel", "ruleVb", "[I", true)
  | 17 => ("DesignSpacesModel", "hasLimit", "[Z", true)
  | 18 => ("DesignSpacesModel", "limit", "[I", true)
  | 19 => ("DesignSpacesModel", "row", "[I", true)
  | 20 => ("DesignSpacesModel", "looked", "I", false)
  | 21 => ("DesignSpacesModel", "slack", "I", false)
  | 22 => ("DesignSpacesModel", "lowest", "I", false)
  | 23 => ("DesignSpacesModel", "went", "I", false)
  | 24 => ("DesignSpacesModel", "place", "I", false)
  | 25 => ("DesignSpacesModel", "legalSwept", "I", false)
  | 26 => ("DesignSpacesModel", "isKnown", "Z", false)
  | 27 => ("DesignSpacesModel", "isLegal", "[Z", true)
  | _ => ("DesignSpacesModel", "numbers", "[I", true)
def tyM : Nat → FieldType := fun k => match k with
  | 0 => .int
  | 1 => .int
  | 2 => .int
  | 3 => .int
  | 4 => .int
  | 5 => .int
  | 6 => .array .int
  | 7 => .array .int
  | 8 => .array .int
  | 9 => .array .int
  | 10 => .array .int
  | 11 => .array .int
  | 12 => .array .int
  | 13 => .array .int
  | 14 => .array .int
  | 15 => .array .int
  | 16 => .array .int
  | 17 => .array .boolean
  | 18 => .array .int
  | 19 => .array .int
  | 20 => .int
  | 21 => .int
  | 22 => .int
  | 23 => .int
  | 24 => .int
  | 25 => .int
  | 26 => .boolean
  | 27 => .array .boolean
  | _ => .array .int
abbrev wsM0 : List Cond := u_ws RM TM 29
theorem nmM : ∀ a, a < 29 → ∀ b, b < 29 → a ≠ b → (TM a).2.1 ≠ (TM b).2.1 := by decide +kernel
theorem tyM_ok : ∀ k, k < 29 → parseFieldDescriptor (TM k).2.2.1 = some (tyM k) := by decide +kernel
def rALL : List Cond := [(Jvm.Cond.selects "DesignSpacesModel" ({ cls := "DesignSpacesModel", name := "fail", desc := "(I)I" } : Jvm.MethodName) ({ cls := "DesignSpacesModel", name := "fail", desc := "(I)I" } : Jvm.MethodName)), (Jvm.Cond.selects "DesignSpacesModel" ({ cls := "DesignSpacesModel", name := "isValue", desc := "(II)Z" } : Jvm.MethodName) ({ cls := "DesignSpacesModel", name := "isValue", desc := "(II)Z" } : Jvm.MethodName)), (Jvm.Cond.selects "DesignSpacesModel" ({ cls := "DesignSpacesModel", name := "isDesign", desc := "(I)Z" } : Jvm.MethodName) ({ cls := "DesignSpacesModel", name := "isDesign", desc := "(I)Z" } : Jvm.MethodName)), (Jvm.Cond.selects "DesignSpacesModel" ({ cls := "DesignSpacesModel", name := "know", desc := "()V" } : Jvm.MethodName) ({ cls := "DesignSpacesModel", name := "know", desc := "()V" } : Jvm.MethodName)), (Jvm.Cond.selects "DesignSpacesModel" ({ cls := "DesignSpacesModel", name := "open", desc := "(II)V" } : Jvm.MethodName) ({ cls := "DesignSpacesModel", name := "open", desc := "(II)V" } : Jvm.MethodName)), (Jvm.Cond.selects "DesignSpacesModel" ({ cls := "DesignSpacesModel", name := "isBarred", desc := "()Z" } : Jvm.MethodName) ({ cls := "DesignSpacesModel", name := "isBarred", desc := "()Z" } : Jvm.MethodName)), (Jvm.Cond.selects "DesignSpacesModel" ({ cls := "DesignSpacesModel", name := "passesLimits", desc := "()Z" } : Jvm.MethodName) ({ cls := "DesignSpacesModel", name := "passesLimits", desc := "()Z" } : Jvm.MethodName)), (Jvm.Cond.selects "DesignSpacesModel" ({ cls := "DesignSpacesModel", name := "boundOf", desc := "(I)I" } : Jvm.MethodName) ({ cls := "DesignSpacesModel", name := "boundOf", desc := "(I)I" } : Jvm.MethodName)), (Jvm.Cond.selects "DesignSpacesModel" ({ cls := "DesignSpacesModel", name := "counts", desc := "(I)I" } : Jvm.MethodName) ({ cls := "DesignSpacesModel", name := "counts", desc := "(I)I" } : Jvm.MethodName)), (Jvm.Cond.selects "DesignSpacesModel" ({ cls := "DesignSpacesModel", name := "isBeaten", desc := "(II)Z" } : Jvm.MethodName) ({ cls := "DesignSpacesModel", name := "isBeaten", desc := "(II)Z" } : Jvm.MethodName)), (Jvm.Cond.selects "DesignSpacesModel" ({ cls := "DesignSpacesModel", name := "isUndominated", desc := "(I)Z" } : Jvm.MethodName) ({ cls := "DesignSpacesModel", name := "isUndominated", desc := "(I)Z" } : Jvm.MethodName)), (Jvm.Cond.selects "DesignSpacesModel" ({ cls := "DesignSpacesModel", name := "closed", desc := "()I" } : Jvm.MethodName) ({ cls := "DesignSpacesModel", name := "closed", desc := "()I" } : Jvm.MethodName)), (Jvm.Cond.selects "DesignSpacesModel" ({ cls := "DesignSpacesModel", name := "nextRow", desc := "(I)I" } : Jvm.MethodName) ({ cls := "DesignSpacesModel", name := "nextRow", desc := "(I)I" } : Jvm.MethodName)), (Jvm.Cond.selects "DesignSpacesModel" ({ cls := "DesignSpacesModel", name := "nears", desc := "()I" } : Jvm.MethodName) ({ cls := "DesignSpacesModel", name := "nears", desc := "()I" } : Jvm.MethodName)), (Jvm.Cond.selects "DesignSpacesModel" ({ cls := "DesignSpacesModel", name := "nearOf", desc := "(II)I" } : Jvm.MethodName) ({ cls := "DesignSpacesModel", name := "nearOf", desc := "(II)I" } : Jvm.MethodName)), (Jvm.Cond.selects "DesignSpacesModel" ({ cls := "DesignSpacesModel", name := "cost", desc := "(I)J" } : Jvm.MethodName) ({ cls := "DesignSpacesModel", name := "cost", desc := "(I)J" } : Jvm.MethodName)), (Jvm.Cond.initialized "DesignSpacesModel"), (Jvm.Cond.instanceMethod ({ cls := "java/lang/Object", name := "<init>", desc := "()V" } : Jvm.MethodName)), (Jvm.Cond.code ({ cls := "java/lang/Object", name := "<init>", desc := "()V" } : Jvm.MethodName) object_method_1_code (1 : Nat) (Option.none : Option Jvm.ClassFile.FieldType)), (Jvm.Cond.arrayClass Jvm.ClassFile.FieldType.int), (Jvm.Cond.arrayClass Jvm.ClassFile.FieldType.boolean), (Jvm.Cond.instantiable "DesignSpacesModel" (29 : Nat)), (Jvm.Cond.instanceMethod ({ cls := "DesignSpacesModel", name := "<init>", desc := "(I)V" } : Jvm.MethodName)), (Jvm.Cond.code ({ cls := "DesignSpacesModel", name := "<init>", desc := "(I)V" } : Jvm.MethodName) prog_12_method_1_code (2 : Nat) (Option.none : Option Jvm.ClassFile.FieldType)), (Jvm.Cond.methodLink "DesignSpacesModel" (1 : Nat) ({ cls := "java/lang/Object", name := "<init>", desc := "()V" } : Jvm.MethodName)), (Jvm.Cond.constant "DesignSpacesModel" (66 : Nat) (2147483647 : Int32)), (Jvm.Cond.fieldLink "DesignSpacesModel" (70 : Nat) "DesignSpacesModel" "thrown" "I"), (Jvm.Cond.fieldLink "DesignSpacesModel" (67 : Nat) "DesignSpacesModel" "x" "I"), (Jvm.Cond.fieldLink "DesignSpacesModel" (81 : Nat) "DesignSpacesModel" "choices" "I"), (Jvm.Cond.fieldLink "DesignSpacesModel" (100 : Nat) "DesignSpacesModel" "terms" "I"), (Jvm.Cond.fieldLink "DesignSpacesModel" (103 : Nat) "DesignSpacesModel" "rules" "I"), (Jvm.Cond.fieldLink "DesignSpacesModel" (7 : Nat) "DesignSpacesModel" "designs" "I"), (Jvm.Cond.fieldLink "DesignSpacesModel" (13 : Nat) "DesignSpacesModel" "values" "[I"), (Jvm.Cond.fieldLink "DesignSpacesModel" (17 : Nat) "DesignSpacesModel" "termNumber" "[I"), (Jvm.Cond.fieldLink "DesignSpacesModel" (20 : Nat) "DesignSpacesModel" "termA" "[I"), (Jvm.Cond.fieldLink "DesignSpacesModel" (23 : Nat) "DesignSpacesModel" "termVa" "[I"), (Jvm.Cond.fieldLink "DesignSpacesModel" (26 : Nat) "DesignSpacesModel" "termB" "[I"), (Jvm.Cond.fieldLink "DesignSpacesModel" (29 : Nat) "DesignSpacesModel" "termVb" "[I"), (Jvm.Cond.fieldLink "DesignSpacesModel" (32 : Nat) "DesignSpacesModel" "weight" "[I"), (Jvm.Cond.fieldLink "DesignSpacesModel" (35 : Nat) "DesignSpacesModel" "ruleA" "[I"), (Jvm.Cond.fieldLink "DesignSpacesModel" (38 : Nat) "DesignSpacesModel" "ruleVa" "[I"), (Jvm.Cond.fieldLink "DesignSpacesModel" (41 : Nat) "DesignSpacesModel" "ruleB" "[I"), (Jvm.Cond.fieldLink "DesignSpacesModel" (44 : Nat) "DesignSpacesModel" "ruleVb" "[I"), (Jvm.Cond.fieldLink "DesignSpacesModel" (47 : Nat) "DesignSpacesModel" "hasLimit" "[Z"), (Jvm.Cond.fieldLink "DesignSpacesModel" (51 : Nat) "DesignSpacesModel" "limit" "[I"), (Jvm.Cond.fieldLink "DesignSpacesModel" (54 : Nat) "DesignSpacesModel" "row" "[I"), (Jvm.Cond.fieldLink "DesignSpacesModel" (136 : Nat) "DesignSpacesModel" "looked" "I"), (Jvm.Cond.fieldLink "DesignSpacesModel" (153 : Nat) "DesignSpacesModel" "slack" "I"), (Jvm.Cond.fieldLink "DesignSpacesModel" (57 : Nat) "DesignSpacesModel" "lowest" "I"), (Jvm.Cond.fieldLink "DesignSpacesModel" (156 : Nat) "DesignSpacesModel" "went" "I"), (Jvm.Cond.fieldLink "DesignSpacesModel" (84 : Nat) "DesignSpacesModel" "place" "I"), (Jvm.Cond.fieldLink "DesignSpacesModel" (87 : Nat) "DesignSpacesModel" "legalSwept" "I"), (Jvm.Cond.fieldLink "DesignSpacesModel" (90 : Nat) "DesignSpacesModel" "isKnown" "Z"), (Jvm.Cond.fieldLink "DesignSpacesModel" (60 : Nat) "DesignSpacesModel" "isLegal" "[Z"), (Jvm.Cond.fieldLink "DesignSpacesModel" (63 : Nat) "DesignSpacesModel" "numbers" "[I"), (Jvm.Cond.lays "DesignSpacesModel" "DesignSpacesModel" "thrown" "I"), (Jvm.Cond.lays "DesignSpacesModel" "DesignSpacesModel" "x" "I"), (Jvm.Cond.lays "DesignSpacesModel" "DesignSpacesModel" "choices" "I"), (Jvm.Cond.lays "DesignSpacesModel" "DesignSpacesModel" "terms" "I"), (Jvm.Cond.lays "DesignSpacesModel" "DesignSpacesModel" "rules" "I"), (Jvm.Cond.lays "DesignSpacesModel" "DesignSpacesModel" "designs" "I"), (Jvm.Cond.laysFinal "DesignSpacesModel" "DesignSpacesModel" "values" "[I"), (Jvm.Cond.laysFinal "DesignSpacesModel" "DesignSpacesModel" "termNumber" "[I"), (Jvm.Cond.laysFinal "DesignSpacesModel" "DesignSpacesModel" "termA" "[I"), (Jvm.Cond.laysFinal "DesignSpacesModel" "DesignSpacesModel" "termVa" "[I"), (Jvm.Cond.laysFinal "DesignSpacesModel" "DesignSpacesModel" "termB" "[I"), (Jvm.Cond.laysFinal "DesignSpacesModel" "DesignSpacesModel" "termVb" "[I"), (Jvm.Cond.laysFinal "DesignSpacesModel" "DesignSpacesModel" "weight" "[I"), (Jvm.Cond.laysFinal "DesignSpacesModel" "DesignSpacesModel" "ruleA" "[I"), (Jvm.Cond.laysFinal "DesignSpacesModel" "DesignSpacesModel" "ruleVa" "[I"), (Jvm.Cond.laysFinal "DesignSpacesModel" "DesignSpacesModel" "ruleB" "[I"), (Jvm.Cond.laysFinal "DesignSpacesModel" "DesignSpacesModel" "ruleVb" "[I"), (Jvm.Cond.laysFinal "DesignSpacesModel" "DesignSpacesModel" "hasLimit" "[Z"), (Jvm.Cond.laysFinal "DesignSpacesModel" "DesignSpacesModel" "limit" "[I"), (Jvm.Cond.laysFinal "DesignSpacesModel" "DesignSpacesModel" "row" "[I"), (Jvm.Cond.lays "DesignSpacesModel" "DesignSpacesModel" "looked" "I"), (Jvm.Cond.lays "DesignSpacesModel" "DesignSpacesModel" "slack" "I"), (Jvm.Cond.lays "DesignSpacesModel" "DesignSpacesModel" "lowest" "I"), (Jvm.Cond.lays "DesignSpacesModel" "DesignSpacesModel" "went" "I"), (Jvm.Cond.lays "DesignSpacesModel" "DesignSpacesModel" "place" "I"), (Jvm.Cond.lays "DesignSpacesModel" "DesignSpacesModel" "legalSwept" "I"), (Jvm.Cond.lays "DesignSpacesModel" "DesignSpacesModel" "isKnown" "Z"), (Jvm.Cond.laysFinal "DesignSpacesModel" "DesignSpacesModel" "isLegal" "[Z"), (Jvm.Cond.laysFinal "DesignSpacesModel" "DesignSpacesModel" "numbers" "[I"), (Jvm.Cond.instanceMethod ({ cls := "DesignSpacesModel", name := "thrown", desc := "()I" } : Jvm.MethodName)), (Jvm.Cond.selects "DesignSpacesModel" ({ cls := "DesignSpacesModel", name := "thrown", desc := "()I" } : Jvm.MethodName) ({ cls := "DesignSpacesModel", name := "thrown", desc := "()I" } : Jvm.MethodName)), (Jvm.Cond.code ({ cls := "DesignSpacesModel", name := "thrown", desc := "()I" } : Jvm.MethodName) prog_12_method_2_code (1 : Nat) (Option.some Jvm.ClassFile.FieldType.int)), (Jvm.Cond.instanceMethod ({ cls := "DesignSpacesModel", name := "choice", desc := "(I)I" } : Jvm.MethodName)), (Jvm.Cond.selects "DesignSpacesModel" ({ cls := "DesignSpacesModel", name := "choice", desc := "(I)I" } : Jvm.MethodName) ({ cls := "DesignSpacesModel", name := "choice", desc := "(I)I" } : Jvm.MethodName)), (Jvm.Cond.code ({ cls := "DesignSpacesModel", name := "choice", desc := "(I)I" } : Jvm.MethodName) prog_12_method_5_code (2 : Nat) (Option.some Jvm.ClassFile.FieldType.int)), (Jvm.Cond.methodLink "DesignSpacesModel" (73 : Nat) ({ cls := "DesignSpacesModel", name := "within", desc := "(III)Z" } : Jvm.MethodName)), (Jvm.Cond.static ({ cls := "DesignSpacesModel", name := "within", desc := "(III)Z" } : Jvm.MethodName)), (Jvm.Cond.code ({ cls := "DesignSpacesModel", name := "within", desc := "(III)Z" } : Jvm.MethodName) prog_12_method_4_code (3 : Nat) (Option.some Jvm.ClassFile.FieldType.boolean)), (Jvm.Cond.methodLink "DesignSpacesModel" (77 : Nat) ({ cls := "DesignSpacesModel", name := "fail", desc := "(I)I" } : Jvm.MethodName)), (Jvm.Cond.instanceMethod ({ cls := "DesignSpacesModel", name := "fail", desc := "(I)I" } : Jvm.MethodName)), (Jvm.Cond.code ({ cls := "DesignSpacesModel", name := "fail", desc := "(I)I" } : Jvm.MethodName) prog_12_method_3_code (2 : Nat) (Option.some Jvm.ClassFile.FieldType.int)), (Jvm.Cond.instanceMethod ({ cls := "DesignSpacesModel", name := "term", desc := "(IIIIII)I" } : Jvm.MethodName)), (Jvm.Cond.selects "DesignSpacesModel" ({ cls := "DesignSpacesModel", name := "term", desc := "(IIIIII)I" } : Jvm.MethodName) ({ cls := "DesignSpacesModel", name := "term", desc := "(IIIIII)I" } : Jvm.MethodName)), (Jvm.Cond.code ({ cls := "DesignSpacesModel", name := "term", desc := "(IIIIII)I" } : Jvm.MethodName) prog_12_method_7_code (7 : Nat) (Option.some Jvm.ClassFile.FieldType.int)), (Jvm.Cond.methodLink "DesignSpacesModel" (94 : Nat) ({ cls := "DesignSpacesModel", name := "isValue", desc := "(II)Z" } : Jvm.MethodName)), (Jvm.Cond.instanceMethod ({ cls := "DesignSpacesModel", name := "isValue", desc := "(II)Z" } : Jvm.MethodName)), (Jvm.Cond.code ({ cls := "DesignSpacesModel", name := "isValue", desc := "(II)Z" } : Jvm.MethodName) prog_12_method_6_code (3 : Nat) (Option.some Jvm.ClassFile.FieldType.boolean)), (Jvm.Cond.constant "DesignSpacesModel" (98 : Nat) (-1000000 : Int32)), (Jvm.Cond.constant "DesignSpacesModel" (99 : Nat) (1000000 : Int32)), (Jvm.Cond.instanceMethod ({ cls := "DesignSpacesModel", name := "rule", desc := "(IIII)I" } : Jvm.MethodName)), (Jvm.Cond.selects "DesignSpacesModel" ({ cls := "DesignSpacesModel", name := "rule", desc := "(IIII)I" } : Jvm.MethodName) ({ cls := "DesignSpacesModel", name := "rule", desc := "(IIII)I" } : Jvm.MethodName)), (Jvm.Cond.code ({ cls := "DesignSpacesModel", name := "rule", desc := "(IIII)I" } : Jvm.MethodName) prog_12_method_8_code (5 : Nat) (Option.some Jvm.ClassFile.FieldType.int)), (Jvm.Cond.instanceMethod ({ cls := "DesignSpacesModel", name := "limit", desc := "(IZI)Z" } : Jvm.MethodName)), (Jvm.Cond.selects "DesignSpacesModel" ({ cls := "DesignSpacesModel", name := "limit", desc := "(IZI)Z" } : Jvm.MethodName) ({ cls := "DesignSpacesModel", name := "limit", desc := "(IZI)Z" } : Jvm.MethodName)), (Jvm.Cond.code ({ cls := "DesignSpacesModel", name := "limit", desc := "(IZI)Z" } : Jvm.MethodName) prog_12_method_9_code (5 : Nat) (Option.some Jvm.ClassFile.FieldType.boolean)), (Jvm.Cond.instanceMethod ({ cls := "DesignSpacesModel", name := "number", desc := "(II)I" } : Jvm.MethodName)), (Jvm.Cond.selects "DesignSpacesModel" ({ cls := "DesignSpacesModel", name := "number", desc := "(II)I" } : Jvm.MethodName) ({ cls := "DesignSpacesModel", name := "number", desc := "(II)I" } : Jvm.MethodName)), (Jvm.Cond.code ({ cls := "DesignSpacesModel", name := "number", desc := "(II)I" } : Jvm.MethodName) prog_12_method_18_code (3 : Nat) (Option.some Jvm.ClassFile.FieldType.int)), (Jvm.Cond.methodLink "DesignSpacesModel" (123 : Nat) ({ cls := "DesignSpacesModel", name := "isDesign", desc := "(I)Z" } : Jvm.MethodName)), (Jvm.Cond.instanceMethod ({ cls := "DesignSpacesModel", name := "isDesign", desc := "(I)Z" } : Jvm.MethodName)), (Jvm.Cond.code ({ cls := "DesignSpacesModel", name := "isDesign", desc := "(I)Z" } : Jvm.MethodName) prog_12_method_16_code (2 : Nat) (Option.some Jvm.ClassFile.FieldType.boolean)), (Jvm.Cond.methodLink "DesignSpacesModel" (127 : Nat) ({ cls := "DesignSpacesModel", name := "know", desc := "()V" } : Jvm.MethodName)), (Jvm.Cond.instanceMethod ({ cls := "DesignSpacesModel", name := "know", desc := "()V" } : Jvm.MethodName)), (Jvm.Cond.code ({ cls := "DesignSpacesModel", name := "know", desc := "()V" } : Jvm.MethodName) prog_12_method_17_code (3 : Nat) (Option.none : Option Jvm.ClassFile.FieldType)), (Jvm.Cond.methodLink "DesignSpacesModel" (112 : Nat) ({ cls := "DesignSpacesModel", name := "open", desc := "(II)V" } : Jvm.MethodName)), (Jvm.Cond.instanceMethod ({ cls := "DesignSpacesModel", name := "open", desc := "(II)V" } : Jvm.MethodName)), (Jvm.Cond.code ({ cls := "DesignSpacesModel", name := "open", desc := "(II)V" } : Jvm.MethodName) prog_12_method_10_code (5 : Nat) (Option.none : Option Jvm.ClassFile.FieldType)), (Jvm.Cond.methodLink "DesignSpacesModel" (116 : Nat) ({ cls := "DesignSpacesModel", name := "isBarred", desc := "()Z" } : Jvm.MethodName)), (Jvm.Cond.instanceMethod ({ cls := "DesignSpacesModel", name := "isBarred", desc := "()Z" } : Jvm.MethodName)), (Jvm.Cond.code ({ cls := "DesignSpacesModel", name := "isBarred", desc := "()Z" } : Jvm.MethodName) prog_12_method_12_code (3 : Nat) (Option.some Jvm.ClassFile.FieldType.boolean)), (Jvm.Cond.methodLink "DesignSpacesModel" (120 : Nat) ({ cls := "DesignSpacesModel", name := "passesLimits", desc := "()Z" } : Jvm.MethodName)), (Jvm.Cond.instanceMethod ({ cls := "DesignSpacesModel", name := "passesLimits", desc := "()Z" } : Jvm.MethodName)), (Jvm.Cond.code ({ cls := "DesignSpacesModel", name := "passesLimits", desc := "()Z" } : Jvm.MethodName) prog_12_method_15_code (3 : Nat) (Option.some Jvm.ClassFile.FieldType.boolean)), (Jvm.Cond.methodLink "DesignSpacesModel" (109 : Nat) ({ cls := "DesignSpacesModel", name := "boundOf", desc := "(I)I" } : Jvm.MethodName)), (Jvm.Cond.instanceMethod ({ cls := "DesignSpacesModel", name := "boundOf", desc := "(I)I" } : Jvm.MethodName)), (Jvm.Cond.code ({ cls := "DesignSpacesModel", name := "boundOf", desc := "(I)I" } : Jvm.MethodName) prog_12_method_14_code (5 : Nat) (Option.some Jvm.ClassFile.FieldType.int)), (Jvm.Cond.methodLink "DesignSpacesModel" (106 : Nat) ({ cls := "DesignSpacesModel", name := "counts", desc := "(I)I" } : Jvm.MethodName)), (Jvm.Cond.instanceMethod ({ cls := "DesignSpacesModel", name := "counts", desc := "(I)I" } : Jvm.MethodName)), (Jvm.Cond.code ({ cls := "DesignSpacesModel", name := "counts", desc := "(I)I" } : Jvm.MethodName) prog_12_method_13_code (5 : Nat) (Option.some Jvm.ClassFile.FieldType.int)), (Jvm.Cond.instanceMethod ({ cls := "DesignSpacesModel", name := "value", desc := "(II)I" } : Jvm.MethodName)), (Jvm.Cond.selects "DesignSpacesModel" ({ cls := "DesignSpacesModel", name := "value", desc := "(II)I" } : Jvm.MethodName) ({ cls := "DesignSpacesModel", name := "value", desc := "(II)I" } : Jvm.MethodName)), (Jvm.Cond.code ({ cls := "DesignSpacesModel", name := "value", desc := "(II)I" } : Jvm.MethodName) prog_12_method_19_code (3 : Nat) (Option.some Jvm.ClassFile.FieldType.int)), (Jvm.Cond.instanceMethod ({ cls := "DesignSpacesModel", name := "legal", desc := "(I)Z" } : Jvm.MethodName)), (Jvm.Cond.selects "DesignSpacesModel" ({ cls := "DesignSpacesModel", name := "legal", desc := "(I)Z" } : Jvm.MethodName) ({ cls := "DesignSpacesModel", name := "legal", desc := "(I)Z" } : Jvm.MethodName)), (Jvm.Cond.code ({ cls := "DesignSpacesModel", name := "legal", desc := "(I)Z" } : Jvm.MethodName) prog_12_method_20_code (2 : Nat) (Option.some Jvm.ClassFile.FieldType.boolean)), (Jvm.Cond.instanceMethod ({ cls := "DesignSpacesModel", name := "beats", desc := "(II)Z" } : Jvm.MethodName)), (Jvm.Cond.selects "DesignSpacesModel" ({ cls := "DesignSpacesModel", name := "beats", desc := "(II)Z" } : Jvm.MethodName) ({ cls := "DesignSpacesModel", name := "beats", desc := "(II)Z" } : Jvm.MethodName)), (Jvm.Cond.code ({ cls := "DesignSpacesModel", name := "beats", desc := "(II)Z" } : Jvm.MethodName) prog_12_method_22_code (3 : Nat) (Option.some Jvm.ClassFile.FieldType.boolean)), (Jvm.Cond.methodLink "DesignSpacesModel" (130 : Nat) ({ cls := "DesignSpacesModel", name := "isBeaten", desc := "(II)Z" } : Jvm.MethodName)), (Jvm.Cond.instanceMethod ({ cls := "DesignSpacesModel", name := "isBeaten", desc := "(II)Z" } : Jvm.MethodName)), (Jvm.Cond.code ({ cls := "DesignSpacesModel", name := "isBeaten", desc := "(II)Z" } : Jvm.MethodName) prog_12_method_21_code (6 : Nat) (Option.some Jvm.ClassFile.FieldType.boolean)), (Jvm.Cond.instanceMethod ({ cls := "DesignSpacesModel", name := "undominated", desc := "()I" } : Jvm.MethodName)), (Jvm.Cond.selects "DesignSpacesModel" ({ cls := "DesignSpacesModel", name := "undominated", desc := "()I" } : Jvm.MethodName) ({ cls := "DesignSpacesModel", name := "undominated", desc := "()I" } : Jvm.MethodName)), (Jvm.Cond.code ({ cls := "DesignSpacesModel", name := "undominated", desc := "()I" } : Jvm.MethodName) prog_12_method_24_code (3 : Nat) (Option.some Jvm.ClassFile.FieldType.int)), (Jvm.Cond.methodLink "DesignSpacesModel" (133 : Nat) ({ cls := "DesignSpacesModel", name := "isUndominated", desc := "(I)Z" } : Jvm.MethodName)), (Jvm.Cond.instanceMethod ({ cls := "DesignSpacesModel", name := "isUndominated", desc := "(I)Z" } : Jvm.MethodName)), (Jvm.Cond.code ({ cls := "DesignSpacesModel", name := "isUndominated", desc := "(I)Z" } : Jvm.MethodName) prog_12_method_23_code (3 : Nat) (Option.some Jvm.ClassFile.FieldType.boolean)), (Jvm.Cond.instanceMethod ({ cls := "DesignSpacesModel", name := "at", desc := "(I)I" } : Jvm.MethodName)), (Jvm.Cond.selects "DesignSpacesModel" ({ cls := "DesignSpacesModel", name := "at", desc := "(I)I" } : Jvm.MethodName) ({ cls := "DesignSpacesModel", name := "at", desc := "(I)I" } : Jvm.MethodName)), (Jvm.Cond.code ({ cls := "DesignSpacesModel", name := "at", desc := "(I)I" } : Jvm.MethodName) prog_12_method_25_code (4 : Nat) (Option.some Jvm.ClassFile.FieldType.int)), (Jvm.Cond.instanceMethod ({ cls := "DesignSpacesModel", name := "best", desc := "(I)I" } : Jvm.MethodName)), (Jvm.Cond.selects "DesignSpacesModel" ({ cls := "DesignSpacesModel", name := "best", desc := "(I)I" } : Jvm.MethodName) ({ cls := "DesignSpacesModel", name := "best", desc := "(I)I" } : Jvm.MethodName)), (Jvm.Cond.code ({ cls := "DesignSpacesModel", name := "best", desc := "(I)I" } : Jvm.MethodName) prog_12_method_27_code (6 : Nat) (Option.some Jvm.ClassFile.FieldType.int)), (Jvm.Cond.methodLink "DesignSpacesModel" (139 : Nat) ({ cls := "DesignSpacesModel", name := "closed", desc := "()I" } : Jvm.MethodName)), (Jvm.Cond.instanceMethod ({ cls := "DesignSpacesModel", name := "closed", desc := "()I" } : Jvm.MethodName)), (Jvm.Cond.code ({ cls := "DesignSpacesModel", name := "closed", desc := "()I" } : Jvm.MethodName) prog_12_method_11_code (3 : Nat) (Option.some Jvm.ClassFile.FieldType.int)), (Jvm.Cond.methodLink "DesignSpacesModel" (143 : Nat) ({ cls := "DesignSpacesModel", name := "nextRow", desc := "(I)I" } : Jvm.MethodName)), (Jvm.Cond.instanceMethod ({ cls := "DesignSpacesModel", name := "nextRow", desc := "(I)I" } : Jvm.MethodName)), (Jvm.Cond.code ({ cls := "DesignSpacesModel", name := "nextRow", desc := "(I)I" } : Jvm.MethodName) prog_12_method_26_code (3 : Nat) (Option.some Jvm.ClassFile.FieldType.int)), (Jvm.Cond.instanceMethod ({ cls := "DesignSpacesModel", name := "looked", desc := "()I" } : Jvm.MethodName)), (Jvm.Cond.selects "DesignSpacesModel" ({ cls := "DesignSpacesModel", name := "looked", desc := "()I" } : Jvm.MethodName) ({ cls := "DesignSpacesModel", name := "looked", desc := "()I" } : Jvm.MethodName)), (Jvm.Cond.code ({ cls := "DesignSpacesModel", name := "looked", desc := "()I" } : Jvm.MethodName) prog_12_method_28_code (1 : Nat) (Option.some Jvm.ClassFile.FieldType.int)), (Jvm.Cond.instanceMethod ({ cls := "DesignSpacesModel", name := "bound", desc := "(III)I" } : Jvm.MethodName)), (Jvm.Cond.selects "DesignSpacesModel" ({ cls := "DesignSpacesModel", name := "bound", desc := "(III)I" } : Jvm.MethodName) ({ cls := "DesignSpacesModel", name := "bound", desc := "(III)I" } : Jvm.MethodName)), (Jvm.Cond.code ({ cls := "DesignSpacesModel", name := "bound", desc := "(III)I" } : Jvm.MethodName) prog_12_method_29_code (4 : Nat) (Option.some Jvm.ClassFile.FieldType.int)), (Jvm.Cond.instanceMethod ({ cls := "DesignSpacesModel", name := "near", desc := "(II)I" } : Jvm.MethodName)), (Jvm.Cond.selects "DesignSpacesModel" ({ cls := "DesignSpacesModel", name := "near", desc := "(II)I" } : Jvm.MethodName) ({ cls := "DesignSpacesModel", name := "near", desc := "(II)I" } : Jvm.MethodName)), (Jvm.Cond.code ({ cls := "DesignSpacesModel", name := "near", desc := "(II)I" } : Jvm.MethodName) prog_12_method_32_code (3 : Nat) (Option.some Jvm.ClassFile.FieldType.int)), (Jvm.Cond.methodLink "DesignSpacesModel" (146 : Nat) ({ cls := "DesignSpacesModel", name := "nears", desc := "()I" } : Jvm.MethodName)), (Jvm.Cond.instanceMethod ({ cls := "DesignSpacesModel", name := "nears", desc := "()I" } : Jvm.MethodName)), (Jvm.Cond.code ({ cls := "DesignSpacesModel", name := "nears", desc := "()I" } : Jvm.MethodName) prog_12_method_30_code (3 : Nat) (Option.some Jvm.ClassFile.FieldType.int)), (Jvm.Cond.methodLink "DesignSpacesModel" (149 : Nat) ({ cls := "DesignSpacesModel", name := "nearOf", desc := "(II)I" } : Jvm.MethodName)), (Jvm.Cond.instanceMethod ({ cls := "DesignSpacesModel", name := "nearOf", desc := "(II)I" } : Jvm.MethodName)), (Jvm.Cond.code ({ cls := "DesignSpacesModel", name := "nearOf", desc := "(II)I" } : Jvm.MethodName) prog_12_method_31_code (6 : Nat) (Option.some Jvm.ClassFile.FieldType.int)), (Jvm.Cond.instanceMethod ({ cls := "DesignSpacesModel", name := "slack", desc := "(I)I" } : Jvm.MethodName)), (Jvm.Cond.selects "DesignSpacesModel" ({ cls := "DesignSpacesModel", name := "slack", desc := "(I)I" } : Jvm.MethodName) ({ cls := "DesignSpacesModel", name := "slack", desc := "(I)I" } : Jvm.MethodName)), (Jvm.Cond.code ({ cls := "DesignSpacesModel", name := "slack", desc := "(I)I" } : Jvm.MethodName) prog_12_method_33_code (3 : Nat) (Option.some Jvm.ClassFile.FieldType.int)), (Jvm.Cond.instanceMethod ({ cls := "DesignSpacesModel", name := "walk", desc := "(II)I" } : Jvm.MethodName)), (Jvm.Cond.selects "DesignSpacesModel" ({ cls := "DesignSpacesModel", name := "walk", desc := "(II)I" } : Jvm.MethodName) ({ cls := "DesignSpacesModel", name := "walk", desc := "(II)I" } : Jvm.MethodName)), (Jvm.Cond.code ({ cls := "DesignSpacesModel", name := "walk", desc := "(II)I" } : Jvm.MethodName) prog_12_method_35_code (6 : Nat) (Option.some Jvm.ClassFile.FieldType.int)), (Jvm.Cond.constant "DesignSpacesModel" (159 : Nat) (1103515245 : Int32)), (Jvm.Cond.constant "DesignSpacesModel" (160 : Nat) (65536 : Int32)), (Jvm.Cond.methodLink "DesignSpacesModel" (161 : Nat) ({ cls := "DesignSpacesModel", name := "cost", desc := "(I)J" } : Jvm.MethodName)), (Jvm.Cond.instanceMethod ({ cls := "DesignSpacesModel", name := "cost", desc := "(I)J" } : Jvm.MethodName)), (Jvm.Cond.code ({ cls := "DesignSpacesModel", name := "cost", desc := "(I)J" } : Jvm.MethodName) prog_12_method_34_code (2 : Nat) (Option.some Jvm.ClassFile.FieldType.long)), (Jvm.Cond.instanceMethod ({ cls := "DesignSpacesModel", name := "lowest", desc := "()I" } : Jvm.MethodName)), (Jvm.Cond.selects "DesignSpacesModel" ({ cls := "DesignSpacesModel", name := "lowest", desc := "()I" } : Jvm.MethodName) ({ cls := "DesignSpacesModel", name := "lowest", desc := "()I" } : Jvm.MethodName)), (Jvm.Cond.code ({ cls := "DesignSpacesModel", name := "lowest", desc := "()I" } : Jvm.MethodName) prog_12_method_36_code (1 : Nat) (Option.some Jvm.ClassFile.FieldType.int)), (Jvm.Cond.instanceMethod ({ cls := "DesignSpacesModel", name := "matters", desc := "(II)J" } : Jvm.MethodName)), (Jvm.Cond.selects "DesignSpacesModel" ({ cls := "DesignSpacesModel", name := "matters", desc := "(II)J" } : Jvm.MethodName) ({ cls := "DesignSpacesModel", name := "matters", desc := "(II)J" } : Jvm.MethodName)), (Jvm.Cond.code ({ cls := "DesignSpacesModel", name := "matters", desc := "(II)J" } : Jvm.MethodName) prog_12_method_37_code (10 : Nat) (Option.some Jvm.ClassFile.FieldType.long)), (Jvm.Cond.instanceMethod ({ cls := "DesignSpacesModel", name := "sweep", desc := "(I)I" } : Jvm.MethodName)), (Jvm.Cond.selects "DesignSpacesModel" ({ cls := "DesignSpacesModel", name := "sweep", desc := "(I)I" } : Jvm.MethodName) ({ cls := "DesignSpacesModel", name := "sweep", desc := "(I)I" } : Jvm.MethodName)), (Jvm.Cond.code ({ cls := "DesignSpacesModel", name := "sweep", desc := "(I)I" } : Jvm.MethodName) prog_12_method_38_code (4 : Nat) (Option.some Jvm.ClassFile.FieldType.int)), (Jvm.Cond.instanceMethod ({ cls := "DesignSpacesModel", name := "count", desc := "(I)I" } : Jvm.MethodName)), (Jvm.Cond.selects "DesignSpacesModel" ({ cls := "DesignSpacesModel", name := "count", desc := "(I)I" } : Jvm.MethodName) ({ cls := "DesignSpacesModel", name := "count", desc := "(I)I" } : Jvm.MethodName)), (Jvm.Cond.code ({ cls := "DesignSpacesModel", name := "count", desc := "(I)I" } : Jvm.MethodName) prog_12_method_39_code (4 : Nat) (Option.some Jvm.ClassFile.FieldType.int))]
set_option maxRecDepth 100000 in
theorem rALL_good : ∀ w ∈ rALL, ((w.onTables && w.keeps) = true ∨ ∃ ty, w = Cond.arrayClass ty) := fun w hw => good_of_word (List.all_eq_true.mp (show rALL.all goodWord = true by decide +kernel) w hw)
set_option maxRecDepth 100000 in
theorem inM_all : ∀ w ∈ wsM0, w ∈ rALL := by decide +kernel
abbrev cM_init : ByteArray := prog_12_method_1_code
def yM_init : MethodName := ⟨RM, "<init>", "(I)V"⟩
def wsM_init : List Cond := .code yM_init cM_init 2 (Option.none : Option Jvm.ClassFile.FieldType) :: rALL
theorem mcM_init : Cond.code yM_init cM_init 2 (Option.none : Option Jvm.ClassFile.FieldType) ∈ rALL := List.mem_of_getElem? (i := 23) rfl
abbrev cM_thrown : ByteArray := prog_12_method_2_code
def yM_thrown : MethodName := ⟨RM, "thrown", "()I"⟩
def wsM_thrown : List Cond := .code yM_thrown cM_thrown 1 (Option.some Jvm.ClassFile.FieldType.int) :: rALL
theorem mcM_thrown : Cond.code yM_thrown cM_thrown 1 (Option.some Jvm.ClassFile.FieldType.int) ∈ rALL := List.mem_of_getElem? (i := 86) rfl
abbrev cM_fail : ByteArray := prog_12_method_3_code
def yM_fail : MethodName := ⟨RM, "fail", "(I)I"⟩
def wsM_fail : List Cond := .code yM_fail cM_fail 2 (Option.some Jvm.ClassFile.FieldType.int) :: rALL
theorem mcM_fail : Cond.code yM_fail cM_fail 2 (Option.some Jvm.ClassFile.FieldType.int) ∈ rALL := List.mem_of_getElem? (i := 95) rfl
abbrev cM_within : ByteArray := prog_12_method_4_code
def yM_within : MethodName := ⟨RM, "within", "(III)Z"⟩
def wsM_within : List Cond := .code yM_within cM_within 3 (Option.some Jvm.ClassFile.FieldType.boolean) :: rALL
theorem mcM_within : Cond.code yM_within cM_within 3 (Option.some Jvm.ClassFile.FieldType.boolean) ∈ rALL := List.mem_of_getElem? (i := 92) rfl
abbrev cM_choice : ByteArray := prog_12_method_5_code
def yM_choice : MethodName := ⟨RM, "choice", "(I)I"⟩
def wsM_choice : List Cond := .code yM_choice cM_choice 2 (Option.some Jvm.ClassFile.FieldType.int) :: rALL
theorem mcM_choice : Cond.code yM_choice cM_choice 2 (Option.some Jvm.ClassFile.FieldType.int) ∈ rALL := List.mem_of_getElem? (i := 89) rfl
abbrev cM_isValue : ByteArray := prog_12_method_6_code
def yM_isValue : MethodName := ⟨RM, "isValue", "(II)Z"⟩
def wsM_isValue : List Cond := .code yM_isValue cM_isValue 3 (Option.some Jvm.ClassFile.FieldType.boolean) :: rALL
theorem mcM_isValue : Cond.code yM_isValue cM_isValue 3 (Option.some Jvm.ClassFile.FieldType.boolean) ∈ rALL := List.mem_of_getElem? (i := 101) rfl
abbrev cM_term : ByteArray := prog_12_method_7_code
def yM_term : MethodName := ⟨RM, "term", "(IIIIII)I"⟩
def wsM_term : List Cond := .code yM_term cM_term 7 (Option.some Jvm.ClassFile.FieldType.int) :: rALL
theorem mcM_term : Cond.code yM_term cM_term 7 (Option.some Jvm.ClassFile.FieldType.int) ∈ rALL := List.mem_of_getElem? (i := 98) rfl
abbrev cM_rule : ByteArray := prog_12_method_8_code
def yM_rule : MethodName := ⟨RM, "rule", "(IIII)I"⟩
def wsM_rule : List Cond := .code yM_rule cM_rule 5 (Option.some Jvm.ClassFile.FieldType.int) :: rALL
theorem mcM_rule : Cond.code yM_rule cM_rule 5 (Option.some Jvm.ClassFile.FieldType.int) ∈ rALL := List.mem_of_getElem? (i := 106) rfl
abbrev cM_limit : ByteArray := prog_12_method_9_code
def yM_limit : MethodName := ⟨RM, "limit", "(IZI)Z"⟩
def wsM_limit : List Cond := .code yM_limit cM_limit 5 (Option.some Jvm.ClassFile.FieldType.boolean) :: rALL
theorem mcM_limit : Cond.code yM_limit cM_limit 5 (Option.some Jvm.ClassFile.FieldType.boolean) ∈ rALL := List.mem_of_getElem? (i := 109) rfl
abbrev cM_open : ByteArray := prog_12_method_10_code
def yM_open : MethodName := ⟨RM, "open", "(II)V"⟩
def wsM_open : List Cond := .code yM_open cM_open 5 (Option.none : Option Jvm.ClassFile.FieldType) :: rALL
theorem mcM_open : Cond.code yM_open cM_open 5 (Option.none : Option Jvm.ClassFile.FieldType) ∈ rALL := List.mem_of_getElem? (i := 121) rfl
abbrev cM_closed : ByteArray := prog_12_method_11_code
def yM_closed : MethodName := ⟨RM, "closed", "()I"⟩
def wsM_closed : List Cond := .code yM_closed cM_closed 3 (Option.some Jvm.ClassFile.FieldType.int) :: rALL
theorem mcM_closed : Cond.code yM_closed cM_closed 3 (Option.some Jvm.ClassFile.FieldType.int) ∈ rALL := List.mem_of_getElem? (i := 160) rfl
abbrev cM_isBarred : ByteArray := prog_12_method_12_code
def yM_isBarred : MethodName := ⟨RM, "isBarred", "()Z"⟩
def wsM_isBarred : List Cond := .code yM_isBarred cM_isBarred 3 (Option.some Jvm.ClassFile.FieldType.boolean) :: rALL
theorem mcM_isBarred : Cond.code yM_isBarred cM_isBarred 3 (Option.some Jvm.ClassFile.FieldType.boolean) ∈ rALL := List.mem_of_getElem? (i := 124) rfl
abbrev cM_counts : ByteArray := prog_12_method_13_code
def yM_counts : MethodName := ⟨RM, "counts", "(I)I"⟩
def wsM_counts : List Cond := .code yM_counts cM_counts 5 (Option.some Jvm.ClassFile.FieldType.int) :: rALL
theorem mcM_counts : Cond.code yM_counts cM_counts 5 (Option.some Jvm.ClassFile.FieldType.int) ∈ rALL := List.mem_of_getElem? (i := 133) rfl
abbrev cM_boundOf : ByteArray := prog_12_method_14_code
def yM_boundOf : MethodName := ⟨RM, "boundOf", "(I)I"⟩
def wsM_boundOf : List Cond := .code yM_boundOf cM_boundOf 5 (Option.some Jvm.ClassFile.FieldType.int) :: rALL
theorem mcM_boundOf : Cond.code yM_boundOf cM_boundOf 5 (Option.some Jvm.ClassFile.FieldType.int) ∈ rALL := List.mem_of_getElem? (i := 130) rfl
abbrev cM_passesLimits : ByteArray := prog_12_method_15_code
def yM_passesLimits : MethodName := ⟨RM, "passesLimits", "()Z"⟩
def wsM_passesLimits : List Cond := .code yM_passesLimits cM_passesLimits 3 (Option.some Jvm.ClassFile.FieldType.boolean) :: rALL
theorem mcM_passesLimits : Cond.code yM_passesLimits cM_passesLimits 3 (Option.some Jvm.ClassFile.FieldType.boolean) ∈ rALL := List.mem_of_getElem? (i := 127) rfl
abbrev cM_isDesign : ByteArray := prog_12_method_16_code
def yM_isDesign : MethodName := ⟨RM, "isDesign", "(I)Z"⟩
def wsM_isDesign : List Cond := .code yM_isDesign cM_isDesign 2 (Option.some Jvm.ClassFile.FieldType.boolean) :: rALL
theorem mcM_isDesign : Cond.code yM_isDesign cM_isDesign 2 (Option.some Jvm.ClassFile.FieldType.boolean) ∈ rALL := List.mem_of_getElem? (i := 115) rfl
abbrev cM_know : ByteArray := prog_12_method_17_code
def yM_know : MethodName := ⟨RM, "know", "()V"⟩
def wsM_know : List Cond := .code yM_know cM_know 3 (Option.none : Option Jvm.ClassFile.FieldType) :: rALL
theorem mcM_know : Cond.code yM_know cM_know 3 (Option.none : Option Jvm.ClassFile.FieldType) ∈ rALL := List.mem_of_getElem? (i := 118) rfl
abbrev cM_number : ByteArray := prog_12_method_18_code
def yM_number : MethodName := ⟨RM, "number", "(II)I"⟩
def wsM_number : List Cond := .code yM_number cM_number 3 (Option.some Jvm.ClassFile.FieldType.int) :: rALL
theorem mcM_number : Cond.code yM_number cM_number 3 (Option.some Jvm.ClassFile.FieldType.int) ∈ rALL := List.mem_of_getElem? (i := 112) rfl
abbrev cM_value : ByteArray := prog_12_method_19_code
def yM_value : MethodName := ⟨RM, "value", "(II)I"⟩
def wsM_value : List Cond := .code yM_value cM_value 3 (Option.some Jvm.ClassFile.FieldType.int) :: rALL
theorem mcM_value : Cond.code yM_value cM_value 3 (Option.some Jvm.ClassFile.FieldType.int) ∈ rALL := List.mem_of_getElem? (i := 136) rfl
abbrev cM_legal : ByteArray := prog_12_method_20_code
def yM_legal : MethodName := ⟨RM, "legal", "(I)Z"⟩
def wsM_legal : List Cond := .code yM_legal cM_legal 2 (Option.some Jvm.ClassFile.FieldType.boolean) :: rALL
theorem mcM_legal : Cond.code yM_legal cM_legal 2 (Option.some Jvm.ClassFile.FieldType.boolean) ∈ rALL := List.mem_of_getElem? (i := 139) rfl
abbrev cM_isBeaten : ByteArray := prog_12_method_21_code
def yM_isBeaten : MethodName := ⟨RM, "isBeaten", "(II)Z"⟩
def wsM_isBeaten : List Cond := .code yM_isBeaten cM_isBeaten 6 (Option.some Jvm.ClassFile.FieldType.boolean) :: rALL
theorem mcM_isBeaten : Cond.code yM_isBeaten cM_isBeaten 6 (Option.some Jvm.ClassFile.FieldType.boolean) ∈ rALL := List.mem_of_getElem? (i := 145) rfl
abbrev cM_beats : ByteArray := prog_12_method_22_code
def yM_beats : MethodName := ⟨RM, "beats", "(II)Z"⟩
def wsM_beats : List Cond := .code yM_beats cM_beats 3 (Option.some Jvm.ClassFile.FieldType.boolean) :: rALL
theorem mcM_beats : Cond.code yM_beats cM_beats 3 (Option.some Jvm.ClassFile.FieldType.boolean) ∈ rALL := List.mem_of_getElem? (i := 142) rfl
abbrev cM_isUndominated : ByteArray := prog_12_method_23_code
def yM_isUndominated : MethodName := ⟨RM, "isUndominated", "(I)Z"⟩
def wsM_isUndominated : List Cond := .code yM_isUndominated cM_isUndominated 3 (Option.some Jvm.ClassFile.FieldType.boolean) :: rALL
theorem mcM_isUndominated : Cond.code yM_isUndominated cM_isUndominated 3 (Option.some Jvm.ClassFile.FieldType.boolean) ∈ rALL := List.mem_of_getElem? (i := 151) rfl
abbrev cM_undominated : ByteArray := prog_12_method_24_code
def yM_undominated : MethodName := ⟨RM, "undominated", "()I"⟩
def wsM_undominated : List Cond := .code yM_undominated cM_undominated 3 (Option.some Jvm.ClassFile.FieldType.int) :: rALL
theorem mcM_undominated : Cond.code yM_undominated cM_undominated 3 (Option.some Jvm.ClassFile.FieldType.int) ∈ rALL := List.mem_of_getElem? (i := 148) rfl
abbrev cM_at : ByteArray := prog_12_method_25_code
def yM_at : MethodName := ⟨RM, "at", "(I)I"⟩
def wsM_at : List Cond := .code yM_at cM_at 4 (Option.some Jvm.ClassFile.FieldType.int) :: rALL
theorem mcM_at : Cond.code yM_at cM_at 4 (Option.some Jvm.ClassFile.FieldType.int) ∈ rALL := List.mem_of_getElem? (i := 154) rfl
abbrev cM_nextRow : ByteArray := prog_12_method_26_code
def yM_nextRow : MethodName := ⟨RM, "nextRow", "(I)I"⟩
def wsM_nextRow : List Cond := .code yM_nextRow cM_nextRow 3 (Option.some Jvm.ClassFile.FieldType.int) :: rALL
theorem mcM_nextRow : Cond.code yM_nextRow cM_nextRow 3 (Option.some Jvm.ClassFile.FieldType.int) ∈ rALL := List.mem_of_getElem? (i := 163) rfl
abbrev cM_best : ByteArray := prog_12_method_27_code
def yM_best : MethodName := ⟨RM, "best", "(I)I"⟩
def wsM_best : List Cond := .code yM_best cM_best 6 (Option.some Jvm.ClassFile.FieldType.int) :: rALL
theorem mcM_best : Cond.code yM_best cM_best 6 (Option.some Jvm.ClassFile.FieldType.int) ∈ rALL := List.mem_of_getElem? (i := 157) rfl
abbrev cM_looked : ByteArray := prog_12_method_28_code
def yM_looked : MethodName := ⟨RM, "looked", "()I"⟩
def wsM_looked : List Cond := .code yM_looked cM_looked 1 (Option.some Jvm.ClassFile.FieldType.int) :: rALL
theorem mcM_looked : Cond.code yM_looked cM_looked 1 (Option.some Jvm.ClassFile.FieldType.int) ∈ rALL := List.mem_of_getElem? (i := 166) rfl
abbrev cM_bound : ByteArray := prog_12_method_29_code
def yM_bound : MethodName := ⟨RM, "bound", "(III)I"⟩
def wsM_bound : List Cond := .code yM_bound cM_bound 4 (Option.some Jvm.ClassFile.FieldType.int) :: rALL
theorem mcM_bound : Cond.code yM_bound cM_bound 4 (Option.some Jvm.ClassFile.FieldType.int) ∈ rALL := List.mem_of_getElem? (i := 169) rfl
abbrev cM_nears : ByteArray := prog_12_method_30_code
def yM_nears : MethodName := ⟨RM, "nears", "()I"⟩
def wsM_nears : List Cond := .code yM_nears cM_nears 3 (Option.some Jvm.ClassFile.FieldType.int) :: rALL
theorem mcM_nears : Cond.code yM_nears cM_nears 3 (Option.some Jvm.ClassFile.FieldType.int) ∈ rALL := List.mem_of_getElem? (i := 175) rfl
abbrev cM_nearOf : ByteArray := prog_12_method_31_code
def yM_nearOf : MethodName := ⟨RM, "nearOf", "(II)I"⟩
def wsM_nearOf : List Cond := .code yM_nearOf cM_nearOf 6 (Option.some Jvm.ClassFile.FieldType.int) :: rALL
theorem mcM_nearOf : Cond.code yM_nearOf cM_nearOf 6 (Option.some Jvm.ClassFile.FieldType.int) ∈ rALL := List.mem_of_getElem? (i := 178) rfl
abbrev cM_near : ByteArray := prog_12_method_32_code
def yM_near : MethodName := ⟨RM, "near", "(II)I"⟩
def wsM_near : List Cond := .code yM_near cM_near 3 (Option.some Jvm.ClassFile.FieldType.int) :: rALL
theorem mcM_near : Cond.code yM_near cM_near 3 (Option.some Jvm.ClassFile.FieldType.int) ∈ rALL := List.mem_of_getElem? (i := 172) rfl
abbrev cM_slack : ByteArray := prog_12_method_33_code
def yM_slack : MethodName := ⟨RM, "slack", "(I)I"⟩
def wsM_slack : List Cond := .code yM_slack cM_slack 3 (Option.some Jvm.ClassFile.FieldType.int) :: rALL
theorem mcM_slack : Cond.code yM_slack cM_slack 3 (Option.some Jvm.ClassFile.FieldType.int) ∈ rALL := List.mem_of_getElem? (i := 181) rfl
abbrev cM_cost : ByteArray := prog_12_method_34_code
def yM_cost : MethodName := ⟨RM, "cost", "(I)J"⟩
def wsM_cost : List Cond := .code yM_cost cM_cost 2 (Option.some Jvm.ClassFile.FieldType.long) :: rALL
theorem mcM_cost : Cond.code yM_cost cM_cost 2 (Option.some Jvm.ClassFile.FieldType.long) ∈ rALL := List.mem_of_getElem? (i := 189) rfl
abbrev cM_walk : ByteArray := prog_12_method_35_code
def yM_walk : MethodName := ⟨RM, "walk", "(II)I"⟩
def wsM_walk : List Cond := .code yM_walk cM_walk 6 (Option.some Jvm.ClassFile.FieldType.int) :: rALL
theorem mcM_walk : Cond.code yM_walk cM_walk 6 (Option.some Jvm.ClassFile.FieldType.int) ∈ rALL := List.mem_of_getElem? (i := 184) rfl
abbrev cM_lowest : ByteArray := prog_12_method_36_code
def yM_lowest : MethodName := ⟨RM, "lowest", "()I"⟩
def wsM_lowest : List Cond := .code yM_lowest cM_lowest 1 (Option.some Jvm.ClassFile.FieldType.int) :: rALL
theorem mcM_lowest : Cond.code yM_lowest cM_lowest 1 (Option.some Jvm.ClassFile.FieldType.int) ∈ rALL := List.mem_of_getElem? (i := 192) rfl
abbrev cM_matters : ByteArray := prog_12_method_37_code
def yM_matters : MethodName := ⟨RM, "matters", "(II)J"⟩
def wsM_matters : List Cond := .code yM_matters cM_matters 10 (Option.some Jvm.ClassFile.FieldType.long) :: rALL
theorem mcM_matters : Cond.code yM_matters cM_matters 10 (Option.some Jvm.ClassFile.FieldType.long) ∈ rALL := List.mem_of_getElem? (i := 195) rfl
abbrev cM_sweep : ByteArray := prog_12_method_38_code
def yM_sweep : MethodName := ⟨RM, "sweep", "(I)I"⟩
def wsM_sweep : List Cond := .code yM_sweep cM_sweep 4 (Option.some Jvm.ClassFile.FieldType.int) :: rALL
theorem mcM_sweep : Cond.code yM_sweep cM_sweep 4 (Option.some Jvm.ClassFile.FieldType.int) ∈ rALL := List.mem_of_getElem? (i := 198) rfl
abbrev cM_count : ByteArray := prog_12_method_39_code
def yM_count : MethodName := ⟨RM, "count", "(I)I"⟩
def wsM_count : List Cond := .code yM_count cM_count 4 (Option.some Jvm.ClassFile.FieldType.int) :: rALL
theorem mcM_count : Cond.code yM_count cM_count 4 (Option.some Jvm.ClassFile.FieldType.int) ∈ rALL := List.mem_of_getElem? (i := 201) rfl
theorem meM_fail : Cond.selects RM yM_fail yM_fail ∈ rALL := List.mem_of_getElem? (i := 0) rfl
theorem meM_isValue : Cond.selects RM yM_isValue yM_isValue ∈ rALL := List.mem_of_getElem? (i := 1) rfl
theorem meM_isDesign : Cond.selects RM yM_isDesign yM_isDesign ∈ rALL := List.mem_of_getElem? (i := 2) rfl
theorem meM_know : Cond.selects RM yM_know yM_know ∈ rALL := List.mem_of_getElem? (i := 3) rfl
theorem meM_open : Cond.selects RM yM_open yM_open ∈ rALL := List.mem_of_getElem? (i := 4) rfl
theorem meM_isBarred : Cond.selects RM yM_isBarred yM_isBarred ∈ rALL := List.mem_of_getElem? (i := 5) rfl
theorem meM_passesLimits : Cond.selects RM yM_passesLimits yM_passesLimits ∈ rALL := List.mem_of_getElem? (i := 6) rfl
theorem meM_boundOf : Cond.selects RM yM_boundOf yM_boundOf ∈ rALL := List.mem_of_getElem? (i := 7) rfl
theorem meM_counts : Cond.selects RM yM_counts yM_counts ∈ rALL := List.mem_of_getElem? (i := 8) rfl
theorem meM_isBeaten : Cond.selects RM yM_isBeaten yM_isBeaten ∈ rALL := List.mem_of_getElem? (i := 9) rfl
theorem meM_isUndominated : Cond.selects RM yM_isUndominated yM_isUndominated ∈ rALL := List.mem_of_getElem? (i := 10) rfl
theorem meM_closed : Cond.selects RM yM_closed yM_closed ∈ rALL := List.mem_of_getElem? (i := 11) rfl
theorem meM_nextRow : Cond.selects RM yM_nextRow yM_nextRow ∈ rALL := List.mem_of_getElem? (i := 12) rfl
theorem meM_nears : Cond.selects RM yM_nears yM_nears ∈ rALL := List.mem_of_getElem? (i := 13) rfl
theorem meM_nearOf : Cond.selects RM yM_nearOf yM_nearOf ∈ rALL := List.mem_of_getElem? (i := 14) rfl
theorem meM_cost : Cond.selects RM yM_cost yM_cost ∈ rALL := List.mem_of_getElem? (i := 15) rfl
theorem mnM : Cond.initialized RM ∈ rALL := List.mem_of_getElem? (i := 16) rfl
theorem miOM : Cond.instanceMethod objectInit ∈ rALL := List.mem_of_getElem? (i := 17) rfl
theorem mcOM : Cond.code objectInit ⟨#[0xb1]⟩ 1 none ∈ rALL := List.mem_of_getElem? (i := 18) rfl
theorem maM_int : Cond.arrayClass .int ∈ rALL := List.mem_of_getElem? (i := 19) rfl
theorem maM_boolean : Cond.arrayClass .boolean ∈ rALL := List.mem_of_getElem? (i := 20) rfl
theorem miM_init : Cond.instanceMethod yM_init ∈ rALL := List.mem_of_getElem? (i := 22) rfl
theorem mlM_1 : Cond.methodLink RM 1 objectInit ∈ rALL := List.mem_of_getElem? (i := 24) rfl
theorem mkM_66 : Cond.constant RM 66 (2147483647) ∈ rALL := List.mem_of_getElem? (i := 25) rfl
theorem mfM_70 : Cond.fieldLink RM 70 "DesignSpacesModel" "thrown" "I" ∈ rALL := List.mem_of_getElem? (i := 26) rfl
theorem mfM_67 : Cond.fieldLink RM 67 "DesignSpacesModel" "x" "I" ∈ rALL := List.mem_of_getElem? (i := 27) rfl
theorem mfM_81 : Cond.fieldLink RM 81 "DesignSpacesModel" "choices" "I" ∈ rALL := List.mem_of_getElem? (i := 28) rfl
theorem mfM_100 : Cond.fieldLink RM 100 "DesignSpacesModel" "terms" "I" ∈ rALL := List.mem_of_getElem? (i := 29) rfl
theorem mfM_103 : Cond.fieldLink RM 103 "DesignSpacesModel" "rules" "I" ∈ rALL := List.mem_of_getElem? (i := 30) rfl
theorem mfM_7 : Cond.fieldLink RM 7 "DesignSpacesModel" "designs" "I" ∈ rALL := List.mem_of_getElem? (i := 31) rfl
theorem mfM_13 : Cond.fieldLink RM 13 "DesignSpacesModel" "values" "[I" ∈ rALL := List.mem_of_getElem? (i := 32) rfl
theorem mfM_17 : Cond.fieldLink RM 17 "DesignSpacesModel" "termNumber" "[I" ∈ rALL := List.mem_of_getElem? (i := 33) rfl
theorem mfM_20 : Cond.fieldLink RM 20 "DesignSpacesModel" "termA" "[I" ∈ rALL := List.mem_of_getElem? (i := 34) rfl
theorem mfM_23 : Cond.fieldLink RM 23 "DesignSpacesModel" "termVa" "[I" ∈ rALL := List.mem_of_getElem? (i := 35) rfl
theorem mfM_26 : Cond.fieldLink RM 26 "DesignSpacesModel" "termB" "[I" ∈ rALL := List.mem_of_getElem? (i := 36) rfl
theorem mfM_29 : Cond.fieldLink RM 29 "DesignSpacesModel" "termVb" "[I" ∈ rALL := List.mem_of_getElem? (i := 37) rfl
theorem mfM_32 : Cond.fieldLink RM 32 "DesignSpacesModel" "weight" "[I" ∈ rALL := List.mem_of_getElem? (i := 38) rfl
theorem mfM_35 : Cond.fieldLink RM 35 "DesignSpacesModel" "ruleA" "[I" ∈ rALL := List.mem_of_getElem? (i := 39) rfl
theorem mfM_38 : Cond.fieldLink RM 38 "DesignSpacesModel" "ruleVa" "[I" ∈ rALL := List.mem_of_getElem? (i := 40) rfl
theorem mfM_41 : Cond.fieldLink RM 41 "DesignSpacesModel" "ruleB" "[I" ∈ rALL := List.mem_of_getElem? (i := 41) rfl
theorem mfM_44 : Cond.fieldLink RM 44 "DesignSpacesModel" "ruleVb" "[I" ∈ rALL := List.mem_of_getElem? (i := 42) rfl
theorem mfM_47 : Cond.fieldLink RM 47 "DesignSpacesModel" "hasLimit" "[Z" ∈ rALL := List.mem_of_getElem? (i := 43) rfl
theorem mfM_51 : Cond.fieldLink RM 51 "DesignSpacesModel" "limit" "[I" ∈ rALL := List.mem_of_getElem? (i := 44) rfl
theorem mfM_54 : Cond.fieldLink RM 54 "DesignSpacesModel" "row" "[I" ∈ rALL := List.mem_of_getElem? (i := 45) rfl
theorem mfM_136 : Cond.fieldLink RM 136 "DesignSpacesModel" "looked" "I" ∈ rALL := List.mem_of_getElem? (i := 46) rfl
theorem mfM_153 : Cond.fieldLink RM 153 "DesignSpacesModel" "slack" "I" ∈ rALL := List.mem_of_getElem? (i := 47) rfl
theorem mfM_57 : Cond.fieldLink RM 57 "DesignSpacesModel" "lowest" "I" ∈ rALL := List.mem_of_getElem? (i := 48) rfl
theorem mfM_156 : Cond.fieldLink RM 156 "DesignSpacesModel" "went" "I" ∈ rALL := List.mem_of_getElem? (i := 49) rfl
theorem mfM_84 : Cond.fieldLink RM 84 "DesignSpacesModel" "place" "I" ∈ rALL := List.mem_of_getElem? (i := 50) rfl
theorem mfM_87 : Cond.fieldLink RM 87 "DesignSpacesModel" "legalSwept" "I" ∈ rALL := List.mem_of_getElem? (i := 51) rfl
theorem mfM_90 : Cond.fieldLink RM 90 "DesignSpacesModel" "isKnown" "Z" ∈ rALL := List.mem_of_getElem? (i := 52) rfl
theorem mfM_60 : Cond.fieldLink RM 60 "DesignSpacesModel" "isLegal" "[Z" ∈ rALL := List.mem_of_getElem? (i := 53) rfl
theorem mfM_63 : Cond.fieldLink RM 63 "DesignSpacesModel" "numbers" "[I" ∈ rALL := List.mem_of_getElem? (i := 54) rfl
theorem miM_thrown : Cond.instanceMethod yM_thrown ∈ rALL := List.mem_of_getElem? (i := 84) rfl
theorem meM_thrown : Cond.selects RM yM_thrown yM_thrown ∈ rALL := List.mem_of_getElem? (i := 85) rfl
theorem miM_choice : Cond.instanceMethod yM_choice ∈ rALL := List.mem_of_getElem? (i := 87) rfl
theorem meM_choice : Cond.selects RM yM_choice yM_choice ∈ rALL := List.mem_of_getElem? (i := 88) rfl
theorem mlM_73 : Cond.methodLink RM 73 yM_within ∈ rALL := List.mem_of_getElem? (i := 90) rfl
theorem msM_within : Cond.static yM_within ∈ rALL := List.mem_of_getElem? (i := 91) rfl
theorem mlM_77 : Cond.methodLink RM 77 yM_fail ∈ rALL := List.mem_of_getElem? (i := 93) rfl
theorem miM_fail : Cond.instanceMethod yM_fail ∈ rALL := List.mem_of_getElem? (i := 94) rfl
theorem miM_term : Cond.instanceMethod yM_term ∈ rALL := List.mem_of_getElem? (i := 96) rfl
theorem meM_term : Cond.selects RM yM_term yM_term ∈ rALL := List.mem_of_getElem? (i := 97) rfl
theorem mlM_94 : Cond.methodLink RM 94 yM_isValue ∈ rALL := List.mem_of_getElem? (i := 99) rfl
theorem miM_isValue : Cond.instanceMethod yM_isValue ∈ rALL := List.mem_of_getElem? (i := 100) rfl
theorem mkM_98 : Cond.constant RM 98 (-1000000) ∈ rALL := List.mem_of_getElem? (i := 102) rfl
theorem mkM_99 : Cond.constant RM 99 (1000000) ∈ rALL := List.mem_of_getElem? (i := 103) rfl
theorem miM_rule : Cond.instanceMethod yM_rule ∈ rALL := List.mem_of_getElem? (i := 104) rfl
theorem meM_rule : Cond.selects RM yM_rule yM_rule ∈ rALL := List.mem_of_getElem? (i := 105) rfl
theorem miM_limit : Cond.instanceMethod yM_limit ∈ rALL := List.mem_of_getElem? (i := 107) rfl
theorem meM_limit : Cond.selects RM yM_limit yM_limit ∈ rALL := List.mem_of_getElem? (i := 108) rfl
theorem miM_number : Cond.instanceMethod yM_number ∈ rALL := List.mem_of_getElem? (i := 110) rfl
theorem meM_number : Cond.selects RM yM_number yM_number ∈ rALL := List.mem_of_getElem? (i := 111) rfl
theorem mlM_123 : Cond.methodLink RM 123 yM_isDesign ∈ rALL := List.mem_of_getElem? (i := 113) rfl
theorem miM_isDesign : Cond.instanceMethod yM_isDesign ∈ rALL := List.mem_of_getElem? (i := 114) rfl
theorem mlM_127 : Cond.methodLink RM 127 yM_know ∈ rALL := List.mem_of_getElem? (i := 116) rfl
theorem miM_know : Cond.instanceMethod yM_know ∈ rALL := List.mem_of_getElem? (i := 117) rfl
theorem mlM_112 : Cond.methodLink RM 112 yM_open ∈ rALL := List.mem_of_getElem? (i := 119) rfl
theorem miM_open : Cond.instanceMethod yM_open ∈ rALL := List.mem_of_getElem? (i := 120) rfl
theorem mlM_116 : Cond.methodLink RM 116 yM_isBarred ∈ rALL := List.mem_of_getElem? (i := 122) rfl
theorem miM_isBarred : Cond.instanceMethod yM_isBarred ∈ rALL := List.mem_of_getElem? (i := 123) rfl
theorem mlM_120 : Cond.methodLink RM 120 yM_passesLimits ∈ rALL := List.mem_of_getElem? (i := 125) rfl
theorem miM_passesLimits : Cond.instanceMethod yM_passesLimits ∈ rALL := List.mem_of_getElem? (i := 126) rfl
theorem mlM_109 : Cond.methodLink RM 109 yM_boundOf ∈ rALL := List.mem_of_getElem? (i := 128) rfl
theorem miM_boundOf : Cond.instanceMethod yM_boundOf ∈ rALL := List.mem_of_getElem? (i := 129) rfl
theorem mlM_106 : Cond.methodLink RM 106 yM_counts ∈ rALL := List.mem_of_getElem? (i := 131) rfl
theorem miM_counts : Cond.instanceMethod yM_counts ∈ rALL := List.mem_of_getElem? (i := 132) rfl
theorem miM_value : Cond.instanceMethod yM_value ∈ rALL := List.mem_of_getElem? (i := 134) rfl
theorem meM_value : Cond.selects RM yM_value yM_value ∈ rALL := List.mem_of_getElem? (i := 135) rfl
theorem miM_legal : Cond.instanceMethod yM_legal ∈ rALL := List.mem_of_getElem? (i := 137) rfl
theorem meM_legal : Cond.selects RM yM_legal yM_legal ∈ rALL := List.mem_of_getElem? (i := 138) rfl
theorem miM_beats : Cond.instanceMethod yM_beats ∈ rALL := List.mem_of_getElem? (i := 140) rfl
theorem meM_beats : Cond.selects RM yM_beats yM_beats ∈ rALL := List.mem_of_getElem? (i := 141) rfl
theorem mlM_130 : Cond.methodLink RM 130 yM_isBeaten ∈ rALL := List.mem_of_getElem? (i := 143) rfl
theorem miM_isBeaten : Cond.instanceMethod yM_isBeaten ∈ rALL := List.mem_of_getElem? (i := 144) rfl
theorem miM_undominated : Cond.instanceMethod yM_undominated ∈ rALL := List.mem_of_getElem? (i := 146) rfl
theorem meM_undominated : Cond.selects RM yM_undominated yM_undominated ∈ rALL := List.mem_of_getElem? (i := 147) rfl
theorem mlM_133 : Cond.methodLink RM 133 yM_isUndominated ∈ rALL := List.mem_of_getElem? (i := 149) rfl
theorem miM_isUndominated : Cond.instanceMethod yM_isUndominated ∈ rALL := List.mem_of_getElem? (i := 150) rfl
theorem miM_at : Cond.instanceMethod yM_at ∈ rALL := List.mem_of_getElem? (i := 152) rfl
theorem meM_at : Cond.selects RM yM_at yM_at ∈ rALL := List.mem_of_getElem? (i := 153) rfl
theorem miM_best : Cond.instanceMethod yM_best ∈ rALL := List.mem_of_getElem? (i := 155) rfl
theorem meM_best : Cond.selects RM yM_best yM_best ∈ rALL := List.mem_of_getElem? (i := 156) rfl
theorem mlM_139 : Cond.methodLink RM 139 yM_closed ∈ rALL := List.mem_of_getElem? (i := 158) rfl
theorem miM_closed : Cond.instanceMethod yM_closed ∈ rALL := List.mem_of_getElem? (i := 159) rfl
theorem mlM_143 : Cond.methodLink RM 143 yM_nextRow ∈ rALL := List.mem_of_getElem? (i := 161) rfl
theorem miM_nextRow : Cond.instanceMethod yM_nextRow ∈ rALL := List.mem_of_getElem? (i := 162) rfl
theorem miM_looked : Cond.instanceMethod yM_looked ∈ rALL := List.mem_of_getElem? (i := 164) rfl
theorem meM_looked : Cond.selects RM yM_looked yM_looked ∈ rALL := List.mem_of_getElem? (i := 165) rfl
theorem miM_bound : Cond.instanceMethod yM_bound ∈ rALL := List.mem_of_getElem? (i := 167) rfl
theorem meM_bound : Cond.selects RM yM_bound yM_bound ∈ rALL := List.mem_of_getElem? (i := 168) rfl
theorem miM_near : Cond.instanceMethod yM_near ∈ rALL := List.mem_of_getElem? (i := 170) rfl
theorem meM_near : Cond.selects RM yM_near yM_near ∈ rALL := List.mem_of_getElem? (i := 171) rfl
theorem mlM_146 : Cond.methodLink RM 146 yM_nears ∈ rALL := List.mem_of_getElem? (i := 173) rfl
theorem miM_nears : Cond.instanceMethod yM_nears ∈ rALL := List.mem_of_getElem? (i := 174) rfl
theorem mlM_149 : Cond.methodLink RM 149 yM_nearOf ∈ rALL := List.mem_of_getElem? (i := 176) rfl
theorem miM_nearOf : Cond.instanceMethod yM_nearOf ∈ rALL := List.mem_of_getElem? (i := 177) rfl
theorem miM_slack : Cond.instanceMethod yM_slack ∈ rALL := List.mem_of_getElem? (i := 179) rfl
theorem meM_slack : Cond.selects RM yM_slack yM_slack ∈ rALL := List.mem_of_getElem? (i := 180) rfl
theorem miM_walk : Cond.instanceMethod yM_walk ∈ rALL := List.mem_of_getElem? (i := 182) rfl
theorem meM_walk : Cond.selects RM yM_walk yM_walk ∈ rALL := List.mem_of_getElem? (i := 183) rfl
theorem mkM_159 : Cond.constant RM 159 (1103515245) ∈ rALL := List.mem_of_getElem? (i := 185) rfl
theorem mkM_160 : Cond.constant RM 160 (65536) ∈ rALL := List.mem_of_getElem? (i := 186) rfl
theorem mlM_161 : Cond.methodLink RM 161 yM_cost ∈ rALL := List.mem_of_getElem? (i := 187) rfl
theorem miM_cost : Cond.instanceMethod yM_cost ∈ rALL := List.mem_of_getElem? (i := 188) rfl
theorem miM_lowest : Cond.instanceMethod yM_lowest ∈ rALL := List.mem_of_getElem? (i := 190) rfl
theorem meM_lowest : Cond.selects RM yM_lowest yM_lowest ∈ rALL := List.mem_of_getElem? (i := 191) rfl
theorem miM_matters : Cond.instanceMethod yM_matters ∈ rALL := List.mem_of_getElem? (i := 193) rfl
theorem meM_matters : Cond.selects RM yM_matters yM_matters ∈ rALL := List.mem_of_getElem? (i := 194) rfl
theorem miM_sweep : Cond.instanceMethod yM_sweep ∈ rALL := List.mem_of_getElem? (i := 196) rfl
theorem meM_sweep : Cond.selects RM yM_sweep yM_sweep ∈ rALL := List.mem_of_getElem? (i := 197) rfl
theorem miM_count : Cond.instanceMethod yM_count ∈ rALL := List.mem_of_getElem? (i := 199) rfl
theorem meM_count : Cond.selects RM yM_count yM_count ∈ rALL := List.mem_of_getElem? (i := 200) rfl
theorem gVM {cw cw' : Cond} {idx : Nat} {C : String} {y : MethodName} (h1 : Cond.methodLink RM idx y ∈ rALL) (h2 : Cond.instanceMethod y ∈ rALL) (h3 : Cond.selects C y y ∈ rALL) (h4 : Cond.initialized C ∈ rALL) (h5 : cw' ∈ rALL) : GoodIn (cw :: rALL) (wsV RM idx C y (cw' :: rALL)) := by
  intro w hw
  have hm : w ∈ rALL := by
    unfold wsV at hw
    simp only [List.cons_append, List.nil_append, List.mem_cons] at hw
    rcases hw with rfl | rfl | rfl | rfl | rfl | hw
    · exact h1
    · exact h2
    · exact h3
    · exact h4
    · exact h5
    · exact hw
  exact ⟨List.mem_cons_of_mem _ hm, rALL_good w hm⟩
theorem gSM {cw cw' : Cond} {idx : Nat} {y : MethodName} (h1 : Cond.methodLink RM idx y ∈ rALL) (h2 : Cond.static y ∈ rALL) (h4 : Cond.initialized y.cls ∈ rALL) (h5 : cw' ∈ rALL) : GoodIn (cw :: rALL) (va_wsS RM idx y (cw' :: rALL)) := by
  intro w hw
  have hm : w ∈ rALL := by
    unfold va_wsS at hw
    simp only [List.cons_append, List.nil_append, List.mem_cons] at hw
    rcases hw with rfl | rfl | rfl | rfl | hw
    · exact h1
    · exact h2
    · exact h4
    · exact h5
    · exact hw
  exact ⟨List.mem_cons_of_mem _ hm, rALL_good w hm⟩
abbrev vwCl : List vw_C := [(RM, TM, 29)]
end
section
/-! contracts of two shapes: read-only (the heap stays, the answer is a function of what stands there), and of a world that is rewritten in place (ww: the world w in, the world w' out, nothing is made) -/
abbrev ro_P (D : va_G) (cl : List vw_C) (tys : List (ClassId × FieldType)) (H : Heap) (av : List Value) : Array Value → State → Prop := va_Pc av (fun U => U.heap = H ∧ va_K D cl tys U)
abbrev ro_Met (l : Launch) (y : MethodName) (ws : List Cond) (rm : Room) (D : va_G) (cl : List vw_C) (tys : List (ClassId × FieldType)) (H : Heap) (av : List Value) (r : Value) : Prop := Met l y ws rm (ro_P D cl tys H av) (k2_QcV r) 0 0 (fun _ => False)
def ww_Q (D : va_G) (cl : List vw_C) (r : Option Value) (w : va_W) (A : Nat → Prop) : Array Value → State → Outcome → State → Prop := fun _ st oc t => (oc = .returned r ∧ va_P D cl w t.heap ∧ va_D A w) ∧ va_F A st t
abbrev ww_Met (l : Launch) (y : MethodName) (ws : List Cond) (rm : Room) (D : va_G) (cl : List vw_C) (tys : List (ClassId × FieldType)) (H : Heap) (av : List Value) (w : va_W) (r : Option Value) (w' : va_W) : Prop := Met l y ws rm (ro_P D cl tys H av) (ww_Q D cl r w' (va_A w H.size)) 0 0 (va_A w H.size)
theorem ro_blind {D : va_G} {cl : List vw_C} {tys : List (ClassId × FieldType)} {H : Heap} {av : List Value} : FrameBlind (ro_P D cl tys H av) := by
  intro a U g mk q
  obtain ⟨q0, q1, q2⟩ := q
  exact ⟨q0, q1, va_K.moved (u := U) (U := U.calling g mk a) (Vm.Alike.refl U.vm) q2⟩
theorem ww_in {A0 : Nat → Prop} {w : va_W} {H0 H : Heap} {locs : List Loc} (hD : va_D A0 w) (hS : va_S A0 H0 H locs) (hA : ∀ q, H0.size ≤ q → A0 q) : ∀ q, va_A w H.size q → A0 q := by
  intro q h
  rcases h with ⟨k, e, h⟩ | h
  · exact hD.2 k (q, e) h
  · exact hA q (Nat.le_trans hS.1 h)
section RO
variable {p : Program} {l : Launch} {e : Env} {R : Room} {s : State} {m : MethodId} {args : Array Value} {below : List Frame} {meth : Method} {c : Code} {H : Heap} {locs : List Loc} {cells slots : Nat} {Q : State → Prop} {pc : Nat} {ls : Array Slot}
theorem wt_i {v r : Int32} {rest : List Value} (hv : v = r) (k : W p l e R s m args below meth c H locs cells slots Q (F0 m pc ls (.int r :: rest))) : W p l e R s m args below meth c H locs cells slots Q (F0 m pc ls (.int v :: rest)) := by
  subst hv; exact k
theorem wt_l {v r : Int64} {rest : List Value} (hv : v = r) (k : W p l e R s m args below meth c H locs cells slots Q (F0 m pc ls (.long r :: rest))) : W p l e R s m args below meth c H locs cells slots Q (F0 m pc ls (.long v :: rest)) := by
  subst hv; exact k
theorem ro_run {mc ms : Nat} {g : JFrame} {rest : List Value} {Qa : State → Outcome → State → Prop} {free : Addr → Prop} (h : va_Run p l e R s m args below meth c H locs cells slots mc ms g rest Qa free) : CallRun p l e R s m args below meth c H locs cells slots mc ms g rest Qa free := by
  intro T hT X
  obtain ⟨v, st₀, t, T', L, h0, X', hL, e1, e2, hq, st⟩ := h T hT X
  exact ⟨v, st₀, t, T', L, h0, X', hL, e1, hq, st⟩
variable {cc : ByteArray} {nL : Nat} {Ts : List Cond} {own : String} {y : MethodName} {ws : List Cond} {rm : Room} {D : va_G} {cl : List vw_C} {tys : List (ClassId × FieldType)} {bytes : ByteArray} {maxL n index : Nat} {ret : Option FieldType} {C : String} {b : Addr} {As rest : List Value} {host : String}
theorem wn_iald (hexec : p.tables.exec = Jvm.exec) (hb : c.code = cc) (hK : va_K D cl tys s) {w : va_W} (hP : va_P D cl w H) (q0 t0 : Nat) {a : Nat} {cA : ClassId} {n : Nat} {f : Nat → Int32} (ha : w[q0]? = some (a, .inl (cA, n, .inl f))) (ht : tys[t0]? = some (cA, .int)) {i : Int32} (k : Nat) (ei : i = nI k) (hk : k < n) (hn : n < 2 ^ 31) (hdg : decode cc pc = .ok (.iaload, 1))
    (kk : W p l e R s m args below meth c H locs cells slots Q (F0 m (pc + 1) ls (.int (f k) :: rest))) : W p l e R s m args below meth c H locs cells slots Q (F0 m pc ls (.int i :: .ref a :: rest)) := by
  subst ei
  refine va_iald hexec hb hK hP q0 t0 ha ht (vp_in_nI hk hn) hdg ?_
  rw [nI_clamp (Nat.lt_trans hk hn)]
  exact kk
theorem wn_zald (hexec : p.tables.exec = Jvm.exec) (hb : c.code = cc) (hK : va_K D cl tys s) {w : va_W} (hP : va_P D cl w H) (q0 t0 : Nat) {a : Nat} {cA : ClassId} {n : Nat} {f : Nat → Int32} (ha : w[q0]? = some (a, .inl (cA, n, .inl f))) (ht : tys[t0]? = some (cA, .boolean)) {i : Int32} (k : Nat) (ei : i = nI k) (hk : k < n) (hn : n < 2 ^ 31) (hdg : decode cc pc = .ok (.baload, 1))
    (kk : W p l e R s m args below meth c H locs cells slots Q (F0 m (pc + 1) ls (.int (f k) :: rest))) : W p l e R s m args below meth c H locs cells slots Q (F0 m pc ls (.int i :: .ref a :: rest)) := by
  subst ei
  refine va_zald hexec hb hK hP q0 t0 ha ht (vp_in_nI hk hn) hdg ?_
  rw [nI_clamp (Nat.lt_trans hk hn)]
  exact kk
theorem wn_iast (hexec : p.tables.exec = Jvm.exec) (hb : c.code = cc) (hK : va_K D cl tys s) {A : Nat → Prop} {H0 : Heap} {w : va_W} (hP : va_P D cl w H) (hD : va_D A w) (hS : va_S A H0 H locs) (q0 t0 : Nat) {a : Nat} {cA : ClassId} {n : Nat} {f : Nat → Int32} (ha : w[q0]? = some (a, .inl (cA, n, .inl f))) (ht : tys[t0]? = some (cA, .int)) {i x : Int32} (k : Nat) (ei : i = nI k) (hk : k < n) (hn : n < 2 ^ 31) (hdg : decode cc pc = .ok (.iastore, 1))
    (kk : ∀ (H1 : Heap) (locs1 : List Loc), va_P D cl (w.set q0 (a, .inl (cA, n, .inl (upd f k x)))) H1 → va_D A (w.set q0 (a, .inl (cA, n, .inl (upd f k x)))) → va_S A H0 H1 locs1 → W p l e R s m args below meth c H1 locs1 cells slots Q (F0 m (pc + 1) ls rest)) : W p l e R s m args below meth c H locs cells slots Q (F0 m pc ls (.int x :: .int i :: .ref a :: rest)) := by
  subst ei
  refine va_iast hexec hb hK hP hD hS q0 t0 ha ht (vp_in_nI hk hn) hdg fun H1 locs1 h1 h2 h3 => ?_
  rw [nI_clamp (Nat.lt_trans hk hn)] at h1 h2
  exact kk H1 locs1 h1 h2 h3
theorem wn_zast (hexec : p.tables.exec = Jvm.exec) (hb : c.code = cc) (hK : va_K D cl tys s) {A : Nat → Prop} {H0 : Heap} {w : va_W} (hP : va_P D cl w H) (hD : va_D A w) (hS : va_S A H0 H locs) (q0 t0 : Nat) {a : Nat} {cA : ClassId} {n : Nat} {f : Nat → Int32} (ha : w[q0]? = some (a, .inl (cA, n, .inl f))) (ht : tys[t0]? = some (cA, .boolean)) {i x : Int32} (k : Nat) (ei : i = nI k) (hk : k < n) (hn : n < 2 ^ 31) (hz : vp_nar .boolean x = x) (hdg : decode cc pc = .ok (.bastore, 1))
    (kk : ∀ (H1 : Heap) (locs1 : List Loc), va_P D cl (w.set q0 (a, .inl (cA, n, .inl (upd f k x)))) H1 → va_D A (w.set q0 (a, .inl (cA, n, .inl (upd f k x)))) → va_S A H0 H1 locs1 → W p l e R s m args below meth c H1 locs1 cells slots Q (F0 m (pc + 1) ls rest)) : W p l e R s m args below meth c H locs cells slots Q (F0 m pc ls (.int x :: .int i :: .ref a :: rest)) := by
  subst ei
  refine va_zast hexec hb hK hP hD hS q0 t0 ha ht (vp_in_nI hk hn) hdg fun H1 locs1 h1 h2 h3 => ?_
  rw [nI_clamp (Nat.lt_trans hk hn), hz] at h1 h2
  exact kk H1 locs1 h1 h2 h3
theorem ro_callV {r : Value} (S : CallFix p m c cc nL s args Ts own) (hM : ro_Met l y ws rm D cl tys H (.ref b :: As) r) (cw : CallW R s args own C index y bytes maxL ret ws rm 0 0 n) (hK : va_K D cl tys s) (hrecv : ∃ cell : Cell, H[b]? = some cell ∧ cell.vm.isStatics = false ∧ s.vm.findClass C = some cell.cls)
    (hn : As.length = n) (hl : ls.size = nL) {st : List Value} (hst : st = As.reverse ++ .ref b :: rest) (hW : (rest.map fun v => v.category).sum ≤ 8) (hdg : decode cc pc = .ok (.invokevirtual index, 3)) (hcs : cells ≤ R.cells ∧ slots ≤ R.slots)
    (kk : W p l e R s m args below meth c H locs cells slots Q (F0 m (pc + 3) ls (r :: rest))) : W p l e R s m args below meth c H locs cells slots Q (F0 m pc ls st) := by
  subst hst
  exact W.callV (W.runV (g := F0 m pc ls (As.reverse ++ .ref b :: rest)) S hM cw ⟨ro_blind, hrecv, fun U hU hW => ⟨rfl, hU, va_K.moved hW.alike hK⟩⟩ rfl hn hl rfl (lv_room hW) hdg hcs) kk
theorem ro_callS {r : Value} (S : CallFix p m c cc nL s args Ts own) (hM : ro_Met l y ws rm D cl tys H As r) (cw : CallB R s args own index y bytes maxL ret ws rm 0 0 n ∧ (Cond.static y).before args s = true) (hK : va_K D cl tys s)
    (hn : As.length = n) (hl : ls.size = nL) {st : List Value} (hst : st = As.reverse ++ rest) (hW : (rest.map fun v => v.category).sum ≤ 8) (hdg : decode cc pc = .ok (.invokestatic index, 3)) (hcs : cells ≤ R.cells ∧ slots ≤ R.slots)
    (kk : W p l e R s m args below meth c H locs cells slots Q (F0 m (pc + 3) ls (r :: rest))) : W p l e R s m args below meth c H locs cells slots Q (F0 m pc ls st) := by
  subst hst
  exact W.callV (W.runS (g := F0 m pc ls (As.reverse ++ rest)) S hM cw ⟨ro_blind, fun U hU hW => ⟨rfl, hU, va_K.moved hW.alike hK⟩⟩ rfl hn hl rfl (lv_room hW) hdg hcs) kk
theorem ww_call {r : Option Value} {w' : va_W} {A0 A1 : Nat → Prop} {H0 : Heap} {a : Array Value} {st0 : List Value} (hr : va_Run p l e R s m args below meth c H locs cells slots 0 0 (F0 m pc ls st0) rest (ww_Q D cl r w' A1 a) A1) (hS : va_S A0 H0 H locs) (hA : ∀ q, A1 q → A0 q)
    (kk : ∀ (H1 : Heap) (locs1 : List Loc), va_P D cl w' H1 → va_D A1 w' → H.size ≤ H1.size → (∀ q : Nat, q < H.size → ¬ A1 q → H1[q]? = H[q]?) → va_S A0 H0 H1 locs1 → W p l e R s m args below meth c H1 locs1 cells slots Q (F0 m (pc + 3) ls (r.toList ++ rest))) : W p l e R s m args below meth c H locs cells slots Q (F0 m pc ls st0) := by
  intro T hT X
  obtain ⟨v, st₀, t, T', L, h0, X', hL, e1, e2, ⟨⟨hv, hp, hd⟩, hz, hk⟩, st⟩ := hr T hT X
  cases hv
  rw [h0] at hz hk
  obtain ⟨t2, a1, b1⟩ := kk T'.heap (locs ++ L) (by rw [e1]; exact hp) hd (by rw [e1]; exact hz) (fun q h1 h2 => by rw [e1]; exact hk q h1 h2)
    ⟨Nat.le_trans hS.1 (by rw [e1]; exact hz), fun q h1 h2 => by rw [e1, hk q (Nat.lt_of_lt_of_le h1 hS.1) (fun z => h2 (hA q z))]; exact hS.2.1 q h1 h2, fun q hq => by
      rcases List.mem_append.mp hq with h | h
      · exact hS.2.2 q h
      · exact hA _ (hL q h)⟩ T' rfl X'
  exact ⟨t2, st t2 a1, b1⟩
theorem ww_callV {r : Option Value} {w w' : va_W} {A0 : Nat → Prop} {H0 : Heap} (S : CallFix p m c cc nL s args Ts own) (hM : ww_Met l y ws rm D cl tys H (.ref b :: As) w r w') (cw : CallW R s args own C index y bytes maxL ret ws rm 0 0 n) (hK : va_K D cl tys s) (hrecv : ∃ cell : Cell, H[b]? = some cell ∧ cell.vm.isStatics = false ∧ s.vm.findClass C = some cell.cls)
    (hn : As.length = n) (hl : ls.size = nL) {st : List Value} (hst : st = As.reverse ++ .ref b :: rest) (hW : (rest.map fun v => v.category).sum ≤ 8) (hdg : decode cc pc = .ok (.invokevirtual index, 3)) (hcs : cells ≤ R.cells ∧ slots ≤ R.slots) (hD : va_D A0 w) (hS : va_S A0 H0 H locs) (hA : ∀ q, H0.size ≤ q → A0 q)
    (kk : ∀ (H1 : Heap) (locs1 : List Loc), va_P D cl w' H1 → va_D A0 w' → va_S A0 H0 H1 locs1 → W p l e R s m args below meth c H1 locs1 cells slots Q (F0 m (pc + 3) ls (r.toList ++ rest))) : W p l e R s m args below meth c H locs cells slots Q (F0 m pc ls st) := by
  subst hst
  exact ww_call (va_runV (g := F0 m pc ls (As.reverse ++ .ref b :: rest)) S hM cw ⟨ro_blind, hrecv, fun U hU hW => ⟨rfl, hU, va_K.moved hW.alike hK⟩⟩ rfl hn hl rfl (lv_room hW) hdg hcs) hS (ww_in hD hS hA) (fun H1 locs1 h1 h2 _ _ h5 => kk H1 locs1 h1 (h2.weaken (fun k q _ h => ww_in hD hS hA q.1 h)) h5)
end RO
section ROM
variable {l : Launch} {y : MethodName} {ws ws' : List Cond} {rm : Room} {D : va_G} {cl : List vw_C} {tys : List (ClassId × FieldType)} {H : Heap} {av : List Value} {cc : ByteArray} {maxL : Nat}
theorem ro_metI {r : Int32} (hy : plainName y.cls = true) (hw : ws = Cond.code y cc maxL (some .int) :: ws') (hn : (lg_sl av).length ≤ maxL)
    (walk : ∀ {p : Program} {e : Env} {s : State} {m : MethodId} {args : Array Value} {below : List Frame} {meth : Method} {c : Code} {Q : State → Prop}, CallFix p m c cc maxL s args ws y.cls → va_K D cl tys s → ∀ ls : Array Slot, lv_has ls maxL (lv_args 0 av) → (∀ (pc : Nat) (ls : Array Slot) (v : Int32), v = r → decode cc pc = .ok (.ireturn, 1) → W p l e rm s m args below meth c H [] 0 0 Q (F0 m pc ls [.int v])) → W p l e rm s m args below meth c H [] 0 0 Q (F0 m 0 ls [])) :
    ro_Met l y ws rm D cl tys H av (.int r) := by
  refine Met.ofW (cc := cc) (maxL := maxL) (ret := some .int) hy hw ?_
  intro p e s m args below meth c s₁ B hml hv
  obtain ⟨rfl, hH, hK⟩ := hv
  subst hH
  have hx := B.exec
  have hb := B.bytes
  have hr := B.returns
  have hts := atoms_spec (ws := ws) B.pre
  have hown : s.vm.findClass y.cls = some m.cls := findClass_of_methodNamed B.named
  have hlocks := B.notSynchronized
  have hl := lv_entry av (n := maxL) hn
  rw [lg_entry_eq]
  exact walk ⟨hx, hb, hml, hown, hts⟩ hK _ hl (fun pc ls v hv hdg => by subst hv; exact W.iret hx hb hr (fun t ht hW => ⟨rfl, ht⟩) (fun q h => absurd h List.not_mem_nil) hdg)
theorem ro_metZ {r : Int32} (hr0 : narrow .boolean (.int r) = .int r) (hy : plainName y.cls = true) (hw : ws = Cond.code y cc maxL (some .boolean) :: ws') (hn : (lg_sl av).length ≤ maxL)
    (walk : ∀ {p : Program} {e : Env} {s : State} {m : MethodId} {args : Array Value} {below : List Frame} {meth : Method} {c : Code} {Q : State → Prop}, CallFix p m c cc maxL s args ws y.cls → va_K D cl tys s → ∀ ls : Array Slot, lv_has ls maxL (lv_args 0 av) → (∀ (pc : Nat) (ls : Array Slot) (v : Int32), v = r → decode cc pc = .ok (.ireturn, 1) → W p l e rm s m args below meth c H [] 0 0 Q (F0 m pc ls [.int v])) → W p l e rm s m args below meth c H [] 0 0 Q (F0 m 0 ls [])) :
    ro_Met l y ws rm D cl tys H av (.int r) := by
  refine Met.ofW (cc := cc) (maxL := maxL) (ret := some .boolean) hy hw ?_
  intro p e s m args below meth c s₁ B hml hv
  obtain ⟨rfl, hH, hK⟩ := hv
  subst hH
  have hx := B.exec
  have hb := B.bytes
  have hr := B.returns
  have hts := atoms_spec (ws := ws) B.pre
  have hown : s.vm.findClass y.cls = some m.cls := findClass_of_methodNamed B.named
  have hlocks := B.notSynchronized
  have hl := lv_entry av (n := maxL) hn
  rw [lg_entry_eq]
  exact walk ⟨hx, hb, hml, hown, hts⟩ hK _ hl (fun pc ls v hv hdg => by subst hv; exact W.zret hx hb hr hr0 (fun t ht hW => ⟨rfl, ht⟩) (fun q h => absurd h List.not_mem_nil) hdg)
theorem ro_metJ {r : Int64} (hy : plainName y.cls = true) (hw : ws = Cond.code y cc maxL (some .long) :: ws') (hn : (lg_sl av).length ≤ maxL)
    (walk : ∀ {p : Program} {e : Env} {s : State} {m : MethodId} {args : Array Value} {below : List Frame} {meth : Method} {c : Code} {Q : State → Prop}, CallFix p m c cc maxL s args ws y.cls → va_K D cl tys s → ∀ ls : Array Slot, lv_has ls maxL (lv_args 0 av) → (∀ (pc : Nat) (ls : Array Slot) (v : Int64), v = r → decode cc pc = .ok (.lreturn, 1) → W p l e rm s m args below meth c H [] 0 0 Q (F0 m pc ls [.long v])) → W p l e rm s m args below meth c H [] 0 0 Q (F0 m 0 ls [])) :
    ro_Met l y ws rm D cl tys H av (.long r) := by
  refine Met.ofW (cc := cc) (maxL := maxL) (ret := some .long) hy hw ?_
  intro p e s m args below meth c s₁ B hml hv
  obtain ⟨rfl, hH, hK⟩ := hv
  subst hH
  have hx := B.exec
  have hb := B.bytes
  have hr := B.returns
  have hts := atoms_spec (ws := ws) B.pre
  have hown : s.vm.findClass y.cls = some m.cls := findClass_of_methodNamed B.named
  have hlocks := B.notSynchronized
  have hl := lv_entry av (n := maxL) hn
  rw [lg_entry_eq]
  exact walk ⟨hx, hb, hml, hown, hts⟩ hK _ hl (fun pc ls v hv hdg => by subst hv; exact W.lret hx hb hr (fun t ht hW => ⟨rfl, ht⟩) (fun q h => absurd h List.not_mem_nil) hdg)
end ROM
section WWM
variable {l : Launch} {y : MethodName} {ws ws' : List Cond} {rm : Room} {D : va_G} {cl : List vw_C} {tys : List (ClassId × FieldType)} {H : Heap} {av : List Value} {cc : ByteArray} {maxL : Nat} {w w' : va_W}
theorem ww_metI {r : Int32} (hy : plainName y.cls = true) (hw : ws = Cond.code y cc maxL (some .int) :: ws') (hn : (lg_sl av).length ≤ maxL) (hP : va_P D cl w H) (hD : va_D (fun _ => True) w)
    (walk : ∀ {p : Program} {e : Env} {s : State} {m : MethodId} {args : Array Value} {below : List Frame} {meth : Method} {c : Code} {Q : State → Prop} {A : Nat → Prop}, CallFix p m c cc maxL s args ws y.cls → va_K D cl tys s → va_P D cl w H → va_D A w → va_S A H H [] → (∀ q, H.size ≤ q → A q) → ∀ ls : Array Slot, lv_has ls maxL (lv_args 0 av) → (∀ (pc : Nat) (ls : Array Slot) (v : Int32) (w1 : va_W) (H1 : Heap) (locs : List Loc), v = r → w1 = w' → va_P D cl w1 H1 → va_D A w1 → va_S A H H1 locs → decode cc pc = .ok (.ireturn, 1) → W p l e rm s m args below meth c H1 locs 0 0 Q (F0 m pc ls [.int v])) → W p l e rm s m args below meth c H [] 0 0 Q (F0 m 0 ls [])) :
    ww_Met l y ws rm D cl tys H av w (some (.int r)) w' := by
  refine Met.ofW (cc := cc) (maxL := maxL) (ret := some .int) hy hw ?_
  intro p e s m args below meth c s₁ B hml hv
  obtain ⟨rfl, hH, hK⟩ := hv
  subst hH
  have hx := B.exec
  have hb := B.bytes
  have hr := B.returns
  have hts := atoms_spec (ws := ws) B.pre
  have hown : s.vm.findClass y.cls = some m.cls := findClass_of_methodNamed B.named
  have hlocks := B.notSynchronized
  have hl := lv_entry av (n := maxL) hn
  rw [lg_entry_eq]
  exact walk (A := va_A w s.heap.size) ⟨hx, hb, hml, hown, hts⟩ hK hP hD.self va_S.rf (fun q h => Or.inr h) _ hl (fun pc ls v w1 H1 locs hv e1 p1 d1 s1 hdg => by subst hv; subst e1; exact W.iret hx hb hr (fun t ht hW => ⟨⟨rfl, by rw [ht]; exact p1, d1⟩, s1.F ht⟩) s1.2.2 hdg)
theorem ww_metZ {r : Int32} (hr0 : narrow .boolean (.int r) = .int r) (hy : plainName y.cls = true) (hw : ws = Cond.code y cc maxL (some .boolean) :: ws') (hn : (lg_sl av).length ≤ maxL) (hP : va_P D cl w H) (hD : va_D (fun _ => True) w)
    (walk : ∀ {p : Program} {e : Env} {s : State} {m : MethodId} {args : Array Value} {below : List Frame} {meth : Method} {c : Code} {Q : State → Prop} {A : Nat → Prop}, CallFix p m c cc maxL s args ws y.cls → va_K D cl tys s → va_P D cl w H → va_D A w → va_S A H H [] → (∀ q, H.size ≤ q → A q) → ∀ ls : Array Slot, lv_has ls maxL (lv_args 0 av) → (∀ (pc : Nat) (ls : Array Slot) (v : Int32) (w1 : va_W) (H1 : Heap) (locs : List Loc), v = r → w1 = w' → va_P D cl w1 H1 → va_D A w1 → va_S A H H1 locs → decode cc pc = .ok (.ireturn, 1) → W p l e rm s m args below meth c H1 locs 0 0 Q (F0 m pc ls [.int v])) → W p l e rm s m args below meth c H [] 0 0 Q (F0 m 0 ls [])) :
    ww_Met l y ws rm D cl tys H av w (some (.int r)) w' := by
  refine Met.ofW (cc := cc) (maxL := maxL) (ret := some .boolean) hy hw ?_
  intro p e s m args below meth c s₁ B hml hv
  obtain ⟨rfl, hH, hK⟩ := hv
  subst hH
  have hx := B.exec
  have hb := B.bytes
  have hr := B.returns
  have hts := atoms_spec (ws := ws) B.pre
  have hown : s.vm.findClass y.cls = some m.cls := findClass_of_methodNamed B.named
  have hlocks := B.notSynchronized
  have hl := lv_entry av (n := maxL) hn
  rw [lg_entry_eq]
  exact walk (A := va_A w s.heap.size) ⟨hx, hb, hml, hown, hts⟩ hK hP hD.self va_S.rf (fun q h => Or.inr h) _ hl (fun pc ls v w1 H1 locs hv e1 p1 d1 s1 hdg => by subst hv; subst e1; exact W.zret hx hb hr hr0 (fun t ht hW => ⟨⟨rfl, by rw [ht]; exact p1, d1⟩, s1.F ht⟩) s1.2.2 hdg)
theorem ww_metJ {r : Int64} (hy : plainName y.cls = true) (hw : ws = Cond.code y cc maxL (some .long) :: ws') (hn : (lg_sl av).length ≤ maxL) (hP : va_P D cl w H) (hD : va_D (fun _ => True) w)
    (walk : ∀ {p : Program} {e : Env} {s : State} {m : MethodId} {args : Array Value} {below : List Frame} {meth : Method} {c : Code} {Q : State → Prop} {A : Nat → Prop}, CallFix p m c cc maxL s args ws y.cls → va_K D cl tys s → va_P D cl w H → va_D A w → va_S A H H [] → (∀ q, H.size ≤ q → A q) → ∀ ls : Array Slot, lv_has ls maxL (lv_args 0 av) → (∀ (pc : Nat) (ls : Array Slot) (v : Int64) (w1 : va_W) (H1 : Heap) (locs : List Loc), v = r → w1 = w' → va_P D cl w1 H1 → va_D A w1 → va_S A H H1 locs → decode cc pc = .ok (.lreturn, 1) → W p l e rm s m args below meth c H1 locs 0 0 Q (F0 m pc ls [.long v])) → W p l e rm s m args below meth c H [] 0 0 Q (F0 m 0 ls [])) :
    ww_Met l y ws rm D cl tys H av w (some (.long r)) w' := by
  refine Met.ofW (cc := cc) (maxL := maxL) (ret := some .long) hy hw ?_
  intro p e s m args below meth c s₁ B hml hv
  obtain ⟨rfl, hH, hK⟩ := hv
  subst hH
  have hx := B.exec
  have hb := B.bytes
  have hr := B.returns
  have hts := atoms_spec (ws := ws) B.pre
  have hown : s.vm.findClass y.cls = some m.cls := findClass_of_methodNamed B.named
  have hlocks := B.notSynchronized
  have hl := lv_entry av (n := maxL) hn
  rw [lg_entry_eq]
  exact walk (A := va_A w s.heap.size) ⟨hx, hb, hml, hown, hts⟩ hK hP hD.self va_S.rf (fun q h => Or.inr h) _ hl (fun pc ls v w1 H1 locs hv e1 p1 d1 s1 hdg => by subst hv; subst e1; exact W.lret hx hb hr (fun t ht hW => ⟨⟨rfl, by rw [ht]; exact p1, d1⟩, s1.F ht⟩) s1.2.2 hdg)
theorem ww_metV (hy : plainName y.cls = true) (hw : ws = Cond.code y cc maxL none :: ws') (hn : (lg_sl av).length ≤ maxL) (hP : va_P D cl w H) (hD : va_D (fun _ => True) w)
    (walk : ∀ {p : Program} {e : Env} {s : State} {m : MethodId} {args : Array Value} {below : List Frame} {meth : Method} {c : Code} {Q : State → Prop} {A : Nat → Prop}, CallFix p m c cc maxL s args ws y.cls → va_K D cl tys s → va_P D cl w H → va_D A w → va_S A H H [] → (∀ q, H.size ≤ q → A q) → ∀ ls : Array Slot, lv_has ls maxL (lv_args 0 av) → (∀ (pc : Nat) (ls : Array Slot) (w1 : va_W) (H1 : Heap) (locs : List Loc), w1 = w' → va_P D cl w1 H1 → va_D A w1 → va_S A H H1 locs → decode cc pc = .ok (.return_, 1) → W p l e rm s m args below meth c H1 locs 0 0 Q (F0 m pc ls [])) → W p l e rm s m args below meth c H [] 0 0 Q (F0 m 0 ls [])) :
    ww_Met l y ws rm D cl tys H av w none w' := by
  refine Met.ofW (cc := cc) (maxL := maxL) (ret := none) hy hw ?_
  intro p e s m args below meth c s₁ B hml hv
  obtain ⟨rfl, hH, hK⟩ := hv
  subst hH
  have hx := B.exec
  have hb := B.bytes
  have hr := B.returns
  have hts := atoms_spec (ws := ws) B.pre
  have hown : s.vm.findClass y.cls = some m.cls := findClass_of_methodNamed B.named
  have hlocks := B.notSynchronized
  have hl := lv_entry av (n := maxL) hn
  rw [lg_entry_eq]
  exact walk (A := va_A w s.heap.size) ⟨hx, hb, hml, hown, hts⟩ hK hP hD.self va_S.rf (fun q h => Or.inr h) _ hl (fun pc ls w1 H1 locs e1 p1 d1 s1 hdg => by subst e1; exact W.vret hx hb hr (fun t ht hW => ⟨⟨rfl, by rw [ht]; exact p1, d1⟩, s1.F ht⟩) s1.2.2 hdg)
end WWM
end
section
/-! small facts of ints that the walks use -/
theorem ix_cl {x : Int32} {n : Nat} (h : ∃ j : Nat, j < n ∧ x = nI j) (hn : n ≤ 65536) : x = nI x.toNatClampNeg ∧ x.toNatClampNeg < n := by
  obtain ⟨j, hj, rfl⟩ := h
  have e : (nI j).toNatClampNeg = j := nI_clamp (by omega)
  rw [e]
  exact ⟨rfl, hj⟩
theorem ix_nn {x : Int32} {n : Nat} (h : x = -1 ∨ ∃ j : Nat, j < n ∧ x = nI j) (hx : ¬ x < 0) : ∃ j : Nat, j < n ∧ x = nI j := by
  rcases h with h | h
  · exact absurd (by rw [h]; decide) hx
  · exact h
theorem bq_b {c : Prop} [Decidable c] {x : Int32} (h : (if c then 1 else x) = 0) : ¬ c := by
  intro hc
  rw [if_pos hc] at h
  exact absurd h (by decide)
theorem i0_toInt : (0 : Int32).toInt = 0 := rfl
theorem dn_toInt {n : Nat} (hn : n < 2 ^ 30) : (nI n - 1).toInt = (n : Int) - 1 := pk_sub_toInt (a := n) (b := 1) hn (by decide)
theorem dn_neg {n k : Nat} (h : nI (n - k) - 1 < 0) (hn : n ≤ 65536) : n ≤ k := by
  have e := dn_toInt (n := n - k) (by omega)
  have q := Int32.lt_iff_toInt_lt.mp h
  rw [e, i0_toInt] at q
  omega
theorem dn_nneg {n k : Nat} (h : ¬ nI (n - k) - 1 < 0) (hn : n ≤ 65536) : ¬ n ≤ k := by
  intro q
  apply h
  rw [Int32.lt_iff_toInt_lt, dn_toInt (by omega), i0_toInt]
  omega
theorem dn_ix {n k : Nat} (h : k < n) : nI (n - k) - 1 = nI (n - 1 - k) := by
  have e : n - k = (n - 1 - k) + 1 := by omega
  rw [e]
  exact nI_pred _
theorem ii_1 (k : Nat) : nI k + Int32.ofInt 1 = nI (k + 1) := by
  rw [show Int32.ofInt 1 = 1 by decide]
  exact nI_1 k
theorem dn_dec {n k : Nat} (h : k < n) : nI (n - k) - 1 + Int32.ofInt (-1) = nI (n - (k + 1)) - 1 := by
  rw [dn_ix h, show Int32.ofInt (-1) = -1 by decide, show n - 1 - k = n - (k + 1) by omega]
  exact (Int32.sub_eq_add_neg _ _).symm
theorem wi_ge {c : Int32} {n : Nat} (h1 : ¬ c < 0) (h2 : ¬ nI n - 1 < c) (hn : n ≤ 65536) : ∃ j : Nat, j < n ∧ c = nI j := by
  obtain ⟨j, hj, rfl⟩ := nI_of h1
  refine ⟨j, ?_, rfl⟩
  rcases Nat.lt_or_ge j n with q | q
  · exact q
  · exfalso
    apply h2
    rw [Int32.lt_iff_toInt_lt, dn_toInt (by omega), nI_toInt hj]
    omega
theorem wi_le {c : Int32} {n : Nat} (h1 : ¬ c < 0) (h2 : ¬ nI n < c) (hn : n ≤ 65536) : ∃ j : Nat, j < n + 1 ∧ c = nI j := by
  obtain ⟨j, hj, rfl⟩ := nI_of h1
  refine ⟨j, ?_, rfl⟩
  rcases Nat.lt_or_ge n j with q | q
  · exact absurd ((nI_ltI (by omega) hj).mpr q) h2
  · omega
theorem bq_c {c : Prop} [Decidable c] (h : (if c then 1 else 0 : Int32) ≤ 0) : ¬ c := by
  intro hc
  rw [if_pos hc] at h
  exact absurd h (by decide)
theorem bq_c1 {c : Prop} [Decidable c] {x : Int32} (h : (if c then 1 else x : Int32) ≤ 0) : ¬ c := by
  intro hc
  rw [if_pos hc] at h
  exact absurd h (by decide)
theorem bq_c2 {c b : Prop} [Decidable c] [Decidable b] (h : (if c then 1 else (if b then 1 else 0) : Int32) ≤ 0) : ¬ b := by
  intro hb
  rw [if_pos hb] at h
  split at h
  · exact absurd h (by decide)
  · exact absurd h (by decide)
theorem up_1 (x : Nat) : nI x - 1 + 1 = nI x := Int32.sub_add_cancel _ _
theorem up_pos {x : Nat} (h : 0 ≤ nI x - 1) (hx : x ≤ 65536) : 0 < x := by
  have q := Int32.le_iff_toInt_le.mp h
  rw [i0_toInt, dn_toInt (by omega)] at q
  omega
theorem sw_out {x : Int32} (h0 : ¬ x = 0) (h1 : ¬ x = 1) (h2 : ¬ x = 2) (h3 : ¬ x = 3) (h4 : ¬ x = 4) (h5 : ¬ x = 5) (h6 : ¬ x = 6) (h7 : ¬ x = 7) (h8 : ¬ x = 8) : x.toInt < 0 ∨ 8 < x.toInt := by
  have f : ∀ y : Int32, ¬ x = y → ¬ x.toInt = y.toInt := fun y h e => h (Int32.toInt_inj.mp e)
  have a0 := f 0 h0; have a1 := f 1 h1; have a2 := f 2 h2; have a3 := f 3 h3; have a4 := f 4 h4; have a5 := f 5 h5; have a6 := f 6 h6; have a7 := f 7 h7; have a8 := f 8 h8
  rw [show (0 : Int32).toInt = 0 from rfl] at a0; rw [show (1 : Int32).toInt = 1 from rfl] at a1; rw [show (2 : Int32).toInt = 2 from rfl] at a2; rw [show (3 : Int32).toInt = 3 from rfl] at a3; rw [show (4 : Int32).toInt = 4 from rfl] at a4; rw [show (5 : Int32).toInt = 5 from rfl] at a5; rw [show (6 : Int32).toInt = 6 from rfl] at a6; rw [show (7 : Int32).toInt = 7 from rfl] at a7; rw [show (8 : Int32).toInt = 8 from rfl] at a8
  omega
theorem zb_0 : narrow .boolean (.int 0) = .int 0 := rfl
theorem zb_1 : narrow .boolean (.int 1) = .int 1 := rfl
theorem zb_i {c : Prop} [Decidable c] {x y : Int32} (hx : narrow .boolean (.int x) = .int x) (hy : narrow .boolean (.int y) = .int y) : narrow .boolean (.int (if c then x else y)) = .int (if c then x else y) := by
  split
  · exact hx
  · exact hy
theorem zb_f {α : Type} {c : Prop} [Decidable c] {x y : Int32 × α} (hx : narrow .boolean (.int x.1) = .int x.1) (hy : narrow .boolean (.int y.1) = .int y.1) : narrow .boolean (.int (if c then x else y).1) = .int (if c then x else y).1 := by
  split
  · exact hx
  · exact hy
theorem vb_0 : vp_nar .boolean 0 = 0 := rfl
theorem vb_1 : vp_nar .boolean 1 = 1 := rfl
theorem vb_i {c : Prop} [Decidable c] {x y : Int32} (hx : vp_nar .boolean x = x) (hy : vp_nar .boolean y = y) : vp_nar .boolean (if c then x else y) = (if c then x else y) := by
  split
  · exact hx
  · exact hy
end
section
theorem dM_init_0 : decode cM_init 0 = .ok (.aload_n 0, 1) := by decide +kernel
theorem dM_init_1 : decode cM_init 1 = .ok (.invokespecial 1, 3) := by decide +kernel
theorem dM_init_4 : decode cM_init 4 = .ok (.aload_n 0, 1) := by decide +kernel
theorem dM_init_5 : decode cM_init 5 = .ok (.iconst 1, 1) := by decide +kernel
theorem dM_init_6 : decode cM_init 6 = .ok (.putfield 7, 3) := by decide +kernel
theorem dM_init_9 : decode cM_init 9 = .ok (.aload_n 0, 1) := by decide +kernel
theorem dM_init_10 : decode cM_init 10 = .ok (.bipush 8, 2) := by decide +kernel
theorem dM_init_12 : decode cM_init 12 = .ok (.newarray .int, 2) := by decide +kernel
theorem dM_init_14 : decode cM_init 14 = .ok (.putfield 13, 3) := by decide +kernel
theorem dM_init_17 : decode cM_init 17 = .ok (.aload_n 0, 1) := by decide +kernel
theorem dM_init_18 : decode cM_init 18 = .ok (.bipush 100, 2) := by decide +kernel
theorem dM_init_20 : decode cM_init 20 = .ok (.newarray .int, 2) := by decide +kernel
theorem dM_init_22 : decode cM_init 22 = .ok (.putfield 17, 3) := by decide +kernel
theorem dM_init_25 : decode cM_init 25 = .ok (.aload_n 0, 1) := by decide +kernel
theorem dM_init_26 : decode cM_init 26 = .ok (.bipush 100, 2) := by decide +kernel
theorem dM_init_28 : decode cM_init 28 = .ok (.newarray .int, 2) := by decide +kernel
theorem dM_init_30 : decode cM_init 30 = .ok (.putfield 20, 3) := by decide +kernel
theorem dM_init_33 : decode cM_init 33 = .ok (.aload_n 0, 1) := by decide +kernel
theorem dM_init_34 : decode cM_init 34 = .ok (.bipush 100, 2) := by decide +kernel
theorem dM_init_36 : decode cM_init 36 = .ok (.newarray .int, 2) := by decide +kernel
theorem dM_init_38 : decode cM_init 38 = .ok (.putfield 23, 3) := by decide +kernel
theorem dM_init_41 : decode cM_init 41 = .ok (.aload_n 0, 1) := by decide +kernel
theorem dM_init_42 : decode cM_init 42 = .ok (.bipush 100, 2) := by decide +kernel
theorem dM_init_44 : decode cM_init 44 = .ok (.newarray .int, 2) := by decide +kernel
theorem dM_init_46 : decode cM_init 46 = .ok (.putfield 26, 3) := by decide +kernel
theorem dM_init_49 : decode cM_init 49 = .ok (.aload_n 0, 1) := by decide +kernel
theorem dM_init_50 : decode cM_init 50 = .ok (.bipush 100, 2) := by decide +kernel
theorem dM_init_52 : decode cM_init 52 = .ok (.newarray .int, 2) := by decide +kernel
theorem dM_init_54 : decode cM_init 54 = .ok (.putfield 29, 3) := by decide +kernel
theorem dM_init_57 : decode cM_init 57 = .ok (.aload_n 0, 1) := by decide +kernel
theorem dM_init_58 : decode cM_init 58 = .ok (.bipush 100, 2) := by decide +kernel
theorem dM_init_60 : decode cM_init 60 = .ok (.newarray .int, 2) := by decide +kernel
theorem dM_init_62 : decode cM_init 62 = .ok (.putfield 32, 3) := by decide +kernel
theorem dM_init_65 : decode cM_init 65 = .ok (.aload_n 0, 1) := by decide +kernel
theorem dM_init_66 : decode cM_init 66 = .ok (.bipush 40, 2) := by decide +kernel
theorem dM_init_68 : decode cM_init 68 = .ok (.newarray .int, 2) := by decide +kernel
theorem dM_init_70 : decode cM_init 70 = .ok (.putfield 35, 3) := by decide +kernel
theorem dM_init_73 : decode cM_init 73 = .ok (.aload_n 0, 1) := by decide +kernel
theorem dM_init_74 : decode cM_init 74 = .ok (.bipush 40, 2) := by decide +kernel
theorem dM_init_76 : decode cM_init 76 = .ok (.newarray .int, 2) := by decide +kernel
theorem dM_init_78 : decode cM_init 78 = .ok (.putfield 38, 3) := by decide +kernel
theorem dM_init_81 : decode cM_init 81 = .ok (.aload_n 0, 1) := by decide +kernel
theorem dM_init_82 : decode cM_init 82 = .ok (.bipush 40, 2) := by decide +kernel
theorem dM_init_84 : decode cM_init 84 = .ok (.newarray .int, 2) := by decide +kernel
theorem dM_init_86 : decode cM_init 86 = .ok (.putfield 41, 3) := by decide +kernel
theorem dM_init_89 : decode cM_init 89 = .ok (.aload_n 0, 1) := by decide +kernel
theorem dM_init_90 : decode cM_init 90 = .ok (.bipush 40, 2) := by decide +kernel
theorem dM_init_92 : decode cM_init 92 = .ok (.newarray .int, 2) := by decide +kernel
theorem dM_init_94 : decode cM_init 94 = .ok (.putfield 44, 3) := by decide +kernel
theorem dM_init_97 : decode cM_init 97 = .ok (.aload_n 0, 1) := by decide +kernel
theorem dM_init_98 : decode cM_init 98 = .ok (.iconst 4, 1) := by decide +kernel
theorem dM_init_99 : decode cM_init 99 = .ok (.newarray .boolean, 2) := by decide +kernel
theorem dM_init_101 : decode cM_init 101 = .ok (.putfield 47, 3) := by decide +kernel
theorem dM_init_104 : decode cM_init 104 = .ok (.aload_n 0, 1) := by decide +kernel
theorem dM_init_105 : decode cM_init 105 = .ok (.iconst 4, 1) := by decide +kernel
theorem dM_init_106 : decode cM_init 106 = .ok (.newarray .int, 2) := by decide +kernel
theorem dM_init_108 : decode cM_init 108 = .ok (.putfield 51, 3) := by decide +kernel
theorem dM_init_111 : decode cM_init 111 = .ok (.aload_n 0, 1) := by decide +kernel
theorem dM_init_112 : decode cM_init 112 = .ok (.bipush 8, 2) := by decide +kernel
theorem dM_init_114 : decode cM_init 114 = .ok (.newarray .int, 2) := by decide +kernel
theorem dM_init_116 : decode cM_init 116 = .ok (.putfield 54, 3) := by decide +kernel
theorem dM_init_119 : decode cM_init 119 = .ok (.aload_n 0, 1) := by decide +kernel
theorem dM_init_120 : decode cM_init 120 = .ok (.iconst (-1), 1) := by decide +kernel
theorem dM_init_121 : decode cM_init 121 = .ok (.putfield 57, 3) := by decide +kernel
theorem dM_init_124 : decode cM_init 124 = .ok (.aload_n 0, 1) := by decide +kernel
theorem dM_init_125 : decode cM_init 125 = .ok (.sipush 4096, 3) := by decide +kernel
theorem dM_init_128 : decode cM_init 128 = .ok (.newarray .boolean, 2) := by decide +kernel
theorem dM_init_130 : decode cM_init 130 = .ok (.putfield 60, 3) := by decide +kernel
theorem dM_init_133 : decode cM_init 133 = .ok (.aload_n 0, 1) := by decide +kernel
theorem dM_init_134 : decode cM_init 134 = .ok (.sipush 16384, 3) := by decide +kernel
theorem dM_init_137 : decode cM_init 137 = .ok (.newarray .int, 2) := by decide +kernel
theorem dM_init_139 : decode cM_init 139 = .ok (.putfield 63, 3) := by decide +kernel
theorem dM_init_142 : decode cM_init 142 = .ok (.aload_n 0, 1) := by decide +kernel
theorem dM_init_143 : decode cM_init 143 = .ok (.iload_n 1, 1) := by decide +kernel
theorem dM_init_144 : decode cM_init 144 = .ok (.ldc 66, 2) := by decide +kernel
theorem dM_init_146 : decode cM_init 146 = .ok (.iand, 1) := by decide +kernel
theorem dM_init_147 : decode cM_init 147 = .ok (.putfield 67, 3) := by decide +kernel
theorem dM_init_150 : decode cM_init 150 = .ok (.return_, 1) := by decide +kernel
theorem dM_thrown_0 : decode cM_thrown 0 = .ok (.aload_n 0, 1) := by decide +kernel
theorem dM_thrown_1 : decode cM_thrown 1 = .ok (.getfield 70, 3) := by decide +kernel
theorem dM_thrown_4 : decode cM_thrown 4 = .ok (.ireturn, 1) := by decide +kernel
theorem dM_fail_0 : decode cM_fail 0 = .ok (.aload_n 0, 1) := by decide +kernel
theorem dM_fail_1 : decode cM_fail 1 = .ok (.iload_n 1, 1) := by decide +kernel
theorem dM_fail_2 : decode cM_fail 2 = .ok (.putfield 70, 3) := by decide +kernel
theorem dM_fail_5 : decode cM_fail 5 = .ok (.iconst 0, 1) := by decide +kernel
theorem dM_fail_6 : decode cM_fail 6 = .ok (.ireturn, 1) := by decide +kernel
theorem dM_within_0 : decode cM_within 0 = .ok (.iload_n 0, 1) := by decide +kernel
theorem dM_within_1 : decode cM_within 1 = .ok (.iload_n 1, 1) := by decide +kernel
theorem dM_within_2 : decode cM_within 2 = .ok (.if_icmp .lt 12, 3) := by decide +kernel
theorem dM_within_5 : decode cM_within 5 = .ok (.iload_n 0, 1) := by decide +kernel
theorem dM_within_6 : decode cM_within 6 = .ok (.iload_n 2, 1) := by decide +kernel
theorem dM_within_7 : decode cM_within 7 = .ok (.if_icmp .gt 7, 3) := by decide +kernel
theorem dM_within_10 : decode cM_within 10 = .ok (.iconst 1, 1) := by decide +kernel
theorem dM_within_11 : decode cM_within 11 = .ok (.goto 4, 3) := by decide +kernel
theorem dM_within_14 : decode cM_within 14 = .ok (.iconst 0, 1) := by decide +kernel
theorem dM_within_15 : decode cM_within 15 = .ok (.ireturn, 1) := by decide +kernel
theorem dM_choice_0 : decode cM_choice 0 = .ok (.aload_n 0, 1) := by decide +kernel
theorem dM_choice_1 : decode cM_choice 1 = .ok (.iconst 0, 1) := by decide +kernel
theorem dM_choice_2 : decode cM_choice 2 = .ok (.putfield 70, 3) := by decide +kernel
theorem dM_choice_5 : decode cM_choice 5 = .ok (.iload_n 1, 1) := by decide +kernel
theorem dM_choice_6 : decode cM_choice 6 = .ok (.iconst 2, 1) := by decide +kernel
theorem dM_choice_7 : decode cM_choice 7 = .ok (.bipush 6, 2) := by decide +kernel
theorem dM_choice_9 : decode cM_choice 9 = .ok (.invokestatic 73, 3) := by decide +kernel
theorem dM_choice_12 : decode cM_choice 12 = .ok (.ifCond .ne 9, 3) := by decide +kernel
theorem dM_choice_15 : decode cM_choice 15 = .ok (.aload_n 0, 1) := by decide +kernel
theorem dM_choice_16 : decode cM_choice 16 = .ok (.iconst 1, 1) := by decide +kernel
theorem dM_choice_17 : decode cM_choice 17 = .ok (.invokevirtual 77, 3) := by decide +kernel
theorem dM_choice_20 : decode cM_choice 20 = .ok (.ireturn, 1) := by decide +kernel
theorem dM_choice_21 : decode cM_choice 21 = .ok (.aload_n 0, 1) := by decide +kernel
theorem dM_choice_22 : decode cM_choice 22 = .ok (.getfield 81, 3) := by decide +kernel
theorem dM_choice_25 : decode cM_choice 25 = .ok (.bipush 8, 2) := by decide +kernel
theorem dM_choice_27 : decode cM_choice 27 = .ok (.if_icmp .eq 15, 3) := by decide +kernel
theorem dM_choice_30 : decode cM_choice 30 = .ok (.aload_n 0, 1) := by decide +kernel
theorem dM_choice_31 : decode cM_choice 31 = .ok (.getfield 7, 3) := by decide +kernel
theorem dM_choice_34 : decode cM_choice 34 = .ok (.iload_n 1, 1) := by decide +kernel
theorem dM_choice_35 : decode cM_choice 35 = .ok (.imul, 1) := by decide +kernel
theorem dM_choice_36 : decode cM_choice 36 = .ok (.sipush 4096, 3) := by decide +kernel
theorem dM_choice_39 : decode cM_choice 39 = .ok (.if_icmp .le 9, 3) := by decide +kernel
theorem dM_choice_42 : decode cM_choice 42 = .ok (.aload_n 0, 1) := by decide +kernel
theorem dM_choice_43 : decode cM_choice 43 = .ok (.iconst 2, 1) := by decide +kernel
theorem dM_choice_44 : decode cM_choice 44 = .ok (.invokevirtual 77, 3) := by decide +kernel
theorem dM_choice_47 : decode cM_choice 47 = .ok (.ireturn, 1) := by decide +kernel
theorem dM_choice_48 : decode cM_choice 48 = .ok (.aload_n 0, 1) := by decide +kernel
theorem dM_choice_49 : decode cM_choice 49 = .ok (.getfield 13, 3) := by decide +kernel
theorem dM_choice_52 : decode cM_choice 52 = .ok (.aload_n 0, 1) := by decide +kernel
theorem dM_choice_53 : decode cM_choice 53 = .ok (.getfield 81, 3) := by decide +kernel
theorem dM_choice_56 : decode cM_choice 56 = .ok (.iload_n 1, 1) := by decide +kernel
theorem dM_choice_57 : decode cM_choice 57 = .ok (.iastore, 1) := by decide +kernel
theorem dM_choice_58 : decode cM_choice 58 = .ok (.aload_n 0, 1) := by decide +kernel
theorem dM_choice_59 : decode cM_choice 59 = .ok (.dup, 1) := by decide +kernel
theorem dM_choice_60 : decode cM_choice 60 = .ok (.getfield 81, 3) := by decide +kernel
theorem dM_choice_63 : decode cM_choice 63 = .ok (.iconst 1, 1) := by decide +kernel
theorem dM_choice_64 : decode cM_choice 64 = .ok (.iadd, 1) := by decide +kernel
theorem dM_choice_65 : decode cM_choice 65 = .ok (.putfield 81, 3) := by decide +kernel
theorem dM_choice_68 : decode cM_choice 68 = .ok (.aload_n 0, 1) := by decide +kernel
theorem dM_choice_69 : decode cM_choice 69 = .ok (.dup, 1) := by decide +kernel
theorem dM_choice_70 : decode cM_choice 70 = .ok (.getfield 7, 3) := by decide +kernel
theorem dM_choice_73 : decode cM_choice 73 = .ok (.iload_n 1, 1) := by decide +kernel
theorem dM_choice_74 : decode cM_choice 74 = .ok (.imul, 1) := by decide +kernel
theorem dM_choice_75 : decode cM_choice 75 = .ok (.putfield 7, 3) := by decide +kernel
theorem dM_choice_78 : decode cM_choice 78 = .ok (.aload_n 0, 1) := by decide +kernel
theorem dM_choice_79 : decode cM_choice 79 = .ok (.iconst 0, 1) := by decide +kernel
theorem dM_choice_80 : decode cM_choice 80 = .ok (.putfield 84, 3) := by decide +kernel
theorem dM_choice_83 : decode cM_choice 83 = .ok (.aload_n 0, 1) := by decide +kernel
theorem dM_choice_84 : decode cM_choice 84 = .ok (.iconst 0, 1) := by decide +kernel
theorem dM_choice_85 : decode cM_choice 85 = .ok (.putfield 87, 3) := by decide +kernel
theorem dM_choice_88 : decode cM_choice 88 = .ok (.aload_n 0, 1) := by decide +kernel
theorem dM_choice_89 : decode cM_choice 89 = .ok (.iconst 0, 1) := by decide +kernel
theorem dM_choice_90 : decode cM_choice 90 = .ok (.putfield 90, 3) := by decide +kernel
theorem dM_choice_93 : decode cM_choice 93 = .ok (.aload_n 0, 1) := by decide +kernel
theorem dM_choice_94 : decode cM_choice 94 = .ok (.getfield 81, 3) := by decide +kernel
theorem dM_choice_97 : decode cM_choice 97 = .ok (.iconst 1, 1) := by decide +kernel
theorem dM_choice_98 : decode cM_choice 98 = .ok (.isub, 1) := by decide +kernel
theorem dM_choice_99 : decode cM_choice 99 = .ok (.ireturn, 1) := by decide +kernel
theorem dM_isValue_0 : decode cM_isValue 0 = .ok (.iload_n 1, 1) := by decide +kernel
theorem dM_isValue_1 : decode cM_isValue 1 = .ok (.iconst 0, 1) := by decide +kernel
theorem dM_isValue_2 : decode cM_isValue 2 = .ok (.aload_n 0, 1) := by decide +kernel
theorem dM_isValue_3 : decode cM_isValue 3 = .ok (.getfield 81, 3) := by decide +kernel
theorem dM_isValue_6 : decode cM_isValue 6 = .ok (.iconst 1, 1) := by decide +kernel
theorem dM_isValue_7 : decode cM_isValue 7 = .ok (.isub, 1) := by decide +kernel
theorem dM_isValue_8 : decode cM_isValue 8 = .ok (.invokestatic 73, 3) := by decide +kernel
theorem dM_isValue_11 : decode cM_isValue 11 = .ok (.ifCond .eq 23, 3) := by decide +kernel
theorem dM_isValue_14 : decode cM_isValue 14 = .ok (.iload_n 2, 1) := by decide +kernel
theorem dM_isValue_15 : decode cM_isValue 15 = .ok (.iconst 0, 1) := by decide +kernel
theorem dM_isValue_16 : decode cM_isValue 16 = .ok (.aload_n 0, 1) := by decide +kernel
theorem dM_isValue_17 : decode cM_isValue 17 = .ok (.getfield 13, 3) := by decide +kernel
theorem dM_isValue_20 : decode cM_isValue 20 = .ok (.iload_n 1, 1) := by decide +kernel
theorem dM_isValue_21 : decode cM_isValue 21 = .ok (.iaload, 1) := by decide +kernel
theorem dM_isValue_22 : decode cM_isValue 22 = .ok (.iconst 1, 1) := by decide +kernel
theorem dM_isValue_23 : decode cM_isValue 23 = .ok (.isub, 1) := by decide +kernel
theorem dM_isValue_24 : decode cM_isValue 24 = .ok (.invokestatic 73, 3) := by decide +kernel
theorem dM_isValue_27 : decode cM_isValue 27 = .ok (.ifCond .eq 7, 3) := by decide +kernel
theorem dM_isValue_30 : decode cM_isValue 30 = .ok (.iconst 1, 1) := by decide +kernel
theorem dM_isValue_31 : decode cM_isValue 31 = .ok (.goto 4, 3) := by decide +kernel
theorem dM_isValue_34 : decode cM_isValue 34 = .ok (.iconst 0, 1) := by decide +kernel
theorem dM_isValue_35 : decode cM_isValue 35 = .ok (.ireturn, 1) := by decide +kernel
theorem dM_term_0 : decode cM_term 0 = .ok (.aload_n 0, 1) := by decide +kernel
theorem dM_term_1 : decode cM_term 1 = .ok (.iconst 0, 1) := by decide +kernel
theorem dM_term_2 : decode cM_term 2 = .ok (.putfield 70, 3) := by decide +kernel
theorem dM_term_5 : decode cM_term 5 = .ok (.iload_n 1, 1) := by decide +kernel
theorem dM_term_6 : decode cM_term 6 = .ok (.iconst 0, 1) := by decide +kernel
theorem dM_term_7 : decode cM_term 7 = .ok (.iconst 3, 1) := by decide +kernel
theorem dM_term_8 : decode cM_term 8 = .ok (.invokestatic 73, 3) := by decide +kernel
theorem dM_term_11 : decode cM_term 11 = .ok (.ifCond .eq 29, 3) := by decide +kernel
theorem dM_term_14 : decode cM_term 14 = .ok (.aload_n 0, 1) := by decide +kernel
theorem dM_term_15 : decode cM_term 15 = .ok (.iload_n 2, 1) := by decide +kernel
theorem dM_term_16 : decode cM_term 16 = .ok (.iload_n 3, 1) := by decide +kernel
theorem dM_term_17 : decode cM_term 17 = .ok (.invokevirtual 94, 3) := by decide +kernel
theorem dM_term_20 : decode cM_term 20 = .ok (.ifCond .eq 20, 3) := by decide +kernel
theorem dM_term_23 : decode cM_term 23 = .ok (.iload 4, 2) := by decide +kernel
theorem dM_term_25 : decode cM_term 25 = .ok (.iconst (-1), 1) := by decide +kernel
theorem dM_term_26 : decode cM_term 26 = .ok (.if_icmp .eq 20, 3) := by decide +kernel
theorem dM_term_29 : decode cM_term 29 = .ok (.aload_n 0, 1) := by decide +kernel
theorem dM_term_30 : decode cM_term 30 = .ok (.iload 4, 2) := by decide +kernel
theorem dM_term_32 : decode cM_term 32 = .ok (.iload 5, 2) := by decide +kernel
theorem dM_term_34 : decode cM_term 34 = .ok (.invokevirtual 94, 3) := by decide +kernel
theorem dM_term_37 : decode cM_term 37 = .ok (.ifCond .ne 9, 3) := by decide +kernel
theorem dM_term_40 : decode cM_term 40 = .ok (.aload_n 0, 1) := by decide +kernel
theorem dM_term_41 : decode cM_term 41 = .ok (.iconst 1, 1) := by decide +kernel
theorem dM_term_42 : decode cM_term 42 = .ok (.invokevirtual 77, 3) := by decide +kernel
theorem dM_term_45 : decode cM_term 45 = .ok (.ireturn, 1) := by decide +kernel
theorem dM_term_46 : decode cM_term 46 = .ok (.iload_n 2, 1) := by decide +kernel
theorem dM_term_47 : decode cM_term 47 = .ok (.iload 4, 2) := by decide +kernel
theorem dM_term_49 : decode cM_term 49 = .ok (.if_icmp .eq 15, 3) := by decide +kernel
theorem dM_term_52 : decode cM_term 52 = .ok (.iload 6, 2) := by decide +kernel
theorem dM_term_54 : decode cM_term 54 = .ok (.ldc 98, 2) := by decide +kernel
theorem dM_term_56 : decode cM_term 56 = .ok (.ldc 99, 2) := by decide +kernel
theorem dM_term_58 : decode cM_term 58 = .ok (.invokestatic 73, 3) := by decide +kernel
theorem dM_term_61 : decode cM_term 61 = .ok (.ifCond .ne 9, 3) := by decide +kernel
theorem dM_term_64 : decode cM_term 64 = .ok (.aload_n 0, 1) := by decide +kernel
theorem dM_term_65 : decode cM_term 65 = .ok (.iconst 2, 1) := by decide +kernel
theorem dM_term_66 : decode cM_term 66 = .ok (.invokevirtual 77, 3) := by decide +kernel
theorem dM_term_69 : decode cM_term 69 = .ok (.ireturn, 1) := by decide +kernel
theorem dM_term_70 : decode cM_term 70 = .ok (.aload_n 0, 1) := by decide +kernel
theorem dM_term_71 : decode cM_term 71 = .ok (.getfield 100, 3) := by decide +kernel
theorem dM_term_74 : decode cM_term 74 = .ok (.bipush 100, 2) := by decide +kernel
theorem dM_term_76 : decode cM_term 76 = .ok (.if_icmp .ne 9, 3) := by decide +kernel
theorem dM_term_79 : decode cM_term 79 = .ok (.aload_n 0, 1) := by decide +kernel
theorem dM_term_80 : decode cM_term 80 = .ok (.iconst 3, 1) := by decide +kernel
theorem dM_term_81 : decode cM_term 81 = .ok (.invokevirtual 77, 3) := by decide +kernel
theorem dM_term_84 : decode cM_term 84 = .ok (.ireturn, 1) := by decide +kernel
theorem dM_term_85 : decode cM_term 85 = .ok (.aload_n 0, 1) := by decide +kernel
theorem dM_term_86 : decode cM_term 86 = .ok (.getfield 17, 3) := by decide +kernel
theorem dM_term_89 : decode cM_term 89 = .ok (.aload_n 0, 1) := by decide +kernel
theorem dM_term_90 : decode cM_term 90 = .ok (.getfield 100, 3) := by decide +kernel
theorem dM_term_93 : decode cM_term 93 = .ok (.iload_n 1, 1) := by decide +kernel
theorem dM_term_94 : decode cM_term 94 = .ok (.iastore, 1) := by decide +kernel
theorem dM_term_95 : decode cM_term 95 = .ok (.aload_n 0, 1) := by decide +kernel
theorem dM_term_96 : decode cM_term 96 = .ok (.getfield 20, 3) := by decide +kernel
theorem dM_term_99 : decode cM_term 99 = .ok (.aload_n 0, 1) := by decide +kernel
theorem dM_term_100 : decode cM_term 100 = .ok (.getfield 100, 3) := by decide +kernel
theorem dM_term_103 : decode cM_term 103 = .ok (.iload_n 2, 1) := by decide +kernel
theorem dM_term_104 : decode cM_term 104 = .ok (.iastore, 1) := by decide +kernel
theorem dM_term_105 : decode cM_term 105 = .ok (.aload_n 0, 1) := by decide +kernel
theorem dM_term_106 : decode cM_term 106 = .ok (.getfield 23, 3) := by decide +kernel
theorem dM_term_109 : decode cM_term 109 = .ok (.aload_n 0, 1) := by decide +kernel
theorem dM_term_110 : decode cM_term 110 = .ok (.getfield 100, 3) := by decide +kernel
theorem dM_term_113 : decode cM_term 113 = .ok (.iload_n 3, 1) := by decide +kernel
theorem dM_term_114 : decode cM_term 114 = .ok (.iastore, 1) := by decide +kernel
theorem dM_term_115 : decode cM_term 115 = .ok (.aload_n 0, 1) := by decide +kernel
theorem dM_term_116 : decode cM_term 116 = .ok (.getfield 26, 3) := by decide +kernel
theorem dM_term_119 : decode cM_term 119 = .ok (.aload_n 0, 1) := by decide +kernel
theorem dM_term_120 : decode cM_term 120 = .ok (.getfield 100, 3) := by decide +kernel
theorem dM_term_123 : decode cM_term 123 = .ok (.iload 4, 2) := by decide +kernel
theorem dM_term_125 : decode cM_term 125 = .ok (.iastore, 1) := by decide +kernel
theorem dM_term_126 : decode cM_term 126 = .ok (.aload_n 0, 1) := by decide +kernel
theorem dM_term_127 : decode cM_term 127 = .ok (.getfield 29, 3) := by decide +kernel
theorem dM_term_130 : decode cM_term 130 = .ok (.aload_n 0, 1) := by decide +kernel
theorem dM_term_131 : decode cM_term 131 = .ok (.getfield 100, 3) := by decide +kernel
theorem dM_term_134 : decode cM_term 134 = .ok (.iload 5, 2) := by decide +kernel
theorem dM_term_136 : decode cM_term 136 = .ok (.iastore, 1) := by decide +kernel
theorem dM_term_137 : decode cM_term 137 = .ok (.aload_n 0, 1) := by decide +kernel
theorem dM_term_138 : decode cM_term 138 = .ok (.getfield 32, 3) := by decide +kernel
theorem dM_term_141 : decode cM_term 141 = .ok (.aload_n 0, 1) := by decide +kernel
theorem dM_term_142 : decode cM_term 142 = .ok (.getfield 100, 3) := by decide +kernel
theorem dM_term_145 : decode cM_term 145 = .ok (.iload 6, 2) := by decide +kernel
theorem dM_term_147 : decode cM_term 147 = .ok (.iastore, 1) := by decide +kernel
theorem dM_term_148 : decode cM_term 148 = .ok (.aload_n 0, 1) := by decide +kernel
theorem dM_term_149 : decode cM_term 149 = .ok (.dup, 1) := by decide +kernel
theorem dM_term_150 : decode cM_term 150 = .ok (.getfield 100, 3) := by decide +kernel
theorem dM_term_153 : decode cM_term 153 = .ok (.iconst 1, 1) := by decide +kernel
theorem dM_term_154 : decode cM_term 154 = .ok (.iadd, 1) := by decide +kernel
theorem dM_term_155 : decode cM_term 155 = .ok (.putfield 100, 3) := by decide +kernel
theorem dM_term_158 : decode cM_term 158 = .ok (.aload_n 0, 1) := by decide +kernel
theorem dM_term_159 : decode cM_term 159 = .ok (.iconst 0, 1) := by decide +kernel
theorem dM_term_160 : decode cM_term 160 = .ok (.putfield 90, 3) := by decide +kernel
theorem dM_term_163 : decode cM_term 163 = .ok (.aload_n 0, 1) := by decide +kernel
theorem dM_term_164 : decode cM_term 164 = .ok (.getfield 100, 3) := by decide +kernel
theorem dM_term_167 : decode cM_term 167 = .ok (.ireturn, 1) := by decide +kernel
theorem dM_rule_0 : decode cM_rule 0 = .ok (.aload_n 0, 1) := by decide +kernel
theorem dM_rule_1 : decode cM_rule 1 = .ok (.iconst 0, 1) := by decide +kernel
theorem dM_rule_2 : decode cM_rule 2 = .ok (.putfield 70, 3) := by decide +kernel
theorem dM_rule_5 : decode cM_rule 5 = .ok (.aload_n 0, 1) := by decide +kernel
theorem dM_rule_6 : decode cM_rule 6 = .ok (.iload_n 1, 1) := by decide +kernel
theorem dM_rule_7 : decode cM_rule 7 = .ok (.iload_n 2, 1) := by decide +kernel
theorem dM_rule_8 : decode cM_rule 8 = .ok (.invokevirtual 94, 3) := by decide +kernel
theorem dM_rule_11 : decode cM_rule 11 = .ok (.ifCond .eq 13, 3) := by decide +kernel
theorem dM_rule_14 : decode cM_rule 14 = .ok (.aload_n 0, 1) := by decide +kernel
theorem dM_rule_15 : decode cM_rule 15 = .ok (.iload_n 3, 1) := by decide +kernel
theorem dM_rule_16 : decode cM_rule 16 = .ok (.iload 4, 2) := by decide +kernel
theorem dM_rule_18 : decode cM_rule 18 = .ok (.invokevirtual 94, 3) := by decide +kernel
theorem dM_rule_21 : decode cM_rule 21 = .ok (.ifCond .ne 9, 3) := by decide +kernel
theorem dM_rule_24 : decode cM_rule 24 = .ok (.aload_n 0, 1) := by decide +kernel
theorem dM_rule_25 : decode cM_rule 25 = .ok (.iconst 1, 1) := by decide +kernel
theorem dM_rule_26 : decode cM_rule 26 = .ok (.invokevirtual 77, 3) := by decide +kernel
theorem dM_rule_29 : decode cM_rule 29 = .ok (.ireturn, 1) := by decide +kernel
theorem dM_rule_30 : decode cM_rule 30 = .ok (.iload_n 1, 1) := by decide +kernel
theorem dM_rule_31 : decode cM_rule 31 = .ok (.iload_n 3, 1) := by decide +kernel
theorem dM_rule_32 : decode cM_rule 32 = .ok (.if_icmp .ne 9, 3) := by decide +kernel
theorem dM_rule_35 : decode cM_rule 35 = .ok (.aload_n 0, 1) := by decide +kernel
theorem dM_rule_36 : decode cM_rule 36 = .ok (.iconst 2, 1) := by decide +kernel
theorem dM_rule_37 : decode cM_rule 37 = .ok (.invokevirtual 77, 3) := by decide +kernel
theorem dM_rule_40 : decode cM_rule 40 = .ok (.ireturn, 1) := by decide +kernel
theorem dM_rule_41 : decode cM_rule 41 = .ok (.aload_n 0, 1) := by decide +kernel
theorem dM_rule_42 : decode cM_rule 42 = .ok (.getfield 103, 3) := by decide +kernel
theorem dM_rule_45 : decode cM_rule 45 = .ok (.bipush 40, 2) := by decide +kernel
theorem dM_rule_47 : decode cM_rule 47 = .ok (.if_icmp .ne 9, 3) := by decide +kernel
theorem dM_rule_50 : decode cM_rule 50 = .ok (.aload_n 0, 1) := by decide +kernel
theorem dM_rule_51 : decode cM_rule 51 = .ok (.iconst 3, 1) := by decide +kernel
theorem dM_rule_52 : decode cM_rule 52 = .ok (.invokevirtual 77, 3) := by decide +kernel
theorem dM_rule_55 : decode cM_rule 55 = .ok (.ireturn, 1) := by decide +kernel
theorem dM_rule_56 : decode cM_rule 56 = .ok (.aload_n 0, 1) := by decide +kernel
theorem dM_rule_57 : decode cM_rule 57 = .ok (.getfield 35, 3) := by decide +kernel
theorem dM_rule_60 : decode cM_rule 60 = .ok (.aload_n 0, 1) := by decide +kernel
theorem dM_rule_61 : decode cM_rule 61 = .ok (.getfield 103, 3) := by decide +kernel
theorem dM_rule_64 : decode cM_rule 64 = .ok (.iload_n 1, 1) := by decide +kernel
theorem dM_rule_65 : decode cM_rule 65 = .ok (.iastore, 1) := by decide +kernel
theorem dM_rule_66 : decode cM_rule 66 = .ok (.aload_n 0, 1) := by decide +kernel
theorem dM_rule_67 : decode cM_rule 67 = .ok (.getfield 38, 3) := by decide +kernel
theorem dM_rule_70 : decode cM_rule 70 = .ok (.aload_n 0, 1) := by decide +kernel
theorem dM_rule_71 : decode cM_rule 71 = .ok (.getfield 103, 3) := by decide +kernel
theorem dM_rule_74 : decode cM_rule 74 = .ok (.iload_n 2, 1) := by decide +kernel
theorem dM_rule_75 : decode cM_rule 75 = .ok (.iastore, 1) := by decide +kernel
theorem dM_rule_76 : decode cM_rule 76 = .ok (.aload_n 0, 1) := by decide +kernel
theorem dM_rule_77 : decode cM_rule 77 = .ok (.getfield 41, 3) := by decide +kernel
theorem dM_rule_80 : decode cM_rule 80 = .ok (.aload_n 0, 1) := by decide +kernel
theorem dM_rule_81 : decode cM_rule 81 = .ok (.getfield 103, 3) := by decide +kernel
theorem dM_rule_84 : decode cM_rule 84 = .ok (.iload_n 3, 1) := by decide +kernel
theorem dM_rule_85 : decode cM_rule 85 = .ok (.iastore, 1) := by decide +kernel
theorem dM_rule_86 : decode cM_rule 86 = .ok (.aload_n 0, 1) := by decide +kernel
theorem dM_rule_87 : decode cM_rule 87 = .ok (.getfield 44, 3) := by decide +kernel
theorem dM_rule_90 : decode cM_rule 90 = .ok (.aload_n 0, 1) := by decide +kernel
theorem dM_rule_91 : decode cM_rule 91 = .ok (.getfield 103, 3) := by decide +kernel
theorem dM_rule_94 : decode cM_rule 94 = .ok (.iload 4, 2) := by decide +kernel
theorem dM_rule_96 : decode cM_rule 96 = .ok (.iastore, 1) := by decide +kernel
theorem dM_rule_97 : decode cM_rule 97 = .ok (.aload_n 0, 1) := by decide +kernel
theorem dM_rule_98 : decode cM_rule 98 = .ok (.dup, 1) := by decide +kernel
theorem dM_rule_99 : decode cM_rule 99 = .ok (.getfield 103, 3) := by decide +kernel
theorem dM_rule_102 : decode cM_rule 102 = .ok (.iconst 1, 1) := by decide +kernel
theorem dM_rule_103 : decode cM_rule 103 = .ok (.iadd, 1) := by decide +kernel
theorem dM_rule_104 : decode cM_rule 104 = .ok (.putfield 103, 3) := by decide +kernel
theorem dM_rule_107 : decode cM_rule 107 = .ok (.aload_n 0, 1) := by decide +kernel
theorem dM_rule_108 : decode cM_rule 108 = .ok (.iconst 0, 1) := by decide +kernel
theorem dM_rule_109 : decode cM_rule 109 = .ok (.putfield 90, 3) := by decide +kernel
theorem dM_rule_112 : decode cM_rule 112 = .ok (.aload_n 0, 1) := by decide +kernel
theorem dM_rule_113 : decode cM_rule 113 = .ok (.getfield 103, 3) := by decide +kernel
theorem dM_rule_116 : decode cM_rule 116 = .ok (.ireturn, 1) := by decide +kernel
theorem dM_limit_0 : decode cM_limit 0 = .ok (.aload_n 0, 1) := by decide +kernel
theorem dM_limit_1 : decode cM_limit 1 = .ok (.iload_n 1, 1) := by decide +kernel
theorem dM_limit_2 : decode cM_limit 2 = .ok (.iconst 0, 1) := by decide +kernel
theorem dM_limit_3 : decode cM_limit 3 = .ok (.iconst 3, 1) := by decide +kernel
theorem dM_limit_4 : decode cM_limit 4 = .ok (.invokestatic 73, 3) := by decide +kernel
theorem dM_limit_7 : decode cM_limit 7 = .ok (.ifCond .eq 7, 3) := by decide +kernel
theorem dM_limit_10 : decode cM_limit 10 = .ok (.iconst 0, 1) := by decide +kernel
theorem dM_limit_11 : decode cM_limit 11 = .ok (.goto 4, 3) := by decide +kernel
theorem dM_limit_14 : decode cM_limit 14 = .ok (.iconst 1, 1) := by decide +kernel
theorem dM_limit_15 : decode cM_limit 15 = .ok (.putfield 70, 3) := by decide +kernel
theorem dM_limit_18 : decode cM_limit 18 = .ok (.aload_n 0, 1) := by decide +kernel
theorem dM_limit_19 : decode cM_limit 19 = .ok (.getfield 70, 3) := by decide +kernel
theorem dM_limit_22 : decode cM_limit 22 = .ok (.ifCond .le 5, 3) := by decide +kernel
theorem dM_limit_25 : decode cM_limit 25 = .ok (.iconst 0, 1) := by decide +kernel
theorem dM_limit_26 : decode cM_limit 26 = .ok (.ireturn, 1) := by decide +kernel
theorem dM_limit_27 : decode cM_limit 27 = .ok (.aload_n 0, 1) := by decide +kernel
theorem dM_limit_28 : decode cM_limit 28 = .ok (.getfield 47, 3) := by decide +kernel
theorem dM_limit_31 : decode cM_limit 31 = .ok (.iload_n 1, 1) := by decide +kernel
theorem dM_limit_32 : decode cM_limit 32 = .ok (.baload, 1) := by decide +kernel
theorem dM_limit_33 : decode cM_limit 33 = .ok (.istore 4, 2) := by decide +kernel
theorem dM_limit_35 : decode cM_limit 35 = .ok (.aload_n 0, 1) := by decide +kernel
theorem dM_limit_36 : decode cM_limit 36 = .ok (.getfield 47, 3) := by decide +kernel
theorem dM_limit_39 : decode cM_limit 39 = .ok (.iload_n 1, 1) := by decide +kernel
theorem dM_limit_40 : decode cM_limit 40 = .ok (.iload_n 2, 1) := by decide +kernel
theorem dM_limit_41 : decode cM_limit 41 = .ok (.bastore, 1) := by decide +kernel
theorem dM_limit_42 : decode cM_limit 42 = .ok (.aload_n 0, 1) := by decide +kernel
theorem dM_limit_43 : decode cM_limit 43 = .ok (.getfield 51, 3) := by decide +kernel
theorem dM_limit_46 : decode cM_limit 46 = .ok (.iload_n 1, 1) := by decide +kernel
theorem dM_limit_47 : decode cM_limit 47 = .ok (.iload_n 3, 1) := by decide +kernel
theorem dM_limit_48 : decode cM_limit 48 = .ok (.iastore, 1) := by decide +kernel
theorem dM_limit_49 : decode cM_limit 49 = .ok (.aload_n 0, 1) := by decide +kernel
theorem dM_limit_50 : decode cM_limit 50 = .ok (.iconst 0, 1) := by decide +kernel
theorem dM_limit_51 : decode cM_limit 51 = .ok (.putfield 90, 3) := by decide +kernel
theorem dM_limit_54 : decode cM_limit 54 = .ok (.iload 4, 2) := by decide +kernel
theorem dM_limit_56 : decode cM_limit 56 = .ok (.ireturn, 1) := by decide +kernel
theorem dM_open_0 : decode cM_open 0 = .ok (.iload_n 1, 1) := by decide +kernel
theorem dM_open_1 : decode cM_open 1 = .ok (.istore_n 3, 1) := by decide +kernel
theorem dM_open_2 : decode cM_open 2 = .ok (.aload_n 0, 1) := by decide +kernel
theorem dM_open_3 : decode cM_open 3 = .ok (.getfield 81, 3) := by decide +kernel
theorem dM_open_6 : decode cM_open 6 = .ok (.iconst 1, 1) := by decide +kernel
theorem dM_open_7 : decode cM_open 7 = .ok (.isub, 1) := by decide +kernel
theorem dM_open_8 : decode cM_open 8 = .ok (.istore 4, 2) := by decide +kernel
theorem dM_open_10 : decode cM_open 10 = .ok (.iload 4, 2) := by decide +kernel
theorem dM_open_12 : decode cM_open 12 = .ok (.ifCond .lt 45, 3) := by decide +kernel
theorem dM_open_15 : decode cM_open 15 = .ok (.aload_n 0, 1) := by decide +kernel
theorem dM_open_16 : decode cM_open 16 = .ok (.getfield 54, 3) := by decide +kernel
theorem dM_open_19 : decode cM_open 19 = .ok (.iload 4, 2) := by decide +kernel
theorem dM_open_21 : decode cM_open 21 = .ok (.iload 4, 2) := by decide +kernel
theorem dM_open_23 : decode cM_open 23 = .ok (.iload_n 2, 1) := by decide +kernel
theorem dM_open_24 : decode cM_open 24 = .ok (.if_icmp .ge 15, 3) := by decide +kernel
theorem dM_open_27 : decode cM_open 27 = .ok (.iload_n 3, 1) := by decide +kernel
theorem dM_open_28 : decode cM_open 28 = .ok (.aload_n 0, 1) := by decide +kernel
theorem dM_open_29 : decode cM_open 29 = .ok (.getfield 13, 3) := by decide +kernel
theorem dM_open_32 : decode cM_open 32 = .ok (.iload 4, 2) := by decide +kernel
theorem dM_open_34 : decode cM_open 34 = .ok (.iaload, 1) := by decide +kernel
theorem dM_open_35 : decode cM_open 35 = .ok (.irem, 1) := by decide +kernel
theorem dM_open_36 : decode cM_open 36 = .ok (.goto 4, 3) := by decide +kernel
theorem dM_open_39 : decode cM_open 39 = .ok (.iconst (-1), 1) := by decide +kernel
theorem dM_open_40 : decode cM_open 40 = .ok (.iastore, 1) := by decide +kernel
theorem dM_open_41 : decode cM_open 41 = .ok (.iload_n 3, 1) := by decide +kernel
theorem dM_open_42 : decode cM_open 42 = .ok (.aload_n 0, 1) := by decide +kernel
theorem dM_open_43 : decode cM_open 43 = .ok (.getfield 13, 3) := by decide +kernel
theorem dM_open_46 : decode cM_open 46 = .ok (.iload 4, 2) := by decide +kernel
theorem dM_open_48 : decode cM_open 48 = .ok (.iaload, 1) := by decide +kernel
theorem dM_open_49 : decode cM_open 49 = .ok (.idiv, 1) := by decide +kernel
theorem dM_open_50 : decode cM_open 50 = .ok (.istore_n 3, 1) := by decide +kernel
theorem dM_open_51 : decode cM_open 51 = .ok (.iinc 4 (-1), 3) := by decide +kernel
theorem dM_open_54 : decode cM_open 54 = .ok (.goto (-44), 3) := by decide +kernel
theorem dM_open_57 : decode cM_open 57 = .ok (.return_, 1) := by decide +kernel
theorem dM_closed_0 : decode cM_closed 0 = .ok (.iconst 0, 1) := by decide +kernel
theorem dM_closed_1 : decode cM_closed 1 = .ok (.istore_n 1, 1) := by decide +kernel
theorem dM_closed_2 : decode cM_closed 2 = .ok (.iconst 0, 1) := by decide +kernel
theorem dM_closed_3 : decode cM_closed 3 = .ok (.istore_n 2, 1) := by decide +kernel
theorem dM_closed_4 : decode cM_closed 4 = .ok (.iload_n 2, 1) := by decide +kernel
theorem dM_closed_5 : decode cM_closed 5 = .ok (.aload_n 0, 1) := by decide +kernel
theorem dM_closed_6 : decode cM_closed 6 = .ok (.getfield 81, 3) := by decide +kernel
theorem dM_closed_9 : decode cM_closed 9 = .ok (.if_icmp .ge 25, 3) := by decide +kernel
theorem dM_closed_12 : decode cM_closed 12 = .ok (.iload_n 1, 1) := by decide +kernel
theorem dM_closed_13 : decode cM_closed 13 = .ok (.aload_n 0, 1) := by decide +kernel
theorem dM_closed_14 : decode cM_closed 14 = .ok (.getfield 13, 3) := by decide +kernel
theorem dM_closed_17 : decode cM_closed 17 = .ok (.iload_n 2, 1) := by decide +kernel
theorem dM_closed_18 : decode cM_closed 18 = .ok (.iaload, 1) := by decide +kernel
theorem dM_closed_19 : decode cM_closed 19 = .ok (.imul, 1) := by decide +kernel
end
section
theorem dM_closed_20 : decode cM_closed 20 = .ok (.aload_n 0, 1) := by decide +kernel
theorem dM_closed_21 : decode cM_closed 21 = .ok (.getfield 54, 3) := by decide +kernel
theorem dM_closed_24 : decode cM_closed 24 = .ok (.iload_n 2, 1) := by decide +kernel
theorem dM_closed_25 : decode cM_closed 25 = .ok (.iaload, 1) := by decide +kernel
theorem dM_closed_26 : decode cM_closed 26 = .ok (.iadd, 1) := by decide +kernel
theorem dM_closed_27 : decode cM_closed 27 = .ok (.istore_n 1, 1) := by decide +kernel
theorem dM_closed_28 : decode cM_closed 28 = .ok (.iinc 2 1, 3) := by decide +kernel
theorem dM_closed_31 : decode cM_closed 31 = .ok (.goto (-27), 3) := by decide +kernel
theorem dM_closed_34 : decode cM_closed 34 = .ok (.iload_n 1, 1) := by decide +kernel
theorem dM_closed_35 : decode cM_closed 35 = .ok (.ireturn, 1) := by decide +kernel
theorem dM_isBarred_0 : decode cM_isBarred 0 = .ok (.iconst 0, 1) := by decide +kernel
theorem dM_isBarred_1 : decode cM_isBarred 1 = .ok (.istore_n 1, 1) := by decide +kernel
theorem dM_isBarred_2 : decode cM_isBarred 2 = .ok (.iconst 0, 1) := by decide +kernel
theorem dM_isBarred_3 : decode cM_isBarred 3 = .ok (.istore_n 2, 1) := by decide +kernel
theorem dM_isBarred_4 : decode cM_isBarred 4 = .ok (.iload_n 2, 1) := by decide +kernel
theorem dM_isBarred_5 : decode cM_isBarred 5 = .ok (.aload_n 0, 1) := by decide +kernel
theorem dM_isBarred_6 : decode cM_isBarred 6 = .ok (.getfield 103, 3) := by decide +kernel
theorem dM_isBarred_9 : decode cM_isBarred 9 = .ok (.if_icmp .ge 59, 3) := by decide +kernel
theorem dM_isBarred_12 : decode cM_isBarred 12 = .ok (.iload_n 1, 1) := by decide +kernel
theorem dM_isBarred_13 : decode cM_isBarred 13 = .ok (.ifCond .ne 43, 3) := by decide +kernel
theorem dM_isBarred_16 : decode cM_isBarred 16 = .ok (.aload_n 0, 1) := by decide +kernel
theorem dM_isBarred_17 : decode cM_isBarred 17 = .ok (.getfield 54, 3) := by decide +kernel
theorem dM_isBarred_20 : decode cM_isBarred 20 = .ok (.aload_n 0, 1) := by decide +kernel
theorem dM_isBarred_21 : decode cM_isBarred 21 = .ok (.getfield 35, 3) := by decide +kernel
theorem dM_isBarred_24 : decode cM_isBarred 24 = .ok (.iload_n 2, 1) := by decide +kernel
theorem dM_isBarred_25 : decode cM_isBarred 25 = .ok (.iaload, 1) := by decide +kernel
theorem dM_isBarred_26 : decode cM_isBarred 26 = .ok (.iaload, 1) := by decide +kernel
theorem dM_isBarred_27 : decode cM_isBarred 27 = .ok (.aload_n 0, 1) := by decide +kernel
theorem dM_isBarred_28 : decode cM_isBarred 28 = .ok (.getfield 38, 3) := by decide +kernel
theorem dM_isBarred_31 : decode cM_isBarred 31 = .ok (.iload_n 2, 1) := by decide +kernel
theorem dM_isBarred_32 : decode cM_isBarred 32 = .ok (.iaload, 1) := by decide +kernel
theorem dM_isBarred_33 : decode cM_isBarred 33 = .ok (.if_icmp .ne 27, 3) := by decide +kernel
theorem dM_isBarred_36 : decode cM_isBarred 36 = .ok (.aload_n 0, 1) := by decide +kernel
theorem dM_isBarred_37 : decode cM_isBarred 37 = .ok (.getfield 54, 3) := by decide +kernel
theorem dM_isBarred_40 : decode cM_isBarred 40 = .ok (.aload_n 0, 1) := by decide +kernel
theorem dM_isBarred_41 : decode cM_isBarred 41 = .ok (.getfield 41, 3) := by decide +kernel
theorem dM_isBarred_44 : decode cM_isBarred 44 = .ok (.iload_n 2, 1) := by decide +kernel
theorem dM_isBarred_45 : decode cM_isBarred 45 = .ok (.iaload, 1) := by decide +kernel
theorem dM_isBarred_46 : decode cM_isBarred 46 = .ok (.iaload, 1) := by decide +kernel
theorem dM_isBarred_47 : decode cM_isBarred 47 = .ok (.aload_n 0, 1) := by decide +kernel
theorem dM_isBarred_48 : decode cM_isBarred 48 = .ok (.getfield 44, 3) := by decide +kernel
theorem dM_isBarred_51 : decode cM_isBarred 51 = .ok (.iload_n 2, 1) := by decide +kernel
theorem dM_isBarred_52 : decode cM_isBarred 52 = .ok (.iaload, 1) := by decide +kernel
theorem dM_isBarred_53 : decode cM_isBarred 53 = .ok (.if_icmp .ne 7, 3) := by decide +kernel
theorem dM_isBarred_56 : decode cM_isBarred 56 = .ok (.iconst 1, 1) := by decide +kernel
theorem dM_isBarred_57 : decode cM_isBarred 57 = .ok (.goto 4, 3) := by decide +kernel
theorem dM_isBarred_60 : decode cM_isBarred 60 = .ok (.iconst 0, 1) := by decide +kernel
theorem dM_isBarred_61 : decode cM_isBarred 61 = .ok (.istore_n 1, 1) := by decide +kernel
theorem dM_isBarred_62 : decode cM_isBarred 62 = .ok (.iinc 2 1, 3) := by decide +kernel
theorem dM_isBarred_65 : decode cM_isBarred 65 = .ok (.goto (-61), 3) := by decide +kernel
theorem dM_isBarred_68 : decode cM_isBarred 68 = .ok (.iload_n 1, 1) := by decide +kernel
theorem dM_isBarred_69 : decode cM_isBarred 69 = .ok (.ireturn, 1) := by decide +kernel
theorem dM_counts_0 : decode cM_counts 0 = .ok (.aload_n 0, 1) := by decide +kernel
theorem dM_counts_1 : decode cM_counts 1 = .ok (.getfield 54, 3) := by decide +kernel
theorem dM_counts_4 : decode cM_counts 4 = .ok (.aload_n 0, 1) := by decide +kernel
theorem dM_counts_5 : decode cM_counts 5 = .ok (.getfield 20, 3) := by decide +kernel
theorem dM_counts_8 : decode cM_counts 8 = .ok (.iload_n 1, 1) := by decide +kernel
theorem dM_counts_9 : decode cM_counts 9 = .ok (.iaload, 1) := by decide +kernel
theorem dM_counts_10 : decode cM_counts 10 = .ok (.iaload, 1) := by decide +kernel
theorem dM_counts_11 : decode cM_counts 11 = .ok (.aload_n 0, 1) := by decide +kernel
theorem dM_counts_12 : decode cM_counts 12 = .ok (.getfield 23, 3) := by decide +kernel
theorem dM_counts_15 : decode cM_counts 15 = .ok (.iload_n 1, 1) := by decide +kernel
theorem dM_counts_16 : decode cM_counts 16 = .ok (.iaload, 1) := by decide +kernel
theorem dM_counts_17 : decode cM_counts 17 = .ok (.if_icmp .ne 7, 3) := by decide +kernel
theorem dM_counts_20 : decode cM_counts 20 = .ok (.iconst 1, 1) := by decide +kernel
theorem dM_counts_21 : decode cM_counts 21 = .ok (.goto 4, 3) := by decide +kernel
theorem dM_counts_24 : decode cM_counts 24 = .ok (.iconst 0, 1) := by decide +kernel
theorem dM_counts_25 : decode cM_counts 25 = .ok (.istore_n 2, 1) := by decide +kernel
theorem dM_counts_26 : decode cM_counts 26 = .ok (.aload_n 0, 1) := by decide +kernel
theorem dM_counts_27 : decode cM_counts 27 = .ok (.getfield 26, 3) := by decide +kernel
theorem dM_counts_30 : decode cM_counts 30 = .ok (.iload_n 1, 1) := by decide +kernel
theorem dM_counts_31 : decode cM_counts 31 = .ok (.iaload, 1) := by decide +kernel
theorem dM_counts_32 : decode cM_counts 32 = .ok (.ifCond .lt 23, 3) := by decide +kernel
theorem dM_counts_35 : decode cM_counts 35 = .ok (.aload_n 0, 1) := by decide +kernel
theorem dM_counts_36 : decode cM_counts 36 = .ok (.getfield 54, 3) := by decide +kernel
theorem dM_counts_39 : decode cM_counts 39 = .ok (.aload_n 0, 1) := by decide +kernel
theorem dM_counts_40 : decode cM_counts 40 = .ok (.getfield 26, 3) := by decide +kernel
theorem dM_counts_43 : decode cM_counts 43 = .ok (.iload_n 1, 1) := by decide +kernel
theorem dM_counts_44 : decode cM_counts 44 = .ok (.iaload, 1) := by decide +kernel
theorem dM_counts_45 : decode cM_counts 45 = .ok (.iaload, 1) := by decide +kernel
theorem dM_counts_46 : decode cM_counts 46 = .ok (.aload_n 0, 1) := by decide +kernel
theorem dM_counts_47 : decode cM_counts 47 = .ok (.getfield 29, 3) := by decide +kernel
theorem dM_counts_50 : decode cM_counts 50 = .ok (.iload_n 1, 1) := by decide +kernel
theorem dM_counts_51 : decode cM_counts 51 = .ok (.iaload, 1) := by decide +kernel
theorem dM_counts_52 : decode cM_counts 52 = .ok (.if_icmp .ne 7, 3) := by decide +kernel
theorem dM_counts_55 : decode cM_counts 55 = .ok (.iconst 1, 1) := by decide +kernel
theorem dM_counts_56 : decode cM_counts 56 = .ok (.goto 4, 3) := by decide +kernel
theorem dM_counts_59 : decode cM_counts 59 = .ok (.iconst 0, 1) := by decide +kernel
theorem dM_counts_60 : decode cM_counts 60 = .ok (.istore_n 3, 1) := by decide +kernel
theorem dM_counts_61 : decode cM_counts 61 = .ok (.iload_n 2, 1) := by decide +kernel
theorem dM_counts_62 : decode cM_counts 62 = .ok (.ifCond .ne 17, 3) := by decide +kernel
theorem dM_counts_65 : decode cM_counts 65 = .ok (.aload_n 0, 1) := by decide +kernel
theorem dM_counts_66 : decode cM_counts 66 = .ok (.getfield 54, 3) := by decide +kernel
theorem dM_counts_69 : decode cM_counts 69 = .ok (.aload_n 0, 1) := by decide +kernel
theorem dM_counts_70 : decode cM_counts 70 = .ok (.getfield 20, 3) := by decide +kernel
theorem dM_counts_73 : decode cM_counts 73 = .ok (.iload_n 1, 1) := by decide +kernel
theorem dM_counts_74 : decode cM_counts 74 = .ok (.iaload, 1) := by decide +kernel
theorem dM_counts_75 : decode cM_counts 75 = .ok (.iaload, 1) := by decide +kernel
theorem dM_counts_76 : decode cM_counts 76 = .ok (.ifCond .ge 21, 3) := by decide +kernel
theorem dM_counts_79 : decode cM_counts 79 = .ok (.iload_n 3, 1) := by decide +kernel
theorem dM_counts_80 : decode cM_counts 80 = .ok (.ifCond .ne 21, 3) := by decide +kernel
theorem dM_counts_83 : decode cM_counts 83 = .ok (.aload_n 0, 1) := by decide +kernel
theorem dM_counts_84 : decode cM_counts 84 = .ok (.getfield 54, 3) := by decide +kernel
theorem dM_counts_87 : decode cM_counts 87 = .ok (.aload_n 0, 1) := by decide +kernel
theorem dM_counts_88 : decode cM_counts 88 = .ok (.getfield 26, 3) := by decide +kernel
theorem dM_counts_91 : decode cM_counts 91 = .ok (.iload_n 1, 1) := by decide +kernel
theorem dM_counts_92 : decode cM_counts 92 = .ok (.iaload, 1) := by decide +kernel
theorem dM_counts_93 : decode cM_counts 93 = .ok (.iaload, 1) := by decide +kernel
theorem dM_counts_94 : decode cM_counts 94 = .ok (.ifCond .lt 7, 3) := by decide +kernel
theorem dM_counts_97 : decode cM_counts 97 = .ok (.iconst 1, 1) := by decide +kernel
theorem dM_counts_98 : decode cM_counts 98 = .ok (.goto 4, 3) := by decide +kernel
theorem dM_counts_101 : decode cM_counts 101 = .ok (.iconst 0, 1) := by decide +kernel
theorem dM_counts_102 : decode cM_counts 102 = .ok (.istore 4, 2) := by decide +kernel
theorem dM_counts_104 : decode cM_counts 104 = .ok (.iload 4, 2) := by decide +kernel
theorem dM_counts_106 : decode cM_counts 106 = .ok (.ifCond .eq 7, 3) := by decide +kernel
theorem dM_counts_109 : decode cM_counts 109 = .ok (.iconst (-1), 1) := by decide +kernel
theorem dM_counts_110 : decode cM_counts 110 = .ok (.goto 16, 3) := by decide +kernel
theorem dM_counts_113 : decode cM_counts 113 = .ok (.iload_n 2, 1) := by decide +kernel
theorem dM_counts_114 : decode cM_counts 114 = .ok (.ifCond .eq 11, 3) := by decide +kernel
theorem dM_counts_117 : decode cM_counts 117 = .ok (.iload_n 3, 1) := by decide +kernel
theorem dM_counts_118 : decode cM_counts 118 = .ok (.ifCond .eq 7, 3) := by decide +kernel
theorem dM_counts_121 : decode cM_counts 121 = .ok (.iconst 1, 1) := by decide +kernel
theorem dM_counts_122 : decode cM_counts 122 = .ok (.goto 4, 3) := by decide +kernel
theorem dM_counts_125 : decode cM_counts 125 = .ok (.iconst 0, 1) := by decide +kernel
theorem dM_counts_126 : decode cM_counts 126 = .ok (.ireturn, 1) := by decide +kernel
theorem dM_boundOf_0 : decode cM_boundOf 0 = .ok (.iconst 0, 1) := by decide +kernel
theorem dM_boundOf_1 : decode cM_boundOf 1 = .ok (.istore_n 2, 1) := by decide +kernel
theorem dM_boundOf_2 : decode cM_boundOf 2 = .ok (.iconst 0, 1) := by decide +kernel
theorem dM_boundOf_3 : decode cM_boundOf 3 = .ok (.istore_n 3, 1) := by decide +kernel
theorem dM_boundOf_4 : decode cM_boundOf 4 = .ok (.iload_n 3, 1) := by decide +kernel
theorem dM_boundOf_5 : decode cM_boundOf 5 = .ok (.aload_n 0, 1) := by decide +kernel
theorem dM_boundOf_6 : decode cM_boundOf 6 = .ok (.getfield 100, 3) := by decide +kernel
theorem dM_boundOf_9 : decode cM_boundOf 9 = .ok (.if_icmp .ge 59, 3) := by decide +kernel
theorem dM_boundOf_12 : decode cM_boundOf 12 = .ok (.aload_n 0, 1) := by decide +kernel
theorem dM_boundOf_13 : decode cM_boundOf 13 = .ok (.getfield 17, 3) := by decide +kernel
theorem dM_boundOf_16 : decode cM_boundOf 16 = .ok (.iload_n 3, 1) := by decide +kernel
theorem dM_boundOf_17 : decode cM_boundOf 17 = .ok (.iaload, 1) := by decide +kernel
theorem dM_boundOf_18 : decode cM_boundOf 18 = .ok (.iload_n 1, 1) := by decide +kernel
theorem dM_boundOf_19 : decode cM_boundOf 19 = .ok (.if_icmp .ne 43, 3) := by decide +kernel
theorem dM_boundOf_22 : decode cM_boundOf 22 = .ok (.aload_n 0, 1) := by decide +kernel
theorem dM_boundOf_23 : decode cM_boundOf 23 = .ok (.iload_n 3, 1) := by decide +kernel
theorem dM_boundOf_24 : decode cM_boundOf 24 = .ok (.invokevirtual 106, 3) := by decide +kernel
theorem dM_boundOf_27 : decode cM_boundOf 27 = .ok (.istore 4, 2) := by decide +kernel
theorem dM_boundOf_29 : decode cM_boundOf 29 = .ok (.iload_n 2, 1) := by decide +kernel
theorem dM_boundOf_30 : decode cM_boundOf 30 = .ok (.iload 4, 2) := by decide +kernel
theorem dM_boundOf_32 : decode cM_boundOf 32 = .ok (.iconst 1, 1) := by decide +kernel
theorem dM_boundOf_33 : decode cM_boundOf 33 = .ok (.if_icmp .eq 17, 3) := by decide +kernel
theorem dM_boundOf_36 : decode cM_boundOf 36 = .ok (.iload 4, 2) := by decide +kernel
theorem dM_boundOf_38 : decode cM_boundOf 38 = .ok (.ifCond .ne 21, 3) := by decide +kernel
theorem dM_boundOf_41 : decode cM_boundOf 41 = .ok (.aload_n 0, 1) := by decide +kernel
theorem dM_boundOf_42 : decode cM_boundOf 42 = .ok (.getfield 32, 3) := by decide +kernel
theorem dM_boundOf_45 : decode cM_boundOf 45 = .ok (.iload_n 3, 1) := by decide +kernel
theorem dM_boundOf_46 : decode cM_boundOf 46 = .ok (.iaload, 1) := by decide +kernel
theorem dM_boundOf_47 : decode cM_boundOf 47 = .ok (.ifCond .ge 12, 3) := by decide +kernel
theorem dM_boundOf_50 : decode cM_boundOf 50 = .ok (.aload_n 0, 1) := by decide +kernel
theorem dM_boundOf_51 : decode cM_boundOf 51 = .ok (.getfield 32, 3) := by decide +kernel
theorem dM_boundOf_54 : decode cM_boundOf 54 = .ok (.iload_n 3, 1) := by decide +kernel
theorem dM_boundOf_55 : decode cM_boundOf 55 = .ok (.iaload, 1) := by decide +kernel
theorem dM_boundOf_56 : decode cM_boundOf 56 = .ok (.goto 4, 3) := by decide +kernel
theorem dM_boundOf_59 : decode cM_boundOf 59 = .ok (.iconst 0, 1) := by decide +kernel
theorem dM_boundOf_60 : decode cM_boundOf 60 = .ok (.iadd, 1) := by decide +kernel
theorem dM_boundOf_61 : decode cM_boundOf 61 = .ok (.istore_n 2, 1) := by decide +kernel
theorem dM_boundOf_62 : decode cM_boundOf 62 = .ok (.iinc 3 1, 3) := by decide +kernel
theorem dM_boundOf_65 : decode cM_boundOf 65 = .ok (.goto (-61), 3) := by decide +kernel
theorem dM_boundOf_68 : decode cM_boundOf 68 = .ok (.iload_n 2, 1) := by decide +kernel
theorem dM_boundOf_69 : decode cM_boundOf 69 = .ok (.ireturn, 1) := by decide +kernel
theorem dM_passesLimits_0 : decode cM_passesLimits 0 = .ok (.iconst 0, 1) := by decide +kernel
theorem dM_passesLimits_1 : decode cM_passesLimits 1 = .ok (.istore_n 1, 1) := by decide +kernel
theorem dM_passesLimits_2 : decode cM_passesLimits 2 = .ok (.iconst 0, 1) := by decide +kernel
theorem dM_passesLimits_3 : decode cM_passesLimits 3 = .ok (.istore_n 2, 1) := by decide +kernel
theorem dM_passesLimits_4 : decode cM_passesLimits 4 = .ok (.iload_n 2, 1) := by decide +kernel
theorem dM_passesLimits_5 : decode cM_passesLimits 5 = .ok (.iconst 4, 1) := by decide +kernel
theorem dM_passesLimits_6 : decode cM_passesLimits 6 = .ok (.if_icmp .ge 42, 3) := by decide +kernel
theorem dM_passesLimits_9 : decode cM_passesLimits 9 = .ok (.iload_n 1, 1) := by decide +kernel
theorem dM_passesLimits_10 : decode cM_passesLimits 10 = .ok (.ifCond .ne 26, 3) := by decide +kernel
theorem dM_passesLimits_13 : decode cM_passesLimits 13 = .ok (.aload_n 0, 1) := by decide +kernel
theorem dM_passesLimits_14 : decode cM_passesLimits 14 = .ok (.getfield 47, 3) := by decide +kernel
theorem dM_passesLimits_17 : decode cM_passesLimits 17 = .ok (.iload_n 2, 1) := by decide +kernel
theorem dM_passesLimits_18 : decode cM_passesLimits 18 = .ok (.baload, 1) := by decide +kernel
theorem dM_passesLimits_19 : decode cM_passesLimits 19 = .ok (.ifCond .eq 21, 3) := by decide +kernel
theorem dM_passesLimits_22 : decode cM_passesLimits 22 = .ok (.aload_n 0, 1) := by decide +kernel
theorem dM_passesLimits_23 : decode cM_passesLimits 23 = .ok (.iload_n 2, 1) := by decide +kernel
theorem dM_passesLimits_24 : decode cM_passesLimits 24 = .ok (.invokevirtual 109, 3) := by decide +kernel
theorem dM_passesLimits_27 : decode cM_passesLimits 27 = .ok (.aload_n 0, 1) := by decide +kernel
theorem dM_passesLimits_28 : decode cM_passesLimits 28 = .ok (.getfield 51, 3) := by decide +kernel
theorem dM_passesLimits_31 : decode cM_passesLimits 31 = .ok (.iload_n 2, 1) := by decide +kernel
theorem dM_passesLimits_32 : decode cM_passesLimits 32 = .ok (.iaload, 1) := by decide +kernel
theorem dM_passesLimits_33 : decode cM_passesLimits 33 = .ok (.if_icmp .le 7, 3) := by decide +kernel
theorem dM_passesLimits_36 : decode cM_passesLimits 36 = .ok (.iconst 1, 1) := by decide +kernel
theorem dM_passesLimits_37 : decode cM_passesLimits 37 = .ok (.goto 4, 3) := by decide +kernel
theorem dM_passesLimits_40 : decode cM_passesLimits 40 = .ok (.iconst 0, 1) := by decide +kernel
theorem dM_passesLimits_41 : decode cM_passesLimits 41 = .ok (.istore_n 1, 1) := by decide +kernel
theorem dM_passesLimits_42 : decode cM_passesLimits 42 = .ok (.iinc 2 1, 3) := by decide +kernel
theorem dM_passesLimits_45 : decode cM_passesLimits 45 = .ok (.goto (-41), 3) := by decide +kernel
theorem dM_passesLimits_48 : decode cM_passesLimits 48 = .ok (.iload_n 1, 1) := by decide +kernel
theorem dM_passesLimits_49 : decode cM_passesLimits 49 = .ok (.ireturn, 1) := by decide +kernel
theorem dM_isDesign_0 : decode cM_isDesign 0 = .ok (.iload_n 1, 1) := by decide +kernel
theorem dM_isDesign_1 : decode cM_isDesign 1 = .ok (.iconst 0, 1) := by decide +kernel
theorem dM_isDesign_2 : decode cM_isDesign 2 = .ok (.aload_n 0, 1) := by decide +kernel
theorem dM_isDesign_3 : decode cM_isDesign 3 = .ok (.getfield 7, 3) := by decide +kernel
theorem dM_isDesign_6 : decode cM_isDesign 6 = .ok (.iconst 1, 1) := by decide +kernel
theorem dM_isDesign_7 : decode cM_isDesign 7 = .ok (.isub, 1) := by decide +kernel
theorem dM_isDesign_8 : decode cM_isDesign 8 = .ok (.invokestatic 73, 3) := by decide +kernel
theorem dM_isDesign_11 : decode cM_isDesign 11 = .ok (.ireturn, 1) := by decide +kernel
theorem dM_know_0 : decode cM_know 0 = .ok (.aload_n 0, 1) := by decide +kernel
theorem dM_know_1 : decode cM_know 1 = .ok (.getfield 90, 3) := by decide +kernel
theorem dM_know_4 : decode cM_know 4 = .ok (.ifCond .eq 4, 3) := by decide +kernel
theorem dM_know_7 : decode cM_know 7 = .ok (.return_, 1) := by decide +kernel
theorem dM_know_8 : decode cM_know 8 = .ok (.aload_n 0, 1) := by decide +kernel
theorem dM_know_9 : decode cM_know 9 = .ok (.iconst 1, 1) := by decide +kernel
theorem dM_know_10 : decode cM_know 10 = .ok (.putfield 90, 3) := by decide +kernel
theorem dM_know_13 : decode cM_know 13 = .ok (.iconst 0, 1) := by decide +kernel
theorem dM_know_14 : decode cM_know 14 = .ok (.istore_n 1, 1) := by decide +kernel
theorem dM_know_15 : decode cM_know 15 = .ok (.iload_n 1, 1) := by decide +kernel
theorem dM_know_16 : decode cM_know 16 = .ok (.aload_n 0, 1) := by decide +kernel
theorem dM_know_17 : decode cM_know 17 = .ok (.getfield 7, 3) := by decide +kernel
theorem dM_know_20 : decode cM_know 20 = .ok (.if_icmp .ge 71, 3) := by decide +kernel
theorem dM_know_23 : decode cM_know 23 = .ok (.aload_n 0, 1) := by decide +kernel
theorem dM_know_24 : decode cM_know 24 = .ok (.iload_n 1, 1) := by decide +kernel
theorem dM_know_25 : decode cM_know 25 = .ok (.aload_n 0, 1) := by decide +kernel
theorem dM_know_26 : decode cM_know 26 = .ok (.getfield 81, 3) := by decide +kernel
theorem dM_know_29 : decode cM_know 29 = .ok (.invokevirtual 112, 3) := by decide +kernel
theorem dM_know_32 : decode cM_know 32 = .ok (.aload_n 0, 1) := by decide +kernel
theorem dM_know_33 : decode cM_know 33 = .ok (.getfield 60, 3) := by decide +kernel
theorem dM_know_36 : decode cM_know 36 = .ok (.iload_n 1, 1) := by decide +kernel
theorem dM_know_37 : decode cM_know 37 = .ok (.aload_n 0, 1) := by decide +kernel
theorem dM_know_38 : decode cM_know 38 = .ok (.invokevirtual 116, 3) := by decide +kernel
theorem dM_know_41 : decode cM_know 41 = .ok (.ifCond .ne 14, 3) := by decide +kernel
theorem dM_know_44 : decode cM_know 44 = .ok (.aload_n 0, 1) := by decide +kernel
theorem dM_know_45 : decode cM_know 45 = .ok (.invokevirtual 120, 3) := by decide +kernel
theorem dM_know_48 : decode cM_know 48 = .ok (.ifCond .ne 7, 3) := by decide +kernel
theorem dM_know_51 : decode cM_know 51 = .ok (.iconst 1, 1) := by decide +kernel
theorem dM_know_52 : decode cM_know 52 = .ok (.goto 4, 3) := by decide +kernel
theorem dM_know_55 : decode cM_know 55 = .ok (.iconst 0, 1) := by decide +kernel
theorem dM_know_56 : decode cM_know 56 = .ok (.bastore, 1) := by decide +kernel
theorem dM_know_57 : decode cM_know 57 = .ok (.iconst 0, 1) := by decide +kernel
theorem dM_know_58 : decode cM_know 58 = .ok (.istore_n 2, 1) := by decide +kernel
theorem dM_know_59 : decode cM_know 59 = .ok (.iload_n 2, 1) := by decide +kernel
theorem dM_know_60 : decode cM_know 60 = .ok (.iconst 4, 1) := by decide +kernel
theorem dM_know_61 : decode cM_know 61 = .ok (.if_icmp .ge 24, 3) := by decide +kernel
theorem dM_know_64 : decode cM_know 64 = .ok (.aload_n 0, 1) := by decide +kernel
theorem dM_know_65 : decode cM_know 65 = .ok (.getfield 63, 3) := by decide +kernel
theorem dM_know_68 : decode cM_know 68 = .ok (.iconst 4, 1) := by decide +kernel
theorem dM_know_69 : decode cM_know 69 = .ok (.iload_n 1, 1) := by decide +kernel
theorem dM_know_70 : decode cM_know 70 = .ok (.imul, 1) := by decide +kernel
theorem dM_know_71 : decode cM_know 71 = .ok (.iload_n 2, 1) := by decide +kernel
theorem dM_know_72 : decode cM_know 72 = .ok (.iadd, 1) := by decide +kernel
theorem dM_know_73 : decode cM_know 73 = .ok (.aload_n 0, 1) := by decide +kernel
theorem dM_know_74 : decode cM_know 74 = .ok (.iload_n 2, 1) := by decide +kernel
theorem dM_know_75 : decode cM_know 75 = .ok (.invokevirtual 109, 3) := by decide +kernel
theorem dM_know_78 : decode cM_know 78 = .ok (.iastore, 1) := by decide +kernel
theorem dM_know_79 : decode cM_know 79 = .ok (.iinc 2 1, 3) := by decide +kernel
theorem dM_know_82 : decode cM_know 82 = .ok (.goto (-23), 3) := by decide +kernel
theorem dM_know_85 : decode cM_know 85 = .ok (.iinc 1 1, 3) := by decide +kernel
theorem dM_know_88 : decode cM_know 88 = .ok (.goto (-73), 3) := by decide +kernel
theorem dM_know_91 : decode cM_know 91 = .ok (.return_, 1) := by decide +kernel
theorem dM_number_0 : decode cM_number 0 = .ok (.aload_n 0, 1) := by decide +kernel
theorem dM_number_1 : decode cM_number 1 = .ok (.iconst 0, 1) := by decide +kernel
theorem dM_number_2 : decode cM_number 2 = .ok (.putfield 70, 3) := by decide +kernel
theorem dM_number_5 : decode cM_number 5 = .ok (.aload_n 0, 1) := by decide +kernel
theorem dM_number_6 : decode cM_number 6 = .ok (.iload_n 1, 1) := by decide +kernel
theorem dM_number_7 : decode cM_number 7 = .ok (.invokevirtual 123, 3) := by decide +kernel
theorem dM_number_10 : decode cM_number 10 = .ok (.ifCond .eq 12, 3) := by decide +kernel
theorem dM_number_13 : decode cM_number 13 = .ok (.iload_n 2, 1) := by decide +kernel
theorem dM_number_14 : decode cM_number 14 = .ok (.iconst 0, 1) := by decide +kernel
theorem dM_number_15 : decode cM_number 15 = .ok (.iconst 3, 1) := by decide +kernel
theorem dM_number_16 : decode cM_number 16 = .ok (.invokestatic 73, 3) := by decide +kernel
theorem dM_number_19 : decode cM_number 19 = .ok (.ifCond .ne 9, 3) := by decide +kernel
theorem dM_number_22 : decode cM_number 22 = .ok (.aload_n 0, 1) := by decide +kernel
theorem dM_number_23 : decode cM_number 23 = .ok (.iconst 1, 1) := by decide +kernel
theorem dM_number_24 : decode cM_number 24 = .ok (.invokevirtual 77, 3) := by decide +kernel
theorem dM_number_27 : decode cM_number 27 = .ok (.ireturn, 1) := by decide +kernel
theorem dM_number_28 : decode cM_number 28 = .ok (.aload_n 0, 1) := by decide +kernel
theorem dM_number_29 : decode cM_number 29 = .ok (.invokevirtual 127, 3) := by decide +kernel
theorem dM_number_32 : decode cM_number 32 = .ok (.aload_n 0, 1) := by decide +kernel
theorem dM_number_33 : decode cM_number 33 = .ok (.getfield 63, 3) := by decide +kernel
theorem dM_number_36 : decode cM_number 36 = .ok (.iconst 4, 1) := by decide +kernel
theorem dM_number_37 : decode cM_number 37 = .ok (.iload_n 1, 1) := by decide +kernel
theorem dM_number_38 : decode cM_number 38 = .ok (.imul, 1) := by decide +kernel
theorem dM_number_39 : decode cM_number 39 = .ok (.iload_n 2, 1) := by decide +kernel
theorem dM_number_40 : decode cM_number 40 = .ok (.iadd, 1) := by decide +kernel
theorem dM_number_41 : decode cM_number 41 = .ok (.iaload, 1) := by decide +kernel
theorem dM_number_42 : decode cM_number 42 = .ok (.ireturn, 1) := by decide +kernel
theorem dM_value_0 : decode cM_value 0 = .ok (.aload_n 0, 1) := by decide +kernel
theorem dM_value_1 : decode cM_value 1 = .ok (.iconst 0, 1) := by decide +kernel
theorem dM_value_2 : decode cM_value 2 = .ok (.putfield 70, 3) := by decide +kernel
theorem dM_value_5 : decode cM_value 5 = .ok (.aload_n 0, 1) := by decide +kernel
theorem dM_value_6 : decode cM_value 6 = .ok (.iload_n 1, 1) := by decide +kernel
theorem dM_value_7 : decode cM_value 7 = .ok (.invokevirtual 123, 3) := by decide +kernel
theorem dM_value_10 : decode cM_value 10 = .ok (.ifCond .eq 17, 3) := by decide +kernel
theorem dM_value_13 : decode cM_value 13 = .ok (.iload_n 2, 1) := by decide +kernel
theorem dM_value_14 : decode cM_value 14 = .ok (.iconst 0, 1) := by decide +kernel
theorem dM_value_15 : decode cM_value 15 = .ok (.aload_n 0, 1) := by decide +kernel
theorem dM_value_16 : decode cM_value 16 = .ok (.getfield 81, 3) := by decide +kernel
theorem dM_value_19 : decode cM_value 19 = .ok (.iconst 1, 1) := by decide +kernel
theorem dM_value_20 : decode cM_value 20 = .ok (.isub, 1) := by decide +kernel
theorem dM_value_21 : decode cM_value 21 = .ok (.invokestatic 73, 3) := by decide +kernel
theorem dM_value_24 : decode cM_value 24 = .ok (.ifCond .ne 9, 3) := by decide +kernel
theorem dM_value_27 : decode cM_value 27 = .ok (.aload_n 0, 1) := by decide +kernel
theorem dM_value_28 : decode cM_value 28 = .ok (.iconst 1, 1) := by decide +kernel
theorem dM_value_29 : decode cM_value 29 = .ok (.invokevirtual 77, 3) := by decide +kernel
theorem dM_value_32 : decode cM_value 32 = .ok (.ireturn, 1) := by decide +kernel
theorem dM_value_33 : decode cM_value 33 = .ok (.aload_n 0, 1) := by decide +kernel
theorem dM_value_34 : decode cM_value 34 = .ok (.iload_n 1, 1) := by decide +kernel
theorem dM_value_35 : decode cM_value 35 = .ok (.aload_n 0, 1) := by decide +kernel
theorem dM_value_36 : decode cM_value 36 = .ok (.getfield 81, 3) := by decide +kernel
theorem dM_value_39 : decode cM_value 39 = .ok (.invokevirtual 112, 3) := by decide +kernel
theorem dM_value_42 : decode cM_value 42 = .ok (.aload_n 0, 1) := by decide +kernel
theorem dM_value_43 : decode cM_value 43 = .ok (.getfield 54, 3) := by decide +kernel
theorem dM_value_46 : decode cM_value 46 = .ok (.iload_n 2, 1) := by decide +kernel
theorem dM_value_47 : decode cM_value 47 = .ok (.iaload, 1) := by decide +kernel
theorem dM_value_48 : decode cM_value 48 = .ok (.ireturn, 1) := by decide +kernel
theorem dM_legal_0 : decode cM_legal 0 = .ok (.aload_n 0, 1) := by decide +kernel
theorem dM_legal_1 : decode cM_legal 1 = .ok (.aload_n 0, 1) := by decide +kernel
theorem dM_legal_2 : decode cM_legal 2 = .ok (.iload_n 1, 1) := by decide +kernel
theorem dM_legal_3 : decode cM_legal 3 = .ok (.invokevirtual 123, 3) := by decide +kernel
theorem dM_legal_6 : decode cM_legal 6 = .ok (.ifCond .eq 7, 3) := by decide +kernel
theorem dM_legal_9 : decode cM_legal 9 = .ok (.iconst 0, 1) := by decide +kernel
theorem dM_legal_10 : decode cM_legal 10 = .ok (.goto 4, 3) := by decide +kernel
theorem dM_legal_13 : decode cM_legal 13 = .ok (.iconst 1, 1) := by decide +kernel
theorem dM_legal_14 : decode cM_legal 14 = .ok (.putfield 70, 3) := by decide +kernel
theorem dM_legal_17 : decode cM_legal 17 = .ok (.aload_n 0, 1) := by decide +kernel
theorem dM_legal_18 : decode cM_legal 18 = .ok (.getfield 70, 3) := by decide +kernel
theorem dM_legal_21 : decode cM_legal 21 = .ok (.ifCond .le 5, 3) := by decide +kernel
theorem dM_legal_24 : decode cM_legal 24 = .ok (.iconst 0, 1) := by decide +kernel
theorem dM_legal_25 : decode cM_legal 25 = .ok (.ireturn, 1) := by decide +kernel
theorem dM_legal_26 : decode cM_legal 26 = .ok (.aload_n 0, 1) := by decide +kernel
theorem dM_legal_27 : decode cM_legal 27 = .ok (.invokevirtual 127, 3) := by decide +kernel
theorem dM_legal_30 : decode cM_legal 30 = .ok (.aload_n 0, 1) := by decide +kernel
theorem dM_legal_31 : decode cM_legal 31 = .ok (.getfield 60, 3) := by decide +kernel
theorem dM_legal_34 : decode cM_legal 34 = .ok (.iload_n 1, 1) := by decide +kernel
theorem dM_legal_35 : decode cM_legal 35 = .ok (.baload, 1) := by decide +kernel
theorem dM_legal_36 : decode cM_legal 36 = .ok (.ireturn, 1) := by decide +kernel
theorem dM_isBeaten_0 : decode cM_isBeaten 0 = .ok (.iconst 0, 1) := by decide +kernel
theorem dM_isBeaten_1 : decode cM_isBeaten 1 = .ok (.istore_n 3, 1) := by decide +kernel
theorem dM_isBeaten_2 : decode cM_isBeaten 2 = .ok (.iconst 0, 1) := by decide +kernel
theorem dM_isBeaten_3 : decode cM_isBeaten 3 = .ok (.istore 4, 2) := by decide +kernel
theorem dM_isBeaten_5 : decode cM_isBeaten 5 = .ok (.iconst 0, 1) := by decide +kernel
theorem dM_isBeaten_6 : decode cM_isBeaten 6 = .ok (.istore 5, 2) := by decide +kernel
theorem dM_isBeaten_8 : decode cM_isBeaten 8 = .ok (.iload 5, 2) := by decide +kernel
theorem dM_isBeaten_10 : decode cM_isBeaten 10 = .ok (.iconst 4, 1) := by decide +kernel
theorem dM_isBeaten_11 : decode cM_isBeaten 11 = .ok (.if_icmp .ge 81, 3) := by decide +kernel
theorem dM_isBeaten_14 : decode cM_isBeaten 14 = .ok (.iload_n 3, 1) := by decide +kernel
theorem dM_isBeaten_15 : decode cM_isBeaten 15 = .ok (.ifCond .ne 28, 3) := by decide +kernel
theorem dM_isBeaten_18 : decode cM_isBeaten 18 = .ok (.aload_n 0, 1) := by decide +kernel
theorem dM_isBeaten_19 : decode cM_isBeaten 19 = .ok (.getfield 63, 3) := by decide +kernel
theorem dM_isBeaten_22 : decode cM_isBeaten 22 = .ok (.iconst 4, 1) := by decide +kernel
theorem dM_isBeaten_23 : decode cM_isBeaten 23 = .ok (.iload_n 2, 1) := by decide +kernel
theorem dM_isBeaten_24 : decode cM_isBeaten 24 = .ok (.imul, 1) := by decide +kernel
theorem dM_isBeaten_25 : decode cM_isBeaten 25 = .ok (.iload 5, 2) := by decide +kernel
theorem dM_isBeaten_27 : decode cM_isBeaten 27 = .ok (.iadd, 1) := by decide +kernel
theorem dM_isBeaten_28 : decode cM_isBeaten 28 = .ok (.iaload, 1) := by decide +kernel
theorem dM_isBeaten_29 : decode cM_isBeaten 29 = .ok (.aload_n 0, 1) := by decide +kernel
theorem dM_isBeaten_30 : decode cM_isBeaten 30 = .ok (.getfield 63, 3) := by decide +kernel
theorem dM_isBeaten_33 : decode cM_isBeaten 33 = .ok (.iconst 4, 1) := by decide +kernel
theorem dM_isBeaten_34 : decode cM_isBeaten 34 = .ok (.iload_n 1, 1) := by decide +kernel
theorem dM_isBeaten_35 : decode cM_isBeaten 35 = .ok (.imul, 1) := by decide +kernel
theorem dM_isBeaten_36 : decode cM_isBeaten 36 = .ok (.iload 5, 2) := by decide +kernel
theorem dM_isBeaten_38 : decode cM_isBeaten 38 = .ok (.iadd, 1) := by decide +kernel
theorem dM_isBeaten_39 : decode cM_isBeaten 39 = .ok (.iaload, 1) := by decide +kernel
theorem dM_isBeaten_40 : decode cM_isBeaten 40 = .ok (.if_icmp .ge 7, 3) := by decide +kernel
theorem dM_isBeaten_43 : decode cM_isBeaten 43 = .ok (.iconst 1, 1) := by decide +kernel
theorem dM_isBeaten_44 : decode cM_isBeaten 44 = .ok (.goto 4, 3) := by decide +kernel
theorem dM_isBeaten_47 : decode cM_isBeaten 47 = .ok (.iconst 0, 1) := by decide +kernel
theorem dM_isBeaten_48 : decode cM_isBeaten 48 = .ok (.istore_n 3, 1) := by decide +kernel
theorem dM_isBeaten_49 : decode cM_isBeaten 49 = .ok (.iload 4, 2) := by decide +kernel
theorem dM_isBeaten_51 : decode cM_isBeaten 51 = .ok (.ifCond .ne 28, 3) := by decide +kernel
theorem dM_isBeaten_54 : decode cM_isBeaten 54 = .ok (.aload_n 0, 1) := by decide +kernel
theorem dM_isBeaten_55 : decode cM_isBeaten 55 = .ok (.getfield 63, 3) := by decide +kernel
theorem dM_isBeaten_58 : decode cM_isBeaten 58 = .ok (.iconst 4, 1) := by decide +kernel
theorem dM_isBeaten_59 : decode cM_isBeaten 59 = .ok (.iload_n 2, 1) := by decide +kernel
theorem dM_isBeaten_60 : decode cM_isBeaten 60 = .ok (.imul, 1) := by decide +kernel
theorem dM_isBeaten_61 : decode cM_isBeaten 61 = .ok (.iload 5, 2) := by decide +kernel
theorem dM_isBeaten_63 : decode cM_isBeaten 63 = .ok (.iadd, 1) := by decide +kernel
theorem dM_isBeaten_64 : decode cM_isBeaten 64 = .ok (.iaload, 1) := by decide +kernel
theorem dM_isBeaten_65 : decode cM_isBeaten 65 = .ok (.aload_n 0, 1) := by decide +kernel
theorem dM_isBeaten_66 : decode cM_isBeaten 66 = .ok (.getfield 63, 3) := by decide +kernel
theorem dM_isBeaten_69 : decode cM_isBeaten 69 = .ok (.iconst 4, 1) := by decide +kernel
theorem dM_isBeaten_70 : decode cM_isBeaten 70 = .ok (.iload_n 1, 1) := by decide +kernel
theorem dM_isBeaten_71 : decode cM_isBeaten 71 = .ok (.imul, 1) := by decide +kernel
theorem dM_isBeaten_72 : decode cM_isBeaten 72 = .ok (.iload 5, 2) := by decide +kernel
theorem dM_isBeaten_74 : decode cM_isBeaten 74 = .ok (.iadd, 1) := by decide +kernel
theorem dM_isBeaten_75 : decode cM_isBeaten 75 = .ok (.iaload, 1) := by decide +kernel
theorem dM_isBeaten_76 : decode cM_isBeaten 76 = .ok (.if_icmp .le 7, 3) := by decide +kernel
theorem dM_isBeaten_79 : decode cM_isBeaten 79 = .ok (.iconst 1, 1) := by decide +kernel
theorem dM_isBeaten_80 : decode cM_isBeaten 80 = .ok (.goto 4, 3) := by decide +kernel
theorem dM_isBeaten_83 : decode cM_isBeaten 83 = .ok (.iconst 0, 1) := by decide +kernel
theorem dM_isBeaten_84 : decode cM_isBeaten 84 = .ok (.istore 4, 2) := by decide +kernel
theorem dM_isBeaten_86 : decode cM_isBeaten 86 = .ok (.iinc 5 1, 3) := by decide +kernel
theorem dM_isBeaten_89 : decode cM_isBeaten 89 = .ok (.goto (-81), 3) := by decide +kernel
theorem dM_isBeaten_92 : decode cM_isBeaten 92 = .ok (.iload_n 3, 1) := by decide +kernel
theorem dM_isBeaten_93 : decode cM_isBeaten 93 = .ok (.ifCond .eq 12, 3) := by decide +kernel
theorem dM_isBeaten_96 : decode cM_isBeaten 96 = .ok (.iload 4, 2) := by decide +kernel
theorem dM_isBeaten_98 : decode cM_isBeaten 98 = .ok (.ifCond .ne 7, 3) := by decide +kernel
theorem dM_isBeaten_101 : decode cM_isBeaten 101 = .ok (.iconst 1, 1) := by decide +kernel
theorem dM_isBeaten_102 : decode cM_isBeaten 102 = .ok (.goto 4, 3) := by decide +kernel
theorem dM_isBeaten_105 : decode cM_isBeaten 105 = .ok (.iconst 0, 1) := by decide +kernel
theorem dM_isBeaten_106 : decode cM_isBeaten 106 = .ok (.ireturn, 1) := by decide +kernel
theorem dM_beats_0 : decode cM_beats 0 = .ok (.aload_n 0, 1) := by decide +kernel
theorem dM_beats_1 : decode cM_beats 1 = .ok (.aload_n 0, 1) := by decide +kernel
theorem dM_beats_2 : decode cM_beats 2 = .ok (.iload_n 1, 1) := by decide +kernel
theorem dM_beats_3 : decode cM_beats 3 = .ok (.invokevirtual 123, 3) := by decide +kernel
theorem dM_beats_6 : decode cM_beats 6 = .ok (.ifCond .eq 15, 3) := by decide +kernel
theorem dM_beats_9 : decode cM_beats 9 = .ok (.aload_n 0, 1) := by decide +kernel
theorem dM_beats_10 : decode cM_beats 10 = .ok (.iload_n 2, 1) := by decide +kernel
theorem dM_beats_11 : decode cM_beats 11 = .ok (.invokevirtual 123, 3) := by decide +kernel
theorem dM_beats_14 : decode cM_beats 14 = .ok (.ifCond .eq 7, 3) := by decide +kernel
theorem dM_beats_17 : decode cM_beats 17 = .ok (.iconst 0, 1) := by decide +kernel
theorem dM_beats_18 : decode cM_beats 18 = .ok (.goto 4, 3) := by decide +kernel
theorem dM_beats_21 : decode cM_beats 21 = .ok (.iconst 1, 1) := by decide +kernel
theorem dM_beats_22 : decode cM_beats 22 = .ok (.putfield 70, 3) := by decide +kernel
theorem dM_beats_25 : decode cM_beats 25 = .ok (.aload_n 0, 1) := by decide +kernel
theorem dM_beats_26 : decode cM_beats 26 = .ok (.getfield 70, 3) := by decide +kernel
theorem dM_beats_29 : decode cM_beats 29 = .ok (.ifCond .le 5, 3) := by decide +kernel
theorem dM_beats_32 : decode cM_beats 32 = .ok (.iconst 0, 1) := by decide +kernel
theorem dM_beats_33 : decode cM_beats 33 = .ok (.ireturn, 1) := by decide +kernel
theorem dM_beats_34 : decode cM_beats 34 = .ok (.aload_n 0, 1) := by decide +kernel
theorem dM_beats_35 : decode cM_beats 35 = .ok (.invokevirtual 127, 3) := by decide +kernel
theorem dM_beats_38 : decode cM_beats 38 = .ok (.aload_n 0, 1) := by decide +kernel
theorem dM_beats_39 : decode cM_beats 39 = .ok (.aload_n 0, 1) := by decide +kernel
end
section
theorem dM_beats_40 : decode cM_beats 40 = .ok (.getfield 60, 3) := by decide +kernel
theorem dM_beats_43 : decode cM_beats 43 = .ok (.iload_n 1, 1) := by decide +kernel
theorem dM_beats_44 : decode cM_beats 44 = .ok (.baload, 1) := by decide +kernel
theorem dM_beats_45 : decode cM_beats 45 = .ok (.ifCond .eq 16, 3) := by decide +kernel
theorem dM_beats_48 : decode cM_beats 48 = .ok (.aload_n 0, 1) := by decide +kernel
theorem dM_beats_49 : decode cM_beats 49 = .ok (.getfield 60, 3) := by decide +kernel
theorem dM_beats_52 : decode cM_beats 52 = .ok (.iload_n 2, 1) := by decide +kernel
theorem dM_beats_53 : decode cM_beats 53 = .ok (.baload, 1) := by decide +kernel
theorem dM_beats_54 : decode cM_beats 54 = .ok (.ifCond .eq 7, 3) := by decide +kernel
theorem dM_beats_57 : decode cM_beats 57 = .ok (.iconst 0, 1) := by decide +kernel
theorem dM_beats_58 : decode cM_beats 58 = .ok (.goto 4, 3) := by decide +kernel
theorem dM_beats_61 : decode cM_beats 61 = .ok (.iconst 2, 1) := by decide +kernel
theorem dM_beats_62 : decode cM_beats 62 = .ok (.putfield 70, 3) := by decide +kernel
theorem dM_beats_65 : decode cM_beats 65 = .ok (.aload_n 0, 1) := by decide +kernel
theorem dM_beats_66 : decode cM_beats 66 = .ok (.getfield 70, 3) := by decide +kernel
theorem dM_beats_69 : decode cM_beats 69 = .ok (.ifCond .ne 16, 3) := by decide +kernel
theorem dM_beats_72 : decode cM_beats 72 = .ok (.aload_n 0, 1) := by decide +kernel
theorem dM_beats_73 : decode cM_beats 73 = .ok (.iload_n 2, 1) := by decide +kernel
theorem dM_beats_74 : decode cM_beats 74 = .ok (.iload_n 1, 1) := by decide +kernel
theorem dM_beats_75 : decode cM_beats 75 = .ok (.invokevirtual 130, 3) := by decide +kernel
theorem dM_beats_78 : decode cM_beats 78 = .ok (.ifCond .eq 7, 3) := by decide +kernel
theorem dM_beats_81 : decode cM_beats 81 = .ok (.iconst 1, 1) := by decide +kernel
theorem dM_beats_82 : decode cM_beats 82 = .ok (.goto 4, 3) := by decide +kernel
theorem dM_beats_85 : decode cM_beats 85 = .ok (.iconst 0, 1) := by decide +kernel
theorem dM_beats_86 : decode cM_beats 86 = .ok (.ireturn, 1) := by decide +kernel
theorem dM_isUndominated_0 : decode cM_isUndominated 0 = .ok (.aload_n 0, 1) := by decide +kernel
theorem dM_isUndominated_1 : decode cM_isUndominated 1 = .ok (.getfield 60, 3) := by decide +kernel
theorem dM_isUndominated_4 : decode cM_isUndominated 4 = .ok (.iload_n 1, 1) := by decide +kernel
theorem dM_isUndominated_5 : decode cM_isUndominated 5 = .ok (.baload, 1) := by decide +kernel
theorem dM_isUndominated_6 : decode cM_isUndominated 6 = .ok (.ifCond .ne 5, 3) := by decide +kernel
theorem dM_isUndominated_9 : decode cM_isUndominated 9 = .ok (.iconst 0, 1) := by decide +kernel
theorem dM_isUndominated_10 : decode cM_isUndominated 10 = .ok (.ireturn, 1) := by decide +kernel
theorem dM_isUndominated_11 : decode cM_isUndominated 11 = .ok (.iconst 0, 1) := by decide +kernel
theorem dM_isUndominated_12 : decode cM_isUndominated 12 = .ok (.istore_n 2, 1) := by decide +kernel
theorem dM_isUndominated_13 : decode cM_isUndominated 13 = .ok (.iload_n 2, 1) := by decide +kernel
theorem dM_isUndominated_14 : decode cM_isUndominated 14 = .ok (.aload_n 0, 1) := by decide +kernel
theorem dM_isUndominated_15 : decode cM_isUndominated 15 = .ok (.getfield 7, 3) := by decide +kernel
theorem dM_isUndominated_18 : decode cM_isUndominated 18 = .ok (.if_icmp .ge 29, 3) := by decide +kernel
theorem dM_isUndominated_21 : decode cM_isUndominated 21 = .ok (.aload_n 0, 1) := by decide +kernel
theorem dM_isUndominated_22 : decode cM_isUndominated 22 = .ok (.getfield 60, 3) := by decide +kernel
theorem dM_isUndominated_25 : decode cM_isUndominated 25 = .ok (.iload_n 2, 1) := by decide +kernel
theorem dM_isUndominated_26 : decode cM_isUndominated 26 = .ok (.baload, 1) := by decide +kernel
theorem dM_isUndominated_27 : decode cM_isUndominated 27 = .ok (.ifCond .eq 14, 3) := by decide +kernel
theorem dM_isUndominated_30 : decode cM_isUndominated 30 = .ok (.aload_n 0, 1) := by decide +kernel
theorem dM_isUndominated_31 : decode cM_isUndominated 31 = .ok (.iload_n 1, 1) := by decide +kernel
theorem dM_isUndominated_32 : decode cM_isUndominated 32 = .ok (.iload_n 2, 1) := by decide +kernel
theorem dM_isUndominated_33 : decode cM_isUndominated 33 = .ok (.invokevirtual 130, 3) := by decide +kernel
theorem dM_isUndominated_36 : decode cM_isUndominated 36 = .ok (.ifCond .eq 5, 3) := by decide +kernel
theorem dM_isUndominated_39 : decode cM_isUndominated 39 = .ok (.iconst 0, 1) := by decide +kernel
theorem dM_isUndominated_40 : decode cM_isUndominated 40 = .ok (.ireturn, 1) := by decide +kernel
theorem dM_isUndominated_41 : decode cM_isUndominated 41 = .ok (.iinc 2 1, 3) := by decide +kernel
theorem dM_isUndominated_44 : decode cM_isUndominated 44 = .ok (.goto (-31), 3) := by decide +kernel
theorem dM_isUndominated_47 : decode cM_isUndominated 47 = .ok (.iconst 1, 1) := by decide +kernel
theorem dM_isUndominated_48 : decode cM_isUndominated 48 = .ok (.ireturn, 1) := by decide +kernel
theorem dM_undominated_0 : decode cM_undominated 0 = .ok (.aload_n 0, 1) := by decide +kernel
theorem dM_undominated_1 : decode cM_undominated 1 = .ok (.iconst 0, 1) := by decide +kernel
theorem dM_undominated_2 : decode cM_undominated 2 = .ok (.putfield 70, 3) := by decide +kernel
theorem dM_undominated_5 : decode cM_undominated 5 = .ok (.aload_n 0, 1) := by decide +kernel
theorem dM_undominated_6 : decode cM_undominated 6 = .ok (.invokevirtual 127, 3) := by decide +kernel
theorem dM_undominated_9 : decode cM_undominated 9 = .ok (.iconst 0, 1) := by decide +kernel
theorem dM_undominated_10 : decode cM_undominated 10 = .ok (.istore_n 1, 1) := by decide +kernel
theorem dM_undominated_11 : decode cM_undominated 11 = .ok (.iconst 0, 1) := by decide +kernel
theorem dM_undominated_12 : decode cM_undominated 12 = .ok (.istore_n 2, 1) := by decide +kernel
theorem dM_undominated_13 : decode cM_undominated 13 = .ok (.iload_n 2, 1) := by decide +kernel
theorem dM_undominated_14 : decode cM_undominated 14 = .ok (.aload_n 0, 1) := by decide +kernel
theorem dM_undominated_15 : decode cM_undominated 15 = .ok (.getfield 7, 3) := by decide +kernel
theorem dM_undominated_18 : decode cM_undominated 18 = .ok (.if_icmp .ge 25, 3) := by decide +kernel
theorem dM_undominated_21 : decode cM_undominated 21 = .ok (.iload_n 1, 1) := by decide +kernel
theorem dM_undominated_22 : decode cM_undominated 22 = .ok (.aload_n 0, 1) := by decide +kernel
theorem dM_undominated_23 : decode cM_undominated 23 = .ok (.iload_n 2, 1) := by decide +kernel
theorem dM_undominated_24 : decode cM_undominated 24 = .ok (.invokevirtual 133, 3) := by decide +kernel
theorem dM_undominated_27 : decode cM_undominated 27 = .ok (.ifCond .eq 7, 3) := by decide +kernel
theorem dM_undominated_30 : decode cM_undominated 30 = .ok (.iconst 1, 1) := by decide +kernel
theorem dM_undominated_31 : decode cM_undominated 31 = .ok (.goto 4, 3) := by decide +kernel
theorem dM_undominated_34 : decode cM_undominated 34 = .ok (.iconst 0, 1) := by decide +kernel
theorem dM_undominated_35 : decode cM_undominated 35 = .ok (.iadd, 1) := by decide +kernel
theorem dM_undominated_36 : decode cM_undominated 36 = .ok (.istore_n 1, 1) := by decide +kernel
theorem dM_undominated_37 : decode cM_undominated 37 = .ok (.iinc 2 1, 3) := by decide +kernel
theorem dM_undominated_40 : decode cM_undominated 40 = .ok (.goto (-27), 3) := by decide +kernel
theorem dM_undominated_43 : decode cM_undominated 43 = .ok (.iload_n 1, 1) := by decide +kernel
theorem dM_undominated_44 : decode cM_undominated 44 = .ok (.ireturn, 1) := by decide +kernel
theorem dM_at_0 : decode cM_at 0 = .ok (.aload_n 0, 1) := by decide +kernel
theorem dM_at_1 : decode cM_at 1 = .ok (.iconst 0, 1) := by decide +kernel
theorem dM_at_2 : decode cM_at 2 = .ok (.putfield 70, 3) := by decide +kernel
theorem dM_at_5 : decode cM_at 5 = .ok (.aload_n 0, 1) := by decide +kernel
theorem dM_at_6 : decode cM_at 6 = .ok (.invokevirtual 127, 3) := by decide +kernel
theorem dM_at_9 : decode cM_at 9 = .ok (.iconst 0, 1) := by decide +kernel
theorem dM_at_10 : decode cM_at 10 = .ok (.istore_n 2, 1) := by decide +kernel
theorem dM_at_11 : decode cM_at 11 = .ok (.iconst 0, 1) := by decide +kernel
theorem dM_at_12 : decode cM_at 12 = .ok (.istore_n 3, 1) := by decide +kernel
theorem dM_at_13 : decode cM_at 13 = .ok (.iload_n 3, 1) := by decide +kernel
theorem dM_at_14 : decode cM_at 14 = .ok (.aload_n 0, 1) := by decide +kernel
theorem dM_at_15 : decode cM_at 15 = .ok (.getfield 7, 3) := by decide +kernel
theorem dM_at_18 : decode cM_at 18 = .ok (.if_icmp .ge 31, 3) := by decide +kernel
theorem dM_at_21 : decode cM_at 21 = .ok (.iload_n 1, 1) := by decide +kernel
theorem dM_at_22 : decode cM_at 22 = .ok (.ifCond .lt 27, 3) := by decide +kernel
theorem dM_at_25 : decode cM_at 25 = .ok (.aload_n 0, 1) := by decide +kernel
theorem dM_at_26 : decode cM_at 26 = .ok (.iload_n 3, 1) := by decide +kernel
theorem dM_at_27 : decode cM_at 27 = .ok (.invokevirtual 133, 3) := by decide +kernel
theorem dM_at_30 : decode cM_at 30 = .ok (.ifCond .eq 13, 3) := by decide +kernel
theorem dM_at_33 : decode cM_at 33 = .ok (.iload_n 2, 1) := by decide +kernel
theorem dM_at_34 : decode cM_at 34 = .ok (.iload_n 1, 1) := by decide +kernel
theorem dM_at_35 : decode cM_at 35 = .ok (.if_icmp .ne 5, 3) := by decide +kernel
theorem dM_at_38 : decode cM_at 38 = .ok (.iload_n 3, 1) := by decide +kernel
theorem dM_at_39 : decode cM_at 39 = .ok (.ireturn, 1) := by decide +kernel
theorem dM_at_40 : decode cM_at 40 = .ok (.iinc 2 1, 3) := by decide +kernel
theorem dM_at_43 : decode cM_at 43 = .ok (.iinc 3 1, 3) := by decide +kernel
theorem dM_at_46 : decode cM_at 46 = .ok (.goto (-33), 3) := by decide +kernel
theorem dM_at_49 : decode cM_at 49 = .ok (.aload_n 0, 1) := by decide +kernel
theorem dM_at_50 : decode cM_at 50 = .ok (.iconst 1, 1) := by decide +kernel
theorem dM_at_51 : decode cM_at 51 = .ok (.invokevirtual 77, 3) := by decide +kernel
theorem dM_at_54 : decode cM_at 54 = .ok (.ireturn, 1) := by decide +kernel
theorem dM_nextRow_0 : decode cM_nextRow 0 = .ok (.iload_n 1, 1) := by decide +kernel
theorem dM_nextRow_1 : decode cM_nextRow 1 = .ok (.iconst 1, 1) := by decide +kernel
theorem dM_nextRow_2 : decode cM_nextRow 2 = .ok (.isub, 1) := by decide +kernel
theorem dM_nextRow_3 : decode cM_nextRow 3 = .ok (.istore_n 2, 1) := by decide +kernel
theorem dM_nextRow_4 : decode cM_nextRow 4 = .ok (.iload_n 2, 1) := by decide +kernel
theorem dM_nextRow_5 : decode cM_nextRow 5 = .ok (.ifCond .lt 33, 3) := by decide +kernel
theorem dM_nextRow_8 : decode cM_nextRow 8 = .ok (.aload_n 0, 1) := by decide +kernel
theorem dM_nextRow_9 : decode cM_nextRow 9 = .ok (.getfield 54, 3) := by decide +kernel
theorem dM_nextRow_12 : decode cM_nextRow 12 = .ok (.iload_n 2, 1) := by decide +kernel
theorem dM_nextRow_13 : decode cM_nextRow 13 = .ok (.iaload, 1) := by decide +kernel
theorem dM_nextRow_14 : decode cM_nextRow 14 = .ok (.aload_n 0, 1) := by decide +kernel
theorem dM_nextRow_15 : decode cM_nextRow 15 = .ok (.getfield 13, 3) := by decide +kernel
theorem dM_nextRow_18 : decode cM_nextRow 18 = .ok (.iload_n 2, 1) := by decide +kernel
theorem dM_nextRow_19 : decode cM_nextRow 19 = .ok (.iaload, 1) := by decide +kernel
theorem dM_nextRow_20 : decode cM_nextRow 20 = .ok (.iconst 1, 1) := by decide +kernel
theorem dM_nextRow_21 : decode cM_nextRow 21 = .ok (.isub, 1) := by decide +kernel
theorem dM_nextRow_22 : decode cM_nextRow 22 = .ok (.if_icmp .ne 16, 3) := by decide +kernel
theorem dM_nextRow_25 : decode cM_nextRow 25 = .ok (.aload_n 0, 1) := by decide +kernel
theorem dM_nextRow_26 : decode cM_nextRow 26 = .ok (.getfield 54, 3) := by decide +kernel
theorem dM_nextRow_29 : decode cM_nextRow 29 = .ok (.iload_n 2, 1) := by decide +kernel
theorem dM_nextRow_30 : decode cM_nextRow 30 = .ok (.iconst (-1), 1) := by decide +kernel
theorem dM_nextRow_31 : decode cM_nextRow 31 = .ok (.iastore, 1) := by decide +kernel
theorem dM_nextRow_32 : decode cM_nextRow 32 = .ok (.iinc 2 (-1), 3) := by decide +kernel
theorem dM_nextRow_35 : decode cM_nextRow 35 = .ok (.goto (-31), 3) := by decide +kernel
theorem dM_nextRow_38 : decode cM_nextRow 38 = .ok (.iload_n 2, 1) := by decide +kernel
theorem dM_nextRow_39 : decode cM_nextRow 39 = .ok (.ifCond .ge 5, 3) := by decide +kernel
theorem dM_nextRow_42 : decode cM_nextRow 42 = .ok (.iconst (-1), 1) := by decide +kernel
theorem dM_nextRow_43 : decode cM_nextRow 43 = .ok (.ireturn, 1) := by decide +kernel
theorem dM_nextRow_44 : decode cM_nextRow 44 = .ok (.aload_n 0, 1) := by decide +kernel
theorem dM_nextRow_45 : decode cM_nextRow 45 = .ok (.getfield 54, 3) := by decide +kernel
theorem dM_nextRow_48 : decode cM_nextRow 48 = .ok (.iload_n 2, 1) := by decide +kernel
theorem dM_nextRow_49 : decode cM_nextRow 49 = .ok (.dup2, 1) := by decide +kernel
theorem dM_nextRow_50 : decode cM_nextRow 50 = .ok (.iaload, 1) := by decide +kernel
theorem dM_nextRow_51 : decode cM_nextRow 51 = .ok (.iconst 1, 1) := by decide +kernel
theorem dM_nextRow_52 : decode cM_nextRow 52 = .ok (.iadd, 1) := by decide +kernel
theorem dM_nextRow_53 : decode cM_nextRow 53 = .ok (.iastore, 1) := by decide +kernel
theorem dM_nextRow_54 : decode cM_nextRow 54 = .ok (.iload_n 2, 1) := by decide +kernel
theorem dM_nextRow_55 : decode cM_nextRow 55 = .ok (.iconst 1, 1) := by decide +kernel
theorem dM_nextRow_56 : decode cM_nextRow 56 = .ok (.iadd, 1) := by decide +kernel
theorem dM_nextRow_57 : decode cM_nextRow 57 = .ok (.ireturn, 1) := by decide +kernel
theorem dM_best_0 : decode cM_best 0 = .ok (.aload_n 0, 1) := by decide +kernel
theorem dM_best_1 : decode cM_best 1 = .ok (.iconst 0, 1) := by decide +kernel
theorem dM_best_2 : decode cM_best 2 = .ok (.putfield 70, 3) := by decide +kernel
theorem dM_best_5 : decode cM_best 5 = .ok (.iload_n 1, 1) := by decide +kernel
theorem dM_best_6 : decode cM_best 6 = .ok (.iconst 0, 1) := by decide +kernel
theorem dM_best_7 : decode cM_best 7 = .ok (.iconst 3, 1) := by decide +kernel
theorem dM_best_8 : decode cM_best 8 = .ok (.invokestatic 73, 3) := by decide +kernel
theorem dM_best_11 : decode cM_best 11 = .ok (.ifCond .ne 9, 3) := by decide +kernel
theorem dM_best_14 : decode cM_best 14 = .ok (.aload_n 0, 1) := by decide +kernel
theorem dM_best_15 : decode cM_best 15 = .ok (.iconst 1, 1) := by decide +kernel
theorem dM_best_16 : decode cM_best 16 = .ok (.invokevirtual 77, 3) := by decide +kernel
theorem dM_best_19 : decode cM_best 19 = .ok (.ireturn, 1) := by decide +kernel
theorem dM_best_20 : decode cM_best 20 = .ok (.aload_n 0, 1) := by decide +kernel
theorem dM_best_21 : decode cM_best 21 = .ok (.iconst 0, 1) := by decide +kernel
theorem dM_best_22 : decode cM_best 22 = .ok (.putfield 136, 3) := by decide +kernel
theorem dM_best_25 : decode cM_best 25 = .ok (.iconst (-1), 1) := by decide +kernel
theorem dM_best_26 : decode cM_best 26 = .ok (.istore_n 2, 1) := by decide +kernel
theorem dM_best_27 : decode cM_best 27 = .ok (.iconst 0, 1) := by decide +kernel
theorem dM_best_28 : decode cM_best 28 = .ok (.istore_n 3, 1) := by decide +kernel
theorem dM_best_29 : decode cM_best 29 = .ok (.iconst 0, 1) := by decide +kernel
theorem dM_best_30 : decode cM_best 30 = .ok (.istore 4, 2) := by decide +kernel
theorem dM_best_32 : decode cM_best 32 = .ok (.iload 4, 2) := by decide +kernel
theorem dM_best_34 : decode cM_best 34 = .ok (.aload_n 0, 1) := by decide +kernel
theorem dM_best_35 : decode cM_best 35 = .ok (.getfield 81, 3) := by decide +kernel
theorem dM_best_38 : decode cM_best 38 = .ok (.if_icmp .ge 17, 3) := by decide +kernel
theorem dM_best_41 : decode cM_best 41 = .ok (.aload_n 0, 1) := by decide +kernel
theorem dM_best_42 : decode cM_best 42 = .ok (.getfield 54, 3) := by decide +kernel
theorem dM_best_45 : decode cM_best 45 = .ok (.iload 4, 2) := by decide +kernel
theorem dM_best_47 : decode cM_best 47 = .ok (.iconst (-1), 1) := by decide +kernel
theorem dM_best_48 : decode cM_best 48 = .ok (.iastore, 1) := by decide +kernel
theorem dM_best_49 : decode cM_best 49 = .ok (.iinc 4 1, 3) := by decide +kernel
theorem dM_best_52 : decode cM_best 52 = .ok (.goto (-20), 3) := by decide +kernel
theorem dM_best_55 : decode cM_best 55 = .ok (.iconst 0, 1) := by decide +kernel
theorem dM_best_56 : decode cM_best 56 = .ok (.istore 4, 2) := by decide +kernel
theorem dM_best_58 : decode cM_best 58 = .ok (.iload 4, 2) := by decide +kernel
theorem dM_best_60 : decode cM_best 60 = .ok (.ifCond .lt 111, 3) := by decide +kernel
theorem dM_best_63 : decode cM_best 63 = .ok (.aload_n 0, 1) := by decide +kernel
theorem dM_best_64 : decode cM_best 64 = .ok (.dup, 1) := by decide +kernel
theorem dM_best_65 : decode cM_best 65 = .ok (.getfield 136, 3) := by decide +kernel
theorem dM_best_68 : decode cM_best 68 = .ok (.iconst 1, 1) := by decide +kernel
theorem dM_best_69 : decode cM_best 69 = .ok (.iadd, 1) := by decide +kernel
theorem dM_best_70 : decode cM_best 70 = .ok (.putfield 136, 3) := by decide +kernel
theorem dM_best_73 : decode cM_best 73 = .ok (.aload_n 0, 1) := by decide +kernel
theorem dM_best_74 : decode cM_best 74 = .ok (.invokevirtual 116, 3) := by decide +kernel
theorem dM_best_77 : decode cM_best 77 = .ok (.ifCond .ne 23, 3) := by decide +kernel
theorem dM_best_80 : decode cM_best 80 = .ok (.aload_n 0, 1) := by decide +kernel
theorem dM_best_81 : decode cM_best 81 = .ok (.invokevirtual 120, 3) := by decide +kernel
theorem dM_best_84 : decode cM_best 84 = .ok (.ifCond .ne 16, 3) := by decide +kernel
theorem dM_best_87 : decode cM_best 87 = .ok (.iload_n 2, 1) := by decide +kernel
theorem dM_best_88 : decode cM_best 88 = .ok (.ifCond .lt 16, 3) := by decide +kernel
theorem dM_best_91 : decode cM_best 91 = .ok (.aload_n 0, 1) := by decide +kernel
theorem dM_best_92 : decode cM_best 92 = .ok (.iload_n 1, 1) := by decide +kernel
theorem dM_best_93 : decode cM_best 93 = .ok (.invokevirtual 109, 3) := by decide +kernel
theorem dM_best_96 : decode cM_best 96 = .ok (.iload_n 3, 1) := by decide +kernel
theorem dM_best_97 : decode cM_best 97 = .ok (.if_icmp .lt 7, 3) := by decide +kernel
theorem dM_best_100 : decode cM_best 100 = .ok (.iconst 1, 1) := by decide +kernel
theorem dM_best_101 : decode cM_best 101 = .ok (.goto 4, 3) := by decide +kernel
theorem dM_best_104 : decode cM_best 104 = .ok (.iconst 0, 1) := by decide +kernel
theorem dM_best_105 : decode cM_best 105 = .ok (.istore 5, 2) := by decide +kernel
theorem dM_best_107 : decode cM_best 107 = .ok (.iload 5, 2) := by decide +kernel
theorem dM_best_109 : decode cM_best 109 = .ok (.ifCond .ne 23, 3) := by decide +kernel
theorem dM_best_112 : decode cM_best 112 = .ok (.iload 4, 2) := by decide +kernel
theorem dM_best_114 : decode cM_best 114 = .ok (.aload_n 0, 1) := by decide +kernel
theorem dM_best_115 : decode cM_best 115 = .ok (.getfield 81, 3) := by decide +kernel
theorem dM_best_118 : decode cM_best 118 = .ok (.if_icmp .ne 14, 3) := by decide +kernel
theorem dM_best_121 : decode cM_best 121 = .ok (.aload_n 0, 1) := by decide +kernel
theorem dM_best_122 : decode cM_best 122 = .ok (.invokevirtual 139, 3) := by decide +kernel
theorem dM_best_125 : decode cM_best 125 = .ok (.istore_n 2, 1) := by decide +kernel
theorem dM_best_126 : decode cM_best 126 = .ok (.aload_n 0, 1) := by decide +kernel
theorem dM_best_127 : decode cM_best 127 = .ok (.iload_n 1, 1) := by decide +kernel
theorem dM_best_128 : decode cM_best 128 = .ok (.invokevirtual 109, 3) := by decide +kernel
theorem dM_best_131 : decode cM_best 131 = .ok (.istore_n 3, 1) := by decide +kernel
theorem dM_best_132 : decode cM_best 132 = .ok (.iload 5, 2) := by decide +kernel
theorem dM_best_134 : decode cM_best 134 = .ok (.ifCond .ne 26, 3) := by decide +kernel
theorem dM_best_137 : decode cM_best 137 = .ok (.iload 4, 2) := by decide +kernel
theorem dM_best_139 : decode cM_best 139 = .ok (.aload_n 0, 1) := by decide +kernel
theorem dM_best_140 : decode cM_best 140 = .ok (.getfield 81, 3) := by decide +kernel
theorem dM_best_143 : decode cM_best 143 = .ok (.if_icmp .ge 17, 3) := by decide +kernel
theorem dM_best_146 : decode cM_best 146 = .ok (.aload_n 0, 1) := by decide +kernel
theorem dM_best_147 : decode cM_best 147 = .ok (.getfield 54, 3) := by decide +kernel
theorem dM_best_150 : decode cM_best 150 = .ok (.iload 4, 2) := by decide +kernel
theorem dM_best_152 : decode cM_best 152 = .ok (.iconst 0, 1) := by decide +kernel
theorem dM_best_153 : decode cM_best 153 = .ok (.iastore, 1) := by decide +kernel
theorem dM_best_154 : decode cM_best 154 = .ok (.iinc 4 1, 3) := by decide +kernel
theorem dM_best_157 : decode cM_best 157 = .ok (.goto 11, 3) := by decide +kernel
theorem dM_best_160 : decode cM_best 160 = .ok (.aload_n 0, 1) := by decide +kernel
theorem dM_best_161 : decode cM_best 161 = .ok (.iload 4, 2) := by decide +kernel
theorem dM_best_163 : decode cM_best 163 = .ok (.invokevirtual 143, 3) := by decide +kernel
theorem dM_best_166 : decode cM_best 166 = .ok (.istore 4, 2) := by decide +kernel
theorem dM_best_168 : decode cM_best 168 = .ok (.goto (-110), 3) := by decide +kernel
theorem dM_best_171 : decode cM_best 171 = .ok (.iload_n 2, 1) := by decide +kernel
theorem dM_best_172 : decode cM_best 172 = .ok (.ireturn, 1) := by decide +kernel
theorem dM_looked_0 : decode cM_looked 0 = .ok (.aload_n 0, 1) := by decide +kernel
theorem dM_looked_1 : decode cM_looked 1 = .ok (.iconst 0, 1) := by decide +kernel
theorem dM_looked_2 : decode cM_looked 2 = .ok (.putfield 70, 3) := by decide +kernel
theorem dM_looked_5 : decode cM_looked 5 = .ok (.aload_n 0, 1) := by decide +kernel
theorem dM_looked_6 : decode cM_looked 6 = .ok (.getfield 136, 3) := by decide +kernel
theorem dM_looked_9 : decode cM_looked 9 = .ok (.ireturn, 1) := by decide +kernel
theorem dM_bound_0 : decode cM_bound 0 = .ok (.aload_n 0, 1) := by decide +kernel
theorem dM_bound_1 : decode cM_bound 1 = .ok (.iconst 0, 1) := by decide +kernel
theorem dM_bound_2 : decode cM_bound 2 = .ok (.putfield 70, 3) := by decide +kernel
theorem dM_bound_5 : decode cM_bound 5 = .ok (.iload_n 1, 1) := by decide +kernel
theorem dM_bound_6 : decode cM_bound 6 = .ok (.iconst 0, 1) := by decide +kernel
theorem dM_bound_7 : decode cM_bound 7 = .ok (.iconst 3, 1) := by decide +kernel
theorem dM_bound_8 : decode cM_bound 8 = .ok (.invokestatic 73, 3) := by decide +kernel
theorem dM_bound_11 : decode cM_bound 11 = .ok (.ifCond .eq 23, 3) := by decide +kernel
theorem dM_bound_14 : decode cM_bound 14 = .ok (.aload_n 0, 1) := by decide +kernel
theorem dM_bound_15 : decode cM_bound 15 = .ok (.iload_n 2, 1) := by decide +kernel
theorem dM_bound_16 : decode cM_bound 16 = .ok (.invokevirtual 123, 3) := by decide +kernel
theorem dM_bound_19 : decode cM_bound 19 = .ok (.ifCond .eq 15, 3) := by decide +kernel
theorem dM_bound_22 : decode cM_bound 22 = .ok (.iload_n 3, 1) := by decide +kernel
theorem dM_bound_23 : decode cM_bound 23 = .ok (.iconst 0, 1) := by decide +kernel
theorem dM_bound_24 : decode cM_bound 24 = .ok (.aload_n 0, 1) := by decide +kernel
theorem dM_bound_25 : decode cM_bound 25 = .ok (.getfield 81, 3) := by decide +kernel
theorem dM_bound_28 : decode cM_bound 28 = .ok (.invokestatic 73, 3) := by decide +kernel
theorem dM_bound_31 : decode cM_bound 31 = .ok (.ifCond .ne 9, 3) := by decide +kernel
theorem dM_bound_34 : decode cM_bound 34 = .ok (.aload_n 0, 1) := by decide +kernel
theorem dM_bound_35 : decode cM_bound 35 = .ok (.iconst 1, 1) := by decide +kernel
theorem dM_bound_36 : decode cM_bound 36 = .ok (.invokevirtual 77, 3) := by decide +kernel
theorem dM_bound_39 : decode cM_bound 39 = .ok (.ireturn, 1) := by decide +kernel
theorem dM_bound_40 : decode cM_bound 40 = .ok (.aload_n 0, 1) := by decide +kernel
theorem dM_bound_41 : decode cM_bound 41 = .ok (.iload_n 2, 1) := by decide +kernel
theorem dM_bound_42 : decode cM_bound 42 = .ok (.iload_n 3, 1) := by decide +kernel
theorem dM_bound_43 : decode cM_bound 43 = .ok (.invokevirtual 112, 3) := by decide +kernel
theorem dM_bound_46 : decode cM_bound 46 = .ok (.aload_n 0, 1) := by decide +kernel
theorem dM_bound_47 : decode cM_bound 47 = .ok (.iload_n 1, 1) := by decide +kernel
theorem dM_bound_48 : decode cM_bound 48 = .ok (.invokevirtual 109, 3) := by decide +kernel
theorem dM_bound_51 : decode cM_bound 51 = .ok (.ireturn, 1) := by decide +kernel
theorem dM_nears_0 : decode cM_nears 0 = .ok (.iconst 0, 1) := by decide +kernel
theorem dM_nears_1 : decode cM_nears 1 = .ok (.istore_n 1, 1) := by decide +kernel
theorem dM_nears_2 : decode cM_nears 2 = .ok (.iconst 0, 1) := by decide +kernel
theorem dM_nears_3 : decode cM_nears 3 = .ok (.istore_n 2, 1) := by decide +kernel
theorem dM_nears_4 : decode cM_nears 4 = .ok (.iload_n 2, 1) := by decide +kernel
theorem dM_nears_5 : decode cM_nears 5 = .ok (.aload_n 0, 1) := by decide +kernel
theorem dM_nears_6 : decode cM_nears 6 = .ok (.getfield 81, 3) := by decide +kernel
theorem dM_nears_9 : decode cM_nears 9 = .ok (.if_icmp .ge 20, 3) := by decide +kernel
theorem dM_nears_12 : decode cM_nears 12 = .ok (.iload_n 1, 1) := by decide +kernel
theorem dM_nears_13 : decode cM_nears 13 = .ok (.aload_n 0, 1) := by decide +kernel
theorem dM_nears_14 : decode cM_nears 14 = .ok (.getfield 13, 3) := by decide +kernel
theorem dM_nears_17 : decode cM_nears 17 = .ok (.iload_n 2, 1) := by decide +kernel
theorem dM_nears_18 : decode cM_nears 18 = .ok (.iaload, 1) := by decide +kernel
theorem dM_nears_19 : decode cM_nears 19 = .ok (.iconst 1, 1) := by decide +kernel
theorem dM_nears_20 : decode cM_nears 20 = .ok (.isub, 1) := by decide +kernel
theorem dM_nears_21 : decode cM_nears 21 = .ok (.iadd, 1) := by decide +kernel
theorem dM_nears_22 : decode cM_nears 22 = .ok (.istore_n 1, 1) := by decide +kernel
theorem dM_nears_23 : decode cM_nears 23 = .ok (.iinc 2 1, 3) := by decide +kernel
theorem dM_nears_26 : decode cM_nears 26 = .ok (.goto (-22), 3) := by decide +kernel
theorem dM_nears_29 : decode cM_nears 29 = .ok (.iload_n 1, 1) := by decide +kernel
theorem dM_nears_30 : decode cM_nears 30 = .ok (.ireturn, 1) := by decide +kernel
theorem dM_nearOf_0 : decode cM_nearOf 0 = .ok (.aload_n 0, 1) := by decide +kernel
theorem dM_nearOf_1 : decode cM_nearOf 1 = .ok (.iload_n 1, 1) := by decide +kernel
theorem dM_nearOf_2 : decode cM_nearOf 2 = .ok (.aload_n 0, 1) := by decide +kernel
theorem dM_nearOf_3 : decode cM_nearOf 3 = .ok (.getfield 81, 3) := by decide +kernel
theorem dM_nearOf_6 : decode cM_nearOf 6 = .ok (.invokevirtual 112, 3) := by decide +kernel
theorem dM_nearOf_9 : decode cM_nearOf 9 = .ok (.iload_n 2, 1) := by decide +kernel
theorem dM_nearOf_10 : decode cM_nearOf 10 = .ok (.istore_n 3, 1) := by decide +kernel
theorem dM_nearOf_11 : decode cM_nearOf 11 = .ok (.iconst 0, 1) := by decide +kernel
theorem dM_nearOf_12 : decode cM_nearOf 12 = .ok (.istore 4, 2) := by decide +kernel
theorem dM_nearOf_14 : decode cM_nearOf 14 = .ok (.iload 4, 2) := by decide +kernel
theorem dM_nearOf_16 : decode cM_nearOf 16 = .ok (.aload_n 0, 1) := by decide +kernel
theorem dM_nearOf_17 : decode cM_nearOf 17 = .ok (.getfield 81, 3) := by decide +kernel
theorem dM_nearOf_20 : decode cM_nearOf 20 = .ok (.if_icmp .ge 63, 3) := by decide +kernel
theorem dM_nearOf_23 : decode cM_nearOf 23 = .ok (.iconst 0, 1) := by decide +kernel
theorem dM_nearOf_24 : decode cM_nearOf 24 = .ok (.istore 5, 2) := by decide +kernel
theorem dM_nearOf_26 : decode cM_nearOf 26 = .ok (.iload 5, 2) := by decide +kernel
theorem dM_nearOf_28 : decode cM_nearOf 28 = .ok (.aload_n 0, 1) := by decide +kernel
theorem dM_nearOf_29 : decode cM_nearOf 29 = .ok (.getfield 13, 3) := by decide +kernel
theorem dM_nearOf_32 : decode cM_nearOf 32 = .ok (.iload 4, 2) := by decide +kernel
theorem dM_nearOf_34 : decode cM_nearOf 34 = .ok (.iaload, 1) := by decide +kernel
theorem dM_nearOf_35 : decode cM_nearOf 35 = .ok (.if_icmp .ge 42, 3) := by decide +kernel
theorem dM_nearOf_38 : decode cM_nearOf 38 = .ok (.iload 5, 2) := by decide +kernel
theorem dM_nearOf_40 : decode cM_nearOf 40 = .ok (.aload_n 0, 1) := by decide +kernel
theorem dM_nearOf_41 : decode cM_nearOf 41 = .ok (.getfield 54, 3) := by decide +kernel
theorem dM_nearOf_44 : decode cM_nearOf 44 = .ok (.iload 4, 2) := by decide +kernel
theorem dM_nearOf_46 : decode cM_nearOf 46 = .ok (.iaload, 1) := by decide +kernel
theorem dM_nearOf_47 : decode cM_nearOf 47 = .ok (.if_icmp .eq 24, 3) := by decide +kernel
theorem dM_nearOf_50 : decode cM_nearOf 50 = .ok (.iload_n 3, 1) := by decide +kernel
theorem dM_nearOf_51 : decode cM_nearOf 51 = .ok (.ifCond .ne 17, 3) := by decide +kernel
theorem dM_nearOf_54 : decode cM_nearOf 54 = .ok (.aload_n 0, 1) := by decide +kernel
theorem dM_nearOf_55 : decode cM_nearOf 55 = .ok (.getfield 54, 3) := by decide +kernel
theorem dM_nearOf_58 : decode cM_nearOf 58 = .ok (.iload 4, 2) := by decide +kernel
theorem dM_nearOf_60 : decode cM_nearOf 60 = .ok (.iload 5, 2) := by decide +kernel
theorem dM_nearOf_62 : decode cM_nearOf 62 = .ok (.iastore, 1) := by decide +kernel
theorem dM_nearOf_63 : decode cM_nearOf 63 = .ok (.aload_n 0, 1) := by decide +kernel
theorem dM_nearOf_64 : decode cM_nearOf 64 = .ok (.invokevirtual 139, 3) := by decide +kernel
theorem dM_nearOf_67 : decode cM_nearOf 67 = .ok (.ireturn, 1) := by decide +kernel
theorem dM_nearOf_68 : decode cM_nearOf 68 = .ok (.iinc 3 (-1), 3) := by decide +kernel
theorem dM_nearOf_71 : decode cM_nearOf 71 = .ok (.iinc 5 1, 3) := by decide +kernel
theorem dM_nearOf_74 : decode cM_nearOf 74 = .ok (.goto (-48), 3) := by decide +kernel
theorem dM_nearOf_77 : decode cM_nearOf 77 = .ok (.iinc 4 1, 3) := by decide +kernel
theorem dM_nearOf_80 : decode cM_nearOf 80 = .ok (.goto (-66), 3) := by decide +kernel
theorem dM_nearOf_83 : decode cM_nearOf 83 = .ok (.iconst (-1), 1) := by decide +kernel
theorem dM_nearOf_84 : decode cM_nearOf 84 = .ok (.ireturn, 1) := by decide +kernel
theorem dM_near_0 : decode cM_near 0 = .ok (.aload_n 0, 1) := by decide +kernel
theorem dM_near_1 : decode cM_near 1 = .ok (.iconst 0, 1) := by decide +kernel
theorem dM_near_2 : decode cM_near 2 = .ok (.putfield 70, 3) := by decide +kernel
theorem dM_near_5 : decode cM_near 5 = .ok (.aload_n 0, 1) := by decide +kernel
theorem dM_near_6 : decode cM_near 6 = .ok (.iload_n 1, 1) := by decide +kernel
theorem dM_near_7 : decode cM_near 7 = .ok (.invokevirtual 123, 3) := by decide +kernel
theorem dM_near_10 : decode cM_near 10 = .ok (.ifCond .eq 17, 3) := by decide +kernel
theorem dM_near_13 : decode cM_near 13 = .ok (.iload_n 2, 1) := by decide +kernel
theorem dM_near_14 : decode cM_near 14 = .ok (.iconst 0, 1) := by decide +kernel
theorem dM_near_15 : decode cM_near 15 = .ok (.aload_n 0, 1) := by decide +kernel
theorem dM_near_16 : decode cM_near 16 = .ok (.invokevirtual 146, 3) := by decide +kernel
theorem dM_near_19 : decode cM_near 19 = .ok (.iconst 1, 1) := by decide +kernel
theorem dM_near_20 : decode cM_near 20 = .ok (.isub, 1) := by decide +kernel
theorem dM_near_21 : decode cM_near 21 = .ok (.invokestatic 73, 3) := by decide +kernel
theorem dM_near_24 : decode cM_near 24 = .ok (.ifCond .ne 9, 3) := by decide +kernel
theorem dM_near_27 : decode cM_near 27 = .ok (.aload_n 0, 1) := by decide +kernel
theorem dM_near_28 : decode cM_near 28 = .ok (.iconst 1, 1) := by decide +kernel
theorem dM_near_29 : decode cM_near 29 = .ok (.invokevirtual 77, 3) := by decide +kernel
theorem dM_near_32 : decode cM_near 32 = .ok (.ireturn, 1) := by decide +kernel
theorem dM_near_33 : decode cM_near 33 = .ok (.aload_n 0, 1) := by decide +kernel
theorem dM_near_34 : decode cM_near 34 = .ok (.iload_n 1, 1) := by decide +kernel
theorem dM_near_35 : decode cM_near 35 = .ok (.iload_n 2, 1) := by decide +kernel
theorem dM_near_36 : decode cM_near 36 = .ok (.invokevirtual 149, 3) := by decide +kernel
theorem dM_near_39 : decode cM_near 39 = .ok (.ireturn, 1) := by decide +kernel
theorem dM_slack_0 : decode cM_slack 0 = .ok (.aload_n 0, 1) := by decide +kernel
theorem dM_slack_1 : decode cM_slack 1 = .ok (.iconst 0, 1) := by decide +kernel
theorem dM_slack_2 : decode cM_slack 2 = .ok (.putfield 70, 3) := by decide +kernel
theorem dM_slack_5 : decode cM_slack 5 = .ok (.iload_n 1, 1) := by decide +kernel
theorem dM_slack_6 : decode cM_slack 6 = .ok (.ifCond .ge 9, 3) := by decide +kernel
theorem dM_slack_9 : decode cM_slack 9 = .ok (.aload_n 0, 1) := by decide +kernel
theorem dM_slack_10 : decode cM_slack 10 = .ok (.iconst 1, 1) := by decide +kernel
theorem dM_slack_11 : decode cM_slack 11 = .ok (.invokevirtual 77, 3) := by decide +kernel
theorem dM_slack_14 : decode cM_slack 14 = .ok (.ireturn, 1) := by decide +kernel
theorem dM_slack_15 : decode cM_slack 15 = .ok (.aload_n 0, 1) := by decide +kernel
theorem dM_slack_16 : decode cM_slack 16 = .ok (.getfield 153, 3) := by decide +kernel
theorem dM_slack_19 : decode cM_slack 19 = .ok (.istore_n 2, 1) := by decide +kernel
theorem dM_slack_20 : decode cM_slack 20 = .ok (.aload_n 0, 1) := by decide +kernel
theorem dM_slack_21 : decode cM_slack 21 = .ok (.iload_n 1, 1) := by decide +kernel
theorem dM_slack_22 : decode cM_slack 22 = .ok (.putfield 153, 3) := by decide +kernel
theorem dM_slack_25 : decode cM_slack 25 = .ok (.iload_n 2, 1) := by decide +kernel
theorem dM_slack_26 : decode cM_slack 26 = .ok (.ireturn, 1) := by decide +kernel
theorem dM_cost_0 : decode cM_cost 0 = .ok (.aload_n 0, 1) := by decide +kernel
theorem dM_cost_1 : decode cM_cost 1 = .ok (.getfield 63, 3) := by decide +kernel
theorem dM_cost_4 : decode cM_cost 4 = .ok (.iconst 4, 1) := by decide +kernel
theorem dM_cost_5 : decode cM_cost 5 = .ok (.iload_n 1, 1) := by decide +kernel
theorem dM_cost_6 : decode cM_cost 6 = .ok (.imul, 1) := by decide +kernel
theorem dM_cost_7 : decode cM_cost 7 = .ok (.iaload, 1) := by decide +kernel
theorem dM_cost_8 : decode cM_cost 8 = .ok (.i2l, 1) := by decide +kernel
theorem dM_cost_9 : decode cM_cost 9 = .ok (.aload_n 0, 1) := by decide +kernel
theorem dM_cost_10 : decode cM_cost 10 = .ok (.getfield 63, 3) := by decide +kernel
theorem dM_cost_13 : decode cM_cost 13 = .ok (.iconst 4, 1) := by decide +kernel
theorem dM_cost_14 : decode cM_cost 14 = .ok (.iload_n 1, 1) := by decide +kernel
theorem dM_cost_15 : decode cM_cost 15 = .ok (.imul, 1) := by decide +kernel
theorem dM_cost_16 : decode cM_cost 16 = .ok (.iconst 1, 1) := by decide +kernel
theorem dM_cost_17 : decode cM_cost 17 = .ok (.iadd, 1) := by decide +kernel
theorem dM_cost_18 : decode cM_cost 18 = .ok (.iaload, 1) := by decide +kernel
theorem dM_cost_19 : decode cM_cost 19 = .ok (.i2l, 1) := by decide +kernel
theorem dM_cost_20 : decode cM_cost 20 = .ok (.ladd, 1) := by decide +kernel
theorem dM_cost_21 : decode cM_cost 21 = .ok (.aload_n 0, 1) := by decide +kernel
theorem dM_cost_22 : decode cM_cost 22 = .ok (.getfield 63, 3) := by decide +kernel
theorem dM_cost_25 : decode cM_cost 25 = .ok (.iconst 4, 1) := by decide +kernel
theorem dM_cost_26 : decode cM_cost 26 = .ok (.iload_n 1, 1) := by decide +kernel
theorem dM_cost_27 : decode cM_cost 27 = .ok (.imul, 1) := by decide +kernel
theorem dM_cost_28 : decode cM_cost 28 = .ok (.iconst 2, 1) := by decide +kernel
theorem dM_cost_29 : decode cM_cost 29 = .ok (.iadd, 1) := by decide +kernel
theorem dM_cost_30 : decode cM_cost 30 = .ok (.iaload, 1) := by decide +kernel
theorem dM_cost_31 : decode cM_cost 31 = .ok (.i2l, 1) := by decide +kernel
theorem dM_cost_32 : decode cM_cost 32 = .ok (.ladd, 1) := by decide +kernel
theorem dM_cost_33 : decode cM_cost 33 = .ok (.aload_n 0, 1) := by decide +kernel
theorem dM_cost_34 : decode cM_cost 34 = .ok (.getfield 63, 3) := by decide +kernel
theorem dM_cost_37 : decode cM_cost 37 = .ok (.iconst 4, 1) := by decide +kernel
theorem dM_cost_38 : decode cM_cost 38 = .ok (.iload_n 1, 1) := by decide +kernel
theorem dM_cost_39 : decode cM_cost 39 = .ok (.imul, 1) := by decide +kernel
theorem dM_cost_40 : decode cM_cost 40 = .ok (.iconst 3, 1) := by decide +kernel
theorem dM_cost_41 : decode cM_cost 41 = .ok (.iadd, 1) := by decide +kernel
end
section
theorem dM_cost_42 : decode cM_cost 42 = .ok (.iaload, 1) := by decide +kernel
theorem dM_cost_43 : decode cM_cost 43 = .ok (.i2l, 1) := by decide +kernel
theorem dM_cost_44 : decode cM_cost 44 = .ok (.ladd, 1) := by decide +kernel
theorem dM_cost_45 : decode cM_cost 45 = .ok (.lreturn, 1) := by decide +kernel
theorem dM_walk_0 : decode cM_walk 0 = .ok (.aload_n 0, 1) := by decide +kernel
theorem dM_walk_1 : decode cM_walk 1 = .ok (.iconst 0, 1) := by decide +kernel
theorem dM_walk_2 : decode cM_walk 2 = .ok (.putfield 70, 3) := by decide +kernel
theorem dM_walk_5 : decode cM_walk 5 = .ok (.aload_n 0, 1) := by decide +kernel
theorem dM_walk_6 : decode cM_walk 6 = .ok (.iload_n 1, 1) := by decide +kernel
theorem dM_walk_7 : decode cM_walk 7 = .ok (.invokevirtual 123, 3) := by decide +kernel
theorem dM_walk_10 : decode cM_walk 10 = .ok (.ifCond .ne 9, 3) := by decide +kernel
theorem dM_walk_13 : decode cM_walk 13 = .ok (.aload_n 0, 1) := by decide +kernel
theorem dM_walk_14 : decode cM_walk 14 = .ok (.iconst 1, 1) := by decide +kernel
theorem dM_walk_15 : decode cM_walk 15 = .ok (.invokevirtual 77, 3) := by decide +kernel
theorem dM_walk_18 : decode cM_walk 18 = .ok (.ireturn, 1) := by decide +kernel
theorem dM_walk_19 : decode cM_walk 19 = .ok (.aload_n 0, 1) := by decide +kernel
theorem dM_walk_20 : decode cM_walk 20 = .ok (.invokevirtual 127, 3) := by decide +kernel
theorem dM_walk_23 : decode cM_walk 23 = .ok (.aload_n 0, 1) := by decide +kernel
theorem dM_walk_24 : decode cM_walk 24 = .ok (.getfield 60, 3) := by decide +kernel
theorem dM_walk_27 : decode cM_walk 27 = .ok (.iload_n 1, 1) := by decide +kernel
theorem dM_walk_28 : decode cM_walk 28 = .ok (.baload, 1) := by decide +kernel
theorem dM_walk_29 : decode cM_walk 29 = .ok (.ifCond .eq 14, 3) := by decide +kernel
theorem dM_walk_32 : decode cM_walk 32 = .ok (.iload_n 2, 1) := by decide +kernel
theorem dM_walk_33 : decode cM_walk 33 = .ok (.iconst 1, 1) := by decide +kernel
theorem dM_walk_34 : decode cM_walk 34 = .ok (.sipush 1000, 3) := by decide +kernel
theorem dM_walk_37 : decode cM_walk 37 = .ok (.invokestatic 73, 3) := by decide +kernel
theorem dM_walk_40 : decode cM_walk 40 = .ok (.ifCond .ne 9, 3) := by decide +kernel
theorem dM_walk_43 : decode cM_walk 43 = .ok (.aload_n 0, 1) := by decide +kernel
theorem dM_walk_44 : decode cM_walk 44 = .ok (.iconst 2, 1) := by decide +kernel
theorem dM_walk_45 : decode cM_walk 45 = .ok (.invokevirtual 77, 3) := by decide +kernel
theorem dM_walk_48 : decode cM_walk 48 = .ok (.ireturn, 1) := by decide +kernel
theorem dM_walk_49 : decode cM_walk 49 = .ok (.aload_n 0, 1) := by decide +kernel
theorem dM_walk_50 : decode cM_walk 50 = .ok (.getfield 81, 3) := by decide +kernel
theorem dM_walk_53 : decode cM_walk 53 = .ok (.ifCond .ne 9, 3) := by decide +kernel
theorem dM_walk_56 : decode cM_walk 56 = .ok (.aload_n 0, 1) := by decide +kernel
theorem dM_walk_57 : decode cM_walk 57 = .ok (.iconst 3, 1) := by decide +kernel
theorem dM_walk_58 : decode cM_walk 58 = .ok (.invokevirtual 77, 3) := by decide +kernel
theorem dM_walk_61 : decode cM_walk 61 = .ok (.ireturn, 1) := by decide +kernel
theorem dM_walk_62 : decode cM_walk 62 = .ok (.iload_n 1, 1) := by decide +kernel
theorem dM_walk_63 : decode cM_walk 63 = .ok (.istore_n 3, 1) := by decide +kernel
theorem dM_walk_64 : decode cM_walk 64 = .ok (.aload_n 0, 1) := by decide +kernel
theorem dM_walk_65 : decode cM_walk 65 = .ok (.iload_n 1, 1) := by decide +kernel
theorem dM_walk_66 : decode cM_walk 66 = .ok (.putfield 57, 3) := by decide +kernel
theorem dM_walk_69 : decode cM_walk 69 = .ok (.aload_n 0, 1) := by decide +kernel
theorem dM_walk_70 : decode cM_walk 70 = .ok (.iconst 0, 1) := by decide +kernel
theorem dM_walk_71 : decode cM_walk 71 = .ok (.putfield 156, 3) := by decide +kernel
theorem dM_walk_74 : decode cM_walk 74 = .ok (.iconst 0, 1) := by decide +kernel
theorem dM_walk_75 : decode cM_walk 75 = .ok (.istore 4, 2) := by decide +kernel
theorem dM_walk_77 : decode cM_walk 77 = .ok (.iload 4, 2) := by decide +kernel
theorem dM_walk_79 : decode cM_walk 79 = .ok (.iload_n 2, 1) := by decide +kernel
theorem dM_walk_80 : decode cM_walk 80 = .ok (.if_icmp .ge 112, 3) := by decide +kernel
theorem dM_walk_83 : decode cM_walk 83 = .ok (.aload_n 0, 1) := by decide +kernel
theorem dM_walk_84 : decode cM_walk 84 = .ok (.ldc 159, 2) := by decide +kernel
theorem dM_walk_86 : decode cM_walk 86 = .ok (.aload_n 0, 1) := by decide +kernel
theorem dM_walk_87 : decode cM_walk 87 = .ok (.getfield 67, 3) := by decide +kernel
theorem dM_walk_90 : decode cM_walk 90 = .ok (.imul, 1) := by decide +kernel
theorem dM_walk_91 : decode cM_walk 91 = .ok (.sipush 12345, 3) := by decide +kernel
theorem dM_walk_94 : decode cM_walk 94 = .ok (.iadd, 1) := by decide +kernel
theorem dM_walk_95 : decode cM_walk 95 = .ok (.ldc 66, 2) := by decide +kernel
theorem dM_walk_97 : decode cM_walk 97 = .ok (.iand, 1) := by decide +kernel
theorem dM_walk_98 : decode cM_walk 98 = .ok (.putfield 67, 3) := by decide +kernel
theorem dM_walk_101 : decode cM_walk 101 = .ok (.aload_n 0, 1) := by decide +kernel
theorem dM_walk_102 : decode cM_walk 102 = .ok (.iload_n 3, 1) := by decide +kernel
theorem dM_walk_103 : decode cM_walk 103 = .ok (.aload_n 0, 1) := by decide +kernel
theorem dM_walk_104 : decode cM_walk 104 = .ok (.getfield 67, 3) := by decide +kernel
theorem dM_walk_107 : decode cM_walk 107 = .ok (.ldc 160, 2) := by decide +kernel
theorem dM_walk_109 : decode cM_walk 109 = .ok (.idiv, 1) := by decide +kernel
theorem dM_walk_110 : decode cM_walk 110 = .ok (.aload_n 0, 1) := by decide +kernel
theorem dM_walk_111 : decode cM_walk 111 = .ok (.invokevirtual 146, 3) := by decide +kernel
theorem dM_walk_114 : decode cM_walk 114 = .ok (.irem, 1) := by decide +kernel
theorem dM_walk_115 : decode cM_walk 115 = .ok (.invokevirtual 149, 3) := by decide +kernel
theorem dM_walk_118 : decode cM_walk 118 = .ok (.istore 5, 2) := by decide +kernel
theorem dM_walk_120 : decode cM_walk 120 = .ok (.aload_n 0, 1) := by decide +kernel
theorem dM_walk_121 : decode cM_walk 121 = .ok (.getfield 60, 3) := by decide +kernel
theorem dM_walk_124 : decode cM_walk 124 = .ok (.iload 5, 2) := by decide +kernel
theorem dM_walk_126 : decode cM_walk 126 = .ok (.baload, 1) := by decide +kernel
theorem dM_walk_127 : decode cM_walk 127 = .ok (.ifCond .eq 59, 3) := by decide +kernel
theorem dM_walk_130 : decode cM_walk 130 = .ok (.aload_n 0, 1) := by decide +kernel
theorem dM_walk_131 : decode cM_walk 131 = .ok (.iload 5, 2) := by decide +kernel
theorem dM_walk_133 : decode cM_walk 133 = .ok (.invokevirtual 161, 3) := by decide +kernel
theorem dM_walk_136 : decode cM_walk 136 = .ok (.aload_n 0, 1) := by decide +kernel
theorem dM_walk_137 : decode cM_walk 137 = .ok (.iload_n 3, 1) := by decide +kernel
theorem dM_walk_138 : decode cM_walk 138 = .ok (.invokevirtual 161, 3) := by decide +kernel
theorem dM_walk_141 : decode cM_walk 141 = .ok (.aload_n 0, 1) := by decide +kernel
theorem dM_walk_142 : decode cM_walk 142 = .ok (.getfield 153, 3) := by decide +kernel
theorem dM_walk_145 : decode cM_walk 145 = .ok (.i2l, 1) := by decide +kernel
theorem dM_walk_146 : decode cM_walk 146 = .ok (.ladd, 1) := by decide +kernel
theorem dM_walk_147 : decode cM_walk 147 = .ok (.lcmp, 1) := by decide +kernel
theorem dM_walk_148 : decode cM_walk 148 = .ok (.ifCond .gt 38, 3) := by decide +kernel
theorem dM_walk_151 : decode cM_walk 151 = .ok (.iload 5, 2) := by decide +kernel
theorem dM_walk_153 : decode cM_walk 153 = .ok (.istore_n 3, 1) := by decide +kernel
theorem dM_walk_154 : decode cM_walk 154 = .ok (.aload_n 0, 1) := by decide +kernel
theorem dM_walk_155 : decode cM_walk 155 = .ok (.dup, 1) := by decide +kernel
theorem dM_walk_156 : decode cM_walk 156 = .ok (.getfield 156, 3) := by decide +kernel
theorem dM_walk_159 : decode cM_walk 159 = .ok (.iconst 1, 1) := by decide +kernel
theorem dM_walk_160 : decode cM_walk 160 = .ok (.iadd, 1) := by decide +kernel
theorem dM_walk_161 : decode cM_walk 161 = .ok (.putfield 156, 3) := by decide +kernel
theorem dM_walk_164 : decode cM_walk 164 = .ok (.aload_n 0, 1) := by decide +kernel
theorem dM_walk_165 : decode cM_walk 165 = .ok (.iload_n 3, 1) := by decide +kernel
theorem dM_walk_166 : decode cM_walk 166 = .ok (.invokevirtual 161, 3) := by decide +kernel
theorem dM_walk_169 : decode cM_walk 169 = .ok (.aload_n 0, 1) := by decide +kernel
theorem dM_walk_170 : decode cM_walk 170 = .ok (.aload_n 0, 1) := by decide +kernel
theorem dM_walk_171 : decode cM_walk 171 = .ok (.getfield 57, 3) := by decide +kernel
theorem dM_walk_174 : decode cM_walk 174 = .ok (.invokevirtual 161, 3) := by decide +kernel
theorem dM_walk_177 : decode cM_walk 177 = .ok (.lcmp, 1) := by decide +kernel
theorem dM_walk_178 : decode cM_walk 178 = .ok (.ifCond .ge 8, 3) := by decide +kernel
theorem dM_walk_181 : decode cM_walk 181 = .ok (.aload_n 0, 1) := by decide +kernel
theorem dM_walk_182 : decode cM_walk 182 = .ok (.iload_n 3, 1) := by decide +kernel
theorem dM_walk_183 : decode cM_walk 183 = .ok (.putfield 57, 3) := by decide +kernel
theorem dM_walk_186 : decode cM_walk 186 = .ok (.iinc 4 1, 3) := by decide +kernel
theorem dM_walk_189 : decode cM_walk 189 = .ok (.goto (-112), 3) := by decide +kernel
theorem dM_walk_192 : decode cM_walk 192 = .ok (.iload_n 3, 1) := by decide +kernel
theorem dM_walk_193 : decode cM_walk 193 = .ok (.ireturn, 1) := by decide +kernel
theorem dM_lowest_0 : decode cM_lowest 0 = .ok (.aload_n 0, 1) := by decide +kernel
theorem dM_lowest_1 : decode cM_lowest 1 = .ok (.iconst 0, 1) := by decide +kernel
theorem dM_lowest_2 : decode cM_lowest 2 = .ok (.putfield 70, 3) := by decide +kernel
theorem dM_lowest_5 : decode cM_lowest 5 = .ok (.aload_n 0, 1) := by decide +kernel
theorem dM_lowest_6 : decode cM_lowest 6 = .ok (.getfield 57, 3) := by decide +kernel
theorem dM_lowest_9 : decode cM_lowest 9 = .ok (.ireturn, 1) := by decide +kernel
theorem dM_matters_0 : decode cM_matters 0 = .ok (.aload_n 0, 1) := by decide +kernel
theorem dM_matters_1 : decode cM_matters 1 = .ok (.iload_n 1, 1) := by decide +kernel
theorem dM_matters_2 : decode cM_matters 2 = .ok (.iconst 0, 1) := by decide +kernel
theorem dM_matters_3 : decode cM_matters 3 = .ok (.aload_n 0, 1) := by decide +kernel
theorem dM_matters_4 : decode cM_matters 4 = .ok (.getfield 81, 3) := by decide +kernel
theorem dM_matters_7 : decode cM_matters 7 = .ok (.iconst 1, 1) := by decide +kernel
theorem dM_matters_8 : decode cM_matters 8 = .ok (.isub, 1) := by decide +kernel
theorem dM_matters_9 : decode cM_matters 9 = .ok (.invokestatic 73, 3) := by decide +kernel
theorem dM_matters_12 : decode cM_matters 12 = .ok (.ifCond .eq 16, 3) := by decide +kernel
theorem dM_matters_15 : decode cM_matters 15 = .ok (.iload_n 2, 1) := by decide +kernel
theorem dM_matters_16 : decode cM_matters 16 = .ok (.iconst 0, 1) := by decide +kernel
theorem dM_matters_17 : decode cM_matters 17 = .ok (.iconst 3, 1) := by decide +kernel
theorem dM_matters_18 : decode cM_matters 18 = .ok (.invokestatic 73, 3) := by decide +kernel
theorem dM_matters_21 : decode cM_matters 21 = .ok (.ifCond .eq 7, 3) := by decide +kernel
theorem dM_matters_24 : decode cM_matters 24 = .ok (.iconst 0, 1) := by decide +kernel
theorem dM_matters_25 : decode cM_matters 25 = .ok (.goto 4, 3) := by decide +kernel
theorem dM_matters_28 : decode cM_matters 28 = .ok (.iconst 1, 1) := by decide +kernel
theorem dM_matters_29 : decode cM_matters 29 = .ok (.putfield 70, 3) := by decide +kernel
theorem dM_matters_32 : decode cM_matters 32 = .ok (.aload_n 0, 1) := by decide +kernel
theorem dM_matters_33 : decode cM_matters 33 = .ok (.getfield 70, 3) := by decide +kernel
theorem dM_matters_36 : decode cM_matters 36 = .ok (.ifCond .le 5, 3) := by decide +kernel
theorem dM_matters_39 : decode cM_matters 39 = .ok (.lconst 0, 1) := by decide +kernel
theorem dM_matters_40 : decode cM_matters 40 = .ok (.lreturn, 1) := by decide +kernel
theorem dM_matters_41 : decode cM_matters 41 = .ok (.aload_n 0, 1) := by decide +kernel
theorem dM_matters_42 : decode cM_matters 42 = .ok (.invokevirtual 127, 3) := by decide +kernel
theorem dM_matters_45 : decode cM_matters 45 = .ok (.lconst 0, 1) := by decide +kernel
theorem dM_matters_46 : decode cM_matters 46 = .ok (.lstore_n 3, 1) := by decide +kernel
theorem dM_matters_47 : decode cM_matters 47 = .ok (.iconst 1, 1) := by decide +kernel
theorem dM_matters_48 : decode cM_matters 48 = .ok (.istore 5, 2) := by decide +kernel
theorem dM_matters_50 : decode cM_matters 50 = .ok (.iload_n 1, 1) := by decide +kernel
theorem dM_matters_51 : decode cM_matters 51 = .ok (.iconst 1, 1) := by decide +kernel
theorem dM_matters_52 : decode cM_matters 52 = .ok (.iadd, 1) := by decide +kernel
theorem dM_matters_53 : decode cM_matters 53 = .ok (.istore 6, 2) := by decide +kernel
theorem dM_matters_55 : decode cM_matters 55 = .ok (.iload 6, 2) := by decide +kernel
theorem dM_matters_57 : decode cM_matters 57 = .ok (.aload_n 0, 1) := by decide +kernel
theorem dM_matters_58 : decode cM_matters 58 = .ok (.getfield 81, 3) := by decide +kernel
theorem dM_matters_61 : decode cM_matters 61 = .ok (.if_icmp .ge 21, 3) := by decide +kernel
theorem dM_matters_64 : decode cM_matters 64 = .ok (.iload 5, 2) := by decide +kernel
theorem dM_matters_66 : decode cM_matters 66 = .ok (.aload_n 0, 1) := by decide +kernel
theorem dM_matters_67 : decode cM_matters 67 = .ok (.getfield 13, 3) := by decide +kernel
theorem dM_matters_70 : decode cM_matters 70 = .ok (.iload 6, 2) := by decide +kernel
theorem dM_matters_72 : decode cM_matters 72 = .ok (.iaload, 1) := by decide +kernel
theorem dM_matters_73 : decode cM_matters 73 = .ok (.imul, 1) := by decide +kernel
theorem dM_matters_74 : decode cM_matters 74 = .ok (.istore 5, 2) := by decide +kernel
theorem dM_matters_76 : decode cM_matters 76 = .ok (.iinc 6 1, 3) := by decide +kernel
theorem dM_matters_79 : decode cM_matters 79 = .ok (.goto (-24), 3) := by decide +kernel
theorem dM_matters_82 : decode cM_matters 82 = .ok (.iconst 0, 1) := by decide +kernel
theorem dM_matters_83 : decode cM_matters 83 = .ok (.istore 6, 2) := by decide +kernel
theorem dM_matters_85 : decode cM_matters 85 = .ok (.iload 6, 2) := by decide +kernel
theorem dM_matters_87 : decode cM_matters 87 = .ok (.aload_n 0, 1) := by decide +kernel
theorem dM_matters_88 : decode cM_matters 88 = .ok (.getfield 7, 3) := by decide +kernel
theorem dM_matters_91 : decode cM_matters 91 = .ok (.if_icmp .ge 141, 3) := by decide +kernel
theorem dM_matters_94 : decode cM_matters 94 = .ok (.iload 6, 2) := by decide +kernel
theorem dM_matters_96 : decode cM_matters 96 = .ok (.iload 5, 2) := by decide +kernel
theorem dM_matters_98 : decode cM_matters 98 = .ok (.iadd, 1) := by decide +kernel
theorem dM_matters_99 : decode cM_matters 99 = .ok (.istore 7, 2) := by decide +kernel
theorem dM_matters_101 : decode cM_matters 101 = .ok (.aload_n 0, 1) := by decide +kernel
theorem dM_matters_102 : decode cM_matters 102 = .ok (.getfield 60, 3) := by decide +kernel
theorem dM_matters_105 : decode cM_matters 105 = .ok (.iload 6, 2) := by decide +kernel
theorem dM_matters_107 : decode cM_matters 107 = .ok (.baload, 1) := by decide +kernel
theorem dM_matters_108 : decode cM_matters 108 = .ok (.ifCond .eq 118, 3) := by decide +kernel
theorem dM_matters_111 : decode cM_matters 111 = .ok (.iload 7, 2) := by decide +kernel
theorem dM_matters_113 : decode cM_matters 113 = .ok (.aload_n 0, 1) := by decide +kernel
theorem dM_matters_114 : decode cM_matters 114 = .ok (.getfield 7, 3) := by decide +kernel
theorem dM_matters_117 : decode cM_matters 117 = .ok (.if_icmp .ge 109, 3) := by decide +kernel
theorem dM_matters_120 : decode cM_matters 120 = .ok (.iload 7, 2) := by decide +kernel
theorem dM_matters_122 : decode cM_matters 122 = .ok (.iload 5, 2) := by decide +kernel
theorem dM_matters_124 : decode cM_matters 124 = .ok (.aload_n 0, 1) := by decide +kernel
theorem dM_matters_125 : decode cM_matters 125 = .ok (.getfield 13, 3) := by decide +kernel
theorem dM_matters_128 : decode cM_matters 128 = .ok (.iload_n 1, 1) := by decide +kernel
theorem dM_matters_129 : decode cM_matters 129 = .ok (.iaload, 1) := by decide +kernel
theorem dM_matters_130 : decode cM_matters 130 = .ok (.imul, 1) := by decide +kernel
theorem dM_matters_131 : decode cM_matters 131 = .ok (.idiv, 1) := by decide +kernel
theorem dM_matters_132 : decode cM_matters 132 = .ok (.iload 6, 2) := by decide +kernel
theorem dM_matters_134 : decode cM_matters 134 = .ok (.iload 5, 2) := by decide +kernel
theorem dM_matters_136 : decode cM_matters 136 = .ok (.aload_n 0, 1) := by decide +kernel
theorem dM_matters_137 : decode cM_matters 137 = .ok (.getfield 13, 3) := by decide +kernel
theorem dM_matters_140 : decode cM_matters 140 = .ok (.iload_n 1, 1) := by decide +kernel
theorem dM_matters_141 : decode cM_matters 141 = .ok (.iaload, 1) := by decide +kernel
theorem dM_matters_142 : decode cM_matters 142 = .ok (.imul, 1) := by decide +kernel
theorem dM_matters_143 : decode cM_matters 143 = .ok (.idiv, 1) := by decide +kernel
theorem dM_matters_144 : decode cM_matters 144 = .ok (.if_icmp .ne 82, 3) := by decide +kernel
theorem dM_matters_147 : decode cM_matters 147 = .ok (.aload_n 0, 1) := by decide +kernel
theorem dM_matters_148 : decode cM_matters 148 = .ok (.getfield 63, 3) := by decide +kernel
theorem dM_matters_151 : decode cM_matters 151 = .ok (.iconst 4, 1) := by decide +kernel
theorem dM_matters_152 : decode cM_matters 152 = .ok (.iload 6, 2) := by decide +kernel
theorem dM_matters_154 : decode cM_matters 154 = .ok (.imul, 1) := by decide +kernel
theorem dM_matters_155 : decode cM_matters 155 = .ok (.iload_n 2, 1) := by decide +kernel
theorem dM_matters_156 : decode cM_matters 156 = .ok (.iadd, 1) := by decide +kernel
theorem dM_matters_157 : decode cM_matters 157 = .ok (.iaload, 1) := by decide +kernel
theorem dM_matters_158 : decode cM_matters 158 = .ok (.i2l, 1) := by decide +kernel
theorem dM_matters_159 : decode cM_matters 159 = .ok (.aload_n 0, 1) := by decide +kernel
theorem dM_matters_160 : decode cM_matters 160 = .ok (.getfield 63, 3) := by decide +kernel
theorem dM_matters_163 : decode cM_matters 163 = .ok (.iconst 4, 1) := by decide +kernel
theorem dM_matters_164 : decode cM_matters 164 = .ok (.iload 7, 2) := by decide +kernel
theorem dM_matters_166 : decode cM_matters 166 = .ok (.imul, 1) := by decide +kernel
theorem dM_matters_167 : decode cM_matters 167 = .ok (.iload_n 2, 1) := by decide +kernel
theorem dM_matters_168 : decode cM_matters 168 = .ok (.iadd, 1) := by decide +kernel
theorem dM_matters_169 : decode cM_matters 169 = .ok (.iaload, 1) := by decide +kernel
theorem dM_matters_170 : decode cM_matters 170 = .ok (.i2l, 1) := by decide +kernel
theorem dM_matters_171 : decode cM_matters 171 = .ok (.lsub, 1) := by decide +kernel
theorem dM_matters_172 : decode cM_matters 172 = .ok (.lstore 8, 2) := by decide +kernel
theorem dM_matters_174 : decode cM_matters 174 = .ok (.aload_n 0, 1) := by decide +kernel
theorem dM_matters_175 : decode cM_matters 175 = .ok (.getfield 60, 3) := by decide +kernel
theorem dM_matters_178 : decode cM_matters 178 = .ok (.iload 7, 2) := by decide +kernel
theorem dM_matters_180 : decode cM_matters 180 = .ok (.baload, 1) := by decide +kernel
theorem dM_matters_181 : decode cM_matters 181 = .ok (.ifCond .eq 13, 3) := by decide +kernel
theorem dM_matters_184 : decode cM_matters 184 = .ok (.lload 8, 2) := by decide +kernel
theorem dM_matters_186 : decode cM_matters 186 = .ok (.lload_n 3, 1) := by decide +kernel
theorem dM_matters_187 : decode cM_matters 187 = .ok (.lcmp, 1) := by decide +kernel
theorem dM_matters_188 : decode cM_matters 188 = .ok (.ifCond .le 6, 3) := by decide +kernel
theorem dM_matters_191 : decode cM_matters 191 = .ok (.lload 8, 2) := by decide +kernel
theorem dM_matters_193 : decode cM_matters 193 = .ok (.lstore_n 3, 1) := by decide +kernel
theorem dM_matters_194 : decode cM_matters 194 = .ok (.aload_n 0, 1) := by decide +kernel
theorem dM_matters_195 : decode cM_matters 195 = .ok (.getfield 60, 3) := by decide +kernel
theorem dM_matters_198 : decode cM_matters 198 = .ok (.iload 7, 2) := by decide +kernel
theorem dM_matters_200 : decode cM_matters 200 = .ok (.baload, 1) := by decide +kernel
theorem dM_matters_201 : decode cM_matters 201 = .ok (.ifCond .eq 15, 3) := by decide +kernel
theorem dM_matters_204 : decode cM_matters 204 = .ok (.lload 8, 2) := by decide +kernel
theorem dM_matters_206 : decode cM_matters 206 = .ok (.lneg, 1) := by decide +kernel
theorem dM_matters_207 : decode cM_matters 207 = .ok (.lload_n 3, 1) := by decide +kernel
theorem dM_matters_208 : decode cM_matters 208 = .ok (.lcmp, 1) := by decide +kernel
theorem dM_matters_209 : decode cM_matters 209 = .ok (.ifCond .le 7, 3) := by decide +kernel
theorem dM_matters_212 : decode cM_matters 212 = .ok (.lload 8, 2) := by decide +kernel
theorem dM_matters_214 : decode cM_matters 214 = .ok (.lneg, 1) := by decide +kernel
theorem dM_matters_215 : decode cM_matters 215 = .ok (.lstore_n 3, 1) := by decide +kernel
theorem dM_matters_216 : decode cM_matters 216 = .ok (.iload 7, 2) := by decide +kernel
theorem dM_matters_218 : decode cM_matters 218 = .ok (.iload 5, 2) := by decide +kernel
theorem dM_matters_220 : decode cM_matters 220 = .ok (.iadd, 1) := by decide +kernel
theorem dM_matters_221 : decode cM_matters 221 = .ok (.istore 7, 2) := by decide +kernel
theorem dM_matters_223 : decode cM_matters 223 = .ok (.goto (-122), 3) := by decide +kernel
theorem dM_matters_226 : decode cM_matters 226 = .ok (.iinc 6 1, 3) := by decide +kernel
theorem dM_matters_229 : decode cM_matters 229 = .ok (.goto (-144), 3) := by decide +kernel
theorem dM_matters_232 : decode cM_matters 232 = .ok (.lload_n 3, 1) := by decide +kernel
theorem dM_matters_233 : decode cM_matters 233 = .ok (.lreturn, 1) := by decide +kernel
theorem dM_sweep_0 : decode cM_sweep 0 = .ok (.aload_n 0, 1) := by decide +kernel
theorem dM_sweep_1 : decode cM_sweep 1 = .ok (.iconst 0, 1) := by decide +kernel
theorem dM_sweep_2 : decode cM_sweep 2 = .ok (.putfield 70, 3) := by decide +kernel
theorem dM_sweep_5 : decode cM_sweep 5 = .ok (.iload_n 1, 1) := by decide +kernel
theorem dM_sweep_6 : decode cM_sweep 6 = .ok (.iconst 1, 1) := by decide +kernel
theorem dM_sweep_7 : decode cM_sweep 7 = .ok (.sipush 5000, 3) := by decide +kernel
theorem dM_sweep_10 : decode cM_sweep 10 = .ok (.invokestatic 73, 3) := by decide +kernel
theorem dM_sweep_13 : decode cM_sweep 13 = .ok (.ifCond .ne 9, 3) := by decide +kernel
theorem dM_sweep_16 : decode cM_sweep 16 = .ok (.aload_n 0, 1) := by decide +kernel
theorem dM_sweep_17 : decode cM_sweep 17 = .ok (.iconst 1, 1) := by decide +kernel
theorem dM_sweep_18 : decode cM_sweep 18 = .ok (.invokevirtual 77, 3) := by decide +kernel
theorem dM_sweep_21 : decode cM_sweep 21 = .ok (.ireturn, 1) := by decide +kernel
theorem dM_sweep_22 : decode cM_sweep 22 = .ok (.aload_n 0, 1) := by decide +kernel
theorem dM_sweep_23 : decode cM_sweep 23 = .ok (.getfield 84, 3) := by decide +kernel
theorem dM_sweep_26 : decode cM_sweep 26 = .ok (.aload_n 0, 1) := by decide +kernel
theorem dM_sweep_27 : decode cM_sweep 27 = .ok (.getfield 7, 3) := by decide +kernel
theorem dM_sweep_30 : decode cM_sweep 30 = .ok (.if_icmp .ne 9, 3) := by decide +kernel
theorem dM_sweep_33 : decode cM_sweep 33 = .ok (.aload_n 0, 1) := by decide +kernel
theorem dM_sweep_34 : decode cM_sweep 34 = .ok (.iconst 2, 1) := by decide +kernel
theorem dM_sweep_35 : decode cM_sweep 35 = .ok (.invokevirtual 77, 3) := by decide +kernel
theorem dM_sweep_38 : decode cM_sweep 38 = .ok (.ireturn, 1) := by decide +kernel
theorem dM_sweep_39 : decode cM_sweep 39 = .ok (.aload_n 0, 1) := by decide +kernel
theorem dM_sweep_40 : decode cM_sweep 40 = .ok (.invokevirtual 127, 3) := by decide +kernel
theorem dM_sweep_43 : decode cM_sweep 43 = .ok (.iconst 0, 1) := by decide +kernel
theorem dM_sweep_44 : decode cM_sweep 44 = .ok (.istore_n 2, 1) := by decide +kernel
theorem dM_sweep_45 : decode cM_sweep 45 = .ok (.iconst 0, 1) := by decide +kernel
theorem dM_sweep_46 : decode cM_sweep 46 = .ok (.istore_n 3, 1) := by decide +kernel
theorem dM_sweep_47 : decode cM_sweep 47 = .ok (.iload_n 3, 1) := by decide +kernel
theorem dM_sweep_48 : decode cM_sweep 48 = .ok (.iload_n 1, 1) := by decide +kernel
theorem dM_sweep_49 : decode cM_sweep 49 = .ok (.if_icmp .ge 50, 3) := by decide +kernel
theorem dM_sweep_52 : decode cM_sweep 52 = .ok (.aload_n 0, 1) := by decide +kernel
theorem dM_sweep_53 : decode cM_sweep 53 = .ok (.getfield 84, 3) := by decide +kernel
theorem dM_sweep_56 : decode cM_sweep 56 = .ok (.aload_n 0, 1) := by decide +kernel
theorem dM_sweep_57 : decode cM_sweep 57 = .ok (.getfield 7, 3) := by decide +kernel
theorem dM_sweep_60 : decode cM_sweep 60 = .ok (.if_icmp .ge 39, 3) := by decide +kernel
theorem dM_sweep_63 : decode cM_sweep 63 = .ok (.iload_n 2, 1) := by decide +kernel
theorem dM_sweep_64 : decode cM_sweep 64 = .ok (.aload_n 0, 1) := by decide +kernel
theorem dM_sweep_65 : decode cM_sweep 65 = .ok (.getfield 60, 3) := by decide +kernel
theorem dM_sweep_68 : decode cM_sweep 68 = .ok (.aload_n 0, 1) := by decide +kernel
theorem dM_sweep_69 : decode cM_sweep 69 = .ok (.getfield 84, 3) := by decide +kernel
theorem dM_sweep_72 : decode cM_sweep 72 = .ok (.baload, 1) := by decide +kernel
theorem dM_sweep_73 : decode cM_sweep 73 = .ok (.ifCond .eq 7, 3) := by decide +kernel
theorem dM_sweep_76 : decode cM_sweep 76 = .ok (.iconst 1, 1) := by decide +kernel
theorem dM_sweep_77 : decode cM_sweep 77 = .ok (.goto 4, 3) := by decide +kernel
theorem dM_sweep_80 : decode cM_sweep 80 = .ok (.iconst 0, 1) := by decide +kernel
theorem dM_sweep_81 : decode cM_sweep 81 = .ok (.iadd, 1) := by decide +kernel
theorem dM_sweep_82 : decode cM_sweep 82 = .ok (.istore_n 2, 1) := by decide +kernel
theorem dM_sweep_83 : decode cM_sweep 83 = .ok (.aload_n 0, 1) := by decide +kernel
theorem dM_sweep_84 : decode cM_sweep 84 = .ok (.dup, 1) := by decide +kernel
theorem dM_sweep_85 : decode cM_sweep 85 = .ok (.getfield 84, 3) := by decide +kernel
theorem dM_sweep_88 : decode cM_sweep 88 = .ok (.iconst 1, 1) := by decide +kernel
theorem dM_sweep_89 : decode cM_sweep 89 = .ok (.iadd, 1) := by decide +kernel
theorem dM_sweep_90 : decode cM_sweep 90 = .ok (.putfield 84, 3) := by decide +kernel
theorem dM_sweep_93 : decode cM_sweep 93 = .ok (.iinc 3 1, 3) := by decide +kernel
theorem dM_sweep_96 : decode cM_sweep 96 = .ok (.goto (-49), 3) := by decide +kernel
theorem dM_sweep_99 : decode cM_sweep 99 = .ok (.aload_n 0, 1) := by decide +kernel
theorem dM_sweep_100 : decode cM_sweep 100 = .ok (.dup, 1) := by decide +kernel
theorem dM_sweep_101 : decode cM_sweep 101 = .ok (.getfield 87, 3) := by decide +kernel
theorem dM_sweep_104 : decode cM_sweep 104 = .ok (.iload_n 2, 1) := by decide +kernel
theorem dM_sweep_105 : decode cM_sweep 105 = .ok (.iadd, 1) := by decide +kernel
theorem dM_sweep_106 : decode cM_sweep 106 = .ok (.putfield 87, 3) := by decide +kernel
theorem dM_sweep_109 : decode cM_sweep 109 = .ok (.iload_n 2, 1) := by decide +kernel
theorem dM_sweep_110 : decode cM_sweep 110 = .ok (.ireturn, 1) := by decide +kernel
theorem dM_count_0 : decode cM_count 0 = .ok (.aload_n 0, 1) := by decide +kernel
theorem dM_count_1 : decode cM_count 1 = .ok (.iconst 0, 1) := by decide +kernel
theorem dM_count_2 : decode cM_count 2 = .ok (.putfield 70, 3) := by decide +kernel
theorem dM_count_5 : decode cM_count 5 = .ok (.iconst 0, 1) := by decide +kernel
theorem dM_count_6 : decode cM_count 6 = .ok (.istore_n 2, 1) := by decide +kernel
theorem dM_count_7 : decode cM_count 7 = .ok (.iload_n 1, 1) := by decide +kernel
theorem dM_count_8 : decode cM_count 8 = .ok (.tableswitch 139 0 8 #[52, 57, 62, 67, 72, 104, 109, 129, 134], 52) := by decide +kernel
theorem dM_count_60 : decode cM_count 60 = .ok (.aload_n 0, 1) := by decide +kernel
theorem dM_count_61 : decode cM_count 61 = .ok (.getfield 81, 3) := by decide +kernel
theorem dM_count_64 : decode cM_count 64 = .ok (.ireturn, 1) := by decide +kernel
theorem dM_count_65 : decode cM_count 65 = .ok (.aload_n 0, 1) := by decide +kernel
theorem dM_count_66 : decode cM_count 66 = .ok (.getfield 7, 3) := by decide +kernel
theorem dM_count_69 : decode cM_count 69 = .ok (.ireturn, 1) := by decide +kernel
theorem dM_count_70 : decode cM_count 70 = .ok (.aload_n 0, 1) := by decide +kernel
theorem dM_count_71 : decode cM_count 71 = .ok (.getfield 100, 3) := by decide +kernel
theorem dM_count_74 : decode cM_count 74 = .ok (.ireturn, 1) := by decide +kernel
theorem dM_count_75 : decode cM_count 75 = .ok (.aload_n 0, 1) := by decide +kernel
theorem dM_count_76 : decode cM_count 76 = .ok (.getfield 103, 3) := by decide +kernel
theorem dM_count_79 : decode cM_count 79 = .ok (.ireturn, 1) := by decide +kernel
theorem dM_count_80 : decode cM_count 80 = .ok (.iconst 0, 1) := by decide +kernel
theorem dM_count_81 : decode cM_count 81 = .ok (.istore_n 3, 1) := by decide +kernel
theorem dM_count_82 : decode cM_count 82 = .ok (.iload_n 3, 1) := by decide +kernel
theorem dM_count_83 : decode cM_count 83 = .ok (.iconst 4, 1) := by decide +kernel
theorem dM_count_84 : decode cM_count 84 = .ok (.if_icmp .ge 26, 3) := by decide +kernel
theorem dM_count_87 : decode cM_count 87 = .ok (.iload_n 2, 1) := by decide +kernel
theorem dM_count_88 : decode cM_count 88 = .ok (.aload_n 0, 1) := by decide +kernel
theorem dM_count_89 : decode cM_count 89 = .ok (.getfield 47, 3) := by decide +kernel
theorem dM_count_92 : decode cM_count 92 = .ok (.iload_n 3, 1) := by decide +kernel
theorem dM_count_93 : decode cM_count 93 = .ok (.baload, 1) := by decide +kernel
theorem dM_count_94 : decode cM_count 94 = .ok (.ifCond .eq 7, 3) := by decide +kernel
theorem dM_count_97 : decode cM_count 97 = .ok (.iconst 1, 1) := by decide +kernel
theorem dM_count_98 : decode cM_count 98 = .ok (.goto 4, 3) := by decide +kernel
theorem dM_count_101 : decode cM_count 101 = .ok (.iconst 0, 1) := by decide +kernel
theorem dM_count_102 : decode cM_count 102 = .ok (.iadd, 1) := by decide +kernel
theorem dM_count_103 : decode cM_count 103 = .ok (.istore_n 2, 1) := by decide +kernel
theorem dM_count_104 : decode cM_count 104 = .ok (.iinc 3 1, 3) := by decide +kernel
theorem dM_count_107 : decode cM_count 107 = .ok (.goto (-25), 3) := by decide +kernel
theorem dM_count_110 : decode cM_count 110 = .ok (.iload_n 2, 1) := by decide +kernel
theorem dM_count_111 : decode cM_count 111 = .ok (.ireturn, 1) := by decide +kernel
theorem dM_count_112 : decode cM_count 112 = .ok (.aload_n 0, 1) := by decide +kernel
theorem dM_count_113 : decode cM_count 113 = .ok (.getfield 153, 3) := by decide +kernel
theorem dM_count_116 : decode cM_count 116 = .ok (.ireturn, 1) := by decide +kernel
theorem dM_count_117 : decode cM_count 117 = .ok (.aload_n 0, 1) := by decide +kernel
theorem dM_count_118 : decode cM_count 118 = .ok (.getfield 84, 3) := by decide +kernel
theorem dM_count_121 : decode cM_count 121 = .ok (.aload_n 0, 1) := by decide +kernel
theorem dM_count_122 : decode cM_count 122 = .ok (.getfield 7, 3) := by decide +kernel
theorem dM_count_125 : decode cM_count 125 = .ok (.if_icmp .ne 7, 3) := by decide +kernel
theorem dM_count_128 : decode cM_count 128 = .ok (.iconst (-1), 1) := by decide +kernel
theorem dM_count_129 : decode cM_count 129 = .ok (.goto 7, 3) := by decide +kernel
theorem dM_count_132 : decode cM_count 132 = .ok (.aload_n 0, 1) := by decide +kernel
theorem dM_count_133 : decode cM_count 133 = .ok (.getfield 84, 3) := by decide +kernel
theorem dM_count_136 : decode cM_count 136 = .ok (.ireturn, 1) := by decide +kernel
theorem dM_count_137 : decode cM_count 137 = .ok (.aload_n 0, 1) := by decide +kernel
theorem dM_count_138 : decode cM_count 138 = .ok (.getfield 87, 3) := by decide +kernel
theorem dM_count_141 : decode cM_count 141 = .ok (.ireturn, 1) := by decide +kernel
theorem dM_count_142 : decode cM_count 142 = .ok (.aload_n 0, 1) := by decide +kernel
theorem dM_count_143 : decode cM_count 143 = .ok (.getfield 156, 3) := by decide +kernel
theorem dM_count_146 : decode cM_count 146 = .ok (.ireturn, 1) := by decide +kernel
theorem dM_count_147 : decode cM_count 147 = .ok (.iconst (-1), 1) := by decide +kernel
theorem dM_count_148 : decode cM_count 148 = .ok (.ireturn, 1) := by decide +kernel
end
section
theorem gM_choice_M_within : GoodIn wsM_choice (va_wsS RM 73 yM_within wsM_within) := gSM mlM_73 msM_within mnM mcM_within
theorem gM_choice_M_fail : GoodIn wsM_choice (wsV RM 77 RM yM_fail wsM_fail) := gVM mlM_77 miM_fail meM_fail mnM mcM_fail
theorem gM_isValue_M_within : GoodIn wsM_isValue (va_wsS RM 73 yM_within wsM_within) := gSM mlM_73 msM_within mnM mcM_within
theorem gM_term_M_within : GoodIn wsM_term (va_wsS RM 73 yM_within wsM_within) := gSM mlM_73 msM_within mnM mcM_within
theorem gM_term_M_isValue : GoodIn wsM_term (wsV RM 94 RM yM_isValue wsM_isValue) := gVM mlM_94 miM_isValue meM_isValue mnM mcM_isValue
theorem gM_term_M_fail : GoodIn wsM_term (wsV RM 77 RM yM_fail wsM_fail) := gVM mlM_77 miM_fail meM_fail mnM mcM_fail
theorem gM_rule_M_isValue : GoodIn wsM_rule (wsV RM 94 RM yM_isValue wsM_isValue) := gVM mlM_94 miM_isValue meM_isValue mnM mcM_isValue
theorem gM_rule_M_fail : GoodIn wsM_rule (wsV RM 77 RM yM_fail wsM_fail) := gVM mlM_77 miM_fail meM_fail mnM mcM_fail
theorem gM_limit_M_within : GoodIn wsM_limit (va_wsS RM 73 yM_within wsM_within) := gSM mlM_73 msM_within mnM mcM_within
theorem gM_boundOf_M_counts : GoodIn wsM_boundOf (wsV RM 106 RM yM_counts wsM_counts) := gVM mlM_106 miM_counts meM_counts mnM mcM_counts
theorem gM_passesLimits_M_boundOf : GoodIn wsM_passesLimits (wsV RM 109 RM yM_boundOf wsM_boundOf) := gVM mlM_109 miM_boundOf meM_boundOf mnM mcM_boundOf
theorem gM_isDesign_M_within : GoodIn wsM_isDesign (va_wsS RM 73 yM_within wsM_within) := gSM mlM_73 msM_within mnM mcM_within
theorem gM_know_M_open : GoodIn wsM_know (wsV RM 112 RM yM_open wsM_open) := gVM mlM_112 miM_open meM_open mnM mcM_open
theorem gM_know_M_isBarred : GoodIn wsM_know (wsV RM 116 RM yM_isBarred wsM_isBarred) := gVM mlM_116 miM_isBarred meM_isBarred mnM mcM_isBarred
theorem gM_know_M_passesLimits : GoodIn wsM_know (wsV RM 120 RM yM_passesLimits wsM_passesLimits) := gVM mlM_120 miM_passesLimits meM_passesLimits mnM mcM_passesLimits
theorem gM_know_M_boundOf : GoodIn wsM_know (wsV RM 109 RM yM_boundOf wsM_boundOf) := gVM mlM_109 miM_boundOf meM_boundOf mnM mcM_boundOf
theorem gM_number_M_isDesign : GoodIn wsM_number (wsV RM 123 RM yM_isDesign wsM_isDesign) := gVM mlM_123 miM_isDesign meM_isDesign mnM mcM_isDesign
theorem gM_number_M_within : GoodIn wsM_number (va_wsS RM 73 yM_within wsM_within) := gSM mlM_73 msM_within mnM mcM_within
theorem gM_number_M_fail : GoodIn wsM_number (wsV RM 77 RM yM_fail wsM_fail) := gVM mlM_77 miM_fail meM_fail mnM mcM_fail
theorem gM_number_M_know : GoodIn wsM_number (wsV RM 127 RM yM_know wsM_know) := gVM mlM_127 miM_know meM_know mnM mcM_know
theorem gM_value_M_isDesign : GoodIn wsM_value (wsV RM 123 RM yM_isDesign wsM_isDesign) := gVM mlM_123 miM_isDesign meM_isDesign mnM mcM_isDesign
theorem gM_value_M_within : GoodIn wsM_value (va_wsS RM 73 yM_within wsM_within) := gSM mlM_73 msM_within mnM mcM_within
theorem gM_value_M_fail : GoodIn wsM_value (wsV RM 77 RM yM_fail wsM_fail) := gVM mlM_77 miM_fail meM_fail mnM mcM_fail
theorem gM_value_M_open : GoodIn wsM_value (wsV RM 112 RM yM_open wsM_open) := gVM mlM_112 miM_open meM_open mnM mcM_open
theorem gM_legal_M_isDesign : GoodIn wsM_legal (wsV RM 123 RM yM_isDesign wsM_isDesign) := gVM mlM_123 miM_isDesign meM_isDesign mnM mcM_isDesign
theorem gM_legal_M_know : GoodIn wsM_legal (wsV RM 127 RM yM_know wsM_know) := gVM mlM_127 miM_know meM_know mnM mcM_know
theorem gM_beats_M_isDesign : GoodIn wsM_beats (wsV RM 123 RM yM_isDesign wsM_isDesign) := gVM mlM_123 miM_isDesign meM_isDesign mnM mcM_isDesign
theorem gM_beats_M_know : GoodIn wsM_beats (wsV RM 127 RM yM_know wsM_know) := gVM mlM_127 miM_know meM_know mnM mcM_know
theorem gM_beats_M_isBeaten : GoodIn wsM_beats (wsV RM 130 RM yM_isBeaten wsM_isBeaten) := gVM mlM_130 miM_isBeaten meM_isBeaten mnM mcM_isBeaten
theorem gM_isUndominated_M_isBeaten : GoodIn wsM_isUndominated (wsV RM 130 RM yM_isBeaten wsM_isBeaten) := gVM mlM_130 miM_isBeaten meM_isBeaten mnM mcM_isBeaten
theorem gM_undominated_M_know : GoodIn wsM_undominated (wsV RM 127 RM yM_know wsM_know) := gVM mlM_127 miM_know meM_know mnM mcM_know
theorem gM_undominated_M_isUndominated : GoodIn wsM_undominated (wsV RM 133 RM yM_isUndominated wsM_isUndominated) := gVM mlM_133 miM_isUndominated meM_isUndominated mnM mcM_isUndominated
theorem gM_at_M_know : GoodIn wsM_at (wsV RM 127 RM yM_know wsM_know) := gVM mlM_127 miM_know meM_know mnM mcM_know
theorem gM_at_M_isUndominated : GoodIn wsM_at (wsV RM 133 RM yM_isUndominated wsM_isUndominated) := gVM mlM_133 miM_isUndominated meM_isUndominated mnM mcM_isUndominated
theorem gM_at_M_fail : GoodIn wsM_at (wsV RM 77 RM yM_fail wsM_fail) := gVM mlM_77 miM_fail meM_fail mnM mcM_fail
theorem gM_best_M_within : GoodIn wsM_best (va_wsS RM 73 yM_within wsM_within) := gSM mlM_73 msM_within mnM mcM_within
theorem gM_best_M_fail : GoodIn wsM_best (wsV RM 77 RM yM_fail wsM_fail) := gVM mlM_77 miM_fail meM_fail mnM mcM_fail
theorem gM_best_M_isBarred : GoodIn wsM_best (wsV RM 116 RM yM_isBarred wsM_isBarred) := gVM mlM_116 miM_isBarred meM_isBarred mnM mcM_isBarred
theorem gM_best_M_passesLimits : GoodIn wsM_best (wsV RM 120 RM yM_passesLimits wsM_passesLimits) := gVM mlM_120 miM_passesLimits meM_passesLimits mnM mcM_passesLimits
theorem gM_best_M_boundOf : GoodIn wsM_best (wsV RM 109 RM yM_boundOf wsM_boundOf) := gVM mlM_109 miM_boundOf meM_boundOf mnM mcM_boundOf
theorem gM_best_M_closed : GoodIn wsM_best (wsV RM 139 RM yM_closed wsM_closed) := gVM mlM_139 miM_closed meM_closed mnM mcM_closed
theorem gM_best_M_nextRow : GoodIn wsM_best (wsV RM 143 RM yM_nextRow wsM_nextRow) := gVM mlM_143 miM_nextRow meM_nextRow mnM mcM_nextRow
theorem gM_bound_M_within : GoodIn wsM_bound (va_wsS RM 73 yM_within wsM_within) := gSM mlM_73 msM_within mnM mcM_within
theorem gM_bound_M_isDesign : GoodIn wsM_bound (wsV RM 123 RM yM_isDesign wsM_isDesign) := gVM mlM_123 miM_isDesign meM_isDesign mnM mcM_isDesign
theorem gM_bound_M_fail : GoodIn wsM_bound (wsV RM 77 RM yM_fail wsM_fail) := gVM mlM_77 miM_fail meM_fail mnM mcM_fail
theorem gM_bound_M_open : GoodIn wsM_bound (wsV RM 112 RM yM_open wsM_open) := gVM mlM_112 miM_open meM_open mnM mcM_open
theorem gM_bound_M_boundOf : GoodIn wsM_bound (wsV RM 109 RM yM_boundOf wsM_boundOf) := gVM mlM_109 miM_boundOf meM_boundOf mnM mcM_boundOf
theorem gM_nearOf_M_open : GoodIn wsM_nearOf (wsV RM 112 RM yM_open wsM_open) := gVM mlM_112 miM_open meM_open mnM mcM_open
theorem gM_nearOf_M_closed : GoodIn wsM_nearOf (wsV RM 139 RM yM_closed wsM_closed) := gVM mlM_139 miM_closed meM_closed mnM mcM_closed
theorem gM_near_M_isDesign : GoodIn wsM_near (wsV RM 123 RM yM_isDesign wsM_isDesign) := gVM mlM_123 miM_isDesign meM_isDesign mnM mcM_isDesign
theorem gM_near_M_nears : GoodIn wsM_near (wsV RM 146 RM yM_nears wsM_nears) := gVM mlM_146 miM_nears meM_nears mnM mcM_nears
theorem gM_near_M_within : GoodIn wsM_near (va_wsS RM 73 yM_within wsM_within) := gSM mlM_73 msM_within mnM mcM_within
theorem gM_near_M_fail : GoodIn wsM_near (wsV RM 77 RM yM_fail wsM_fail) := gVM mlM_77 miM_fail meM_fail mnM mcM_fail
theorem gM_near_M_nearOf : GoodIn wsM_near (wsV RM 149 RM yM_nearOf wsM_nearOf) := gVM mlM_149 miM_nearOf meM_nearOf mnM mcM_nearOf
theorem gM_slack_M_fail : GoodIn wsM_slack (wsV RM 77 RM yM_fail wsM_fail) := gVM mlM_77 miM_fail meM_fail mnM mcM_fail
theorem gM_walk_M_isDesign : GoodIn wsM_walk (wsV RM 123 RM yM_isDesign wsM_isDesign) := gVM mlM_123 miM_isDesign meM_isDesign mnM mcM_isDesign
theorem gM_walk_M_fail : GoodIn wsM_walk (wsV RM 77 RM yM_fail wsM_fail) := gVM mlM_77 miM_fail meM_fail mnM mcM_fail
theorem gM_walk_M_know : GoodIn wsM_walk (wsV RM 127 RM yM_know wsM_know) := gVM mlM_127 miM_know meM_know mnM mcM_know
theorem gM_walk_M_within : GoodIn wsM_walk (va_wsS RM 73 yM_within wsM_within) := gSM mlM_73 msM_within mnM mcM_within
theorem gM_walk_M_nears : GoodIn wsM_walk (wsV RM 146 RM yM_nears wsM_nears) := gVM mlM_146 miM_nears meM_nears mnM mcM_nears
theorem gM_walk_M_nearOf : GoodIn wsM_walk (wsV RM 149 RM yM_nearOf wsM_nearOf) := gVM mlM_149 miM_nearOf meM_nearOf mnM mcM_nearOf
theorem gM_walk_M_cost : GoodIn wsM_walk (wsV RM 161 RM yM_cost wsM_cost) := gVM mlM_161 miM_cost meM_cost mnM mcM_cost
theorem gM_matters_M_within : GoodIn wsM_matters (va_wsS RM 73 yM_within wsM_within) := gSM mlM_73 msM_within mnM mcM_within
theorem gM_matters_M_know : GoodIn wsM_matters (wsV RM 127 RM yM_know wsM_know) := gVM mlM_127 miM_know meM_know mnM mcM_know
theorem gM_sweep_M_within : GoodIn wsM_sweep (va_wsS RM 73 yM_within wsM_within) := gSM mlM_73 msM_within mnM mcM_within
theorem gM_sweep_M_fail : GoodIn wsM_sweep (wsV RM 77 RM yM_fail wsM_fail) := gVM mlM_77 miM_fail meM_fail mnM mcM_fail
theorem gM_sweep_M_know : GoodIn wsM_sweep (wsV RM 127 RM yM_know wsM_know) := gVM mlM_127 miM_know meM_know mnM mcM_know
end
section
/-! products of sizes, digits, numbers out of digits, the tree of rows -/
def mp (z : Nat → Nat) (a : Nat) : Nat → Nat
  | 0 => 1
  | n + 1 => mp z a n * z (a + n)
theorem mp_pos {z : Nat → Nat} {a n : Nat} (h : ∀ i, i < n → 0 < z (a + i)) : 0 < mp z a n := by
  induction n with
  | zero => exact Nat.one_pos
  | succ n ih => exact Nat.mul_pos (ih (fun i hi => h i (by omega))) (h n (by omega))
theorem mp_add (z : Nat → Nat) (a n m : Nat) : mp z a (n + m) = mp z a n * mp z (a + n) m := by
  induction m with
  | zero => simp [mp]
  | succ m ih =>
    show mp z a (n + m) * z (a + (n + m)) = mp z a n * (mp z (a + n) m * z (a + n + m))
    rw [ih, Nat.mul_assoc, Nat.add_assoc]
theorem mp_first (z : Nat → Nat) (a n : Nat) : mp z a (n + 1) = z a * mp z (a + 1) n := by
  have h := mp_add z a 1 n
  rw [Nat.add_comm 1 n] at h
  rw [h]
  simp [mp]
theorem mp_ext {z y : Nat → Nat} {a n : Nat} (h : ∀ i, i < n → z (a + i) = y (a + i)) : mp z a n = mp y a n := by
  induction n with
  | zero => rfl
  | succ n ih => rw [mp, mp, ih (fun i hi => h i (by omega)), h n (by omega)]
/-- the place of a choice, its digit -/
def pc_ (z : Nat → Nat) (n c : Nat) : Nat := mp z (c + 1) (n - (c + 1))
def dg (z : Nat → Nat) (n d c : Nat) : Nat := d / pc_ z n c % z c
/-- the number of a row of digits -/
def cn (z r : Nat → Nat) : Nat → Nat
  | 0 => 0
  | c + 1 => cn z r c * z c + r c
theorem cn_ext {z r r' : Nat → Nat} {n : Nat} (h : ∀ c, c < n → r c = r' c) : cn z r n = cn z r' n := by
  induction n with
  | zero => rfl
  | succ n ih => rw [cn, cn, ih (fun c hc => h c (by omega)), h n (by omega)]
theorem cn_dg {z : Nat → Nat} {n d : Nat} : ∀ c, c ≤ n → d < mp z 0 n → cn z (dg z n d) c = d / mp z c (n - c) := by
  intro c hc hd
  induction c with
  | zero =>
    rw [cn, Nat.sub_zero]
    exact (Nat.div_eq_of_lt hd).symm
  | succ c ih =>
    rw [cn, ih (by omega)]
    have e : n - c = (n - (c + 1)) + 1 := by omega
    rw [e, mp_first]
    unfold dg pc_
    rw [Nat.mul_comm (z c), ← Nat.div_div_eq_div_mul]
    rw [Nat.mul_comm]
    exact Nat.div_add_mod _ _
theorem cn_all {z : Nat → Nat} {n d : Nat} (hd : d < mp z 0 n) : cn z (dg z n d) n = d := by
  rw [cn_dg n (Nat.le_refl _) hd, Nat.sub_self, mp, Nat.div_one]
theorem cn_lt {z r : Nat → Nat} {n : Nat} (h : ∀ c, c < n → r c < z c) : cn z r n < mp z 0 n := by
  induction n with
  | zero => exact Nat.one_pos
  | succ n ih =>
    have h1 := ih (fun c hc => h c (by omega))
    have h2 := h n (by omega)
    rw [cn, mp, Nat.zero_add]
    calc cn z r n * z n + r n < cn z r n * z n + z n := by omega
      _ = (cn z r n + 1) * z n := by rw [Nat.add_mul, Nat.one_mul]
      _ ≤ mp z 0 n * z n := Nat.mul_le_mul_right _ h1
/-- one digit changed -/
theorem cn_upd {z r : Nat → Nat} {n c v : Nat} (hc : c < n) : cn z (fun j => if j = c then v else r j) n + r c * pc_ z n c = cn z r n + v * pc_ z n c := by
  induction n with
  | zero => omega
  | succ n ih =>
    rw [cn, cn]
    rcases Nat.lt_or_ge c n with q | q
    · have h := ih q
      have e : pc_ z (n + 1) c = pc_ z n c * z n := by
        unfold pc_
        have e1 : n + 1 - (c + 1) = (n - (c + 1)) + 1 := by omega
        have e2 : c + 1 + (n - (c + 1)) = n := by omega
        rw [e1, mp, e2]
      have e3 : (if n = c then v else r n) = r n := if_neg (by omega)
      rw [e, e3]
      have h2 : (cn z (fun j => if j = c then v else r j) n + r c * pc_ z n c) * z n = (cn z r n + v * pc_ z n c) * z n := by rw [h]
      rw [Nat.add_mul, Nat.add_mul, Nat.mul_assoc, Nat.mul_assoc] at h2
      omega
    · have e0 : c = n := by omega
      subst e0
      have e1 : pc_ z (c + 1) c = 1 := by unfold pc_; rw [Nat.sub_self]; rfl
      have e2 : cn z (fun j => if j = c then v else r j) c = cn z r c := cn_ext (fun j hj => if_neg (by omega))
      rw [e1, e2, if_pos rfl]
      omega
/-- the rows of the tree from depth n - m on; what is left of the tree at a row -/
def ts (z : Nat → Nat) (n : Nat) : Nat → Nat
  | 0 => 1
  | m + 1 => 1 + z (n - (m + 1)) * ts z n m
def tl (z : Nat → Nat) (n : Nat) (r : Nat → Nat) : Nat → Nat
  | 0 => 0
  | s + 1 => tl z n r s + (z s - 1 - r s) * ts z n (n - (s + 1))
def tr (z : Nat → Nat) (n : Nat) (r : Nat → Nat) (s : Nat) : Nat := ts z n (n - s) + tl z n r s
theorem ts_pos (z : Nat → Nat) (n m : Nat) : 0 < ts z n m := by
  cases m with
  | zero => exact Nat.one_pos
  | succ m => rw [ts]; omega
theorem tl_ext {z r r' : Nat → Nat} {n s : Nat} (h : ∀ c, c < s → r c = r' c) : tl z n r s = tl z n r' s := by
  induction s with
  | zero => rfl
  | succ s ih => rw [tl, tl, ih (fun c hc => h c (by omega)), h s (by omega)]
theorem ts_le {z : Nat → Nat} {n : Nat} (hz : ∀ c, c < n → 2 ≤ z c) : ∀ m, m ≤ n → ts z n m + 1 ≤ 2 * mp z (n - m) m := by
  intro m
  induction m with
  | zero => intro _; exact Nat.le_refl _
  | succ m ih =>
    intro hm
    have h := ih (by omega)
    have hz' := hz (n - (m + 1)) (by omega)
    have e : n - (m + 1) + 1 = n - m := by omega
    rw [ts, mp_first, e]
    have h1 : z (n - (m + 1)) * (ts z n m + 1) ≤ z (n - (m + 1)) * (2 * mp z (n - m) m) := Nat.mul_le_mul_left _ h
    rw [Nat.mul_add, Nat.mul_one] at h1
    have h2 : z (n - (m + 1)) * (2 * mp z (n - m) m) = 2 * (z (n - (m + 1)) * mp z (n - m) m) := by rw [Nat.mul_left_comm]
    omega
theorem tr_start {z : Nat → Nat} {n : Nat} (r : Nat → Nat) (hz : ∀ c, c < n → 2 ≤ z c) (hd : mp z 0 n ≤ 4096) : tr z n r 0 < 8192 := by
  have h := ts_le hz n (Nat.le_refl _)
  rw [Nat.sub_self] at h
  unfold tr
  rw [tl, Nat.sub_zero]
  omega
theorem tr_down {z r r' : Nat → Nat} {n s : Nat} (hs : s < n) (hz : 2 ≤ z s) (h0 : r' s = 0) (h : ∀ c, c < s → r' c = r c) : tr z n r' (s + 1) + 1 = tr z n r s := by
  unfold tr
  have e : n - s = (n - (s + 1)) + 1 := by omega
  have e2 : n - (n - (s + 1) + 1) = s := by omega
  rw [tl, tl_ext h, h0, e, ts, e2, Nat.sub_zero]
  have e3 : z s * ts z n (n - (s + 1)) = (z s - 1) * ts z n (n - (s + 1)) + ts z n (n - (s + 1)) := by
    have : z s = (z s - 1) + 1 := by omega
    conv => lhs; rw [this, Nat.add_mul, Nat.one_mul]
  omega
theorem tl_le {z : Nat → Nat} {n : Nat} (r : Nat → Nat) {c s : Nat} (h : c ≤ s) : tl z n r c ≤ tl z n r s := by
  induction s with
  | zero => have : c = 0 := by omega
            rw [this]; exact Nat.le_refl _
  | succ s ih =>
    rcases Nat.lt_or_ge c (s + 1) with q | q
    · have := ih (by omega)
      rw [tl]; omega
    · have : c = s + 1 := by omega
      rw [this]; exact Nat.le_refl _
theorem tr_next {z r r' : Nat → Nat} {n c s : Nat} (hc : c < s) (hr : r c < z c - 1) (h0 : r' c = r c + 1) (h : ∀ i, i < c → r' i = r i) : tr z n r' (c + 1) < tr z n r s := by
  have h1 : tl z n r (c + 1) ≤ tl z n r s := tl_le r (by omega)
  have h2 := ts_pos z n (n - s)
  unfold tr
  rw [tl] at h1 ⊢
  rw [tl_ext h, h0]
  have e : (z c - 1 - r c) * ts z n (n - (c + 1)) = (z c - 1 - (r c + 1)) * ts z n (n - (c + 1)) + ts z n (n - (c + 1)) := by
    have : z c - 1 - r c = (z c - 1 - (r c + 1)) + 1 := by omega
    rw [this, Nat.add_mul, Nat.one_mul]
  omega
def zg (g6 : Nat → Int32) (c : Nat) : Nat := (g6 c).toNatClampNeg
def rn (r : Nat → Int32) (c : Nat) : Nat := (r c).toNatClampNeg
theorem zg_ok {g6 : Nat → Int32} {nC : Nat} (h6 : ∀ c, c < nC → ∃ z : Nat, g6 c = nI z ∧ 2 ≤ z ∧ z ≤ 6) {c : Nat} (hc : c < nC) : g6 c = nI (zg g6 c) ∧ 2 ≤ zg g6 c ∧ zg g6 c ≤ 6 := by
  obtain ⟨z, ez, h1, h2⟩ := h6 c hc
  have e : zg g6 c = z := by unfold zg; rw [ez]; exact nI_clamp (by omega)
  rw [e]
  exact ⟨ez, h1, h2⟩
theorem mp_small {g6 : Nat → Int32} {nC : Nat} (h6 : ∀ c, c < nC → ∃ z : Nat, g6 c = nI z ∧ 2 ≤ z ∧ z ≤ 6) {a n : Nat} (h : a + n ≤ nC) : 0 < mp (zg g6) a n := mp_pos (fun i hi => by have := (zg_ok h6 (c := a + i) (by omega)).2.1; omega)
theorem tr_pos (z : Nat → Nat) (n : Nat) (r : Nat → Nat) (s : Nat) : 0 < tr z n r s := by
  have := ts_pos z n (n - s)
  unfold tr
  omega
/-- a row of a search: how many are set, and these are values -/
def bI (g6 : Nat → Int32) (nC : Nat) (r : Nat → Int32) (sx : Int32) : Prop := sx = -1 ∨ ∃ s : Nat, s ≤ nC ∧ sx = nI s ∧ ∀ c, c < s → ∃ v : Nat, r c = nI v ∧ v < zg g6 c
def bm (g6 : Nat → Int32) (nC : Nat) (r : Nat → Int32) (sx : Int32) : Nat := if sx < 0 then 0 else tr (zg g6) nC (rn r) sx.toNatClampNeg
theorem bI_nn {g6 : Nat → Int32} {nC : Nat} {r : Nat → Int32} {sx : Int32} (hI : bI g6 nC r sx) (h : ¬ sx < 0) : ∃ s : Nat, s ≤ nC ∧ sx = nI s ∧ ∀ c, c < s → ∃ v : Nat, r c = nI v ∧ v < zg g6 c := by
  rcases hI with hI | hI
  · exact absurd (by rw [hI]; decide) h
  · exact hI
theorem bm_at {g6 : Nat → Int32} {nC : Nat} {r : Nat → Int32} {s : Nat} (hs : s < 2 ^ 31) : bm g6 nC r (nI s) = tr (zg g6) nC (rn r) s := by
  unfold bm
  rw [if_neg (nI_pos hs), nI_clamp hs]
theorem bm_0 {g6 : Nat → Int32} {nC : Nat} (h6 : ∀ c, c < nC → ∃ z : Nat, g6 c = nI z ∧ 2 ≤ z ∧ z ≤ 6) (hd : mp (zg g6) 0 nC ≤ 4096) (r : Nat → Int32) : bm g6 nC r 0 < 8192 := by
  have e := bm_at (g6 := g6) (nC := nC) (r := r) (s := 0) (by decide)
  rw [show bm g6 nC r 0 = bm g6 nC r (nI 0) from rfl, e]
  exact tr_start _ (fun c hc => (zg_ok h6 hc).2.1) hd
theorem b_down {g6 : Nat → Int32} {nC : Nat} {r : Nat → Int32} {s : Nat} (hC : nC ≤ 8) (h6 : ∀ c, c < nC → ∃ z : Nat, g6 c = nI z ∧ 2 ≤ z ∧ z ≤ 6) (hs : s < nC) (hr : ∀ c, c < s → ∃ v : Nat, r c = nI v ∧ v < zg g6 c) : bI g6 nC (upd r s 0) (nI s + 1) ∧ bm g6 nC (upd r s 0) (nI s + 1) < bm g6 nC r (nI s) := by
  obtain ⟨z1, z2, z3⟩ := zg_ok h6 hs
  rw [nI_1]
  refine ⟨Or.inr ⟨s + 1, by omega, rfl, fun c hc => ?_⟩, ?_⟩
  · by_cases h : c = s
    · refine ⟨0, ?_, ?_⟩
      · rw [h, pk_us]; rfl
      · rw [h]; omega
    · rw [pk_un h]
      exact hr c (by omega)
  · rw [bm_at (by omega), bm_at (by omega)]
    have h := tr_down (z := zg g6) (r := rn r) (r' := rn (upd r s 0)) (n := nC) (s := s) hs z2 (by unfold rn; rw [pk_us]; exact sb_cl0) (fun c hc => by unfold rn; rw [pk_un (by omega)])
    omega
/-- near designs: how many; the k-th: which choice, and its new value -/
def ns (z : Nat → Nat) : Nat → Nat
  | 0 => 0
  | n + 1 => ns z n + (z n - 1)
def nbr (z : Nat → Nat) (n d : Nat) : Nat → Nat → Nat → Option (Nat × Nat)
  | 0, _, _ => none
  | N + 1, c, k => if n ≤ c then none else if k < z c - 1 then some (c, if k < dg z n d c then k else k + 1) else nbr z n d N (c + 1) (k - (z c - 1))
theorem dg_lt {z : Nat → Nat} {n d c : Nat} (h : 0 < z c) : dg z n d c < z c := Nat.mod_lt _ h
theorem ns_mono {z : Nat → Nat} {a b : Nat} (h : a ≤ b) : ns z a ≤ ns z b := by
  induction b with
  | zero => rw [show a = 0 by omega]; exact Nat.le_refl _
  | succ b ih =>
    rcases Nat.lt_or_ge a (b + 1) with q | q
    · have := ih (by omega)
      rw [ns]; omega
    · rw [show a = b + 1 by omega]; exact Nat.le_refl _
theorem nbr_some {z : Nat → Nat} {n d : Nat} (hz : ∀ c, c < n → 2 ≤ z c) : ∀ (N c k : Nat), n - c < N → c ≤ n → k + ns z c < ns z n → ∃ c' w : Nat, nbr z n d N c k = some (c', w) ∧ c' < n ∧ w < z c' := by
  intro N
  induction N with
  | zero => intro c k h; exact absurd h (Nat.not_lt_zero _)
  | succ N ih =>
    intro c k h hc hk
    have hcn : ¬ n ≤ c := by
      intro q
      have : ns z n ≤ ns z c := ns_mono q
      omega
    have hz' := hz c (by omega)
    rw [nbr, if_neg hcn]
    by_cases h1 : k < z c - 1
    · rw [if_pos h1]
      refine ⟨c, _, rfl, by omega, ?_⟩
      split <;> omega
    · rw [if_neg h1]
      refine ih (c + 1) (k - (z c - 1)) (by omega) (by omega) ?_
      rw [ns]
      omega
/-- what is drawn -/
def wx (x : Int32) : Int32 := (1103515245 * x + 12345) &&& 2147483647
def dw (g6 : Nat → Int32) (nC : Nat) (x : Int32) : Nat := x.toNatClampNeg / 65536 % ns (zg g6) nC
theorem wx_nn (x : Int32) : wx x = nI (wx x).toNatClampNeg ∧ (wx x).toNatClampNeg < 2 ^ 31 := by
  have h := pk_and (1103515245 * x + 12345) (m := 2147483647) 31 (by decide)
  have hl : (1103515245 * x + 12345).toBitVec.toNat % 2 ^ 31 < 2 ^ 31 := Nat.mod_lt _ (by decide)
  unfold wx
  rw [h, nI_clamp hl]
  exact ⟨rfl, hl⟩
theorem dw_eq {g6 : Nat → Int32} {nC : Nat} {x ne : Int32} (hn : ne = nI (ns (zg g6) nC)) (h0 : 0 < ns (zg g6) nC) (hs : ns (zg g6) nC < 2 ^ 31) : wx x / 65536 - wx x / 65536 / ne * ne = nI (dw g6 nC (wx x)) := by
  obtain ⟨e, h⟩ := wx_nn x
  unfold dw
  generalize (wx x).toNatClampNeg = k at e h ⊢
  rw [e, hn, show (65536 : Int32) = nI 65536 from rfl, pk_div h (by decide) (by decide), pk_rem (Nat.lt_of_le_of_lt (Nat.div_le_self _ _) h) h0 hs]
theorem dw_lt {g6 : Nat → Int32} {nC : Nat} {x : Int32} (h0 : 0 < ns (zg g6) nC) : dw g6 nC x < ns (zg g6) nC := Nat.mod_lt _ h0
theorem un_ok {g6 : Nat → Int32} {nC nD c : Nat} (h6 : ∀ c, c < nC → ∃ z : Nat, g6 c = nI z ∧ 2 ≤ z ∧ z ≤ 6) (hc : c < nC) (hmp : mp (zg g6) 0 nC = nD) : 0 < pc_ (zg g6) nC c ∧ pc_ (zg g6) nC c * zg g6 c ≤ nD := by
  have h1 : 0 < pc_ (zg g6) nC c := mp_small h6 (by omega)
  have h2 : 0 < mp (zg g6) 0 c := mp_small h6 (by omega)
  have h3 := mp_add (zg g6) 0 c (nC - c)
  rw [show c + (nC - c) = nC by omega, Nat.zero_add, show nC - c = (nC - (c + 1)) + 1 by omega, mp_first] at h3
  refine ⟨h1, ?_⟩
  rw [← hmp, h3, Nat.mul_comm (pc_ (zg g6) nC c)]
  exact Nat.le_mul_of_pos_left _ h2
theorem wi_1 {c : Int32} {n : Nat} (h1 : ¬ c < 1) (h2 : ¬ nI n < c) (hn : n ≤ 65536) : ∃ j : Nat, j < n + 1 ∧ c = nI j := by
  refine wi_le (fun h => h1 ?_) h2 hn
  have q := Int32.lt_iff_toInt_lt.mp h
  rw [i0_toInt] at q
  rw [Int32.lt_iff_toInt_lt, show (1 : Int32).toInt = 1 from rfl]
  omega
end
section
theorem upd_ow {f : Nat → Int32} {j : Nat} {x y : Int32} : upd (upd f j x) j y = upd f j y := by
  funext k
  unfold upd
  split
  · rfl
  · rfl
theorem upd_sw {f : Nat → Int32} {i j : Nat} {x y : Int32} (h : i ≠ j) : upd (upd f i x) j y = upd (upd f j y) i x := by
  funext k
  unfold upd
  by_cases h1 : k = i
  · rw [if_pos h1, if_neg (fun h2 => h (h1.symm.trans h2)), if_pos h1]
  · rw [if_neg h1, if_neg h1]
theorem upd_keep {f : Nat → Int32} {j : Nat} {x : Int32} (h : f j = x) : upd f j x = f := by
  funext k
  unfold upd
  split
  · rename_i e; rw [e, h]
  · rfl
theorem vup_ow {α : Type} {f : Nat → α} {j : Nat} {x y : α} : va_up (va_up f j x) j y = va_up f j y := by
  funext k
  unfold va_up
  split
  · rfl
  · rfl
theorem vup_sw {α : Type} {f : Nat → α} {i j : Nat} {x y : α} (h : i ≠ j) : va_up (va_up f i x) j y = va_up (va_up f j y) i x := by
  funext k
  unfold va_up
  by_cases h1 : k = i
  · rw [if_pos h1, if_neg (fun h2 => h (h1.symm.trans h2)), if_pos h1]
  · rw [if_neg h1, if_neg h1]
theorem vup_us {α : Type} {f : Nat → α} {j : Nat} {x : α} : va_up f j x j = x := if_pos rfl
theorem vup_un {α : Type} {f : Nat → α} {k j : Nat} {x : α} (h : j ≠ k) : va_up f k x j = f j := if_neg h
theorem vup_keep {α : Type} {f : Nat → α} {j : Nat} {x : α} (h : f j = x) : va_up f j x = f := by
  funext k
  unfold va_up
  split
  · rename_i e; rw [e, h]
  · rfl
def mT (ka : Nat → ClassId) : List (ClassId × FieldType) := [(ka 6, .int), (ka 7, .int), (ka 8, .int), (ka 9, .int), (ka 10, .int), (ka 11, .int), (ka 12, .int), (ka 13, .int), (ka 14, .int), (ka 15, .int), (ka 16, .int), (ka 17, .boolean), (ka 18, .int), (ka 19, .int), (ka 27, .boolean), (ka 28, .int)]
def mWl0 (ba : Nat → Nat) (F : Nat → Int32) : List Value := [.int (F 0), .int (F 1), .int (F 2), .int (F 3), .int (F 4), .int (F 5), .ref (ba 6), .ref (ba 7), .ref (ba 8), .ref (ba 9), .ref (ba 10), .ref (ba 11), .ref (ba 12), .ref (ba 13), .ref (ba 14), .ref (ba 15), .ref (ba 16), .ref (ba 17), .ref (ba 18), .ref (ba 19), .int (F 20), .int (F 21), .int (F 22), .int (F 23), .int (F 24), .int (F 25), .int (F 26), .ref (ba 27), .ref (ba 28)]
def mW (a : Nat) (ba : Nat → Nat) (ka : Nat → ClassId) (F : Nat → Int32) (G : Nat → Nat → Int32) : va_W := [(a, .inr (0, mWl0 ba F)), (ba 6, .inl (ka 6, 8, .inl (G 6))), (ba 7, .inl (ka 7, 100, .inl (G 7))), (ba 8, .inl (ka 8, 100, .inl (G 8))), (ba 9, .inl (ka 9, 100, .inl (G 9))), (ba 10, .inl (ka 10, 100, .inl (G 10))), (ba 11, .inl (ka 11, 100, .inl (G 11))), (ba 12, .inl (ka 12, 100, .inl (G 12))), (ba 13, .inl (ka 13, 40, .inl (G 13))), (ba 14, .inl (ka 14, 40, .inl (G 14))), (ba 15, .inl (ka 15, 40, .inl (G 15))), (ba 16, .inl (ka 16, 40, .inl (G 16))), (ba 17, .inl (ka 17, 4, .inl (G 17))), (ba 18, .inl (ka 18, 4, .inl (G 18))), (ba 19, .inl (ka 19, 8, .inl (G 19))), (ba 27, .inl (ka 27, 4096, .inl (G 27))), (ba 28, .inl (ka 28, 16384, .inl (G 28)))]
theorem mW_f0 (a : Nat) (ba : Nat → Nat) (ka : Nat → ClassId) (F : Nat → Int32) (G : Nat → Nat → Int32) (v : Int32) : (mW a ba ka F G).set 0 (a, .inr (0, (mWl0 ba F).set 0 (.int v))) = mW a ba ka (upd F 0 v) G := rfl
theorem mW_f1 (a : Nat) (ba : Nat → Nat) (ka : Nat → ClassId) (F : Nat → Int32) (G : Nat → Nat → Int32) (v : Int32) : (mW a ba ka F G).set 0 (a, .inr (0, (mWl0 ba F).set 1 (.int v))) = mW a ba ka (upd F 1 v) G := rfl
theorem mW_f2 (a : Nat) (ba : Nat → Nat) (ka : Nat → ClassId) (F : Nat → Int32) (G : Nat → Nat → Int32) (v : Int32) : (mW a ba ka F G).set 0 (a, .inr (0, (mWl0 ba F).set 2 (.int v))) = mW a ba ka (upd F 2 v) G := rfl
theorem mW_f3 (a : Nat) (ba : Nat → Nat) (ka : Nat → ClassId) (F : Nat → Int32) (G : Nat → Nat → Int32) (v : Int32) : (mW a ba ka F G).set 0 (a, .inr (0, (mWl0 ba F).set 3 (.int v))) = mW a ba ka (upd F 3 v) G := rfl
theorem mW_f4 (a : Nat) (ba : Nat → Nat) (ka : Nat → ClassId) (F : Nat → Int32) (G : Nat → Nat → Int32) (v : Int32) : (mW a ba ka F G).set 0 (a, .inr (0, (mWl0 ba F).set 4 (.int v))) = mW a ba ka (upd F 4 v) G := rfl
theorem mW_f5 (a : Nat) (ba : Nat → Nat) (ka : Nat → ClassId) (F : Nat → Int32) (G : Nat → Nat → Int32) (v : Int32) : (mW a ba ka F G).set 0 (a, .inr (0, (mWl0 ba F).set 5 (.int v))) = mW a ba ka (upd F 5 v) G := rfl
theorem mW_f20 (a : Nat) (ba : Nat → Nat) (ka : Nat → ClassId) (F : Nat → Int32) (G : Nat → Nat → Int32) (v : Int32) : (mW a ba ka F G).set 0 (a, .inr (0, (mWl0 ba F).set 20 (.int v))) = mW a ba ka (upd F 20 v) G := rfl
theorem mW_f21 (a : Nat) (ba : Nat → Nat) (ka : Nat → ClassId) (F : Nat → Int32) (G : Nat → Nat → Int32) (v : Int32) : (mW a ba ka F G).set 0 (a, .inr (0, (mWl0 ba F).set 21 (.int v))) = mW a ba ka (upd F 21 v) G := rfl
theorem mW_f22 (a : Nat) (ba : Nat → Nat) (ka : Nat → ClassId) (F : Nat → Int32) (G : Nat → Nat → Int32) (v : Int32) : (mW a ba ka F G).set 0 (a, .inr (0, (mWl0 ba F).set 22 (.int v))) = mW a ba ka (upd F 22 v) G := rfl
theorem mW_f23 (a : Nat) (ba : Nat → Nat) (ka : Nat → ClassId) (F : Nat → Int32) (G : Nat → Nat → Int32) (v : Int32) : (mW a ba ka F G).set 0 (a, .inr (0, (mWl0 ba F).set 23 (.int v))) = mW a ba ka (upd F 23 v) G := rfl
theorem mW_f24 (a : Nat) (ba : Nat → Nat) (ka : Nat → ClassId) (F : Nat → Int32) (G : Nat → Nat → Int32) (v : Int32) : (mW a ba ka F G).set 0 (a, .inr (0, (mWl0 ba F).set 24 (.int v))) = mW a ba ka (upd F 24 v) G := rfl
theorem mW_f25 (a : Nat) (ba : Nat → Nat) (ka : Nat → ClassId) (F : Nat → Int32) (G : Nat → Nat → Int32) (v : Int32) : (mW a ba ka F G).set 0 (a, .inr (0, (mWl0 ba F).set 25 (.int v))) = mW a ba ka (upd F 25 v) G := rfl
theorem mW_f26 (a : Nat) (ba : Nat → Nat) (ka : Nat → ClassId) (F : Nat → Int32) (G : Nat → Nat → Int32) (v : Int32) : (mW a ba ka F G).set 0 (a, .inr (0, (mWl0 ba F).set 26 (.int v))) = mW a ba ka (upd F 26 v) G := rfl
theorem mW_g6 (a : Nat) (ba : Nat → Nat) (ka : Nat → ClassId) (F : Nat → Int32) (G : Nat → Nat → Int32) (f : Nat → Int32) : (mW a ba ka F G).set 1 (ba 6, .inl (ka 6, 8, .inl f)) = mW a ba ka F (va_up G 6 f) := rfl
theorem mW_g7 (a : Nat) (ba : Nat → Nat) (ka : Nat → ClassId) (F : Nat → Int32) (G : Nat → Nat → Int32) (f : Nat → Int32) : (mW a ba ka F G).set 2 (ba 7, .inl (ka 7, 100, .inl f)) = mW a ba ka F (va_up G 7 f) := rfl
theorem mW_g8 (a : Nat) (ba : Nat → Nat) (ka : Nat → ClassId) (F : Nat → Int32) (G : Nat → Nat → Int32) (f : Nat → Int32) : (mW a ba ka F G).set 3 (ba 8, .inl (ka 8, 100, .inl f)) = mW a ba ka F (va_up G 8 f) := rfl
theorem mW_g9 (a : Nat) (ba : Nat → Nat) (ka : Nat → ClassId) (F : Nat → Int32) (G : Nat → Nat → Int32) (f : Nat → Int32) : (mW a ba ka F G).set 4 (ba 9, .inl (ka 9, 100, .inl f)) = mW a ba ka F (va_up G 9 f) := rfl
theorem mW_g10 (a : Nat) (ba : Nat → Nat) (ka : Nat → ClassId) (F : Nat → Int32) (G : Nat → Nat → Int32) (f : Nat → Int32) : (mW a ba ka F G).set 5 (ba 10, .inl (ka 10, 100, .inl f)) = mW a ba ka F (va_up G 10 f) := rfl
theorem mW_g11 (a : Nat) (ba : Nat → Nat) (ka : Nat → ClassId) (F : Nat → Int32) (G : Nat → Nat → Int32) (f : Nat → Int32) : (mW a ba ka F G).set 6 (ba 11, .inl (ka 11, 100, .inl f)) = mW a ba ka F (va_up G 11 f) := rfl
theorem mW_g12 (a : Nat) (ba : Nat → Nat) (ka : Nat → ClassId) (F : Nat → Int32) (G : Nat → Nat → Int32) (f : Nat → Int32) : (mW a ba ka F G).set 7 (ba 12, .inl (ka 12, 100, .inl f)) = mW a ba ka F (va_up G 12 f) := rfl
theorem mW_g13 (a : Nat) (ba : Nat → Nat) (ka : Nat → ClassId) (F : Nat → Int32) (G : Nat → Nat → Int32) (f : Nat → Int32) : (mW a ba ka F G).set 8 (ba 13, .inl (ka 13, 40, .inl f)) = mW a ba ka F (va_up G 13 f) := rfl
theorem mW_g14 (a : Nat) (ba : Nat → Nat) (ka : Nat → ClassId) (F : Nat → Int32) (G : Nat → Nat → Int32) (f : Nat → Int32) : (mW a ba ka F G).set 9 (ba 14, .inl (ka 14, 40, .inl f)) = mW a ba ka F (va_up G 14 f) := rfl
theorem mW_g15 (a : Nat) (ba : Nat → Nat) (ka : Nat → ClassId) (F : Nat → Int32) (G : Nat → Nat → Int32) (f : Nat → Int32) : (mW a ba ka F G).set 10 (ba 15, .inl (ka 15, 40, .inl f)) = mW a ba ka F (va_up G 15 f) := rfl
theorem mW_g16 (a : Nat) (ba : Nat → Nat) (ka : Nat → ClassId) (F : Nat → Int32) (G : Nat → Nat → Int32) (f : Nat → Int32) : (mW a ba ka F G).set 11 (ba 16, .inl (ka 16, 40, .inl f)) = mW a ba ka F (va_up G 16 f) := rfl
theorem mW_g17 (a : Nat) (ba : Nat → Nat) (ka : Nat → ClassId) (F : Nat → Int32) (G : Nat → Nat → Int32) (f : Nat → Int32) : (mW a ba ka F G).set 12 (ba 17, .inl (ka 17, 4, .inl f)) = mW a ba ka F (va_up G 17 f) := rfl
theorem mW_g18 (a : Nat) (ba : Nat → Nat) (ka : Nat → ClassId) (F : Nat → Int32) (G : Nat → Nat → Int32) (f : Nat → Int32) : (mW a ba ka F G).set 13 (ba 18, .inl (ka 18, 4, .inl f)) = mW a ba ka F (va_up G 18 f) := rfl
theorem mW_g19 (a : Nat) (ba : Nat → Nat) (ka : Nat → ClassId) (F : Nat → Int32) (G : Nat → Nat → Int32) (f : Nat → Int32) : (mW a ba ka F G).set 14 (ba 19, .inl (ka 19, 8, .inl f)) = mW a ba ka F (va_up G 19 f) := rfl
theorem mW_g27 (a : Nat) (ba : Nat → Nat) (ka : Nat → ClassId) (F : Nat → Int32) (G : Nat → Nat → Int32) (f : Nat → Int32) : (mW a ba ka F G).set 15 (ba 27, .inl (ka 27, 4096, .inl f)) = mW a ba ka F (va_up G 27 f) := rfl
theorem mW_g28 (a : Nat) (ba : Nat → Nat) (ka : Nat → ClassId) (F : Nat → Int32) (G : Nat → Nat → Int32) (f : Nat → Int32) : (mW a ba ka F G).set 16 (ba 28, .inl (ka 28, 16384, .inl f)) = mW a ba ka F (va_up G 28 f) := rfl
def mF0 (sd : Int32) : Nat → Int32 := fun j => if j = 1 then sd &&& 2147483647 else if j = 5 then 1 else if j = 22 then -1 else 0
def mG0 : Nat → Nat → Int32 := fun _ _ => 0
end
section
def mr_M_thrown (f0 : Int32) : Int32 := f0
set_option maxHeartbeats 4000000 in
set_option maxRecDepth 100000 in
theorem c_M_thrown (l : Launch) (D : va_G) (cl : List vw_C) (hcl : cl[0]? = some (RM, TM, 29)) (a : Nat) (ba : Nat → Nat) (ka : Nat → ClassId) (F : Nat → Int32) (G : Nat → Nat → Int32) {H : Heap} (hP : va_P D cl (mW a ba ka F G) H) : ro_Met l yM_thrown wsM_thrown ({ frames := 0, cells := 0, slots := 0, locals := 0 } : Room) D cl (mT ka) H [.ref a] (.int (mr_M_thrown (F 0))) := by
  refine ro_metI (by decide) rfl (Nat.le_of_ble_eq_true rfl) ?_
  intro p e s m args below meth c Q Sx hK ls hl hret
  obtain ⟨hx, hb, hml, hown, hts⟩ := id Sx
  have hl : lv_has ls 1 [(0, .ref a)] := hl
  have f70 := hts _ (List.mem_cons_of_mem _ mfM_70)
  have inM_ : ∀ w ∈ wsM0, w ∈ wsM_thrown := fun w h => List.mem_cons_of_mem _ (inM_all w h)
  refine lv_aload_n hx hb dM_thrown_0 rfl (lv_at hl 0 rfl) ?_
  refine va_get (D := D) (ci := 0) (v := .int (F 0)) (C := RM) (T := TM) (N := 29) hx hb hts inM_ hown hK hP 0 rfl hcl 0 (by decide) f70 (fun _ h9 => h9) rfl dM_thrown_1 ?_
  exact hret _ _ _ (by rw [mr_M_thrown]) dM_thrown_4
def mr_M_within (v : Int32) (lo : Int32) (hi : Int32) : Int32 := ((if v < lo then 0 else (if hi < v then 0 else 1)) : Int32)
set_option maxHeartbeats 4000000 in
set_option maxRecDepth 100000 in
theorem c_M_within (l : Launch) (D : va_G) (cl : List vw_C) (hcl : cl[0]? = some (RM, TM, 29)) (a : Nat) (ba : Nat → Nat) (ka : Nat → ClassId) (F : Nat → Int32) (G : Nat → Nat → Int32) {H : Heap} (hP : va_P D cl (mW a ba ka F G) H) (v : Int32) (lo : Int32) (hi : Int32) : ro_Met l yM_within wsM_within ({ frames := 0, cells := 0, slots := 0, locals := 0 } : Room) D cl (mT ka) H [.int v, .int lo, .int hi] (.int (mr_M_within v lo hi)) := by
  refine ro_metZ (by unfold mr_M_within; repeat' first | refine zb_i ?_ ?_ | exact zb_0 | exact zb_1) (by decide) rfl (Nat.le_of_ble_eq_true rfl) ?_
  intro p e s m args below meth c Q Sx hK ls hl hret
  obtain ⟨hx, hb, hml, hown, hts⟩ := id Sx
  have hl : lv_has ls 3 [(0, .int v), (1, .int lo), (2, .int hi)] := hl
  refine lv_iload_n hx hb dM_within_0 rfl (lv_at hl 0 rfl) ?_
  refine lv_iload_n hx hb dM_within_1 rfl (lv_at hl 1 rfl) ?_
  have j15 : ∀ (ls : Array Slot), lv_has ls 3 [(0, .int v), (1, .int lo), (2, .int hi)] → W p l e ({ frames := 0, cells := 0, slots := 0, locals := 0 } : Room) s m args below meth c H [] 0 0 Q (F0 m 15 ls [.int ((if v < lo then 0 else (if hi < v then 0 else 1)) : Int32)]) := by
    intro ls hl
    exact hret _ _ _ (by rw [mr_M_within]) dM_within_15
  refine lv_icmp_lt (tgt := 14) hx hb dM_within_2 (by decide) (fun c2 => ?_) (fun c2 => ?_)
  · refine lv_iconst (v := 0) hx hb dM_within_14 (by decide) ?_
    exact wt_i (by rw [if_pos c2]) (j15 ls hl)
  · refine lv_iload_n hx hb dM_within_5 rfl (lv_at hl 0 rfl) ?_
    refine lv_iload_n hx hb dM_within_6 rfl (lv_at hl 2 rfl) ?_
    refine lv_icmp_gt (tgt := 14) hx hb dM_within_7 (by decide) (fun c7 => ?_) (fun c7 => ?_)
    · refine lv_iconst (v := 0) hx hb dM_within_14 (by decide) ?_
      exact wt_i (by rw [if_neg c2, if_pos c7]) (j15 ls hl)
    · refine lv_iconst (v := 1) hx hb dM_within_10 (by decide) ?_
      refine lv_goto (tgt := 15) hx hb dM_within_11 (by decide) ?_
      exact wt_i (by rw [if_neg c2, if_neg c7]) (j15 ls hl)
def mr_M_fail (cd : Int32) : Int32 × Int32 := (0, cd)
set_option maxHeartbeats 4000000 in
set_option maxRecDepth 100000 in
theorem c_M_fail (l : Launch) (D : va_G) (cl : List vw_C) (hcl : cl[0]? = some (RM, TM, 29)) (a : Nat) (ba : Nat → Nat) (ka : Nat → ClassId) (F : Nat → Int32) (G : Nat → Nat → Int32) {H0 : Heap} (hP : va_P D cl (mW a ba ka F G) H0) (hD : va_D (fun _ => True) (mW a ba ka F G)) (cd : Int32) : ww_Met l yM_fail wsM_fail ({ frames := 0, cells := 0, slots := 0, locals := 0 } : Room) D cl (mT ka) H0 [.ref a, .int cd] (mW a ba ka F G) (some (.int ((mr_M_fail cd).1))) (mW a ba ka (upd F 0 ((mr_M_fail cd).2)) G) := by
  refine ww_metI (by decide) rfl (Nat.le_of_ble_eq_true rfl) hP hD ?_
  intro p e s m args below meth c Q A Sx hK hP hD hS hA ls hl hret
  obtain ⟨hx, hb, hml, hown, hts⟩ := id Sx
  have hl : lv_has ls 2 [(0, .ref a), (1, .int cd)] := hl
  obtain ⟨H, eH⟩ : ∃ H : Heap, H = H0 := ⟨_, rfl⟩
  obtain ⟨locs, eL⟩ : ∃ L : List Loc, L = [] := ⟨_, rfl⟩
  have hP : va_P D cl (mW a ba ka F G) H := by rw [eH]; exact hP
  have hS : va_S A H0 H locs := by rw [eH, eL]; exact hS
  rw [show W p l e ({ frames := 0, cells := 0, slots := 0, locals := 0 } : Room) s m args below meth c H0 [] 0 0 Q (F0 m 0 ls []) = W p l e ({ frames := 0, cells := 0, slots := 0, locals := 0 } : Room) s m args below meth c H locs 0 0 Q (F0 m 0 ls []) by rw [eH, eL]]
  clear eH eL
  have f70 := hts _ (List.mem_cons_of_mem _ mfM_70)
  have inM_ : ∀ w ∈ wsM0, w ∈ wsM_fail := fun w h => List.mem_cons_of_mem _ (inM_all w h)
  refine lv_aload_n hx hb dM_fail_0 rfl (lv_at hl 0 rfl) ?_
  refine lv_iload_n hx hb dM_fail_1 rfl (lv_at hl 1 rfl) ?_
  refine va_put (D := D) (ci := 0) (fs := mWl0 ba F) (v := .int cd) (ty := .int) (C := RM) (T := TM) (N := 29) hx hb hts inM_ tyM tyM_ok nmM hown hK hP hD hS 0 rfl hcl 0 (by decide) f70 (fun _ h9 => h9) rfl (by decide +kernel) rfl rfl (Nat.le_of_ble_eq_true rfl) dM_fail_2 (fun H locs hP hD hS => ?_)
  rw [mW_f0] at hP hD
  refine lv_iconst (v := 0) hx hb dM_fail_5 (by decide) ?_
  have em : mr_M_fail cd = (0, cd) := by rw [mr_M_fail]
  exact hret _ _ _ _ _ _ (by simp only [em]) (by simp only [em]) hP hD hS dM_fail_6
def lf_M_isBarred_4 (g13 : Nat → Int32) (g14 : Nat → Int32) (g15 : Nat → Int32) (g16 : Nat → Int32) (g19 : Nat → Int32) (nC : Nat) (nR : Nat) (i0 : Int32) : Nat → Int32
  | 0 => i0
  | k4 + 1 => ((if (lf_M_isBarred_4 g13 g14 g15 g16 g19 nC nR i0 k4) = 0 then (if (g19 ((g13 k4).toNatClampNeg)) = (g14 k4) then (if (g19 ((g15 k4).toNatClampNeg)) = (g16 k4) then 1 else 0) else 0) else 1) : Int32)
def mr_M_isBarred (g13 : Nat → Int32) (g14 : Nat → Int32) (g15 : Nat → Int32) (g16 : Nat → Int32) (g19 : Nat → Int32) (nC : Nat) (nR : Nat) : Int32 := (lf_M_isBarred_4 g13 g14 g15 g16 g19 nC nR 0 nR)
theorem zb_M_isBarred (g13 g14 g15 g16 g19 : Nat → Int32) (nC nR n : Nat) : narrow .boolean (.int (lf_M_isBarred_4 g13 g14 g15 g16 g19 nC nR 0 n)) = .int (lf_M_isBarred_4 g13 g14 g15 g16 g19 nC nR 0 n) := by
  cases n with
  | zero => rw [lf_M_isBarred_4]; rfl
  | succ n => rw [lf_M_isBarred_4]; repeat' first | refine zb_i ?_ ?_ | exact zb_0 | exact zb_1
set_option maxHeartbeats 4000000 in
set_option maxRecDepth 100000 in
theorem c_M_isBarred (l : Launch) (D : va_G) (cl : List vw_C) (hcl : cl[0]? = some (RM, TM, 29)) (a : Nat) (ba : Nat → Nat) (ka : Nat → ClassId) (F : Nat → Int32) (G : Nat → Nat → Int32) {H : Heap} (hP : va_P D cl (mW a ba ka F G) H) (nC : Nat) (nR : Nat) (hC : nC ≤ 8) (h4 : F 4 = nI nR) (hR : nR ≤ 40) (h13 : ∀ j, j < nR → ∃ x : Nat, x < nC ∧ G 13 j = nI x) (h15 : ∀ j, j < nR → ∃ x : Nat, x < nC ∧ G 15 j = nI x) : ro_Met l yM_isBarred wsM_isBarred ({ frames := 0, cells := 0, slots := 0, locals := 0 } : Room) D cl (mT ka) H [.ref a] (.int (mr_M_isBarred (G 13) (G 14) (G 15) (G 16) (G 19) nC nR)) := by
  refine ro_metZ (by exact zb_M_isBarred _ _ _ _ _ _ _ _) (by decide) rfl (Nat.le_of_ble_eq_true rfl) ?_
  intro p e s m args below meth c Q Sx hK ls hl hret
  obtain ⟨hx, hb, hml, hown, hts⟩ := id Sx
  have hl : lv_has ls 3 [(0, .ref a)] := hl
  have f103 := hts _ (List.mem_cons_of_mem _ mfM_103)
  have inM_ : ∀ w ∈ wsM0, w ∈ wsM_isBarred := fun w h => List.mem_cons_of_mem _ (inM_all w h)
  have f54 := hts _ (List.mem_cons_of_mem _ mfM_54)
  have f35 := hts _ (List.mem_cons_of_mem _ mfM_35)
  have f38 := hts _ (List.mem_cons_of_mem _ mfM_38)
  have f41 := hts _ (List.mem_cons_of_mem _ mfM_41)
  have f44 := hts _ (List.mem_cons_of_mem _ mfM_44)
  refine lv_iconst (v := 0) hx hb dM_isBarred_0 (by decide) ?_
  refine lv_istore_n (lv' := [(1, .int 0), (0, .ref a)]) hx hb dM_isBarred_1 rfl hl (by decide) rfl (fun ls hl => ?_)
  refine lv_iconst (v := 0) hx hb dM_isBarred_2 (by decide) ?_
  refine lv_istore_n (lv' := [(2, .int 0), (1, .int 0), (0, .ref a)]) hx hb dM_isBarred_3 rfl hl (by decide) rfl (fun ls hl => ?_)
  have loop4 : ∀ (N4 k4 : Nat), k4 ≤ nR → nR - k4 < N4 → ∀ (ls : Array Slot), lv_has ls 3 [(2, .int (nI k4)), (1, .int (lf_M_isBarred_4 (G 13) (G 14) (G 15) (G 16) (G 19) nC nR 0 k4)), (0, .ref a)] → W p l e ({ frames := 0, cells := 0, slots := 0, locals := 0 } : Room) s m args below meth c H [] 0 0 Q (F0 m 4 ls []) := by
    intro N4
    induction N4 with
    | zero => intro k4 hk4 hm4; exact absurd hm4 (Nat.not_lt_zero _)
    | succ N4 ih4 =>
      intro k4 hk4 hm4  ls hl
      refine lv_iload_n hx hb dM_isBarred_4 rfl (lv_at hl 0 rfl) ?_
      refine lv_aload_n hx hb dM_isBarred_5 rfl (lv_at hl 2 rfl) ?_
      refine va_get (D := D) (ci := 0) (v := .int (F 4)) (C := RM) (T := TM) (N := 29) hx hb hts inM_ hown hK hP 0 rfl hcl 4 (by decide) f103 (fun _ h9 => h9) rfl dM_isBarred_6 ?_
      refine wt_i h4 ?_
      refine lv_icmp_ge (tgt := 68) hx hb dM_isBarred_9 (by decide) (fun c9 => ?_) (fun c9 => ?_)
      · have n9 : nR ≤ k4 := (nI_leI (a := nR) (b := k4) (by omega) (by omega)).mp c9
        have hx4 : nR = k4 := by omega
        subst hx4
        refine lv_iload_n hx hb dM_isBarred_68 rfl (lv_at hl 1 rfl) ?_
        exact hret _ _ _ (by rw [mr_M_isBarred]) dM_isBarred_69
      · have n9 : ¬ nR ≤ k4 := fun h9 => c9 ((nI_leI (a := nR) (b := k4) (by omega) (by omega)).mpr h9)
        refine lv_iload_n hx hb dM_isBarred_12 rfl (lv_at hl 1 rfl) ?_
        have j61 : ∀ (ls : Array Slot), lv_has ls 3 [(2, .int (nI k4)), (1, .int (lf_M_isBarred_4 (G 13) (G 14) (G 15) (G 16) (G 19) nC nR 0 k4)), (0, .ref a)] → W p l e ({ frames := 0, cells := 0, slots := 0, locals := 0 } : Room) s m args below meth c H [] 0 0 Q (F0 m 61 ls [.int ((if (lf_M_isBarred_4 (G 13) (G 14) (G 15) (G 16) (G 19) nC nR 0 k4) = 0 then (if (G 19 ((G 13 k4).toNatClampNeg)) = (G 14 k4) then (if (G 19 ((G 15 k4).toNatClampNeg)) = (G 16 k4) then 1 else 0) else 0) else 1) : Int32)]) := by
          intro ls hl
          refine lv_istore_n (lv' := [(1, .int ((if (lf_M_isBarred_4 (G 13) (G 14) (G 15) (G 16) (G 19) nC nR 0 k4) = 0 then (if (G 19 ((G 13 k4).toNatClampNeg)) = (G 14 k4) then (if (G 19 ((G 15 k4).toNatClampNeg)) = (G 16 k4) then 1 else 0) else 0) else 1) : Int32)), (2, .int (nI k4)), (0, .ref a)]) hx hb dM_isBarred_61 rfl hl (by decide) rfl (fun ls hl => ?_)
          refine lv_iinc (v := nI (k4 + 1)) (lv' := [(2, .int (nI (k4 + 1))), (1, .int ((if (lf_M_isBarred_4 (G 13) (G 14) (G 15) (G 16) (G 19) nC nR 0 k4) = 0 then (if (G 19 ((G 13 k4).toNatClampNeg)) = (G 14 k4) then (if (G 19 ((G 15 k4).toNatClampNeg)) = (G 16 k4) then 1 else 0) else 0) else 1) : Int32)), (0, .ref a)]) hx hb dM_isBarred_62 hl (k := 1) rfl (by exact ii_1 k4) (by decide) rfl (fun ls hl => ?_)
          refine lv_goto (tgt := 4) hx hb dM_isBarred_65 (by decide) ?_
          have eb4 : lf_M_isBarred_4 (G 13) (G 14) (G 15) (G 16) (G 19) nC nR 0 (k4 + 1) = ((if (lf_M_isBarred_4 (G 13) (G 14) (G 15) (G 16) (G 19) nC nR 0 k4) = 0 then (if (G 19 ((G 13 k4).toNatClampNeg)) = (G 14 k4) then (if (G 19 ((G 15 k4).toNatClampNeg)) = (G 16 k4) then 1 else 0) else 0) else 1) : Int32) := by rw [lf_M_isBarred_4]
          exact ih4 (k4 + 1) (by omega) (by omega)  ls (by rw [eb4]; exact lv_sub hl [0, 1, 2] rfl)
        refine lv_if_ne (tgt := 56) hx hb dM_isBarred_13 (by decide) (fun c13 => ?_) (fun c13 => ?_)
        · refine lv_iconst (v := 1) hx hb dM_isBarred_56 (by decide) ?_
          refine lv_goto (tgt := 61) hx hb dM_isBarred_57 (by decide) ?_
          exact wt_i (by rw [if_neg c13]) (j61 ls hl)
        · have xa := ix_cl (h13 k4 (by omega)) (by omega)
          have xb := ix_cl (h15 k4 (by omega)) (by omega)
          refine lv_aload_n hx hb dM_isBarred_16 rfl (lv_at hl 2 rfl) ?_
          refine va_get (D := D) (ci := 0) (v := .ref (ba 19)) (C := RM) (T := TM) (N := 29) hx hb hts inM_ hown hK hP 0 rfl hcl 19 (by decide) f54 (fun _ h9 => h9) rfl dM_isBarred_17 ?_
          refine lv_aload_n hx hb dM_isBarred_20 rfl (lv_at hl 2 rfl) ?_
          refine va_get (D := D) (ci := 0) (v := .ref (ba 13)) (C := RM) (T := TM) (N := 29) hx hb hts inM_ hown hK hP 0 rfl hcl 13 (by decide) f35 (fun _ h9 => h9) rfl dM_isBarred_21 ?_
          refine lv_iload_n hx hb dM_isBarred_24 rfl (lv_at hl 0 rfl) ?_
          have sd25 : k4 < 40 := by omega
          refine wn_iald (f := G 13) hx hb hK hP 8 7 rfl rfl k4 rfl sd25 (by decide) dM_isBarred_25 ?_
          have sd26 : (G 13 k4).toNatClampNeg < 8 := by have := xa.2; omega
          refine wn_iald (f := G 19) hx hb hK hP 14 13 rfl rfl ((G 13 k4).toNatClampNeg) xa.1 sd26 (by decide) dM_isBarred_26 ?_
          refine lv_aload_n hx hb dM_isBarred_27 rfl (lv_at hl 2 rfl) ?_
          refine va_get (D := D) (ci := 0) (v := .ref (ba 14)) (C := RM) (T := TM) (N := 29) hx hb hts inM_ hown hK hP 0 rfl hcl 14 (by decide) f38 (fun _ h9 => h9) rfl dM_isBarred_28 ?_
          refine lv_iload_n hx hb dM_isBarred_31 rfl (lv_at hl 0 rfl) ?_
          have sd32 : k4 < 40 := by omega
          refine wn_iald (f := G 14) hx hb hK hP 9 8 rfl rfl k4 rfl sd32 (by decide) dM_isBarred_32 ?_
          refine lv_icmp_ne (tgt := 60) hx hb dM_isBarred_33 (by decide) (fun c33 => ?_) (fun c33 => ?_)
          · refine lv_iconst (v := 0) hx hb dM_isBarred_60 (by decide) ?_
            exact wt_i (by rw [if_pos c13, if_neg c33]) (j61 ls hl)
          · refine lv_aload_n hx hb dM_isBarred_36 rfl (lv_at hl 2 rfl) ?_
            refine va_get (D := D) (ci := 0) (v := .ref (ba 19)) (C := RM) (T := TM) (N := 29) hx hb hts inM_ hown hK hP 0 rfl hcl 19 (by decide) f54 (fun _ h9 => h9) rfl dM_isBarred_37 ?_
            refine lv_aload_n hx hb dM_isBarred_40 rfl (lv_at hl 2 rfl) ?_
            refine va_get (D := D) (ci := 0) (v := .ref (ba 15)) (C := RM) (T := TM) (N := 29) hx hb hts inM_ hown hK hP 0 rfl hcl 15 (by decide) f41 (fun _ h9 => h9) rfl dM_isBarred_41 ?_
            refine lv_iload_n hx hb dM_isBarred_44 rfl (lv_at hl 0 rfl) ?_
            have sd45 : k4 < 40 := by omega
            refine wn_iald (f := G 15) hx hb hK hP 10 9 rfl rfl k4 rfl sd45 (by decide) dM_isBarred_45 ?_
            have sd46 : (G 15 k4).toNatClampNeg < 8 := by have := xb.2; omega
            refine wn_iald (f := G 19) hx hb hK hP 14 13 rfl rfl ((G 15 k4).toNatClampNeg) xb.1 sd46 (by decide) dM_isBarred_46 ?_
            refine lv_aload_n hx hb dM_isBarred_47 rfl (lv_at hl 2 rfl) ?_
            refine va_get (D := D) (ci := 0) (v := .ref (ba 16)) (C := RM) (T := TM) (N := 29) hx hb hts inM_ hown hK hP 0 rfl hcl 16 (by decide) f44 (fun _ h9 => h9) rfl dM_isBarred_48 ?_
            refine lv_iload_n hx hb dM_isBarred_51 rfl (lv_at hl 0 rfl) ?_
            have sd52 : k4 < 40 := by omega
            refine wn_iald (f := G 16) hx hb hK hP 11 10 rfl rfl k4 rfl sd52 (by decide) dM_isBarred_52 ?_
            refine lv_icmp_ne (tgt := 60) hx hb dM_isBarred_53 (by decide) (fun c53 => ?_) (fun c53 => ?_)
            · refine lv_iconst (v := 0) hx hb dM_isBarred_60 (by decide) ?_
              exact wt_i (by rw [if_pos c13, if_pos c33, if_neg c53]) (j61 ls hl)
            · refine lv_iconst (v := 1) hx hb dM_isBarred_56 (by decide) ?_
              refine lv_goto (tgt := 61) hx hb dM_isBarred_57 (by decide) ?_
              exact wt_i (by rw [if_pos c13, if_pos c33, if_pos c53]) (j61 ls hl)
  exact loop4 _ 0 (Nat.zero_le _) (Nat.lt_succ_self _)  ls (lv_sub hl [0, 1, 2] rfl)
def mr_M_counts (g8 : Nat → Int32) (g9 : Nat → Int32) (g10 : Nat → Int32) (g11 : Nat → Int32) (g19 : Nat → Int32) (nC : Nat) (nT : Nat) (t : Nat) : Int32 := ((if ((if ((if (g19 ((g8 t).toNatClampNeg)) = (g9 t) then 1 else 0) : Int32) = 0 then (if 0 ≤ (g19 ((g8 t).toNatClampNeg)) then 1 else (if ((if (g10 t) < 0 then 1 else (if (g19 ((g10 t).toNatClampNeg)) = (g11 t) then 1 else 0)) : Int32) = 0 then (if (g19 ((g10 t).toNatClampNeg)) < 0 then 0 else 1) else 0)) else (if ((if (g10 t) < 0 then 1 else (if (g19 ((g10 t).toNatClampNeg)) = (g11 t) then 1 else 0)) : Int32) = 0 then (if (g19 ((g10 t).toNatClampNeg)) < 0 then 0 else 1) else 0)) : Int32) = 0 then (if ((if (g19 ((g8 t).toNatClampNeg)) = (g9 t) then 1 else 0) : Int32) = 0 then 0 else (if ((if (g10 t) < 0 then 1 else (if (g19 ((g10 t).toNatClampNeg)) = (g11 t) then 1 else 0)) : Int32) = 0 then 0 else 1)) else (-1)) : Int32)
set_option maxHeartbeats 4000000 in
set_option maxRecDepth 100000 in
theorem c_M_counts (l : Launch) (D : va_G) (cl : List vw_C) (hcl : cl[0]? = some (RM, TM, 29)) (a : Nat) (ba : Nat → Nat) (ka : Nat → ClassId) (F : Nat → Int32) (G : Nat → Nat → Int32) {H : Heap} (hP : va_P D cl (mW a ba ka F G) H) (nC : Nat) (nT : Nat) (t : Nat) (hC : nC ≤ 8) (hT : nT ≤ 100) (h8 : ∀ t, t < nT → ∃ x : Nat, x < nC ∧ G 8 t = nI x) (h10 : ∀ t, t < nT → G 10 t = -1 ∨ ∃ x : Nat, x < nC ∧ G 10 t = nI x) (ht : t < nT) : ro_Met l yM_counts wsM_counts ({ frames := 0, cells := 0, slots := 0, locals := 0 } : Room) D cl (mT ka) H [.ref a, .int (nI t)] (.int (mr_M_counts (G 8) (G 9) (G 10) (G 11) (G 19) nC nT t)) := by
  refine ro_metI (by decide) rfl (Nat.le_of_ble_eq_true rfl) ?_
  intro p e s m args below meth c Q Sx hK ls hl hret
  obtain ⟨hx, hb, hml, hown, hts⟩ := id Sx
  have hl : lv_has ls 5 [(0, .ref a), (1, .int (nI t))] := hl
  have f54 := hts _ (List.mem_cons_of_mem _ mfM_54)
  have inM_ : ∀ w ∈ wsM0, w ∈ wsM_counts := fun w h => List.mem_cons_of_mem _ (inM_all w h)
  have f20 := hts _ (List.mem_cons_of_mem _ mfM_20)
  have f23 := hts _ (List.mem_cons_of_mem _ mfM_23)
  have f26 := hts _ (List.mem_cons_of_mem _ mfM_26)
  have f29 := hts _ (List.mem_cons_of_mem _ mfM_29)
  have xa := ix_cl (h8 t ht) (by omega)
  refine lv_aload_n hx hb dM_counts_0 rfl (lv_at hl 0 rfl) ?_
  refine va_get (D := D) (ci := 0) (v := .ref (ba 19)) (C := RM) (T := TM) (N := 29) hx hb hts inM_ hown hK hP 0 rfl hcl 19 (by decide) f54 (fun _ h9 => h9) rfl dM_counts_1 ?_
  refine lv_aload_n hx hb dM_counts_4 rfl (lv_at hl 0 rfl) ?_
  refine va_get (D := D) (ci := 0) (v := .ref (ba 8)) (C := RM) (T := TM) (N := 29) hx hb hts inM_ hown hK hP 0 rfl hcl 8 (by decide) f20 (fun _ h9 => h9) rfl dM_counts_5 ?_
  refine lv_iload_n hx hb dM_counts_8 rfl (lv_at hl 1 rfl) ?_
  have sd9 : t < 100 := by omega
  refine wn_iald (f := G 8) hx hb hK hP 3 2 rfl rfl t rfl sd9 (by decide) dM_counts_9 ?_
  have sd10 : (G 8 t).toNatClampNeg < 8 := by have := xa.2; omega
  refine wn_iald (f := G 19) hx hb hK hP 14 13 rfl rfl ((G 8 t).toNatClampNeg) xa.1 sd10 (by decide) dM_counts_10 ?_
  refine lv_aload_n hx hb dM_counts_11 rfl (lv_at hl 0 rfl) ?_
  refine va_get (D := D) (ci := 0) (v := .ref (ba 9)) (C := RM) (T := TM) (N := 29) hx hb hts inM_ hown hK hP 0 rfl hcl 9 (by decide) f23 (fun _ h9 => h9) rfl dM_counts_12 ?_
  refine lv_iload_n hx hb dM_counts_15 rfl (lv_at hl 1 rfl) ?_
  have sd16 : t < 100 := by omega
  refine wn_iald (f := G 9) hx hb hK hP 4 3 rfl rfl t rfl sd16 (by decide) dM_counts_16 ?_
  have j25 : ∀ (ls : Array Slot), lv_has ls 5 [(0, .ref a), (1, .int (nI t))] → W p l e ({ frames := 0, cells := 0, slots := 0, locals := 0 } : Room) s m args below meth c H [] 0 0 Q (F0 m 25 ls [.int ((if (G 19 ((G 8 t).toNatClampNeg)) = (G 9 t) then 1 else 0) : Int32)]) := by
    intro ls hl
    refine lv_istore_n (lv' := [(2, .int ((if (G 19 ((G 8 t).toNatClampNeg)) = (G 9 t) then 1 else 0) : Int32)), (0, .ref a), (1, .int (nI t))]) hx hb dM_counts_25 rfl hl (by decide) rfl (fun ls hl => ?_)
    refine lv_aload_n hx hb dM_counts_26 rfl (lv_at hl 1 rfl) ?_
    refine va_get (D := D) (ci := 0) (v := .ref (ba 10)) (C := RM) (T := TM) (N := 29) hx hb hts inM_ hown hK hP 0 rfl hcl 10 (by decide) f26 (fun _ h9 => h9) rfl dM_counts_27 ?_
    refine lv_iload_n hx hb dM_counts_30 rfl (lv_at hl 2 rfl) ?_
    have sd31 : t < 100 := by omega
    refine wn_iald (f := G 10) hx hb hK hP 5 4 rfl rfl t rfl sd31 (by decide) dM_counts_31 ?_
    have j60 : ∀ (ls : Array Slot), lv_has ls 5 [(2, .int ((if (G 19 ((G 8 t).toNatClampNeg)) = (G 9 t) then 1 else 0) : Int32)), (0, .ref a), (1, .int (nI t))] → W p l e ({ frames := 0, cells := 0, slots := 0, locals := 0 } : Room) s m args below meth c H [] 0 0 Q (F0 m 60 ls [.int ((if (G 10 t) < 0 then 1 else (if (G 19 ((G 10 t).toNatClampNeg)) = (G 11 t) then 1 else 0)) : Int32)]) := by
      intro ls hl
      refine lv_istore_n (lv' := [(3, .int ((if (G 10 t) < 0 then 1 else (if (G 19 ((G 10 t).toNatClampNeg)) = (G 11 t) then 1 else 0)) : Int32)), (2, .int ((if (G 19 ((G 8 t).toNatClampNeg)) = (G 9 t) then 1 else 0) : Int32)), (0, .ref a), (1, .int (nI t))]) hx hb dM_counts_60 rfl hl (by decide) rfl (fun ls hl => ?_)
      refine lv_iload_n hx hb dM_counts_61 rfl (lv_at hl 1 rfl) ?_
      have j102 : ∀ (ls : Array Slot), lv_has ls 5 [(3, .int ((if (G 10 t) < 0 then 1 else (if (G 19 ((G 10 t).toNatClampNeg)) = (G 11 t) then 1 else 0)) : Int32)), (2, .int ((if (G 19 ((G 8 t).toNatClampNeg)) = (G 9 t) then 1 else 0) : Int32)), (0, .ref a), (1, .int (nI t))] → W p l e ({ frames := 0, cells := 0, slots := 0, locals := 0 } : Room) s m args below meth c H [] 0 0 Q (F0 m 102 ls [.int ((if ((if (G 19 ((G 8 t).toNatClampNeg)) = (G 9 t) then 1 else 0) : Int32) = 0 then (if 0 ≤ (G 19 ((G 8 t).toNatClampNeg)) then 1 else (if ((if (G 10 t) < 0 then 1 else (if (G 19 ((G 10 t).toNatClampNeg)) = (G 11 t) then 1 else 0)) : Int32) = 0 then (if (G 19 ((G 10 t).toNatClampNeg)) < 0 then 0 else 1) else 0)) else (if ((if (G 10 t) < 0 then 1 else (if (G 19 ((G 10 t).toNatClampNeg)) = (G 11 t) then 1 else 0)) : Int32) = 0 then (if (G 19 ((G 10 t).toNatClampNeg)) < 0 then 0 else 1) else 0)) : Int32)]) := by
        intro ls hl
        refine lv_istore (lv' := [(4, .int ((if ((if (G 19 ((G 8 t).toNatClampNeg)) = (G 9 t) then 1 else 0) : Int32) = 0 then (if 0 ≤ (G 19 ((G 8 t).toNatClampNeg)) then 1 else (if ((if (G 10 t) < 0 then 1 else (if (G 19 ((G 10 t).toNatClampNeg)) = (G 11 t) then 1 else 0)) : Int32) = 0 then (if (G 19 ((G 10 t).toNatClampNeg)) < 0 then 0 else 1) else 0)) else (if ((if (G 10 t) < 0 then 1 else (if (G 19 ((G 10 t).toNatClampNeg)) = (G 11 t) then 1 else 0)) : Int32) = 0 then (if (G 19 ((G 10 t).toNatClampNeg)) < 0 then 0 else 1) else 0)) : Int32)), (3, .int ((if (G 10 t) < 0 then 1 else (if (G 19 ((G 10 t).toNatClampNeg)) = (G 11 t) then 1 else 0)) : Int32)), (2, .int ((if (G 19 ((G 8 t).toNatClampNeg)) = (G 9 t) then 1 else 0) : Int32)), (0, .ref a), (1, .int (nI t))]) hx hb dM_counts_102 hl (by decide) rfl (fun ls hl => ?_)
        refine lv_iload hx hb dM_counts_104 (lv_at hl 0 rfl) ?_
        have j126 : ∀ (ls : Array Slot), lv_has ls 5 [(4, .int ((if ((if (G 19 ((G 8 t).toNatClampNeg)) = (G 9 t) then 1 else 0) : Int32) = 0 then (if 0 ≤ (G 19 ((G 8 t).toNatClampNeg)) then 1 else (if ((if (G 10 t) < 0 then 1 else (if (G 19 ((G 10 t).toNatClampNeg)) = (G 11 t) then 1 else 0)) : Int32) = 0 then (if (G 19 ((G 10 t).toNatClampNeg)) < 0 then 0 else 1) else 0)) else (if ((if (G 10 t) < 0 then 1 else (if (G 19 ((G 10 t).toNatClampNeg)) = (G 11 t) then 1 else 0)) : Int32) = 0 then (if (G 19 ((G 10 t).toNatClampNeg)) < 0 then 0 else 1) else 0)) : Int32)), (3, .int ((if (G 10 t) < 0 then 1 else (if (G 19 ((G 10 t).toNatClampNeg)) = (G 11 t) then 1 else 0)) : Int32)), (2, .int ((if (G 19 ((G 8 t).toNatClampNeg)) = (G 9 t) then 1 else 0) : Int32)), (0, .ref a), (1, .int (nI t))] → W p l e ({ frames := 0, cells := 0, slots := 0, locals := 0 } : Room) s m args below meth c H [] 0 0 Q (F0 m 126 ls [.int ((if ((if ((if (G 19 ((G 8 t).toNatClampNeg)) = (G 9 t) then 1 else 0) : Int32) = 0 then (if 0 ≤ (G 19 ((G 8 t).toNatClampNeg)) then 1 else (if ((if (G 10 t) < 0 then 1 else (if (G 19 ((G 10 t).toNatClampNeg)) = (G 11 t) then 1 else 0)) : Int32) = 0 then (if (G 19 ((G 10 t).toNatClampNeg)) < 0 then 0 else 1) else 0)) else (if ((if (G 10 t) < 0 then 1 else (if (G 19 ((G 10 t).toNatClampNeg)) = (G 11 t) then 1 else 0)) : Int32) = 0 then (if (G 19 ((G 10 t).toNatClampNeg)) < 0 then 0 else 1) else 0)) : Int32) = 0 then (if ((if (G 19 ((G 8 t).toNatClampNeg)) = (G 9 t) then 1 else 0) : Int32) = 0 then 0 else (if ((if (G 10 t) < 0 then 1 else (if (G 19 ((G 10 t).toNatClampNeg)) = (G 11 t) then 1 else 0)) : Int32) = 0 then 0 else 1)) else (-1)) : Int32)]) := by
          intro ls hl
          exact hret _ _ _ (by rw [mr_M_counts]) dM_counts_126
        refine lv_if_eq (tgt := 113) hx hb dM_counts_106 (by decide) (fun c106 => ?_) (fun c106 => ?_)
        · refine lv_iload_n hx hb dM_counts_113 rfl (lv_at hl 2 rfl) ?_
          refine lv_if_eq (tgt := 125) hx hb dM_counts_114 (by decide) (fun c114 => ?_) (fun c114 => ?_)
          · refine lv_iconst (v := 0) hx hb dM_counts_125 (by decide) ?_
            exact wt_i (by rw [if_pos c106, if_pos c114]) (j126 ls hl)
          · refine lv_iload_n hx hb dM_counts_117 rfl (lv_at hl 1 rfl) ?_
            refine lv_if_eq (tgt := 125) hx hb dM_counts_118 (by decide) (fun c118 => ?_) (fun c118 => ?_)
            · refine lv_iconst (v := 0) hx hb dM_counts_125 (by decide) ?_
              exact wt_i (by rw [if_pos c106, if_neg c114, if_pos c118]) (j126 ls hl)
            · refine lv_iconst (v := 1) hx hb dM_counts_121 (by decide) ?_
              refine lv_goto (tgt := 126) hx hb dM_counts_122 (by decide) ?_
              exact wt_i (by rw [if_pos c106, if_neg c114, if_neg c118]) (j126 ls hl)
        · refine lv_iconst (v := (-1)) hx hb dM_counts_109 (by decide) ?_
          refine lv_goto (tgt := 126) hx hb dM_counts_110 (by decide) ?_
          exact wt_i (by rw [if_neg c106]) (j126 ls hl)
      refine lv_if_ne (tgt := 79) hx hb dM_counts_62 (by decide) (fun c62 => ?_) (fun c62 => ?_)
      · refine lv_iload_n hx hb dM_counts_79 rfl (lv_at hl 0 rfl) ?_
        refine lv_if_ne (tgt := 101) hx hb dM_counts_80 (by decide) (fun c80 => ?_) (fun c80 => ?_)
        · refine lv_iconst (v := 0) hx hb dM_counts_101 (by decide) ?_
          exact wt_i (by rw [if_neg c62, if_neg c80]) (j102 ls hl)
        · have xb := ix_cl (ix_nn (h10 t ht) (bq_b c80)) (by omega)
          refine lv_aload_n hx hb dM_counts_83 rfl (lv_at hl 2 rfl) ?_
          refine va_get (D := D) (ci := 0) (v := .ref (ba 19)) (C := RM) (T := TM) (N := 29) hx hb hts inM_ hown hK hP 0 rfl hcl 19 (by decide) f54 (fun _ h9 => h9) rfl dM_counts_84 ?_
          refine lv_aload_n hx hb dM_counts_87 rfl (lv_at hl 2 rfl) ?_
          refine va_get (D := D) (ci := 0) (v := .ref (ba 10)) (C := RM) (T := TM) (N := 29) hx hb hts inM_ hown hK hP 0 rfl hcl 10 (by decide) f26 (fun _ h9 => h9) rfl dM_counts_88 ?_
          refine lv_iload_n hx hb dM_counts_91 rfl (lv_at hl 3 rfl) ?_
          have sd92 : t < 100 := by omega
          refine wn_iald (f := G 10) hx hb hK hP 5 4 rfl rfl t rfl sd92 (by decide) dM_counts_92 ?_
          have sd93 : (G 10 t).toNatClampNeg < 8 := by have := xb.2; omega
          refine wn_iald (f := G 19) hx hb hK hP 14 13 rfl rfl ((G 10 t).toNatClampNeg) xb.1 sd93 (by decide) dM_counts_93 ?_
          refine lv_if_lt (tgt := 101) hx hb dM_counts_94 (by decide) (fun c94 => ?_) (fun c94 => ?_)
          · refine lv_iconst (v := 0) hx hb dM_counts_101 (by decide) ?_
            exact wt_i (by rw [if_neg c62, if_pos c80, if_pos c94]) (j102 ls hl)
          · refine lv_iconst (v := 1) hx hb dM_counts_97 (by decide) ?_
            refine lv_goto (tgt := 102) hx hb dM_counts_98 (by decide) ?_
            exact wt_i (by rw [if_neg c62, if_pos c80, if_neg c94]) (j102 ls hl)
      · refine lv_aload_n hx hb dM_counts_65 rfl (lv_at hl 2 rfl) ?_
        refine va_get (D := D) (ci := 0) (v := .ref (ba 19)) (C := RM) (T := TM) (N := 29) hx hb hts inM_ hown hK hP 0 rfl hcl 19 (by decide) f54 (fun _ h9 => h9) rfl dM_counts_66 ?_
        refine lv_aload_n hx hb dM_counts_69 rfl (lv_at hl 2 rfl) ?_
        refine va_get (D := D) (ci := 0) (v := .ref (ba 8)) (C := RM) (T := TM) (N := 29) hx hb hts inM_ hown hK hP 0 rfl hcl 8 (by decide) f20 (fun _ h9 => h9) rfl dM_counts_70 ?_
        refine lv_iload_n hx hb dM_counts_73 rfl (lv_at hl 3 rfl) ?_
        have sd74 : t < 100 := by omega
        refine wn_iald (f := G 8) hx hb hK hP 3 2 rfl rfl t rfl sd74 (by decide) dM_counts_74 ?_
        have sd75 : (G 8 t).toNatClampNeg < 8 := by have := xa.2; omega
        refine wn_iald (f := G 19) hx hb hK hP 14 13 rfl rfl ((G 8 t).toNatClampNeg) xa.1 sd75 (by decide) dM_counts_75 ?_
        refine lv_if_ge (tgt := 97) hx hb dM_counts_76 (by decide) (fun c76 => ?_) (fun c76 => ?_)
        · refine lv_iconst (v := 1) hx hb dM_counts_97 (by decide) ?_
          refine lv_goto (tgt := 102) hx hb dM_counts_98 (by decide) ?_
          exact wt_i (by rw [if_pos c62, if_pos c76]) (j102 ls hl)
        · refine lv_iload_n hx hb dM_counts_79 rfl (lv_at hl 0 rfl) ?_
          refine lv_if_ne (tgt := 101) hx hb dM_counts_80 (by decide) (fun c80 => ?_) (fun c80 => ?_)
          · refine lv_iconst (v := 0) hx hb dM_counts_101 (by decide) ?_
            exact wt_i (by rw [if_pos c62, if_neg c76, if_neg c80]) (j102 ls hl)
          · have xb := ix_cl (ix_nn (h10 t ht) (bq_b c80)) (by omega)
            refine lv_aload_n hx hb dM_counts_83 rfl (lv_at hl 2 rfl) ?_
            refine va_get (D := D) (ci := 0) (v := .ref (ba 19)) (C := RM) (T := TM) (N := 29) hx hb hts inM_ hown hK hP 0 rfl hcl 19 (by decide) f54 (fun _ h9 => h9) rfl dM_counts_84 ?_
            refine lv_aload_n hx hb dM_counts_87 rfl (lv_at hl 2 rfl) ?_
            refine va_get (D := D) (ci := 0) (v := .ref (ba 10)) (C := RM) (T := TM) (N := 29) hx hb hts inM_ hown hK hP 0 rfl hcl 10 (by decide) f26 (fun _ h9 => h9) rfl dM_counts_88 ?_
            refine lv_iload_n hx hb dM_counts_91 rfl (lv_at hl 3 rfl) ?_
            have sd92 : t < 100 := by omega
            refine wn_iald (f := G 10) hx hb hK hP 5 4 rfl rfl t rfl sd92 (by decide) dM_counts_92 ?_
            have sd93 : (G 10 t).toNatClampNeg < 8 := by have := xb.2; omega
            refine wn_iald (f := G 19) hx hb hK hP 14 13 rfl rfl ((G 10 t).toNatClampNeg) xb.1 sd93 (by decide) dM_counts_93 ?_
            refine lv_if_lt (tgt := 101) hx hb dM_counts_94 (by decide) (fun c94 => ?_) (fun c94 => ?_)
            · refine lv_iconst (v := 0) hx hb dM_counts_101 (by decide) ?_
              exact wt_i (by rw [if_pos c62, if_neg c76, if_pos c80, if_pos c94]) (j102 ls hl)
            · refine lv_iconst (v := 1) hx hb dM_counts_97 (by decide) ?_
              refine lv_goto (tgt := 102) hx hb dM_counts_98 (by decide) ?_
              exact wt_i (by rw [if_pos c62, if_neg c76, if_pos c80, if_neg c94]) (j102 ls hl)
    refine lv_if_lt (tgt := 55) hx hb dM_counts_32 (by decide) (fun c32 => ?_) (fun c32 => ?_)
    · refine lv_iconst (v := 1) hx hb dM_counts_55 (by decide) ?_
      refine lv_goto (tgt := 60) hx hb dM_counts_56 (by decide) ?_
      exact wt_i (by rw [if_pos c32]) (j60 ls hl)
    · have xb := ix_cl (ix_nn (h10 t ht) c32) (by omega)
      refine lv_aload_n hx hb dM_counts_35 rfl (lv_at hl 1 rfl) ?_
      refine va_get (D := D) (ci := 0) (v := .ref (ba 19)) (C := RM) (T := TM) (N := 29) hx hb hts inM_ hown hK hP 0 rfl hcl 19 (by decide) f54 (fun _ h9 => h9) rfl dM_counts_36 ?_
      refine lv_aload_n hx hb dM_counts_39 rfl (lv_at hl 1 rfl) ?_
      refine va_get (D := D) (ci := 0) (v := .ref (ba 10)) (C := RM) (T := TM) (N := 29) hx hb hts inM_ hown hK hP 0 rfl hcl 10 (by decide) f26 (fun _ h9 => h9) rfl dM_counts_40 ?_
      refine lv_iload_n hx hb dM_counts_43 rfl (lv_at hl 2 rfl) ?_
      have sd44 : t < 100 := by omega
      refine wn_iald (f := G 10) hx hb hK hP 5 4 rfl rfl t rfl sd44 (by decide) dM_counts_44 ?_
      have sd45 : (G 10 t).toNatClampNeg < 8 := by have := xb.2; omega
      refine wn_iald (f := G 19) hx hb hK hP 14 13 rfl rfl ((G 10 t).toNatClampNeg) xb.1 sd45 (by decide) dM_counts_45 ?_
      refine lv_aload_n hx hb dM_counts_46 rfl (lv_at hl 1 rfl) ?_
      refine va_get (D := D) (ci := 0) (v := .ref (ba 11)) (C := RM) (T := TM) (N := 29) hx hb hts inM_ hown hK hP 0 rfl hcl 11 (by decide) f29 (fun _ h9 => h9) rfl dM_counts_47 ?_
      refine lv_iload_n hx hb dM_counts_50 rfl (lv_at hl 2 rfl) ?_
      have sd51 : t < 100 := by omega
      refine wn_iald (f := G 11) hx hb hK hP 6 5 rfl rfl t rfl sd51 (by decide) dM_counts_51 ?_
      refine lv_icmp_ne (tgt := 59) hx hb dM_counts_52 (by decide) (fun c52 => ?_) (fun c52 => ?_)
      · refine lv_iconst (v := 0) hx hb dM_counts_59 (by decide) ?_
        exact wt_i (by rw [if_neg c32, if_neg c52]) (j60 ls hl)
      · refine lv_iconst (v := 1) hx hb dM_counts_55 (by decide) ?_
        refine lv_goto (tgt := 60) hx hb dM_counts_56 (by decide) ?_
        exact wt_i (by rw [if_neg c32, if_pos c52]) (j60 ls hl)
  refine lv_icmp_ne (tgt := 24) hx hb dM_counts_17 (by decide) (fun c17 => ?_) (fun c17 => ?_)
  · refine lv_iconst (v := 0) hx hb dM_counts_24 (by decide) ?_
    exact wt_i (by rw [if_neg c17]) (j25 ls hl)
  · refine lv_iconst (v := 1) hx hb dM_counts_20 (by decide) ?_
    refine lv_goto (tgt := 25) hx hb dM_counts_21 (by decide) ?_
    exact wt_i (by rw [if_pos c17]) (j25 ls hl)
def lf_M_boundOf_4 (g7 : Nat → Int32) (g8 : Nat → Int32) (g9 : Nat → Int32) (g10 : Nat → Int32) (g11 : Nat → Int32) (g12 : Nat → Int32) (g19 : Nat → Int32) (nC : Nat) (nT : Nat) (nu : Int32) (i0 : Int32) : Nat → Int32
  | 0 => i0
  | k4 + 1 => (if (g7 k4) = nu then ((lf_M_boundOf_4 g7 g8 g9 g10 g11 g12 g19 nC nT nu i0 k4) + ((if (mr_M_counts g8 g9 g10 g11 g19 nC nT k4) = 1 then g12 k4 else (if (mr_M_counts g8 g9 g10 g11 g19 nC nT k4) = 0 then (if 0 ≤ (g12 k4) then 0 else g12 k4) else 0)) : Int32)) else (lf_M_boundOf_4 g7 g8 g9 g10 g11 g12 g19 nC nT nu i0 k4))
def mr_M_boundOf (g7 : Nat → Int32) (g8 : Nat → Int32) (g9 : Nat → Int32) (g10 : Nat → Int32) (g11 : Nat → Int32) (g12 : Nat → Int32) (g19 : Nat → Int32) (nC : Nat) (nT : Nat) (nu : Int32) : Int32 := (lf_M_boundOf_4 g7 g8 g9 g10 g11 g12 g19 nC nT nu 0 nT)
set_option maxHeartbeats 4000000 in
set_option maxRecDepth 100000 in
theorem c_M_boundOf (l : Launch) (D : va_G) (cl : List vw_C) (hcl : cl[0]? = some (RM, TM, 29)) (a : Nat) (ba : Nat → Nat) (ka : Nat → ClassId) (F : Nat → Int32) (G : Nat → Nat → Int32) {H : Heap} (hP : va_P D cl (mW a ba ka F G) H) (nC : Nat) (nT : Nat) (nu : Int32) (hC : nC ≤ 8) (h3 : F 3 = nI nT) (hT : nT ≤ 100) (h8 : ∀ t, t < nT → ∃ x : Nat, x < nC ∧ G 8 t = nI x) (h10 : ∀ t, t < nT → G 10 t = -1 ∨ ∃ x : Nat, x < nC ∧ G 10 t = nI x) : ro_Met l yM_boundOf wsM_boundOf ({ frames := 1, cells := 0, slots := 0, locals := 24 } : Room) D cl (mT ka) H [.ref a, .int nu] (.int (mr_M_boundOf (G 7) (G 8) (G 9) (G 10) (G 11) (G 12) (G 19) nC nT nu)) := by
  refine ro_metI (by decide) rfl (Nat.le_of_ble_eq_true rfl) ?_
  intro p e s m args below meth c Q Sx hK ls hl hret
  obtain ⟨hx, hb, hml, hown, hts⟩ := id Sx
  have hl : lv_has ls 5 [(0, .ref a), (1, .int nu)] := hl
  have f100 := hts _ (List.mem_cons_of_mem _ mfM_100)
  have inM_ : ∀ w ∈ wsM0, w ∈ wsM_boundOf := fun w h => List.mem_cons_of_mem _ (inM_all w h)
  have f17 := hts _ (List.mem_cons_of_mem _ mfM_17)
  have f32 := hts _ (List.mem_cons_of_mem _ mfM_32)
  refine lv_iconst (v := 0) hx hb dM_boundOf_0 (by decide) ?_
  refine lv_istore_n (lv' := [(2, .int 0), (0, .ref a), (1, .int nu)]) hx hb dM_boundOf_1 rfl hl (by decide) rfl (fun ls hl => ?_)
  refine lv_iconst (v := 0) hx hb dM_boundOf_2 (by decide) ?_
  refine lv_istore_n (lv' := [(3, .int 0), (2, .int 0), (0, .ref a), (1, .int nu)]) hx hb dM_boundOf_3 rfl hl (by decide) rfl (fun ls hl => ?_)
  have loop4 : ∀ (N4 k4 : Nat), k4 ≤ nT → nT - k4 < N4 → ∀ (ls : Array Slot), lv_has ls 5 [(3, .int (nI k4)), (2, .int (lf_M_boundOf_4 (G 7) (G 8) (G 9) (G 10) (G 11) (G 12) (G 19) nC nT nu 0 k4)), (0, .ref a), (1, .int nu)] → W p l e ({ frames := 1, cells := 0, slots := 0, locals := 24 } : Room) s m args below meth c H [] 0 0 Q (F0 m 4 ls []) := by
    intro N4
    induction N4 with
    | zero => intro k4 hk4 hm4; exact absurd hm4 (Nat.not_lt_zero _)
    | succ N4 ih4 =>
      intro k4 hk4 hm4  ls hl
      refine lv_iload_n hx hb dM_boundOf_4 rfl (lv_at hl 0 rfl) ?_
      refine lv_aload_n hx hb dM_boundOf_5 rfl (lv_at hl 2 rfl) ?_
      refine va_get (D := D) (ci := 0) (v := .int (F 3)) (C := RM) (T := TM) (N := 29) hx hb hts inM_ hown hK hP 0 rfl hcl 3 (by decide) f100 (fun _ h9 => h9) rfl dM_boundOf_6 ?_
      refine wt_i h3 ?_
      refine lv_icmp_ge (tgt := 68) hx hb dM_boundOf_9 (by decide) (fun c9 => ?_) (fun c9 => ?_)
      · have n9 : nT ≤ k4 := (nI_leI (a := nT) (b := k4) (by omega) (by omega)).mp c9
        have hx4 : nT = k4 := by omega
        subst hx4
        refine lv_iload_n hx hb dM_boundOf_68 rfl (lv_at hl 1 rfl) ?_
        exact hret _ _ _ (by rw [mr_M_boundOf]) dM_boundOf_69
      · have n9 : ¬ nT ≤ k4 := fun h9 => c9 ((nI_leI (a := nT) (b := k4) (by omega) (by omega)).mpr h9)
        refine lv_aload_n hx hb dM_boundOf_12 rfl (lv_at hl 2 rfl) ?_
        refine va_get (D := D) (ci := 0) (v := .ref (ba 7)) (C := RM) (T := TM) (N := 29) hx hb hts inM_ hown hK hP 0 rfl hcl 7 (by decide) f17 (fun _ h9 => h9) rfl dM_boundOf_13 ?_
        refine lv_iload_n hx hb dM_boundOf_16 rfl (lv_at hl 0 rfl) ?_
        have sd17 : k4 < 100 := by omega
        refine wn_iald (f := G 7) hx hb hK hP 2 1 rfl rfl k4 rfl sd17 (by decide) dM_boundOf_17 ?_
        refine lv_iload_n hx hb dM_boundOf_18 rfl (lv_at hl 3 rfl) ?_
        refine lv_icmp_ne (tgt := 62) hx hb dM_boundOf_19 (by decide) (fun c19 => ?_) (fun c19 => ?_)
        · refine lv_iinc (v := nI (k4 + 1)) (lv' := [(3, .int (nI (k4 + 1))), (2, .int (lf_M_boundOf_4 (G 7) (G 8) (G 9) (G 10) (G 11) (G 12) (G 19) nC nT nu 0 k4)), (0, .ref a), (1, .int nu)]) hx hb dM_boundOf_62 hl (k := 0) rfl (by exact ii_1 k4) (by decide) rfl (fun ls hl => ?_)
          refine lv_goto (tgt := 4) hx hb dM_boundOf_65 (by decide) ?_
          have eb4 : lf_M_boundOf_4 (G 7) (G 8) (G 9) (G 10) (G 11) (G 12) (G 19) nC nT nu 0 (k4 + 1) = lf_M_boundOf_4 (G 7) (G 8) (G 9) (G 10) (G 11) (G 12) (G 19) nC nT nu 0 k4 := by rw [lf_M_boundOf_4, if_neg c19]
          exact ih4 (k4 + 1) (by omega) (by omega)  ls (by rw [eb4]; exact lv_sub hl [0, 1, 2, 3] rfl)
        · refine lv_aload_n hx hb dM_boundOf_22 rfl (lv_at hl 2 rfl) ?_
          refine lv_iload_n hx hb dM_boundOf_23 rfl (lv_at hl 0 rfl) ?_
          refine ro_callV (r := (.int (mr_M_counts (G 8) (G 9) (G 10) (G 11) (G 19) nC nT k4))) (As := [.int (nI k4)]) (rest := []) Sx (c_M_counts l D cl hcl a ba ka F G hP nC nT k4 hC hT h8 h10 (by omega)) (cwV 1 hts gM_boundOf_M_counts rfl rfl rfl (by decide +kernel) ⟨Nat.le_of_ble_eq_true rfl, Nat.le_of_ble_eq_true rfl⟩) hK (va_recv hK hP (ci := 0) (q0 := 0) hcl rfl) rfl hl.1 rfl (Nat.le_of_ble_eq_true rfl) dM_boundOf_24 ⟨Nat.zero_le _, Nat.zero_le _⟩ ?_
          refine lv_istore (lv' := [(4, .int (mr_M_counts (G 8) (G 9) (G 10) (G 11) (G 19) nC nT k4)), (3, .int (nI k4)), (2, .int (lf_M_boundOf_4 (G 7) (G 8) (G 9) (G 10) (G 11) (G 12) (G 19) nC nT nu 0 k4)), (0, .ref a), (1, .int nu)]) hx hb dM_boundOf_27 hl (by decide) rfl (fun ls hl => ?_)
          refine lv_iload_n hx hb dM_boundOf_29 rfl (lv_at hl 2 rfl) ?_
          refine lv_iload hx hb dM_boundOf_30 (lv_at hl 0 rfl) ?_
          refine lv_iconst (v := 1) hx hb dM_boundOf_32 (by decide) ?_
          have j60 : ∀ (ls : Array Slot), lv_has ls 5 [(4, .int (mr_M_counts (G 8) (G 9) (G 10) (G 11) (G 19) nC nT k4)), (3, .int (nI k4)), (2, .int (lf_M_boundOf_4 (G 7) (G 8) (G 9) (G 10) (G 11) (G 12) (G 19) nC nT nu 0 k4)), (0, .ref a), (1, .int nu)] → W p l e ({ frames := 1, cells := 0, slots := 0, locals := 24 } : Room) s m args below meth c H [] 0 0 Q (F0 m 60 ls [.int ((if (mr_M_counts (G 8) (G 9) (G 10) (G 11) (G 19) nC nT k4) = 1 then G 12 k4 else (if (mr_M_counts (G 8) (G 9) (G 10) (G 11) (G 19) nC nT k4) = 0 then (if 0 ≤ (G 12 k4) then 0 else G 12 k4) else 0)) : Int32), .int (lf_M_boundOf_4 (G 7) (G 8) (G 9) (G 10) (G 11) (G 12) (G 19) nC nT nu 0 k4)]) := by
            intro ls hl
            refine lv_iadd hx hb dM_boundOf_60 ?_
            refine lv_istore_n (lv' := [(2, .int ((lf_M_boundOf_4 (G 7) (G 8) (G 9) (G 10) (G 11) (G 12) (G 19) nC nT nu 0 k4) + ((if (mr_M_counts (G 8) (G 9) (G 10) (G 11) (G 19) nC nT k4) = 1 then G 12 k4 else (if (mr_M_counts (G 8) (G 9) (G 10) (G 11) (G 19) nC nT k4) = 0 then (if 0 ≤ (G 12 k4) then 0 else G 12 k4) else 0)) : Int32))), (4, .int (mr_M_counts (G 8) (G 9) (G 10) (G 11) (G 19) nC nT k4)), (3, .int (nI k4)), (0, .ref a), (1, .int nu)]) hx hb dM_boundOf_61 rfl hl (by decide) rfl (fun ls hl => ?_)
            refine lv_iinc (v := nI (k4 + 1)) (lv' := [(3, .int (nI (k4 + 1))), (2, .int ((lf_M_boundOf_4 (G 7) (G 8) (G 9) (G 10) (G 11) (G 12) (G 19) nC nT nu 0 k4) + ((if (mr_M_counts (G 8) (G 9) (G 10) (G 11) (G 19) nC nT k4) = 1 then G 12 k4 else (if (mr_M_counts (G 8) (G 9) (G 10) (G 11) (G 19) nC nT k4) = 0 then (if 0 ≤ (G 12 k4) then 0 else G 12 k4) else 0)) : Int32))), (4, .int (mr_M_counts (G 8) (G 9) (G 10) (G 11) (G 19) nC nT k4)), (0, .ref a), (1, .int nu)]) hx hb dM_boundOf_62 hl (k := 2) rfl (by exact ii_1 k4) (by decide) rfl (fun ls hl => ?_)
            refine lv_goto (tgt := 4) hx hb dM_boundOf_65 (by decide) ?_
            have eb4 : lf_M_boundOf_4 (G 7) (G 8) (G 9) (G 10) (G 11) (G 12) (G 19) nC nT nu 0 (k4 + 1) = (lf_M_boundOf_4 (G 7) (G 8) (G 9) (G 10) (G 11) (G 12) (G 19) nC nT nu 0 k4) + ((if (mr_M_counts (G 8) (G 9) (G 10) (G 11) (G 19) nC nT k4) = 1 then G 12 k4 else (if (mr_M_counts (G 8) (G 9) (G 10) (G 11) (G 19) nC nT k4) = 0 then (if 0 ≤ (G 12 k4) then 0 else G 12 k4) else 0)) : Int32) := by rw [lf_M_boundOf_4, if_pos c19]
            exact ih4 (k4 + 1) (by omega) (by omega)  ls (by rw [eb4]; exact lv_sub hl [0, 1, 3, 4] rfl)
          refine lv_icmp_eq (tgt := 50) hx hb dM_boundOf_33 (by decide) (fun c33 => ?_) (fun c33 => ?_)
          · refine lv_aload_n hx hb dM_boundOf_50 rfl (lv_at hl 3 rfl) ?_
            refine va_get (D := D) (ci := 0) (v := .ref (ba 12)) (C := RM) (T := TM) (N := 29) hx hb hts inM_ hown hK hP 0 rfl hcl 12 (by decide) f32 (fun _ h9 => h9) rfl dM_boundOf_51 ?_
            refine lv_iload_n hx hb dM_boundOf_54 rfl (lv_at hl 1 rfl) ?_
            have sd55 : k4 < 100 := by omega
            refine wn_iald (f := G 12) hx hb hK hP 7 6 rfl rfl k4 rfl sd55 (by decide) dM_boundOf_55 ?_
            refine lv_goto (tgt := 60) hx hb dM_boundOf_56 (by decide) ?_
            exact wt_i (by rw [if_pos c33]) (j60 ls hl)
          · refine lv_iload hx hb dM_boundOf_36 (lv_at hl 0 rfl) ?_
            refine lv_if_ne (tgt := 59) hx hb dM_boundOf_38 (by decide) (fun c38 => ?_) (fun c38 => ?_)
            · refine lv_iconst (v := 0) hx hb dM_boundOf_59 (by decide) ?_
              exact wt_i (by rw [if_neg c33, if_neg c38]) (j60 ls hl)
            · refine lv_aload_n hx hb dM_boundOf_41 rfl (lv_at hl 3 rfl) ?_
              refine va_get (D := D) (ci := 0) (v := .ref (ba 12)) (C := RM) (T := TM) (N := 29) hx hb hts inM_ hown hK hP 0 rfl hcl 12 (by decide) f32 (fun _ h9 => h9) rfl dM_boundOf_42 ?_
              refine lv_iload_n hx hb dM_boundOf_45 rfl (lv_at hl 1 rfl) ?_
              have sd46 : k4 < 100 := by omega
              refine wn_iald (f := G 12) hx hb hK hP 7 6 rfl rfl k4 rfl sd46 (by decide) dM_boundOf_46 ?_
              refine lv_if_ge (tgt := 59) hx hb dM_boundOf_47 (by decide) (fun c47 => ?_) (fun c47 => ?_)
              · refine lv_iconst (v := 0) hx hb dM_boundOf_59 (by decide) ?_
                exact wt_i (by rw [if_neg c33, if_pos c38, if_pos c47]) (j60 ls hl)
              · refine lv_aload_n hx hb dM_boundOf_50 rfl (lv_at hl 3 rfl) ?_
                refine va_get (D := D) (ci := 0) (v := .ref (ba 12)) (C := RM) (T := TM) (N := 29) hx hb hts inM_ hown hK hP 0 rfl hcl 12 (by decide) f32 (fun _ h9 => h9) rfl dM_boundOf_51 ?_
                refine lv_iload_n hx hb dM_boundOf_54 rfl (lv_at hl 1 rfl) ?_
                have sd55 : k4 < 100 := by omega
                refine wn_iald (f := G 12) hx hb hK hP 7 6 rfl rfl k4 rfl sd55 (by decide) dM_boundOf_55 ?_
                refine lv_goto (tgt := 60) hx hb dM_boundOf_56 (by decide) ?_
                exact wt_i (by rw [if_neg c33, if_pos c38, if_neg c47]) (j60 ls hl)
  exact loop4 _ 0 (Nat.zero_le _) (Nat.lt_succ_self _)  ls (lv_sub hl [0, 1, 2, 3] rfl)
def lf_M_closed_4 (g6 : Nat → Int32) (g19 : Nat → Int32) (nC : Nat) (i0 : Int32) : Nat → Int32
  | 0 => i0
  | k4 + 1 => (((lf_M_closed_4 g6 g19 nC i0 k4) * (g6 k4)) + (g19 k4))
def mr_M_closed (g6 : Nat → Int32) (g19 : Nat → Int32) (nC : Nat) : Int32 := (lf_M_closed_4 g6 g19 nC 0 nC)
set_option maxHeartbeats 4000000 in
set_option maxRecDepth 100000 in
theorem c_M_closed (l : Launch) (D : va_G) (cl : List vw_C) (hcl : cl[0]? = some (RM, TM, 29)) (a : Nat) (ba : Nat → Nat) (ka : Nat → ClassId) (F : Nat → Int32) (G : Nat → Nat → Int32) {H : Heap} (hP : va_P D cl (mW a ba ka F G) H) (nC : Nat) (h2 : F 2 = nI nC) (hC : nC ≤ 8) : ro_Met l yM_closed wsM_closed ({ frames := 0, cells := 0, slots := 0, locals := 0 } : Room) D cl (mT ka) H [.ref a] (.int (mr_M_closed (G 6) (G 19) nC)) := by
  refine ro_metI (by decide) rfl (Nat.le_of_ble_eq_true rfl) ?_
  intro p e s m args below meth c Q Sx hK ls hl hret
  obtain ⟨hx, hb, hml, hown, hts⟩ := id Sx
  have hl : lv_has ls 3 [(0, .ref a)] := hl
  have f81 := hts _ (List.mem_cons_of_mem _ mfM_81)
  have inM_ : ∀ w ∈ wsM0, w ∈ wsM_closed := fun w h => List.mem_cons_of_mem _ (inM_all w h)
  have f13 := hts _ (List.mem_cons_of_mem _ mfM_13)
  have f54 := hts _ (List.mem_cons_of_mem _ mfM_54)
  refine lv_iconst (v := 0) hx hb dM_closed_0 (by decide) ?_
  refine lv_istore_n (lv' := [(1, .int 0), (0, .ref a)]) hx hb dM_closed_1 rfl hl (by decide) rfl (fun ls hl => ?_)
  refine lv_iconst (v := 0) hx hb dM_closed_2 (by decide) ?_
  refine lv_istore_n (lv' := [(2, .int 0), (1, .int 0), (0, .ref a)]) hx hb dM_closed_3 rfl hl (by decide) rfl (fun ls hl => ?_)
  have loop4 : ∀ (N4 k4 : Nat), k4 ≤ nC → nC - k4 < N4 → ∀ (ls : Array Slot), lv_has ls 3 [(2, .int (nI k4)), (1, .int (lf_M_closed_4 (G 6) (G 19) nC 0 k4)), (0, .ref a)] → W p l e ({ frames := 0, cells := 0, slots := 0, locals := 0 } : Room) s m args below meth c H [] 0 0 Q (F0 m 4 ls []) := by
    intro N4
    induction N4 with
    | zero => intro k4 hk4 hm4; exact absurd hm4 (Nat.not_lt_zero _)
    | succ N4 ih4 =>
      intro k4 hk4 hm4  ls hl
      refine lv_iload_n hx hb dM_closed_4 rfl (lv_at hl 0 rfl) ?_
      refine lv_aload_n hx hb dM_closed_5 rfl (lv_at hl 2 rfl) ?_
      refine va_get (D := D) (ci := 0) (v := .int (F 2)) (C := RM) (T := TM) (N := 29) hx hb hts inM_ hown hK hP 0 rfl hcl 2 (by decide) f81 (fun _ h9 => h9) rfl dM_closed_6 ?_
      refine wt_i h2 ?_
      refine lv_icmp_ge (tgt := 34) hx hb dM_closed_9 (by decide) (fun c9 => ?_) (fun c9 => ?_)
      · have n9 : nC ≤ k4 := (nI_leI (a := nC) (b := k4) (by omega) (by omega)).mp c9
        have hx4 : nC = k4 := by omega
        subst hx4
        refine lv_iload_n hx hb dM_closed_34 rfl (lv_at hl 1 rfl) ?_
        exact hret _ _ _ (by rw [mr_M_closed]) dM_closed_35
      · have n9 : ¬ nC ≤ k4 := fun h9 => c9 ((nI_leI (a := nC) (b := k4) (by omega) (by omega)).mpr h9)
        refine lv_iload_n hx hb dM_closed_12 rfl (lv_at hl 1 rfl) ?_
        refine lv_aload_n hx hb dM_closed_13 rfl (lv_at hl 2 rfl) ?_
        refine va_get (D := D) (ci := 0) (v := .ref (ba 6)) (C := RM) (T := TM) (N := 29) hx hb hts inM_ hown hK hP 0 rfl hcl 6 (by decide) f13 (fun _ h9 => h9) rfl dM_closed_14 ?_
        refine lv_iload_n hx hb dM_closed_17 rfl (lv_at hl 0 rfl) ?_
        have sd18 : k4 < 8 := by omega
        refine wn_iald (f := G 6) hx hb hK hP 1 0 rfl rfl k4 rfl sd18 (by decide) dM_closed_18 ?_
        refine lv_imul hx hb dM_closed_19 ?_
        refine lv_aload_n hx hb dM_closed_20 rfl (lv_at hl 2 rfl) ?_
        refine va_get (D := D) (ci := 0) (v := .ref (ba 19)) (C := RM) (T := TM) (N := 29) hx hb hts inM_ hown hK hP 0 rfl hcl 19 (by decide) f54 (fun _ h9 => h9) rfl dM_closed_21 ?_
        refine lv_iload_n hx hb dM_closed_24 rfl (lv_at hl 0 rfl) ?_
        have sd25 : k4 < 8 := by omega
        refine wn_iald (f := G 19) hx hb hK hP 14 13 rfl rfl k4 rfl sd25 (by decide) dM_closed_25 ?_
        refine lv_iadd hx hb dM_closed_26 ?_
        refine lv_istore_n (lv' := [(1, .int (((lf_M_closed_4 (G 6) (G 19) nC 0 k4) * (G 6 k4)) + (G 19 k4))), (2, .int (nI k4)), (0, .ref a)]) hx hb dM_closed_27 rfl hl (by decide) rfl (fun ls hl => ?_)
        refine lv_iinc (v := nI (k4 + 1)) (lv' := [(2, .int (nI (k4 + 1))), (1, .int (((lf_M_closed_4 (G 6) (G 19) nC 0 k4) * (G 6 k4)) + (G 19 k4))), (0, .ref a)]) hx hb dM_closed_28 hl (k := 1) rfl (by exact ii_1 k4) (by decide) rfl (fun ls hl => ?_)
        refine lv_goto (tgt := 4) hx hb dM_closed_31 (by decide) ?_
        have eb4 : lf_M_closed_4 (G 6) (G 19) nC 0 (k4 + 1) = ((lf_M_closed_4 (G 6) (G 19) nC 0 k4) * (G 6 k4)) + (G 19 k4) := by rw [lf_M_closed_4]
        exact ih4 (k4 + 1) (by omega) (by omega)  ls (by rw [eb4]; exact lv_sub hl [0, 1, 2] rfl)
  exact loop4 _ 0 (Nat.zero_le _) (Nat.lt_succ_self _)  ls (lv_sub hl [0, 1, 2] rfl)
def lf_M_passesLimits_4 (g7 : Nat → Int32) (g8 : Nat → Int32) (g9 : Nat → Int32) (g10 : Nat → Int32) (g11 : Nat → Int32) (g12 : Nat → Int32) (g17 : Nat → Int32) (g18 : Nat → Int32) (g19 : Nat → Int32) (nC : Nat) (nT : Nat) (i0 : Int32) : Nat → Int32
  | 0 => i0
  | k4 + 1 => ((if (lf_M_passesLimits_4 g7 g8 g9 g10 g11 g12 g17 g18 g19 nC nT i0 k4) = 0 then (if (g17 k4) = 0 then 0 else (if (mr_M_boundOf g7 g8 g9 g10 g11 g12 g19 nC nT (nI k4)) ≤ (g18 k4) then 0 else 1)) else 1) : Int32)
def mr_M_passesLimits (g7 : Nat → Int32) (g8 : Nat → Int32) (g9 : Nat → Int32) (g10 : Nat → Int32) (g11 : Nat → Int32) (g12 : Nat → Int32) (g17 : Nat → Int32) (g18 : Nat → Int32) (g19 : Nat → Int32) (nC : Nat) (nT : Nat) : Int32 := (lf_M_passesLimits_4 g7 g8 g9 g10 g11 g12 g17 g18 g19 nC nT 0 4)
set_option maxHeartbeats 4000000 in
set_option maxRecDepth 100000 in
theorem c_M_passesLimits (l : Launch) (D : va_G) (cl : List vw_C) (hcl : cl[0]? = some (RM, TM, 29)) (a : Nat) (ba : Nat → Nat) (ka : Nat → ClassId) (F : Nat → Int32) (G : Nat → Nat → Int32) {H : Heap} (hP : va_P D cl (mW a ba ka F G) H) (nC : Nat) (nT : Nat) (hC : nC ≤ 8) (h3 : F 3 = nI nT) (hT : nT ≤ 100) (h8 : ∀ t, t < nT → ∃ x : Nat, x < nC ∧ G 8 t = nI x) (h10 : ∀ t, t < nT → G 10 t = -1 ∨ ∃ x : Nat, x < nC ∧ G 10 t = nI x) : ro_Met l yM_passesLimits wsM_passesLimits ({ frames := 2, cells := 0, slots := 0, locals := 48 } : Room) D cl (mT ka) H [.ref a] (.int (mr_M_passesLimits (G 7) (G 8) (G 9) (G 10) (G 11) (G 12) (G 17) (G 18) (G 19) nC nT)) := by
  refine ro_metZ (by unfold mr_M_passesLimits; rw [lf_M_passesLimits_4]; repeat' first | refine zb_i ?_ ?_ | exact zb_0 | exact zb_1) (by decide) rfl (Nat.le_of_ble_eq_true rfl) ?_
  intro p e s m args below meth c Q Sx hK ls hl hret
  obtain ⟨hx, hb, hml, hown, hts⟩ := id Sx
  have hl : lv_has ls 3 [(0, .ref a)] := hl
  have f47 := hts _ (List.mem_cons_of_mem _ mfM_47)
  have inM_ : ∀ w ∈ wsM0, w ∈ wsM_passesLimits := fun w h => List.mem_cons_of_mem _ (inM_all w h)
  have f51 := hts _ (List.mem_cons_of_mem _ mfM_51)
  refine lv_iconst (v := 0) hx hb dM_passesLimits_0 (by decide) ?_
  refine lv_istore_n (lv' := [(1, .int 0), (0, .ref a)]) hx hb dM_passesLimits_1 rfl hl (by decide) rfl (fun ls hl => ?_)
  refine lv_iconst (v := 0) hx hb dM_passesLimits_2 (by decide) ?_
  refine lv_istore_n (lv' := [(2, .int 0), (1, .int 0), (0, .ref a)]) hx hb dM_passesLimits_3 rfl hl (by decide) rfl (fun ls hl => ?_)
  have loop4 : ∀ (N4 k4 : Nat), k4 ≤ 4 → 4 - k4 < N4 → ∀ (ls : Array Slot), lv_has ls 3 [(2, .int (nI k4)), (1, .int (lf_M_passesLimits_4 (G 7) (G 8) (G 9) (G 10) (G 11) (G 12) (G 17) (G 18) (G 19) nC nT 0 k4)), (0, .ref a)] → W p l e ({ frames := 2, cells := 0, slots := 0, locals := 48 } : Room) s m args below meth c H [] 0 0 Q (F0 m 4 ls []) := by
    intro N4
    induction N4 with
    | zero => intro k4 hk4 hm4; exact absurd hm4 (Nat.not_lt_zero _)
    | succ N4 ih4 =>
      intro k4 hk4 hm4  ls hl
      refine lv_iload_n hx hb dM_passesLimits_4 rfl (lv_at hl 0 rfl) ?_
      refine lv_iconst (v := 4) hx hb dM_passesLimits_5 (by decide) ?_
      refine lv_icmp_ge (tgt := 48) hx hb dM_passesLimits_6 (by decide) (fun c6 => ?_) (fun c6 => ?_)
      · have n6 : 4 ≤ k4 := (nI_leI (a := 4) (b := k4) (by omega) (by omega)).mp c6
        have hx4 : 4 = k4 := by omega
        subst hx4
        refine lv_iload_n hx hb dM_passesLimits_48 rfl (lv_at hl 1 rfl) ?_
        exact hret _ _ _ (by rw [mr_M_passesLimits]) dM_passesLimits_49
      · have n6 : ¬ 4 ≤ k4 := fun h9 => c6 ((nI_leI (a := 4) (b := k4) (by omega) (by omega)).mpr h9)
        refine lv_iload_n hx hb dM_passesLimits_9 rfl (lv_at hl 1 rfl) ?_
        have j41 : ∀ (ls : Array Slot), lv_has ls 3 [(2, .int (nI k4)), (1, .int (lf_M_passesLimits_4 (G 7) (G 8) (G 9) (G 10) (G 11) (G 12) (G 17) (G 18) (G 19) nC nT 0 k4)), (0, .ref a)] → W p l e ({ frames := 2, cells := 0, slots := 0, locals := 48 } : Room) s m args below meth c H [] 0 0 Q (F0 m 41 ls [.int ((if (lf_M_passesLimits_4 (G 7) (G 8) (G 9) (G 10) (G 11) (G 12) (G 17) (G 18) (G 19) nC nT 0 k4) = 0 then (if (G 17 k4) = 0 then 0 else (if (mr_M_boundOf (G 7) (G 8) (G 9) (G 10) (G 11) (G 12) (G 19) nC nT (nI k4)) ≤ (G 18 k4) then 0 else 1)) else 1) : Int32)]) := by
          intro ls hl
          refine lv_istore_n (lv' := [(1, .int ((if (lf_M_passesLimits_4 (G 7) (G 8) (G 9) (G 10) (G 11) (G 12) (G 17) (G 18) (G 19) nC nT 0 k4) = 0 then (if (G 17 k4) = 0 then 0 else (if (mr_M_boundOf (G 7) (G 8) (G 9) (G 10) (G 11) (G 12) (G 19) nC nT (nI k4)) ≤ (G 18 k4) then 0 else 1)) else 1) : Int32)), (2, .int (nI k4)), (0, .ref a)]) hx hb dM_passesLimits_41 rfl hl (by decide) rfl (fun ls hl => ?_)
          refine lv_iinc (v := nI (k4 + 1)) (lv' := [(2, .int (nI (k4 + 1))), (1, .int ((if (lf_M_passesLimits_4 (G 7) (G 8) (G 9) (G 10) (G 11) (G 12) (G 17) (G 18) (G 19) nC nT 0 k4) = 0 then (if (G 17 k4) = 0 then 0 else (if (mr_M_boundOf (G 7) (G 8) (G 9) (G 10) (G 11) (G 12) (G 19) nC nT (nI k4)) ≤ (G 18 k4) then 0 else 1)) else 1) : Int32)), (0, .ref a)]) hx hb dM_passesLimits_42 hl (k := 1) rfl (by exact ii_1 k4) (by decide) rfl (fun ls hl => ?_)
          refine lv_goto (tgt := 4) hx hb dM_passesLimits_45 (by decide) ?_
          have eb4 : lf_M_passesLimits_4 (G 7) (G 8) (G 9) (G 10) (G 11) (G 12) (G 17) (G 18) (G 19) nC nT 0 (k4 + 1) = ((if (lf_M_passesLimits_4 (G 7) (G 8) (G 9) (G 10) (G 11) (G 12) (G 17) (G 18) (G 19) nC nT 0 k4) = 0 then (if (G 17 k4) = 0 then 0 else (if (mr_M_boundOf (G 7) (G 8) (G 9) (G 10) (G 11) (G 12) (G 19) nC nT (nI k4)) ≤ (G 18 k4) then 0 else 1)) else 1) : Int32) := by rw [lf_M_passesLimits_4]
          exact ih4 (k4 + 1) (by omega) (by omega)  ls (by rw [eb4]; exact lv_sub hl [0, 1, 2] rfl)
        refine lv_if_ne (tgt := 36) hx hb dM_passesLimits_10 (by decide) (fun c10 => ?_) (fun c10 => ?_)
        · refine lv_iconst (v := 1) hx hb dM_passesLimits_36 (by decide) ?_
          refine lv_goto (tgt := 41) hx hb dM_passesLimits_37 (by decide) ?_
          exact wt_i (by rw [if_neg c10]) (j41 ls hl)
        · refine lv_aload_n hx hb dM_passesLimits_13 rfl (lv_at hl 2 rfl) ?_
          refine va_get (D := D) (ci := 0) (v := .ref (ba 17)) (C := RM) (T := TM) (N := 29) hx hb hts inM_ hown hK hP 0 rfl hcl 17 (by decide) f47 (fun _ h9 => h9) rfl dM_passesLimits_14 ?_
          refine lv_iload_n hx hb dM_passesLimits_17 rfl (lv_at hl 0 rfl) ?_
          have sd18 : k4 < 4 := by omega
          refine wn_zald (f := G 17) hx hb hK hP 12 11 rfl rfl k4 rfl sd18 (by decide) dM_passesLimits_18 ?_
          refine lv_if_eq (tgt := 40) hx hb dM_passesLimits_19 (by decide) (fun c19 => ?_) (fun c19 => ?_)
          · refine lv_iconst (v := 0) hx hb dM_passesLimits_40 (by decide) ?_
            exact wt_i (by rw [if_pos c10, if_pos c19]) (j41 ls hl)
          · refine lv_aload_n hx hb dM_passesLimits_22 rfl (lv_at hl 2 rfl) ?_
            refine lv_iload_n hx hb dM_passesLimits_23 rfl (lv_at hl 0 rfl) ?_
            refine ro_callV (r := (.int (mr_M_boundOf (G 7) (G 8) (G 9) (G 10) (G 11) (G 12) (G 19) nC nT (nI k4)))) (As := [.int (nI k4)]) (rest := []) Sx (c_M_boundOf l D cl hcl a ba ka F G hP nC nT (nI k4) hC h3 hT h8 h10) (cwV 1 hts gM_passesLimits_M_boundOf rfl rfl rfl (by decide +kernel) ⟨Nat.le_of_ble_eq_true rfl, Nat.le_of_ble_eq_true rfl⟩) hK (va_recv hK hP (ci := 0) (q0 := 0) hcl rfl) rfl hl.1 rfl (Nat.le_of_ble_eq_true rfl) dM_passesLimits_24 ⟨Nat.zero_le _, Nat.zero_le _⟩ ?_
            refine lv_aload_n hx hb dM_passesLimits_27 rfl (lv_at hl 2 rfl) ?_
            refine va_get (D := D) (ci := 0) (v := .ref (ba 18)) (C := RM) (T := TM) (N := 29) hx hb hts inM_ hown hK hP 0 rfl hcl 18 (by decide) f51 (fun _ h9 => h9) rfl dM_passesLimits_28 ?_
            refine lv_iload_n hx hb dM_passesLimits_31 rfl (lv_at hl 0 rfl) ?_
            have sd32 : k4 < 4 := by omega
            refine wn_iald (f := G 18) hx hb hK hP 13 12 rfl rfl k4 rfl sd32 (by decide) dM_passesLimits_32 ?_
            refine lv_icmp_le (tgt := 40) hx hb dM_passesLimits_33 (by decide) (fun c33 => ?_) (fun c33 => ?_)
            · refine lv_iconst (v := 0) hx hb dM_passesLimits_40 (by decide) ?_
              exact wt_i (by rw [if_pos c10, if_neg c19, if_pos c33]) (j41 ls hl)
            · refine lv_iconst (v := 1) hx hb dM_passesLimits_36 (by decide) ?_
              refine lv_goto (tgt := 41) hx hb dM_passesLimits_37 (by decide) ?_
              exact wt_i (by rw [if_pos c10, if_neg c19, if_neg c33]) (j41 ls hl)
  exact loop4 _ 0 (Nat.zero_le _) (Nat.lt_succ_self _)  ls (lv_sub hl [0, 1, 2] rfl)
def mr_M_isDesign (nD : Nat) (d : Int32) : Int32 := (mr_M_within d 0 ((nI nD) - 1))
theorem wi_ix {c : Int32} {n : Nat} (h : ¬ mr_M_within c 0 (nI n - 1) = 0) (hn : n ≤ 65536) : ∃ j : Nat, j < n ∧ c = nI j := by
  unfold mr_M_within at h
  by_cases h1 : c < 0
  · rw [if_pos h1] at h; exact absurd rfl h
  · rw [if_neg h1] at h
    by_cases h2 : nI n - 1 < c
    · rw [if_pos h2] at h; exact absurd rfl h
    · exact wi_ge h1 h2 hn
theorem wi_nx {c : Int32} {n : Nat} (h : ¬ mr_M_within c 0 (nI n) = 0) (hn : n ≤ 65536) : ∃ j : Nat, j < n + 1 ∧ c = nI j := by
  unfold mr_M_within at h
  by_cases h1 : c < 0
  · rw [if_pos h1] at h; exact absurd rfl h
  · rw [if_neg h1] at h
    by_cases h2 : nI n < c
    · rw [if_pos h2] at h; exact absurd rfl h
    · exact wi_le h1 h2 hn
theorem wd_ix {d : Int32} {nD : Nat} (h : ¬ mr_M_isDesign nD d = 0) (hn : nD ≤ 4096) : ∃ j : Nat, j < nD ∧ d = nI j := wi_ix h (Nat.le_trans hn (by decide))
set_option maxHeartbeats 4000000 in
set_option maxRecDepth 100000 in
theorem c_M_isDesign (l : Launch) (D : va_G) (cl : List vw_C) (hcl : cl[0]? = some (RM, TM, 29)) (a : Nat) (ba : Nat → Nat) (ka : Nat → ClassId) (F : Nat → Int32) (G : Nat → Nat → Int32) {H : Heap} (hP : va_P D cl (mW a ba ka F G) H) (nD : Nat) (d : Int32) (h5 : F 5 = nI nD) : ro_Met l yM_isDesign wsM_isDesign ({ frames := 1, cells := 0, slots := 0, locals := 22 } : Room) D cl (mT ka) H [.ref a, .int d] (.int (mr_M_isDesign nD d)) := by
  refine ro_metZ (by unfold mr_M_isDesign mr_M_within; repeat' first | refine zb_i ?_ ?_ | exact zb_0 | exact zb_1) (by decide) rfl (Nat.le_of_ble_eq_true rfl) ?_
  intro p e s m args below meth c Q Sx hK ls hl hret
  obtain ⟨hx, hb, hml, hown, hts⟩ := id Sx
  have hl : lv_has ls 2 [(0, .ref a), (1, .int d)] := hl
  have f7 := hts _ (List.mem_cons_of_mem _ mfM_7)
  have inM_ : ∀ w ∈ wsM0, w ∈ wsM_isDesign := fun w h => List.mem_cons_of_mem _ (inM_all w h)
  refine lv_iload_n hx hb dM_isDesign_0 rfl (lv_at hl 1 rfl) ?_
  refine lv_iconst (v := 0) hx hb dM_isDesign_1 (by decide) ?_
  refine lv_aload_n hx hb dM_isDesign_2 rfl (lv_at hl 0 rfl) ?_
  refine va_get (D := D) (ci := 0) (v := .int (F 5)) (C := RM) (T := TM) (N := 29) hx hb hts inM_ hown hK hP 0 rfl hcl 5 (by decide) f7 (fun _ h9 => h9) rfl dM_isDesign_3 ?_
  refine wt_i h5 ?_
  refine lv_iconst (v := 1) hx hb dM_isDesign_6 (by decide) ?_
  refine lv_isub hx hb dM_isDesign_7 ?_
  refine ro_callS (r := (.int (mr_M_within d 0 ((nI nD) - 1)))) (As := [.int d, .int 0, .int ((nI nD) - 1)]) (rest := []) Sx (c_M_within l D cl hcl a ba ka F G hP d 0 ((nI nD) - 1)) (va_cwS 3 hts gM_isDesign_M_within rfl rfl rfl (by decide +kernel) ⟨Nat.le_of_ble_eq_true rfl, Nat.le_of_ble_eq_true rfl⟩) hK rfl hl.1 rfl (Nat.le_of_ble_eq_true rfl) dM_isDesign_8 ⟨Nat.zero_le _, Nat.zero_le _⟩ ?_
  exact hret _ _ _ (by rw [mr_M_isDesign]) dM_isDesign_11
def mr_M_isValue (g6 : Nat → Int32) (nC : Nat) (ch : Int32) (v : Int32) : Int32 := ((if (mr_M_within ch 0 ((nI nC) - 1)) = 0 then 0 else (if (mr_M_within v 0 ((g6 ch.toNatClampNeg) - 1)) = 0 then 0 else 1)) : Int32)
set_option maxHeartbeats 4000000 in
set_option maxRecDepth 100000 in
theorem c_M_isValue (l : Launch) (D : va_G) (cl : List vw_C) (hcl : cl[0]? = some (RM, TM, 29)) (a : Nat) (ba : Nat → Nat) (ka : Nat → ClassId) (F : Nat → Int32) (G : Nat → Nat → Int32) {H : Heap} (hP : va_P D cl (mW a ba ka F G) H) (nC : Nat) (ch : Int32) (v : Int32) (h2 : F 2 = nI nC) (hC : nC ≤ 8) : ro_Met l yM_isValue wsM_isValue ({ frames := 1, cells := 0, slots := 0, locals := 22 } : Room) D cl (mT ka) H [.ref a, .int ch, .int v] (.int (mr_M_isValue (G 6) nC ch v)) := by
  refine ro_metZ (by unfold mr_M_isValue; repeat' first | refine zb_i ?_ ?_ | exact zb_0 | exact zb_1) (by decide) rfl (Nat.le_of_ble_eq_true rfl) ?_
  intro p e s m args below meth c Q Sx hK ls hl hret
  obtain ⟨hx, hb, hml, hown, hts⟩ := id Sx
  have hl : lv_has ls 3 [(0, .ref a), (1, .int ch), (2, .int v)] := hl
  have f81 := hts _ (List.mem_cons_of_mem _ mfM_81)
  have inM_ : ∀ w ∈ wsM0, w ∈ wsM_isValue := fun w h => List.mem_cons_of_mem _ (inM_all w h)
  have f13 := hts _ (List.mem_cons_of_mem _ mfM_13)
  refine lv_iload_n hx hb dM_isValue_0 rfl (lv_at hl 1 rfl) ?_
  refine lv_iconst (v := 0) hx hb dM_isValue_1 (by decide) ?_
  refine lv_aload_n hx hb dM_isValue_2 rfl (lv_at hl 0 rfl) ?_
  refine va_get (D := D) (ci := 0) (v := .int (F 2)) (C := RM) (T := TM) (N := 29) hx hb hts inM_ hown hK hP 0 rfl hcl 2 (by decide) f81 (fun _ h9 => h9) rfl dM_isValue_3 ?_
  refine wt_i h2 ?_
  refine lv_iconst (v := 1) hx hb dM_isValue_6 (by decide) ?_
  refine lv_isub hx hb dM_isValue_7 ?_
  refine ro_callS (r := (.int (mr_M_within ch 0 ((nI nC) - 1)))) (As := [.int ch, .int 0, .int ((nI nC) - 1)]) (rest := []) Sx (c_M_within l D cl hcl a ba ka F G hP ch 0 ((nI nC) - 1)) (va_cwS 3 hts gM_isValue_M_within rfl rfl rfl (by decide +kernel) ⟨Nat.le_of_ble_eq_true rfl, Nat.le_of_ble_eq_true rfl⟩) hK rfl hl.1 rfl (Nat.le_of_ble_eq_true rfl) dM_isValue_8 ⟨Nat.zero_le _, Nat.zero_le _⟩ ?_
  have j35 : ∀ (ls : Array Slot), lv_has ls 3 [(0, .ref a), (1, .int ch), (2, .int v)] → W p l e ({ frames := 1, cells := 0, slots := 0, locals := 22 } : Room) s m args below meth c H [] 0 0 Q (F0 m 35 ls [.int ((if (mr_M_within ch 0 ((nI nC) - 1)) = 0 then 0 else (if (mr_M_within v 0 ((G 6 ch.toNatClampNeg) - 1)) = 0 then 0 else 1)) : Int32)]) := by
    intro ls hl
    exact hret _ _ _ (by rw [mr_M_isValue]) dM_isValue_35
  refine lv_if_eq (tgt := 34) hx hb dM_isValue_11 (by decide) (fun c11 => ?_) (fun c11 => ?_)
  · refine lv_iconst (v := 0) hx hb dM_isValue_34 (by decide) ?_
    exact wt_i (by rw [if_pos c11]) (j35 ls hl)
  · have xc := ix_cl (wi_ix c11 (by omega)) (by omega)
    refine lv_iload_n hx hb dM_isValue_14 rfl (lv_at hl 2 rfl) ?_
    refine lv_iconst (v := 0) hx hb dM_isValue_15 (by decide) ?_
    refine lv_aload_n hx hb dM_isValue_16 rfl (lv_at hl 0 rfl) ?_
    refine va_get (D := D) (ci := 0) (v := .ref (ba 6)) (C := RM) (T := TM) (N := 29) hx hb hts inM_ hown hK hP 0 rfl hcl 6 (by decide) f13 (fun _ h9 => h9) rfl dM_isValue_17 ?_
    refine lv_iload_n hx hb dM_isValue_20 rfl (lv_at hl 1 rfl) ?_
    have sd21 : ch.toNatClampNeg < 8 := by have := xc.2; omega
    refine wn_iald (f := G 6) hx hb hK hP 1 0 rfl rfl ch.toNatClampNeg xc.1 sd21 (by decide) dM_isValue_21 ?_
    refine lv_iconst (v := 1) hx hb dM_isValue_22 (by decide) ?_
    refine lv_isub hx hb dM_isValue_23 ?_
    refine ro_callS (r := (.int (mr_M_within v 0 ((G 6 ch.toNatClampNeg) - 1)))) (As := [.int v, .int 0, .int ((G 6 ch.toNatClampNeg) - 1)]) (rest := []) Sx (c_M_within l D cl hcl a ba ka F G hP v 0 ((G 6 ch.toNatClampNeg) - 1)) (va_cwS 3 hts gM_isValue_M_within rfl rfl rfl (by decide +kernel) ⟨Nat.le_of_ble_eq_true rfl, Nat.le_of_ble_eq_true rfl⟩) hK rfl hl.1 rfl (Nat.le_of_ble_eq_true rfl) dM_isValue_24 ⟨Nat.zero_le _, Nat.zero_le _⟩ ?_
    refine lv_if_eq (tgt := 34) hx hb dM_isValue_27 (by decide) (fun c27 => ?_) (fun c27 => ?_)
    · refine lv_iconst (v := 0) hx hb dM_isValue_34 (by decide) ?_
      exact wt_i (by rw [if_neg c11, if_pos c27]) (j35 ls hl)
    · refine lv_iconst (v := 1) hx hb dM_isValue_30 (by decide) ?_
      refine lv_goto (tgt := 35) hx hb dM_isValue_31 (by decide) ?_
      exact wt_i (by rw [if_neg c11, if_neg c27]) (j35 ls hl)
end
section
def lf_M_isBeaten_8 (g28 : Nat → Int32) (d : Nat) (y : Nat) (i0 : Int32) (i1 : Int32) : Nat → Int32 × Int32
  | 0 => (i0, i1)
  | k8 + 1 => (((if ((lf_M_isBeaten_8 g28 d y i0 i1 k8).1) = 0 then (if (g28 ((4 * d) + k8)) ≤ (g28 ((4 * y) + k8)) then 0 else 1) else 1) : Int32), ((if ((lf_M_isBeaten_8 g28 d y i0 i1 k8).2) = 0 then (if (g28 ((4 * y) + k8)) ≤ (g28 ((4 * d) + k8)) then 0 else 1) else 1) : Int32))
def mr_M_isBeaten (g28 : Nat → Int32) (d : Nat) (y : Nat) : Int32 := ((if ((lf_M_isBeaten_8 g28 d y 0 0 4).1) = 0 then 0 else (if ((lf_M_isBeaten_8 g28 d y 0 0 4).2) = 0 then 1 else 0)) : Int32)
set_option maxHeartbeats 4000000 in
set_option maxRecDepth 100000 in
theorem c_M_isBeaten (l : Launch) (D : va_G) (cl : List vw_C) (hcl : cl[0]? = some (RM, TM, 29)) (a : Nat) (ba : Nat → Nat) (ka : Nat → ClassId) (F : Nat → Int32) (G : Nat → Nat → Int32) {H : Heap} (hP : va_P D cl (mW a ba ka F G) H) (d : Nat) (y : Nat) (hd : d < 4096) (hy : y < 4096) : ro_Met l yM_isBeaten wsM_isBeaten ({ frames := 0, cells := 0, slots := 0, locals := 0 } : Room) D cl (mT ka) H [.ref a, .int (nI d), .int (nI y)] (.int (mr_M_isBeaten (G 28) d y)) := by
  refine ro_metZ (by unfold mr_M_isBeaten; repeat' first | refine zb_i ?_ ?_ | exact zb_0 | exact zb_1) (by decide) rfl (Nat.le_of_ble_eq_true rfl) ?_
  intro p e s m args below meth c Q Sx hK ls hl hret
  obtain ⟨hx, hb, hml, hown, hts⟩ := id Sx
  have hl : lv_has ls 6 [(0, .ref a), (1, .int (nI d)), (2, .int (nI y))] := hl
  have f63 := hts _ (List.mem_cons_of_mem _ mfM_63)
  have inM_ : ∀ w ∈ wsM0, w ∈ wsM_isBeaten := fun w h => List.mem_cons_of_mem _ (inM_all w h)
  refine lv_iconst (v := 0) hx hb dM_isBeaten_0 (by decide) ?_
  refine lv_istore_n (lv' := [(3, .int 0), (0, .ref a), (1, .int (nI d)), (2, .int (nI y))]) hx hb dM_isBeaten_1 rfl hl (by decide) rfl (fun ls hl => ?_)
  refine lv_iconst (v := 0) hx hb dM_isBeaten_2 (by decide) ?_
  refine lv_istore (lv' := [(4, .int 0), (3, .int 0), (0, .ref a), (1, .int (nI d)), (2, .int (nI y))]) hx hb dM_isBeaten_3 hl (by decide) rfl (fun ls hl => ?_)
  refine lv_iconst (v := 0) hx hb dM_isBeaten_5 (by decide) ?_
  refine lv_istore (lv' := [(5, .int 0), (4, .int 0), (3, .int 0), (0, .ref a), (1, .int (nI d)), (2, .int (nI y))]) hx hb dM_isBeaten_6 hl (by decide) rfl (fun ls hl => ?_)
  have loop8 : ∀ (N8 k8 : Nat), k8 ≤ 4 → 4 - k8 < N8 → ∀ (ls : Array Slot), lv_has ls 6 [(5, .int (nI k8)), (4, .int ((lf_M_isBeaten_8 (G 28) d y 0 0 k8).2)), (3, .int ((lf_M_isBeaten_8 (G 28) d y 0 0 k8).1)), (0, .ref a), (1, .int (nI d)), (2, .int (nI y))] → W p l e ({ frames := 0, cells := 0, slots := 0, locals := 0 } : Room) s m args below meth c H [] 0 0 Q (F0 m 8 ls []) := by
    intro N8
    induction N8 with
    | zero => intro k8 hk8 hm8; exact absurd hm8 (Nat.not_lt_zero _)
    | succ N8 ih8 =>
      intro k8 hk8 hm8  ls hl
      refine lv_iload hx hb dM_isBeaten_8 (lv_at hl 0 rfl) ?_
      refine lv_iconst (v := 4) hx hb dM_isBeaten_10 (by decide) ?_
      refine lv_icmp_ge (tgt := 92) hx hb dM_isBeaten_11 (by decide) (fun c11 => ?_) (fun c11 => ?_)
      · have n11 : 4 ≤ k8 := (nI_leI (a := 4) (b := k8) (by omega) (by omega)).mp c11
        have hx8 : 4 = k8 := by omega
        subst hx8
        refine lv_iload_n hx hb dM_isBeaten_92 rfl (lv_at hl 2 rfl) ?_
        have j106 : ∀ (ls : Array Slot), lv_has ls 6 [(5, .int (nI 4)), (4, .int ((lf_M_isBeaten_8 (G 28) d y 0 0 4).2)), (3, .int ((lf_M_isBeaten_8 (G 28) d y 0 0 4).1)), (0, .ref a), (1, .int (nI d)), (2, .int (nI y))] → W p l e ({ frames := 0, cells := 0, slots := 0, locals := 0 } : Room) s m args below meth c H [] 0 0 Q (F0 m 106 ls [.int ((if ((lf_M_isBeaten_8 (G 28) d y 0 0 4).1) = 0 then 0 else (if ((lf_M_isBeaten_8 (G 28) d y 0 0 4).2) = 0 then 1 else 0)) : Int32)]) := by
          intro ls hl
          exact hret _ _ _ (by rw [mr_M_isBeaten]) dM_isBeaten_106
        refine lv_if_eq (tgt := 105) hx hb dM_isBeaten_93 (by decide) (fun c93 => ?_) (fun c93 => ?_)
        · refine lv_iconst (v := 0) hx hb dM_isBeaten_105 (by decide) ?_
          exact wt_i (by rw [if_pos c93]) (j106 ls hl)
        · refine lv_iload hx hb dM_isBeaten_96 (lv_at hl 1 rfl) ?_
          refine lv_if_ne (tgt := 105) hx hb dM_isBeaten_98 (by decide) (fun c98 => ?_) (fun c98 => ?_)
          · refine lv_iconst (v := 0) hx hb dM_isBeaten_105 (by decide) ?_
            exact wt_i (by rw [if_neg c93, if_neg c98]) (j106 ls hl)
          · refine lv_iconst (v := 1) hx hb dM_isBeaten_101 (by decide) ?_
            refine lv_goto (tgt := 106) hx hb dM_isBeaten_102 (by decide) ?_
            exact wt_i (by rw [if_neg c93, if_pos c98]) (j106 ls hl)
      · have n11 : ¬ 4 ≤ k8 := fun h9 => c11 ((nI_leI (a := 4) (b := k8) (by omega) (by omega)).mpr h9)
        refine lv_iload_n hx hb dM_isBeaten_14 rfl (lv_at hl 2 rfl) ?_
        have j48 : ∀ (ls : Array Slot), lv_has ls 6 [(5, .int (nI k8)), (4, .int ((lf_M_isBeaten_8 (G 28) d y 0 0 k8).2)), (3, .int ((lf_M_isBeaten_8 (G 28) d y 0 0 k8).1)), (0, .ref a), (1, .int (nI d)), (2, .int (nI y))] → W p l e ({ frames := 0, cells := 0, slots := 0, locals := 0 } : Room) s m args below meth c H [] 0 0 Q (F0 m 48 ls [.int ((if ((lf_M_isBeaten_8 (G 28) d y 0 0 k8).1) = 0 then (if (G 28 ((4 * d) + k8)) ≤ (G 28 ((4 * y) + k8)) then 0 else 1) else 1) : Int32)]) := by
          intro ls hl
          refine lv_istore_n (lv' := [(3, .int ((if ((lf_M_isBeaten_8 (G 28) d y 0 0 k8).1) = 0 then (if (G 28 ((4 * d) + k8)) ≤ (G 28 ((4 * y) + k8)) then 0 else 1) else 1) : Int32)), (5, .int (nI k8)), (4, .int ((lf_M_isBeaten_8 (G 28) d y 0 0 k8).2)), (0, .ref a), (1, .int (nI d)), (2, .int (nI y))]) hx hb dM_isBeaten_48 rfl hl (by decide) rfl (fun ls hl => ?_)
          refine lv_iload hx hb dM_isBeaten_49 (lv_at hl 2 rfl) ?_
          have j84 : ∀ (ls : Array Slot), lv_has ls 6 [(3, .int ((if ((lf_M_isBeaten_8 (G 28) d y 0 0 k8).1) = 0 then (if (G 28 ((4 * d) + k8)) ≤ (G 28 ((4 * y) + k8)) then 0 else 1) else 1) : Int32)), (5, .int (nI k8)), (4, .int ((lf_M_isBeaten_8 (G 28) d y 0 0 k8).2)), (0, .ref a), (1, .int (nI d)), (2, .int (nI y))] → W p l e ({ frames := 0, cells := 0, slots := 0, locals := 0 } : Room) s m args below meth c H [] 0 0 Q (F0 m 84 ls [.int ((if ((lf_M_isBeaten_8 (G 28) d y 0 0 k8).2) = 0 then (if (G 28 ((4 * y) + k8)) ≤ (G 28 ((4 * d) + k8)) then 0 else 1) else 1) : Int32)]) := by
            intro ls hl
            refine lv_istore (lv' := [(4, .int ((if ((lf_M_isBeaten_8 (G 28) d y 0 0 k8).2) = 0 then (if (G 28 ((4 * y) + k8)) ≤ (G 28 ((4 * d) + k8)) then 0 else 1) else 1) : Int32)), (3, .int ((if ((lf_M_isBeaten_8 (G 28) d y 0 0 k8).1) = 0 then (if (G 28 ((4 * d) + k8)) ≤ (G 28 ((4 * y) + k8)) then 0 else 1) else 1) : Int32)), (5, .int (nI k8)), (0, .ref a), (1, .int (nI d)), (2, .int (nI y))]) hx hb dM_isBeaten_84 hl (by decide) rfl (fun ls hl => ?_)
            refine lv_iinc (v := nI (k8 + 1)) (lv' := [(5, .int (nI (k8 + 1))), (4, .int ((if ((lf_M_isBeaten_8 (G 28) d y 0 0 k8).2) = 0 then (if (G 28 ((4 * y) + k8)) ≤ (G 28 ((4 * d) + k8)) then 0 else 1) else 1) : Int32)), (3, .int ((if ((lf_M_isBeaten_8 (G 28) d y 0 0 k8).1) = 0 then (if (G 28 ((4 * d) + k8)) ≤ (G 28 ((4 * y) + k8)) then 0 else 1) else 1) : Int32)), (0, .ref a), (1, .int (nI d)), (2, .int (nI y))]) hx hb dM_isBeaten_86 hl (k := 2) rfl (by exact ii_1 k8) (by decide) rfl (fun ls hl => ?_)
            refine lv_goto (tgt := 8) hx hb dM_isBeaten_89 (by decide) ?_
            have eb8 : lf_M_isBeaten_8 (G 28) d y 0 0 (k8 + 1) = (((if ((lf_M_isBeaten_8 (G 28) d y 0 0 k8).1) = 0 then (if (G 28 ((4 * d) + k8)) ≤ (G 28 ((4 * y) + k8)) then 0 else 1) else 1) : Int32), ((if ((lf_M_isBeaten_8 (G 28) d y 0 0 k8).2) = 0 then (if (G 28 ((4 * y) + k8)) ≤ (G 28 ((4 * d) + k8)) then 0 else 1) else 1) : Int32)) := by rw [lf_M_isBeaten_8]
            exact ih8 (k8 + 1) (by omega) (by omega)  ls (by rw [eb8]; exact lv_sub hl [0, 1, 2, 3, 4, 5] rfl)
          refine lv_if_ne (tgt := 79) hx hb dM_isBeaten_51 (by decide) (fun c51 => ?_) (fun c51 => ?_)
          · refine lv_iconst (v := 1) hx hb dM_isBeaten_79 (by decide) ?_
            refine lv_goto (tgt := 84) hx hb dM_isBeaten_80 (by decide) ?_
            exact wt_i (by rw [if_neg c51]) (j84 ls hl)
          · refine lv_aload_n hx hb dM_isBeaten_54 rfl (lv_at hl 3 rfl) ?_
            refine va_get (D := D) (ci := 0) (v := .ref (ba 28)) (C := RM) (T := TM) (N := 29) hx hb hts inM_ hown hK hP 0 rfl hcl 28 (by decide) f63 (fun _ h9 => h9) rfl dM_isBeaten_55 ?_
            refine lv_iconst (v := 4) hx hb dM_isBeaten_58 (by decide) ?_
            refine lv_iload_n hx hb dM_isBeaten_59 rfl (lv_at hl 5 rfl) ?_
            refine lv_imul hx hb dM_isBeaten_60 ?_
            refine wt_i (r := nI (4 * y)) (by exact pk_mul 4 y) ?_
            refine lv_iload hx hb dM_isBeaten_61 (lv_at hl 1 rfl) ?_
            refine lv_iadd hx hb dM_isBeaten_63 ?_
            refine wt_i (r := nI ((4 * y) + k8)) (by exact nI_add (4 * y) k8) ?_
            have sd64 : ((4 * y) + k8) < 16384 := by omega
            refine wn_iald (f := G 28) hx hb hK hP 16 15 rfl rfl ((4 * y) + k8) rfl sd64 (by decide) dM_isBeaten_64 ?_
            refine lv_aload_n hx hb dM_isBeaten_65 rfl (lv_at hl 3 rfl) ?_
            refine va_get (D := D) (ci := 0) (v := .ref (ba 28)) (C := RM) (T := TM) (N := 29) hx hb hts inM_ hown hK hP 0 rfl hcl 28 (by decide) f63 (fun _ h9 => h9) rfl dM_isBeaten_66 ?_
            refine lv_iconst (v := 4) hx hb dM_isBeaten_69 (by decide) ?_
            refine lv_iload_n hx hb dM_isBeaten_70 rfl (lv_at hl 4 rfl) ?_
            refine lv_imul hx hb dM_isBeaten_71 ?_
            refine wt_i (r := nI (4 * d)) (by exact pk_mul 4 d) ?_
            refine lv_iload hx hb dM_isBeaten_72 (lv_at hl 1 rfl) ?_
            refine lv_iadd hx hb dM_isBeaten_74 ?_
            refine wt_i (r := nI ((4 * d) + k8)) (by exact nI_add (4 * d) k8) ?_
            have sd75 : ((4 * d) + k8) < 16384 := by omega
            refine wn_iald (f := G 28) hx hb hK hP 16 15 rfl rfl ((4 * d) + k8) rfl sd75 (by decide) dM_isBeaten_75 ?_
            refine lv_icmp_le (tgt := 83) hx hb dM_isBeaten_76 (by decide) (fun c76 => ?_) (fun c76 => ?_)
            · refine lv_iconst (v := 0) hx hb dM_isBeaten_83 (by decide) ?_
              exact wt_i (by rw [if_pos c51, if_pos c76]) (j84 ls hl)
            · refine lv_iconst (v := 1) hx hb dM_isBeaten_79 (by decide) ?_
              refine lv_goto (tgt := 84) hx hb dM_isBeaten_80 (by decide) ?_
              exact wt_i (by rw [if_pos c51, if_neg c76]) (j84 ls hl)
        refine lv_if_ne (tgt := 43) hx hb dM_isBeaten_15 (by decide) (fun c15 => ?_) (fun c15 => ?_)
        · refine lv_iconst (v := 1) hx hb dM_isBeaten_43 (by decide) ?_
          refine lv_goto (tgt := 48) hx hb dM_isBeaten_44 (by decide) ?_
          exact wt_i (by rw [if_neg c15]) (j48 ls hl)
        · refine lv_aload_n hx hb dM_isBeaten_18 rfl (lv_at hl 3 rfl) ?_
          refine va_get (D := D) (ci := 0) (v := .ref (ba 28)) (C := RM) (T := TM) (N := 29) hx hb hts inM_ hown hK hP 0 rfl hcl 28 (by decide) f63 (fun _ h9 => h9) rfl dM_isBeaten_19 ?_
          refine lv_iconst (v := 4) hx hb dM_isBeaten_22 (by decide) ?_
          refine lv_iload_n hx hb dM_isBeaten_23 rfl (lv_at hl 5 rfl) ?_
          refine lv_imul hx hb dM_isBeaten_24 ?_
          refine wt_i (r := nI (4 * y)) (by exact pk_mul 4 y) ?_
          refine lv_iload hx hb dM_isBeaten_25 (lv_at hl 0 rfl) ?_
          refine lv_iadd hx hb dM_isBeaten_27 ?_
          refine wt_i (r := nI ((4 * y) + k8)) (by exact nI_add (4 * y) k8) ?_
          have sd28 : ((4 * y) + k8) < 16384 := by omega
          refine wn_iald (f := G 28) hx hb hK hP 16 15 rfl rfl ((4 * y) + k8) rfl sd28 (by decide) dM_isBeaten_28 ?_
          refine lv_aload_n hx hb dM_isBeaten_29 rfl (lv_at hl 3 rfl) ?_
          refine va_get (D := D) (ci := 0) (v := .ref (ba 28)) (C := RM) (T := TM) (N := 29) hx hb hts inM_ hown hK hP 0 rfl hcl 28 (by decide) f63 (fun _ h9 => h9) rfl dM_isBeaten_30 ?_
          refine lv_iconst (v := 4) hx hb dM_isBeaten_33 (by decide) ?_
          refine lv_iload_n hx hb dM_isBeaten_34 rfl (lv_at hl 4 rfl) ?_
          refine lv_imul hx hb dM_isBeaten_35 ?_
          refine wt_i (r := nI (4 * d)) (by exact pk_mul 4 d) ?_
          refine lv_iload hx hb dM_isBeaten_36 (lv_at hl 0 rfl) ?_
          refine lv_iadd hx hb dM_isBeaten_38 ?_
          refine wt_i (r := nI ((4 * d) + k8)) (by exact nI_add (4 * d) k8) ?_
          have sd39 : ((4 * d) + k8) < 16384 := by omega
          refine wn_iald (f := G 28) hx hb hK hP 16 15 rfl rfl ((4 * d) + k8) rfl sd39 (by decide) dM_isBeaten_39 ?_
          refine lv_icmp_ge (tgt := 47) hx hb dM_isBeaten_40 (by decide) (fun c40 => ?_) (fun c40 => ?_)
          · refine lv_iconst (v := 0) hx hb dM_isBeaten_47 (by decide) ?_
            exact wt_i (by rw [if_pos c15, if_pos c40]) (j48 ls hl)
          · refine lv_iconst (v := 1) hx hb dM_isBeaten_43 (by decide) ?_
            refine lv_goto (tgt := 48) hx hb dM_isBeaten_44 (by decide) ?_
            exact wt_i (by rw [if_pos c15, if_neg c40]) (j48 ls hl)
  exact loop8 _ 0 (Nat.zero_le _) (Nat.lt_succ_self _)  ls (lv_sub hl [0, 1, 2, 3, 4, 5] rfl)
def lf_M_isUndominated_13 (g27 : Nat → Int32) (g28 : Nat → Int32) (nD : Nat) (d : Nat) : Nat → Nat → Int32
  | 0, y => 0
  | N + 1, y => (if (nI nD) ≤ (nI y) then 1 else (if (g27 y) = 0 then lf_M_isUndominated_13 g27 g28 nD d N (y + 1) else (if (mr_M_isBeaten g28 d y) = 0 then lf_M_isUndominated_13 g27 g28 nD d N (y + 1) else 0)))
def mr_M_isUndominated (g27 : Nat → Int32) (g28 : Nat → Int32) (nD : Nat) (d : Nat) : Int32 := (if (g27 d) = 0 then 0 else lf_M_isUndominated_13 g27 g28 nD d (nD + 1) 0)
theorem zb_M_und (g27 g28 : Nat → Int32) (nD d : Nat) : ∀ (N y : Nat), narrow .boolean (.int (lf_M_isUndominated_13 g27 g28 nD d N y)) = .int (lf_M_isUndominated_13 g27 g28 nD d N y) := by
  intro N
  induction N with
  | zero => intro y; rw [lf_M_isUndominated_13]; rfl
  | succ N ih => intro y; rw [lf_M_isUndominated_13]; repeat' first | refine zb_i ?_ ?_ | exact zb_0 | exact zb_1 | exact ih _
set_option maxHeartbeats 4000000 in
set_option maxRecDepth 100000 in
theorem c_M_isUndominated (l : Launch) (D : va_G) (cl : List vw_C) (hcl : cl[0]? = some (RM, TM, 29)) (a : Nat) (ba : Nat → Nat) (ka : Nat → ClassId) (F : Nat → Int32) (G : Nat → Nat → Int32) {H : Heap} (hP : va_P D cl (mW a ba ka F G) H) (nD : Nat) (d : Nat) (h5 : F 5 = nI nD) (hN : nD ≤ 4096) (hd : d < nD) : ro_Met l yM_isUndominated wsM_isUndominated ({ frames := 1, cells := 0, slots := 0, locals := 25 } : Room) D cl (mT ka) H [.ref a, .int (nI d)] (.int (mr_M_isUndominated (G 27) (G 28) nD d)) := by
  refine ro_metZ (by unfold mr_M_isUndominated; refine zb_i zb_0 ?_; exact zb_M_und _ _ _ _ _ _) (by decide) rfl (Nat.le_of_ble_eq_true rfl) ?_
  intro p e s m args below meth c Q Sx hK ls hl hret
  obtain ⟨hx, hb, hml, hown, hts⟩ := id Sx
  have hl : lv_has ls 3 [(0, .ref a), (1, .int (nI d))] := hl
  have f60 := hts _ (List.mem_cons_of_mem _ mfM_60)
  have inM_ : ∀ w ∈ wsM0, w ∈ wsM_isUndominated := fun w h => List.mem_cons_of_mem _ (inM_all w h)
  have f7 := hts _ (List.mem_cons_of_mem _ mfM_7)
  refine lv_aload_n hx hb dM_isUndominated_0 rfl (lv_at hl 0 rfl) ?_
  refine va_get (D := D) (ci := 0) (v := .ref (ba 27)) (C := RM) (T := TM) (N := 29) hx hb hts inM_ hown hK hP 0 rfl hcl 27 (by decide) f60 (fun _ h9 => h9) rfl dM_isUndominated_1 ?_
  refine lv_iload_n hx hb dM_isUndominated_4 rfl (lv_at hl 1 rfl) ?_
  have sd5 : d < 4096 := by omega
  refine wn_zald (f := G 27) hx hb hK hP 15 14 rfl rfl d rfl sd5 (by decide) dM_isUndominated_5 ?_
  refine lv_if_ne (tgt := 11) hx hb dM_isUndominated_6 (by decide) (fun c6 => ?_) (fun c6 => ?_)
  · refine lv_iconst (v := 0) hx hb dM_isUndominated_11 (by decide) ?_
    refine lv_istore_n (lv' := [(2, .int 0), (0, .ref a), (1, .int (nI d))]) hx hb dM_isUndominated_12 rfl hl (by decide) rfl (fun ls hl => ?_)
    have loop13 : ∀ (N13 : Nat) (y : Nat), y ≤ nD → nD - y < N13 → lf_M_isUndominated_13 (G 27) (G 28) nD d (nD + 1) 0 = lf_M_isUndominated_13 (G 27) (G 28) nD d N13 y → ∀ (ls : Array Slot), lv_has ls 3 [(2, .int (nI y)), (0, .ref a), (1, .int (nI d))] → W p l e ({ frames := 1, cells := 0, slots := 0, locals := 25 } : Room) s m args below meth c H [] 0 0 Q (F0 m 13 ls []) := by
      intro N13
      induction N13 with
      | zero => intro y hy hm13; exact absurd hm13 (Nat.not_lt_zero _)
      | succ N13 ih13 =>
        intro y hy hm13 hR13 ls hl
        refine lv_iload_n hx hb dM_isUndominated_13 rfl (lv_at hl 0 rfl) ?_
        refine lv_aload_n hx hb dM_isUndominated_14 rfl (lv_at hl 1 rfl) ?_
        refine va_get (D := D) (ci := 0) (v := .int (F 5)) (C := RM) (T := TM) (N := 29) hx hb hts inM_ hown hK hP 0 rfl hcl 5 (by decide) f7 (fun _ h9 => h9) rfl dM_isUndominated_15 ?_
        refine wt_i h5 ?_
        refine lv_icmp_ge (tgt := 47) hx hb dM_isUndominated_18 (by decide) (fun c18 => ?_) (fun c18 => ?_)
        · have n18 : nD ≤ y := (nI_leI (a := nD) (b := y) (by omega) (by omega)).mp c18
          refine lv_iconst (v := 1) hx hb dM_isUndominated_47 (by decide) ?_
          exact hret _ _ _ (by rw [mr_M_isUndominated, if_neg c6, hR13, lf_M_isUndominated_13, if_pos c18]) dM_isUndominated_48
        · have n18 : ¬ nD ≤ y := fun h9 => c18 ((nI_leI (a := nD) (b := y) (by omega) (by omega)).mpr h9)
          refine lv_aload_n hx hb dM_isUndominated_21 rfl (lv_at hl 1 rfl) ?_
          refine va_get (D := D) (ci := 0) (v := .ref (ba 27)) (C := RM) (T := TM) (N := 29) hx hb hts inM_ hown hK hP 0 rfl hcl 27 (by decide) f60 (fun _ h9 => h9) rfl dM_isUndominated_22 ?_
          refine lv_iload_n hx hb dM_isUndominated_25 rfl (lv_at hl 0 rfl) ?_
          have sd26 : y < 4096 := by omega
          refine wn_zald (f := G 27) hx hb hK hP 15 14 rfl rfl y rfl sd26 (by decide) dM_isUndominated_26 ?_
          refine lv_if_eq (tgt := 41) hx hb dM_isUndominated_27 (by decide) (fun c27 => ?_) (fun c27 => ?_)
          · refine lv_iinc (v := nI (y + 1)) (lv' := [(2, .int (nI (y + 1))), (0, .ref a), (1, .int (nI d))]) hx hb dM_isUndominated_41 hl (k := 0) rfl (by exact ii_1 y) (by decide) rfl (fun ls hl => ?_)
            refine lv_goto (tgt := 13) hx hb dM_isUndominated_44 (by decide) ?_
            have er13 : lf_M_isUndominated_13 (G 27) (G 28) nD d (N13 + 1) y = lf_M_isUndominated_13 (G 27) (G 28) nD d N13 (y + 1) := by rw [lf_M_isUndominated_13, if_neg c18, if_pos c27]
            exact ih13 (y + 1) (by omega) (by omega) (hR13.trans er13) ls (lv_sub hl [0, 1, 2] rfl)
          · refine lv_aload_n hx hb dM_isUndominated_30 rfl (lv_at hl 1 rfl) ?_
            refine lv_iload_n hx hb dM_isUndominated_31 rfl (lv_at hl 2 rfl) ?_
            refine lv_iload_n hx hb dM_isUndominated_32 rfl (lv_at hl 0 rfl) ?_
            refine ro_callV (r := (.int (mr_M_isBeaten (G 28) d y))) (As := [.int (nI d), .int (nI y)]) (rest := []) Sx (c_M_isBeaten l D cl hcl a ba ka F G hP d y (by omega) (by omega)) (cwV 2 hts gM_isUndominated_M_isBeaten rfl rfl rfl (by decide +kernel) ⟨Nat.le_of_ble_eq_true rfl, Nat.le_of_ble_eq_true rfl⟩) hK (va_recv hK hP (ci := 0) (q0 := 0) hcl rfl) rfl hl.1 rfl (Nat.le_of_ble_eq_true rfl) dM_isUndominated_33 ⟨Nat.zero_le _, Nat.zero_le _⟩ ?_
            refine lv_if_eq (tgt := 41) hx hb dM_isUndominated_36 (by decide) (fun c36 => ?_) (fun c36 => ?_)
            · refine lv_iinc (v := nI (y + 1)) (lv' := [(2, .int (nI (y + 1))), (0, .ref a), (1, .int (nI d))]) hx hb dM_isUndominated_41 hl (k := 0) rfl (by exact ii_1 y) (by decide) rfl (fun ls hl => ?_)
              refine lv_goto (tgt := 13) hx hb dM_isUndominated_44 (by decide) ?_
              have er13 : lf_M_isUndominated_13 (G 27) (G 28) nD d (N13 + 1) y = lf_M_isUndominated_13 (G 27) (G 28) nD d N13 (y + 1) := by rw [lf_M_isUndominated_13, if_neg c18, if_neg c27, if_pos c36]
              exact ih13 (y + 1) (by omega) (by omega) (hR13.trans er13) ls (lv_sub hl [0, 1, 2] rfl)
            · refine lv_iconst (v := 0) hx hb dM_isUndominated_39 (by decide) ?_
              exact hret _ _ _ (by rw [mr_M_isUndominated, if_neg c6, hR13, lf_M_isUndominated_13, if_neg c18, if_neg c27, if_neg c36]) dM_isUndominated_40
    exact loop13 (nD + 1) 0 (by omega) (by omega) rfl ls (lv_sub hl [0, 1, 2] rfl)
  · refine lv_iconst (v := 0) hx hb dM_isUndominated_9 (by decide) ?_
    exact hret _ _ _ (by rw [mr_M_isUndominated, if_pos c6]) dM_isUndominated_10
def lf_M_nears_4 (g6 : Nat → Int32) (nC : Nat) (i0 : Int32) : Nat → Int32
  | 0 => i0
  | k4 + 1 => ((lf_M_nears_4 g6 nC i0 k4) + ((g6 k4) - 1))
def mr_M_nears (g6 : Nat → Int32) (nC : Nat) : Int32 := (lf_M_nears_4 g6 nC 0 nC)
set_option maxHeartbeats 4000000 in
set_option maxRecDepth 100000 in
theorem c_M_nears (l : Launch) (D : va_G) (cl : List vw_C) (hcl : cl[0]? = some (RM, TM, 29)) (a : Nat) (ba : Nat → Nat) (ka : Nat → ClassId) (F : Nat → Int32) (G : Nat → Nat → Int32) {H : Heap} (hP : va_P D cl (mW a ba ka F G) H) (nC : Nat) (h2 : F 2 = nI nC) (hC : nC ≤ 8) : ro_Met l yM_nears wsM_nears ({ frames := 0, cells := 0, slots := 0, locals := 0 } : Room) D cl (mT ka) H [.ref a] (.int (mr_M_nears (G 6) nC)) := by
  refine ro_metI (by decide) rfl (Nat.le_of_ble_eq_true rfl) ?_
  intro p e s m args below meth c Q Sx hK ls hl hret
  obtain ⟨hx, hb, hml, hown, hts⟩ := id Sx
  have hl : lv_has ls 3 [(0, .ref a)] := hl
  have f81 := hts _ (List.mem_cons_of_mem _ mfM_81)
  have inM_ : ∀ w ∈ wsM0, w ∈ wsM_nears := fun w h => List.mem_cons_of_mem _ (inM_all w h)
  have f13 := hts _ (List.mem_cons_of_mem _ mfM_13)
  refine lv_iconst (v := 0) hx hb dM_nears_0 (by decide) ?_
  refine lv_istore_n (lv' := [(1, .int 0), (0, .ref a)]) hx hb dM_nears_1 rfl hl (by decide) rfl (fun ls hl => ?_)
  refine lv_iconst (v := 0) hx hb dM_nears_2 (by decide) ?_
  refine lv_istore_n (lv' := [(2, .int 0), (1, .int 0), (0, .ref a)]) hx hb dM_nears_3 rfl hl (by decide) rfl (fun ls hl => ?_)
  have loop4 : ∀ (N4 k4 : Nat), k4 ≤ nC → nC - k4 < N4 → ∀ (ls : Array Slot), lv_has ls 3 [(2, .int (nI k4)), (1, .int (lf_M_nears_4 (G 6) nC 0 k4)), (0, .ref a)] → W p l e ({ frames := 0, cells := 0, slots := 0, locals := 0 } : Room) s m args below meth c H [] 0 0 Q (F0 m 4 ls []) := by
    intro N4
    induction N4 with
    | zero => intro k4 hk4 hm4; exact absurd hm4 (Nat.not_lt_zero _)
    | succ N4 ih4 =>
      intro k4 hk4 hm4  ls hl
      refine lv_iload_n hx hb dM_nears_4 rfl (lv_at hl 0 rfl) ?_
      refine lv_aload_n hx hb dM_nears_5 rfl (lv_at hl 2 rfl) ?_
      refine va_get (D := D) (ci := 0) (v := .int (F 2)) (C := RM) (T := TM) (N := 29) hx hb hts inM_ hown hK hP 0 rfl hcl 2 (by decide) f81 (fun _ h9 => h9) rfl dM_nears_6 ?_
      refine wt_i h2 ?_
      refine lv_icmp_ge (tgt := 29) hx hb dM_nears_9 (by decide) (fun c9 => ?_) (fun c9 => ?_)
      · have n9 : nC ≤ k4 := (nI_leI (a := nC) (b := k4) (by omega) (by omega)).mp c9
        have hx4 : nC = k4 := by omega
        subst hx4
        refine lv_iload_n hx hb dM_nears_29 rfl (lv_at hl 1 rfl) ?_
        exact hret _ _ _ (by rw [mr_M_nears]) dM_nears_30
      · have n9 : ¬ nC ≤ k4 := fun h9 => c9 ((nI_leI (a := nC) (b := k4) (by omega) (by omega)).mpr h9)
        refine lv_iload_n hx hb dM_nears_12 rfl (lv_at hl 1 rfl) ?_
        refine lv_aload_n hx hb dM_nears_13 rfl (lv_at hl 2 rfl) ?_
        refine va_get (D := D) (ci := 0) (v := .ref (ba 6)) (C := RM) (T := TM) (N := 29) hx hb hts inM_ hown hK hP 0 rfl hcl 6 (by decide) f13 (fun _ h9 => h9) rfl dM_nears_14 ?_
        refine lv_iload_n hx hb dM_nears_17 rfl (lv_at hl 0 rfl) ?_
        have sd18 : k4 < 8 := by omega
        refine wn_iald (f := G 6) hx hb hK hP 1 0 rfl rfl k4 rfl sd18 (by decide) dM_nears_18 ?_
        refine lv_iconst (v := 1) hx hb dM_nears_19 (by decide) ?_
        refine lv_isub hx hb dM_nears_20 ?_
        refine lv_iadd hx hb dM_nears_21 ?_
        refine lv_istore_n (lv' := [(1, .int ((lf_M_nears_4 (G 6) nC 0 k4) + ((G 6 k4) - 1))), (2, .int (nI k4)), (0, .ref a)]) hx hb dM_nears_22 rfl hl (by decide) rfl (fun ls hl => ?_)
        refine lv_iinc (v := nI (k4 + 1)) (lv' := [(2, .int (nI (k4 + 1))), (1, .int ((lf_M_nears_4 (G 6) nC 0 k4) + ((G 6 k4) - 1))), (0, .ref a)]) hx hb dM_nears_23 hl (k := 1) rfl (by exact ii_1 k4) (by decide) rfl (fun ls hl => ?_)
        refine lv_goto (tgt := 4) hx hb dM_nears_26 (by decide) ?_
        have eb4 : lf_M_nears_4 (G 6) nC 0 (k4 + 1) = (lf_M_nears_4 (G 6) nC 0 k4) + ((G 6 k4) - 1) := by rw [lf_M_nears_4]
        exact ih4 (k4 + 1) (by omega) (by omega)  ls (by rw [eb4]; exact lv_sub hl [0, 1, 2] rfl)
  exact loop4 _ 0 (Nat.zero_le _) (Nat.lt_succ_self _)  ls (lv_sub hl [0, 1, 2] rfl)
def mr_M_cost (g28 : Nat → Int32) (d : Nat) : Int64 := (((((g28 (4 * d)).toInt64) + ((g28 ((4 * d) + 1)).toInt64)) + ((g28 ((4 * d) + 2)).toInt64)) + ((g28 ((4 * d) + 3)).toInt64))
set_option maxHeartbeats 4000000 in
set_option maxRecDepth 100000 in
theorem c_M_cost (l : Launch) (D : va_G) (cl : List vw_C) (hcl : cl[0]? = some (RM, TM, 29)) (a : Nat) (ba : Nat → Nat) (ka : Nat → ClassId) (F : Nat → Int32) (G : Nat → Nat → Int32) {H : Heap} (hP : va_P D cl (mW a ba ka F G) H) (d : Nat) (hd : d < 4096) : ro_Met l yM_cost wsM_cost ({ frames := 0, cells := 0, slots := 0, locals := 0 } : Room) D cl (mT ka) H [.ref a, .int (nI d)] (.long (mr_M_cost (G 28) d)) := by
  refine ro_metJ (by decide) rfl (Nat.le_of_ble_eq_true rfl) ?_
  intro p e s m args below meth c Q Sx hK ls hl hret
  obtain ⟨hx, hb, hml, hown, hts⟩ := id Sx
  have hl : lv_has ls 2 [(0, .ref a), (1, .int (nI d))] := hl
  have f63 := hts _ (List.mem_cons_of_mem _ mfM_63)
  have inM_ : ∀ w ∈ wsM0, w ∈ wsM_cost := fun w h => List.mem_cons_of_mem _ (inM_all w h)
  refine lv_aload_n hx hb dM_cost_0 rfl (lv_at hl 0 rfl) ?_
  refine va_get (D := D) (ci := 0) (v := .ref (ba 28)) (C := RM) (T := TM) (N := 29) hx hb hts inM_ hown hK hP 0 rfl hcl 28 (by decide) f63 (fun _ h9 => h9) rfl dM_cost_1 ?_
  refine lv_iconst (v := 4) hx hb dM_cost_4 (by decide) ?_
  refine lv_iload_n hx hb dM_cost_5 rfl (lv_at hl 1 rfl) ?_
  refine lv_imul hx hb dM_cost_6 ?_
  refine wt_i (r := nI (4 * d)) (by exact pk_mul 4 d) ?_
  have sd7 : (4 * d) < 16384 := by omega
  refine wn_iald (f := G 28) hx hb hK hP 16 15 rfl rfl (4 * d) rfl sd7 (by decide) dM_cost_7 ?_
  refine lv_i2l hx hb dM_cost_8 rfl ?_
  refine lv_aload_n hx hb dM_cost_9 rfl (lv_at hl 0 rfl) ?_
  refine va_get (D := D) (ci := 0) (v := .ref (ba 28)) (C := RM) (T := TM) (N := 29) hx hb hts inM_ hown hK hP 0 rfl hcl 28 (by decide) f63 (fun _ h9 => h9) rfl dM_cost_10 ?_
  refine lv_iconst (v := 4) hx hb dM_cost_13 (by decide) ?_
  refine lv_iload_n hx hb dM_cost_14 rfl (lv_at hl 1 rfl) ?_
  refine lv_imul hx hb dM_cost_15 ?_
  refine wt_i (r := nI (4 * d)) (by exact pk_mul 4 d) ?_
  refine lv_iconst (v := 1) hx hb dM_cost_16 (by decide) ?_
  refine lv_iadd hx hb dM_cost_17 ?_
  refine wt_i (r := nI ((4 * d) + 1)) (by exact nI_add (4 * d) 1) ?_
  have sd18 : ((4 * d) + 1) < 16384 := by omega
  refine wn_iald (f := G 28) hx hb hK hP 16 15 rfl rfl ((4 * d) + 1) rfl sd18 (by decide) dM_cost_18 ?_
  refine lv_i2l hx hb dM_cost_19 rfl ?_
  refine lv_ladd hx hb dM_cost_20 ?_
  refine lv_aload_n hx hb dM_cost_21 rfl (lv_at hl 0 rfl) ?_
  refine va_get (D := D) (ci := 0) (v := .ref (ba 28)) (C := RM) (T := TM) (N := 29) hx hb hts inM_ hown hK hP 0 rfl hcl 28 (by decide) f63 (fun _ h9 => h9) rfl dM_cost_22 ?_
  refine lv_iconst (v := 4) hx hb dM_cost_25 (by decide) ?_
  refine lv_iload_n hx hb dM_cost_26 rfl (lv_at hl 1 rfl) ?_
  refine lv_imul hx hb dM_cost_27 ?_
  refine wt_i (r := nI (4 * d)) (by exact pk_mul 4 d) ?_
  refine lv_iconst (v := 2) hx hb dM_cost_28 (by decide) ?_
  refine lv_iadd hx hb dM_cost_29 ?_
  refine wt_i (r := nI ((4 * d) + 2)) (by exact nI_add (4 * d) 2) ?_
  have sd30 : ((4 * d) + 2) < 16384 := by omega
  refine wn_iald (f := G 28) hx hb hK hP 16 15 rfl rfl ((4 * d) + 2) rfl sd30 (by decide) dM_cost_30 ?_
  refine lv_i2l hx hb dM_cost_31 rfl ?_
  refine lv_ladd hx hb dM_cost_32 ?_
  refine lv_aload_n hx hb dM_cost_33 rfl (lv_at hl 0 rfl) ?_
  refine va_get (D := D) (ci := 0) (v := .ref (ba 28)) (C := RM) (T := TM) (N := 29) hx hb hts inM_ hown hK hP 0 rfl hcl 28 (by decide) f63 (fun _ h9 => h9) rfl dM_cost_34 ?_
  refine lv_iconst (v := 4) hx hb dM_cost_37 (by decide) ?_
  refine lv_iload_n hx hb dM_cost_38 rfl (lv_at hl 1 rfl) ?_
  refine lv_imul hx hb dM_cost_39 ?_
  refine wt_i (r := nI (4 * d)) (by exact pk_mul 4 d) ?_
  refine lv_iconst (v := 3) hx hb dM_cost_40 (by decide) ?_
  refine lv_iadd hx hb dM_cost_41 ?_
  refine wt_i (r := nI ((4 * d) + 3)) (by exact nI_add (4 * d) 3) ?_
  have sd42 : ((4 * d) + 3) < 16384 := by omega
  refine wn_iald (f := G 28) hx hb hK hP 16 15 rfl rfl ((4 * d) + 3) rfl sd42 (by decide) dM_cost_42 ?_
  refine lv_i2l hx hb dM_cost_43 rfl ?_
  refine lv_ladd hx hb dM_cost_44 ?_
  exact hret _ _ _ (by rw [mr_M_cost]) dM_cost_45
def mr_M_looked (f20 : Int32) : Int32 × Int32 := (f20, 0)
set_option maxHeartbeats 4000000 in
set_option maxRecDepth 100000 in
theorem c_M_looked (l : Launch) (D : va_G) (cl : List vw_C) (hcl : cl[0]? = some (RM, TM, 29)) (a : Nat) (ba : Nat → Nat) (ka : Nat → ClassId) (F : Nat → Int32) (G : Nat → Nat → Int32) {H0 : Heap} (hP : va_P D cl (mW a ba ka F G) H0) (hD : va_D (fun _ => True) (mW a ba ka F G)) : ww_Met l yM_looked wsM_looked ({ frames := 0, cells := 0, slots := 0, locals := 0 } : Room) D cl (mT ka) H0 [.ref a] (mW a ba ka F G) (some (.int ((mr_M_looked (F 20)).1))) (mW a ba ka (upd F 0 ((mr_M_looked (F 20)).2)) G) := by
  refine ww_metI (by decide) rfl (Nat.le_of_ble_eq_true rfl) hP hD ?_
  intro p e s m args below meth c Q A Sx hK hP hD hS hA ls hl hret
  obtain ⟨hx, hb, hml, hown, hts⟩ := id Sx
  have hl : lv_has ls 1 [(0, .ref a)] := hl
  obtain ⟨H, eH⟩ : ∃ H : Heap, H = H0 := ⟨_, rfl⟩
  obtain ⟨locs, eL⟩ : ∃ L : List Loc, L = [] := ⟨_, rfl⟩
  have hP : va_P D cl (mW a ba ka F G) H := by rw [eH]; exact hP
  have hS : va_S A H0 H locs := by rw [eH, eL]; exact hS
  rw [show W p l e ({ frames := 0, cells := 0, slots := 0, locals := 0 } : Room) s m args below meth c H0 [] 0 0 Q (F0 m 0 ls []) = W p l e ({ frames := 0, cells := 0, slots := 0, locals := 0 } : Room) s m args below meth c H locs 0 0 Q (F0 m 0 ls []) by rw [eH, eL]]
  clear eH eL
  have f70 := hts _ (List.mem_cons_of_mem _ mfM_70)
  have inM_ : ∀ w ∈ wsM0, w ∈ wsM_looked := fun w h => List.mem_cons_of_mem _ (inM_all w h)
  have f136 := hts _ (List.mem_cons_of_mem _ mfM_136)
  refine lv_aload_n hx hb dM_looked_0 rfl (lv_at hl 0 rfl) ?_
  refine lv_iconst (v := 0) hx hb dM_looked_1 (by decide) ?_
  refine va_put (D := D) (ci := 0) (fs := mWl0 ba F) (v := .int 0) (ty := .int) (C := RM) (T := TM) (N := 29) hx hb hts inM_ tyM tyM_ok nmM hown hK hP hD hS 0 rfl hcl 0 (by decide) f70 (fun _ h9 => h9) rfl (by decide +kernel) rfl rfl (Nat.le_of_ble_eq_true rfl) dM_looked_2 (fun H locs hP hD hS => ?_)
  rw [mW_f0] at hP hD
  refine lv_aload_n hx hb dM_looked_5 rfl (lv_at hl 0 rfl) ?_
  refine va_get (D := D) (ci := 0) (v := .int (F 20)) (C := RM) (T := TM) (N := 29) hx hb hts inM_ hown hK hP 0 rfl hcl 20 (by decide) f136 (fun _ h9 => h9) rfl dM_looked_6 ?_
  have em : mr_M_looked (F 20) = (F 20, 0) := by rw [mr_M_looked]
  exact hret _ _ _ _ _ _ (by simp only [em]) (by simp only [em]) hP hD hS dM_looked_9
def mr_M_lowest (f22 : Int32) : Int32 × Int32 := (f22, 0)
set_option maxHeartbeats 4000000 in
set_option maxRecDepth 100000 in
theorem c_M_lowest (l : Launch) (D : va_G) (cl : List vw_C) (hcl : cl[0]? = some (RM, TM, 29)) (a : Nat) (ba : Nat → Nat) (ka : Nat → ClassId) (F : Nat → Int32) (G : Nat → Nat → Int32) {H0 : Heap} (hP : va_P D cl (mW a ba ka F G) H0) (hD : va_D (fun _ => True) (mW a ba ka F G)) : ww_Met l yM_lowest wsM_lowest ({ frames := 0, cells := 0, slots := 0, locals := 0 } : Room) D cl (mT ka) H0 [.ref a] (mW a ba ka F G) (some (.int ((mr_M_lowest (F 22)).1))) (mW a ba ka (upd F 0 ((mr_M_lowest (F 22)).2)) G) := by
  refine ww_metI (by decide) rfl (Nat.le_of_ble_eq_true rfl) hP hD ?_
  intro p e s m args below meth c Q A Sx hK hP hD hS hA ls hl hret
  obtain ⟨hx, hb, hml, hown, hts⟩ := id Sx
  have hl : lv_has ls 1 [(0, .ref a)] := hl
  obtain ⟨H, eH⟩ : ∃ H : Heap, H = H0 := ⟨_, rfl⟩
  obtain ⟨locs, eL⟩ : ∃ L : List Loc, L = [] := ⟨_, rfl⟩
  have hP : va_P D cl (mW a ba ka F G) H := by rw [eH]; exact hP
  have hS : va_S A H0 H locs := by rw [eH, eL]; exact hS
  rw [show W p l e ({ frames := 0, cells := 0, slots := 0, locals := 0 } : Room) s m args below meth c H0 [] 0 0 Q (F0 m 0 ls []) = W p l e ({ frames := 0, cells := 0, slots := 0, locals := 0 } : Room) s m args below meth c H locs 0 0 Q (F0 m 0 ls []) by rw [eH, eL]]
  clear eH eL
  have f70 := hts _ (List.mem_cons_of_mem _ mfM_70)
  have inM_ : ∀ w ∈ wsM0, w ∈ wsM_lowest := fun w h => List.mem_cons_of_mem _ (inM_all w h)
  have f57 := hts _ (List.mem_cons_of_mem _ mfM_57)
  refine lv_aload_n hx hb dM_lowest_0 rfl (lv_at hl 0 rfl) ?_
  refine lv_iconst (v := 0) hx hb dM_lowest_1 (by decide) ?_
  refine va_put (D := D) (ci := 0) (fs := mWl0 ba F) (v := .int 0) (ty := .int) (C := RM) (T := TM) (N := 29) hx hb hts inM_ tyM tyM_ok nmM hown hK hP hD hS 0 rfl hcl 0 (by decide) f70 (fun _ h9 => h9) rfl (by decide +kernel) rfl rfl (Nat.le_of_ble_eq_true rfl) dM_lowest_2 (fun H locs hP hD hS => ?_)
  rw [mW_f0] at hP hD
  refine lv_aload_n hx hb dM_lowest_5 rfl (lv_at hl 0 rfl) ?_
  refine va_get (D := D) (ci := 0) (v := .int (F 22)) (C := RM) (T := TM) (N := 29) hx hb hts inM_ hown hK hP 0 rfl hcl 22 (by decide) f57 (fun _ h9 => h9) rfl dM_lowest_6 ?_
  have em : mr_M_lowest (F 22) = (F 22, 0) := by rw [mr_M_lowest]
  exact hret _ _ _ _ _ _ (by simp only [em]) (by simp only [em]) hP hD hS dM_lowest_9
def mr_M_slack (f21 : Int32) (x : Int32) : Int32 × Int32 × Int32 := (if 0 ≤ x then (f21, 0, x) else ((mr_M_fail 1).1, (mr_M_fail 1).2, f21))
set_option maxHeartbeats 4000000 in
set_option maxRecDepth 100000 in
theorem c_M_slack (l : Launch) (D : va_G) (cl : List vw_C) (hcl : cl[0]? = some (RM, TM, 29)) (a : Nat) (ba : Nat → Nat) (ka : Nat → ClassId) (F : Nat → Int32) (G : Nat → Nat → Int32) {H0 : Heap} (hP : va_P D cl (mW a ba ka F G) H0) (hD : va_D (fun _ => True) (mW a ba ka F G)) (x : Int32) : ww_Met l yM_slack wsM_slack ({ frames := 1, cells := 0, slots := 0, locals := 21 } : Room) D cl (mT ka) H0 [.ref a, .int x] (mW a ba ka F G) (some (.int ((mr_M_slack (F 21) x).1))) (mW a ba ka (upd (upd F 0 ((mr_M_slack (F 21) x).2.1)) 21 ((mr_M_slack (F 21) x).2.2)) G) := by
  refine ww_metI (by decide) rfl (Nat.le_of_ble_eq_true rfl) hP hD ?_
  intro p e s m args below meth c Q A Sx hK hP hD hS hA ls hl hret
  obtain ⟨hx, hb, hml, hown, hts⟩ := id Sx
  have hl : lv_has ls 3 [(0, .ref a), (1, .int x)] := hl
  obtain ⟨H, eH⟩ : ∃ H : Heap, H = H0 := ⟨_, rfl⟩
  obtain ⟨locs, eL⟩ : ∃ L : List Loc, L = [] := ⟨_, rfl⟩
  have hP : va_P D cl (mW a ba ka F G) H := by rw [eH]; exact hP
  have hS : va_S A H0 H locs := by rw [eH, eL]; exact hS
  rw [show W p l e ({ frames := 1, cells := 0, slots := 0, locals := 21 } : Room) s m args below meth c H0 [] 0 0 Q (F0 m 0 ls []) = W p l e ({ frames := 1, cells := 0, slots := 0, locals := 21 } : Room) s m args below meth c H locs 0 0 Q (F0 m 0 ls []) by rw [eH, eL]]
  clear eH eL
  have f70 := hts _ (List.mem_cons_of_mem _ mfM_70)
  have inM_ : ∀ w ∈ wsM0, w ∈ wsM_slack := fun w h => List.mem_cons_of_mem _ (inM_all w h)
  have f153 := hts _ (List.mem_cons_of_mem _ mfM_153)
  refine lv_aload_n hx hb dM_slack_0 rfl (lv_at hl 0 rfl) ?_
  refine lv_iconst (v := 0) hx hb dM_slack_1 (by decide) ?_
  refine va_put (D := D) (ci := 0) (fs := mWl0 ba F) (v := .int 0) (ty := .int) (C := RM) (T := TM) (N := 29) hx hb hts inM_ tyM tyM_ok nmM hown hK hP hD hS 0 rfl hcl 0 (by decide) f70 (fun _ h9 => h9) rfl (by decide +kernel) rfl rfl (Nat.le_of_ble_eq_true rfl) dM_slack_2 (fun H locs hP hD hS => ?_)
  rw [mW_f0] at hP hD
  refine lv_iload_n hx hb dM_slack_5 rfl (lv_at hl 1 rfl) ?_
  refine lv_if_ge (tgt := 15) hx hb dM_slack_6 (by decide) (fun c6 => ?_) (fun c6 => ?_)
  · refine lv_aload_n hx hb dM_slack_15 rfl (lv_at hl 0 rfl) ?_
    refine va_get (D := D) (ci := 0) (v := .int (F 21)) (C := RM) (T := TM) (N := 29) hx hb hts inM_ hown hK hP 0 rfl hcl 21 (by decide) f153 (fun _ h9 => h9) rfl dM_slack_16 ?_
    refine lv_istore_n (lv' := [(2, .int (F 21)), (0, .ref a), (1, .int x)]) hx hb dM_slack_19 rfl hl (by decide) rfl (fun ls hl => ?_)
    refine lv_aload_n hx hb dM_slack_20 rfl (lv_at hl 1 rfl) ?_
    refine lv_iload_n hx hb dM_slack_21 rfl (lv_at hl 2 rfl) ?_
    refine va_put (D := D) (ci := 0) (fs := mWl0 ba (upd F 0 0)) (v := .int x) (ty := .int) (C := RM) (T := TM) (N := 29) hx hb hts inM_ tyM tyM_ok nmM hown hK hP hD hS 0 rfl hcl 21 (by decide) f153 (fun _ h9 => h9) rfl (by decide +kernel) rfl rfl (Nat.le_of_ble_eq_true rfl) dM_slack_22 (fun H locs hP hD hS => ?_)
    rw [mW_f21] at hP hD
    refine lv_iload_n hx hb dM_slack_25 rfl (lv_at hl 0 rfl) ?_
    have em : mr_M_slack (F 21) x = (F 21, 0, x) := by rw [mr_M_slack, if_pos c6]
    exact hret _ _ _ _ _ _ (by simp only [em]) (by simp only [em]) hP hD hS dM_slack_26
  · refine lv_aload_n hx hb dM_slack_9 rfl (lv_at hl 0 rfl) ?_
    refine lv_iconst (v := 1) hx hb dM_slack_10 (by decide) ?_
    refine ww_callV (r := (some (.int ((mr_M_fail 1).1)))) (w' := mW a ba ka (upd (upd F 0 0) 0 ((mr_M_fail 1).2)) G) (As := [.int 1]) (rest := []) Sx (c_M_fail l D cl hcl a ba ka (upd F 0 0) G hP (hD.weaken (fun _ _ _ _ => trivial)) 1) (cwV 1 hts gM_slack_M_fail rfl rfl rfl (by decide +kernel) ⟨Nat.le_of_ble_eq_true rfl, Nat.le_of_ble_eq_true rfl⟩) hK (va_recv hK hP (ci := 0) (q0 := 0) hcl rfl) rfl hl.1 rfl (Nat.le_of_ble_eq_true rfl) dM_slack_11 ⟨Nat.zero_le _, Nat.zero_le _⟩ hD hS hA (fun H locs hP hD hS => ?_)
    rw [upd_ow] at hP hD
    have em : mr_M_slack (F 21) x = ((mr_M_fail 1).1, (mr_M_fail 1).2, F 21) := by rw [mr_M_slack, if_neg c6]
    exact hret _ _ _ _ _ _ (by simp only [em]) (by simp only [em]; rw [upd_keep (f := upd F 0 ((mr_M_fail 1).2)) (j := 21) (x := F 21) rfl]) hP hD hS dM_slack_14
def lf_M_open_10 (g6 : Nat → Int32) (nC : Nat) (d : Nat) (st : Nat) (i0 : Int32) (i1 : (Nat → Int32)) : Nat → Int32 × (Nat → Int32)
  | 0 => (i0, i1)
  | k10 + 1 => (((lf_M_open_10 g6 nC d st i0 i1 k10).1) / (g6 (nC - 1 - k10)), upd ((lf_M_open_10 g6 nC d st i0 i1 k10).2) (nC - 1 - k10) ((if (nI st) ≤ (nI (nC - k10) - 1) then (-1) else ((lf_M_open_10 g6 nC d st i0 i1 k10).1) - ((lf_M_open_10 g6 nC d st i0 i1 k10).1) / (g6 (nC - 1 - k10)) * (g6 (nC - 1 - k10))) : Int32))
def mr_M_open (g6 : Nat → Int32) (g19 : Nat → Int32) (nC : Nat) (d : Nat) (st : Nat) : (Nat → Int32) := ((lf_M_open_10 g6 nC d st (nI d) g19 nC).2)
set_option maxHeartbeats 4000000 in
set_option maxRecDepth 100000 in
theorem c_M_open (l : Launch) (D : va_G) (cl : List vw_C) (hcl : cl[0]? = some (RM, TM, 29)) (a : Nat) (ba : Nat → Nat) (ka : Nat → ClassId) (F : Nat → Int32) (G : Nat → Nat → Int32) {H0 : Heap} (hP : va_P D cl (mW a ba ka F G) H0) (hD : va_D (fun _ => True) (mW a ba ka F G)) (nC : Nat) (d : Nat) (st : Nat) (h2 : F 2 = nI nC) (hC : nC ≤ 8) (h6 : ∀ c, c < nC → ∃ z : Nat, G 6 c = nI z ∧ 2 ≤ z ∧ z ≤ 6) (hst : st ≤ 8) : ww_Met l yM_open wsM_open ({ frames := 0, cells := 0, slots := 0, locals := 0 } : Room) D cl (mT ka) H0 [.ref a, .int (nI d), .int (nI st)] (mW a ba ka F G) none (mW a ba ka F (va_up G 19 (mr_M_open (G 6) (G 19) nC d st))) := by
  refine ww_metV (by decide) rfl (Nat.le_of_ble_eq_true rfl) hP hD ?_
  intro p e s m args below meth c Q A Sx hK hP hD hS hA ls hl hret
  obtain ⟨hx, hb, hml, hown, hts⟩ := id Sx
  have hl : lv_has ls 5 [(0, .ref a), (1, .int (nI d)), (2, .int (nI st))] := hl
  obtain ⟨H, eH⟩ : ∃ H : Heap, H = H0 := ⟨_, rfl⟩
  obtain ⟨locs, eL⟩ : ∃ L : List Loc, L = [] := ⟨_, rfl⟩
  have hP : va_P D cl (mW a ba ka F G) H := by rw [eH]; exact hP
  have hS : va_S A H0 H locs := by rw [eH, eL]; exact hS
  rw [show W p l e ({ frames := 0, cells := 0, slots := 0, locals := 0 } : Room) s m args below meth c H0 [] 0 0 Q (F0 m 0 ls []) = W p l e ({ frames := 0, cells := 0, slots := 0, locals := 0 } : Room) s m args below meth c H locs 0 0 Q (F0 m 0 ls []) by rw [eH, eL]]
  clear eH eL
  have f81 := hts _ (List.mem_cons_of_mem _ mfM_81)
  have inM_ : ∀ w ∈ wsM0, w ∈ wsM_open := fun w h => List.mem_cons_of_mem _ (inM_all w h)
  have f54 := hts _ (List.mem_cons_of_mem _ mfM_54)
  have f13 := hts _ (List.mem_cons_of_mem _ mfM_13)
  refine lv_iload_n hx hb dM_open_0 rfl (lv_at hl 1 rfl) ?_
  refine lv_istore_n (lv' := [(3, .int (nI d)), (0, .ref a), (1, .int (nI d)), (2, .int (nI st))]) hx hb dM_open_1 rfl hl (by decide) rfl (fun ls hl => ?_)
  refine lv_aload_n hx hb dM_open_2 rfl (lv_at hl 1 rfl) ?_
  refine va_get (D := D) (ci := 0) (v := .int (F 2)) (C := RM) (T := TM) (N := 29) hx hb hts inM_ hown hK hP 0 rfl hcl 2 (by decide) f81 (fun _ h9 => h9) rfl dM_open_3 ?_
  refine wt_i h2 ?_
  refine lv_iconst (v := 1) hx hb dM_open_6 (by decide) ?_
  refine lv_isub hx hb dM_open_7 ?_
  refine lv_istore (lv' := [(4, .int ((nI nC) - 1)), (3, .int (nI d)), (0, .ref a), (1, .int (nI d)), (2, .int (nI st))]) hx hb dM_open_8 hl (by decide) rfl (fun ls hl => ?_)
  have loop10 : ∀ (N10 k10 : Nat), k10 ≤ nC → nC - k10 < N10 → ∀ (H : Heap) (locs : List Loc), va_P D cl (mW a ba ka F (va_up G 19 ((lf_M_open_10 (G 6) nC d st (nI d) (G 19) k10).2))) H → va_D A (mW a ba ka F (va_up G 19 ((lf_M_open_10 (G 6) nC d st (nI d) (G 19) k10).2))) → va_S A H0 H locs → ∀ (ls : Array Slot), lv_has ls 5 [(4, .int (nI (nC - k10) - 1)), (3, .int ((lf_M_open_10 (G 6) nC d st (nI d) (G 19) k10).1)), (0, .ref a), (1, .int (nI d)), (2, .int (nI st))] → W p l e ({ frames := 0, cells := 0, slots := 0, locals := 0 } : Room) s m args below meth c H locs 0 0 Q (F0 m 10 ls []) := by
    intro N10
    induction N10 with
    | zero => intro k10 hk10 hm10; exact absurd hm10 (Nat.not_lt_zero _)
    | succ N10 ih10 =>
      intro k10 hk10 hm10  H locs hP hD hS ls hl
      refine lv_iload hx hb dM_open_10 (lv_at hl 0 rfl) ?_
      refine lv_if_lt (tgt := 57) hx hb dM_open_12 (by decide) (fun c12 => ?_) (fun c12 => ?_)
      · have n12 : nC ≤ k10 := dn_neg c12 (by omega)
        have hx10 : nC = k10 := by omega
        subst hx10
        have em : mr_M_open (G 6) (G 19) nC d st = (lf_M_open_10 (G 6) nC d st (nI d) (G 19) nC).2 := by rw [mr_M_open]
        exact hret _ _ _ _ _ (by simp only [em]) hP hD hS dM_open_57
      · have n12 : ¬ nC ≤ k10 := dn_nneg c12 (by omega)
        have c0 : nI (nC - k10) - 1 = nI (nC - 1 - k10) := dn_ix (by omega)
        obtain ⟨z, ez, hz1, hz2⟩ := h6 (nC - 1 - k10) (by omega)
        have hz0 : ¬ G 6 (nC - 1 - k10) = 0 := by rw [ez]; exact nI_ne0 (by omega) (by omega)
        refine lv_aload_n hx hb dM_open_15 rfl (lv_at hl 2 rfl) ?_
        refine va_get (D := D) (ci := 0) (v := .ref (ba 19)) (C := RM) (T := TM) (N := 29) hx hb hts inM_ hown hK hP 0 rfl hcl 19 (by decide) f54 (fun _ h9 => h9) rfl dM_open_16 ?_
        refine lv_iload hx hb dM_open_19 (lv_at hl 0 rfl) ?_
        refine lv_iload hx hb dM_open_21 (lv_at hl 0 rfl) ?_
        refine lv_iload_n hx hb dM_open_23 rfl (lv_at hl 4 rfl) ?_
        have j40 : ∀ (ls : Array Slot), lv_has ls 5 [(4, .int (nI (nC - k10) - 1)), (3, .int ((lf_M_open_10 (G 6) nC d st (nI d) (G 19) k10).1)), (0, .ref a), (1, .int (nI d)), (2, .int (nI st))] → W p l e ({ frames := 0, cells := 0, slots := 0, locals := 0 } : Room) s m args below meth c H locs 0 0 Q (F0 m 40 ls [.int ((if (nI st) ≤ (nI (nC - k10) - 1) then (-1) else ((lf_M_open_10 (G 6) nC d st (nI d) (G 19) k10).1) - ((lf_M_open_10 (G 6) nC d st (nI d) (G 19) k10).1) / (G 6 (nC - 1 - k10)) * (G 6 (nC - 1 - k10))) : Int32), .int (nI (nC - k10) - 1), .ref (ba 19)]) := by
          intro ls hl
          have sd40 : nC - 1 - k10 < 8 := by omega
          have eg40 : (va_up G 19 ((lf_M_open_10 (G 6) nC d st (nI d) (G 19) k10).2)) 19 = (lf_M_open_10 (G 6) nC d st (nI d) (G 19) k10).2 := by rw [vup_us]
          refine wn_iast (f := (lf_M_open_10 (G 6) nC d st (nI d) (G 19) k10).2) hx hb hK hP hD hS 14 13 (congrArg (fun z : Nat → Int32 => (some ((ba 19), (.inl ((ka 19), 8, .inl z) : va_E)) : Option (Nat × va_E))) eg40) rfl (nC - 1 - k10) c0 sd40 (by decide) dM_open_40 (fun H locs hP hD hS => ?_)
          rw [mW_g19, vup_ow] at hP hD
          refine lv_iload_n hx hb dM_open_41 rfl (lv_at hl 1 rfl) ?_
          refine lv_aload_n hx hb dM_open_42 rfl (lv_at hl 2 rfl) ?_
          refine va_get (D := D) (ci := 0) (v := .ref (ba 6)) (C := RM) (T := TM) (N := 29) hx hb hts inM_ hown hK hP 0 rfl hcl 6 (by decide) f13 (fun _ h9 => h9) rfl dM_open_43 ?_
          refine lv_iload hx hb dM_open_46 (lv_at hl 0 rfl) ?_
          have sd48 : nC - 1 - k10 < 8 := by omega
          refine wn_iald (f := G 6) hx hb hK hP 1 0 rfl rfl (nC - 1 - k10) c0 sd48 (by decide) dM_open_48 ?_
          have sd49 : ¬ (G 6 (nC - 1 - k10)) = 0 := by assumption
          refine lv_idiv hx hb dM_open_49 sd49 ?_
          refine lv_istore_n (lv' := [(3, .int (((lf_M_open_10 (G 6) nC d st (nI d) (G 19) k10).1) / (G 6 (nC - 1 - k10)))), (4, .int (nI (nC - k10) - 1)), (0, .ref a), (1, .int (nI d)), (2, .int (nI st))]) hx hb dM_open_50 rfl hl (by decide) rfl (fun ls hl => ?_)
          refine lv_iinc (v := nI (nC - (k10 + 1)) - 1) (lv' := [(4, .int (nI (nC - (k10 + 1)) - 1)), (3, .int (((lf_M_open_10 (G 6) nC d st (nI d) (G 19) k10).1) / (G 6 (nC - 1 - k10)))), (0, .ref a), (1, .int (nI d)), (2, .int (nI st))]) hx hb dM_open_51 hl (k := 1) rfl (by exact dn_dec (by omega)) (by decide) rfl (fun ls hl => ?_)
          refine lv_goto (tgt := 10) hx hb dM_open_54 (by decide) ?_
          have eb10 : lf_M_open_10 (G 6) nC d st (nI d) (G 19) (k10 + 1) = (((lf_M_open_10 (G 6) nC d st (nI d) (G 19) k10).1) / (G 6 (nC - 1 - k10)), upd ((lf_M_open_10 (G 6) nC d st (nI d) (G 19) k10).2) (nC - 1 - k10) ((if (nI st) ≤ (nI (nC - k10) - 1) then (-1) else ((lf_M_open_10 (G 6) nC d st (nI d) (G 19) k10).1) - ((lf_M_open_10 (G 6) nC d st (nI d) (G 19) k10).1) / (G 6 (nC - 1 - k10)) * (G 6 (nC - 1 - k10))) : Int32)) := by rw [lf_M_open_10]
          exact ih10 (k10 + 1) (by omega) (by omega)  H locs (by rw [eb10]; exact hP) (by rw [eb10]; exact hD) hS ls (by rw [eb10]; exact lv_sub hl [0, 1, 2, 3, 4] rfl)
        refine lv_icmp_ge (tgt := 39) hx hb dM_open_24 (by decide) (fun c24 => ?_) (fun c24 => ?_)
        · refine lv_iconst (v := (-1)) hx hb dM_open_39 (by decide) ?_
          exact wt_i (by rw [if_pos c24]) (j40 ls hl)
        · refine lv_iload_n hx hb dM_open_27 rfl (lv_at hl 1 rfl) ?_
          refine lv_aload_n hx hb dM_open_28 rfl (lv_at hl 2 rfl) ?_
          refine va_get (D := D) (ci := 0) (v := .ref (ba 6)) (C := RM) (T := TM) (N := 29) hx hb hts inM_ hown hK hP 0 rfl hcl 6 (by decide) f13 (fun _ h9 => h9) rfl dM_open_29 ?_
          refine lv_iload hx hb dM_open_32 (lv_at hl 0 rfl) ?_
          have sd34 : nC - 1 - k10 < 8 := by omega
          refine wn_iald (f := G 6) hx hb hK hP 1 0 rfl rfl (nC - 1 - k10) c0 sd34 (by decide) dM_open_34 ?_
          have sd35 : ¬ (G 6 (nC - 1 - k10)) = 0 := by assumption
          refine lv_irem hx hb dM_open_35 sd35 ?_
          refine lv_goto (tgt := 40) hx hb dM_open_36 (by decide) ?_
          exact wt_i (by rw [if_neg c24]) (j40 ls hl)
  exact loop10 _ 0 (Nat.zero_le _) (Nat.lt_succ_self _)  H locs hP hD hS ls (lv_sub hl [0, 1, 2, 3, 4] rfl)
end
section
def lf_M_know_59 (g7 : Nat → Int32) (g8 : Nat → Int32) (g9 : Nat → Int32) (g10 : Nat → Int32) (g11 : Nat → Int32) (g12 : Nat → Int32) (nC : Nat) (nT : Nat) (nR : Nat) (nD : Nat) (k15 : Nat) (qg19_59 : Nat → Int32) (i0 : (Nat → Int32)) : Nat → (Nat → Int32)
  | 0 => i0
  | k59 + 1 => (upd (lf_M_know_59 g7 g8 g9 g10 g11 g12 nC nT nR nD k15 qg19_59 i0 k59) ((4 * k15) + k59) (mr_M_boundOf g7 g8 g9 g10 g11 g12 qg19_59 nC nT (nI k59)))
def lf_M_know_15 (g6 : Nat → Int32) (g7 : Nat → Int32) (g8 : Nat → Int32) (g9 : Nat → Int32) (g10 : Nat → Int32) (g11 : Nat → Int32) (g12 : Nat → Int32) (g13 : Nat → Int32) (g14 : Nat → Int32) (g15 : Nat → Int32) (g16 : Nat → Int32) (g17 : Nat → Int32) (g18 : Nat → Int32) (nC : Nat) (nT : Nat) (nR : Nat) (nD : Nat) (i0 : (Nat → Int32)) (i1 : (Nat → Int32)) (i2 : (Nat → Int32)) : Nat → (Nat → Int32) × (Nat → Int32) × (Nat → Int32)
  | 0 => (i0, i1, i2)
  | k15 + 1 => (mr_M_open g6 ((lf_M_know_15 g6 g7 g8 g9 g10 g11 g12 g13 g14 g15 g16 g17 g18 nC nT nR nD i0 i1 i2 k15).1) nC k15 nC, upd ((lf_M_know_15 g6 g7 g8 g9 g10 g11 g12 g13 g14 g15 g16 g17 g18 nC nT nR nD i0 i1 i2 k15).2.1) k15 ((if (mr_M_isBarred g13 g14 g15 g16 (mr_M_open g6 ((lf_M_know_15 g6 g7 g8 g9 g10 g11 g12 g13 g14 g15 g16 g17 g18 nC nT nR nD i0 i1 i2 k15).1) nC k15 nC) nC nR) = 0 then (if (mr_M_passesLimits g7 g8 g9 g10 g11 g12 g17 g18 (mr_M_open g6 ((lf_M_know_15 g6 g7 g8 g9 g10 g11 g12 g13 g14 g15 g16 g17 g18 nC nT nR nD i0 i1 i2 k15).1) nC k15 nC) nC nT) = 0 then 1 else 0) else 0) : Int32), lf_M_know_59 g7 g8 g9 g10 g11 g12 nC nT nR nD k15 (mr_M_open g6 ((lf_M_know_15 g6 g7 g8 g9 g10 g11 g12 g13 g14 g15 g16 g17 g18 nC nT nR nD i0 i1 i2 k15).1) nC k15 nC) ((lf_M_know_15 g6 g7 g8 g9 g10 g11 g12 g13 g14 g15 g16 g17 g18 nC nT nR nD i0 i1 i2 k15).2.2) 4)
def mr_M_know (f26 : Int32) (g6 : Nat → Int32) (g7 : Nat → Int32) (g8 : Nat → Int32) (g9 : Nat → Int32) (g10 : Nat → Int32) (g11 : Nat → Int32) (g12 : Nat → Int32) (g13 : Nat → Int32) (g14 : Nat → Int32) (g15 : Nat → Int32) (g16 : Nat → Int32) (g17 : Nat → Int32) (g18 : Nat → Int32) (g19 : Nat → Int32) (g27 : Nat → Int32) (g28 : Nat → Int32) (nC : Nat) (nT : Nat) (nR : Nat) (nD : Nat) : Int32 × (Nat → Int32) × (Nat → Int32) × (Nat → Int32) := (if f26 = 0 then (1, (lf_M_know_15 g6 g7 g8 g9 g10 g11 g12 g13 g14 g15 g16 g17 g18 nC nT nR nD g19 g27 g28 nD).1, (lf_M_know_15 g6 g7 g8 g9 g10 g11 g12 g13 g14 g15 g16 g17 g18 nC nT nR nD g19 g27 g28 nD).2.1, (lf_M_know_15 g6 g7 g8 g9 g10 g11 g12 g13 g14 g15 g16 g17 g18 nC nT nR nD g19 g27 g28 nD).2.2) else (f26, g19, g27, g28))
theorem zb_M_know {f26 : Int32} {g6 g7 g8 g9 g10 g11 g12 g13 g14 g15 g16 g17 g18 g19 g27 g28 : Nat → Int32} {nC nT nR nD : Nat} (h27 : ∀ j, narrow .boolean (.int (g27 j)) = .int (g27 j)) : ∀ j, narrow .boolean (.int ((mr_M_know f26 g6 g7 g8 g9 g10 g11 g12 g13 g14 g15 g16 g17 g18 g19 g27 g28 nC nT nR nD).2.2.1 j)) = .int ((mr_M_know f26 g6 g7 g8 g9 g10 g11 g12 g13 g14 g15 g16 g17 g18 g19 g27 g28 nC nT nR nD).2.2.1 j) := by
  have key : ∀ (n j : Nat), narrow .boolean (.int ((lf_M_know_15 g6 g7 g8 g9 g10 g11 g12 g13 g14 g15 g16 g17 g18 nC nT nR nD g19 g27 g28 n).2.1 j)) = .int ((lf_M_know_15 g6 g7 g8 g9 g10 g11 g12 g13 g14 g15 g16 g17 g18 nC nT nR nD g19 g27 g28 n).2.1 j) := by
    intro n
    induction n with
    | zero => intro j; exact h27 j
    | succ n ih =>
      intro j
      rw [lf_M_know_15]
      dsimp only [upd]
      split
      · repeat' first | refine zb_i ?_ ?_ | exact zb_0 | exact zb_1
      · exact ih j
  intro j
  unfold mr_M_know
  split
  · exact key nD j
  · exact h27 j
set_option maxHeartbeats 4000000 in
set_option maxRecDepth 100000 in
theorem c_M_know (l : Launch) (D : va_G) (cl : List vw_C) (hcl : cl[0]? = some (RM, TM, 29)) (a : Nat) (ba : Nat → Nat) (ka : Nat → ClassId) (F : Nat → Int32) (G : Nat → Nat → Int32) {H0 : Heap} (hP : va_P D cl (mW a ba ka F G) H0) (hD : va_D (fun _ => True) (mW a ba ka F G)) (nC : Nat) (nT : Nat) (nR : Nat) (nD : Nat) (h2 : F 2 = nI nC) (hC : nC ≤ 8) (h3 : F 3 = nI nT) (hT : nT ≤ 100) (h4 : F 4 = nI nR) (hR : nR ≤ 40) (h5 : F 5 = nI nD) (hN : nD ≤ 4096) (h6 : ∀ c, c < nC → ∃ z : Nat, G 6 c = nI z ∧ 2 ≤ z ∧ z ≤ 6) (h8 : ∀ t, t < nT → ∃ x : Nat, x < nC ∧ G 8 t = nI x) (h10 : ∀ t, t < nT → G 10 t = -1 ∨ ∃ x : Nat, x < nC ∧ G 10 t = nI x) (h13 : ∀ j, j < nR → ∃ x : Nat, x < nC ∧ G 13 j = nI x) (h15 : ∀ j, j < nR → ∃ x : Nat, x < nC ∧ G 15 j = nI x) : ww_Met l yM_know wsM_know ({ frames := 3, cells := 0, slots := 0, locals := 70 } : Room) D cl (mT ka) H0 [.ref a] (mW a ba ka F G) none (mW a ba ka (upd F 26 ((mr_M_know (F 26) (G 6) (G 7) (G 8) (G 9) (G 10) (G 11) (G 12) (G 13) (G 14) (G 15) (G 16) (G 17) (G 18) (G 19) (G 27) (G 28) nC nT nR nD).1)) (va_up (va_up (va_up G 19 ((mr_M_know (F 26) (G 6) (G 7) (G 8) (G 9) (G 10) (G 11) (G 12) (G 13) (G 14) (G 15) (G 16) (G 17) (G 18) (G 19) (G 27) (G 28) nC nT nR nD).2.1)) 27 ((mr_M_know (F 26) (G 6) (G 7) (G 8) (G 9) (G 10) (G 11) (G 12) (G 13) (G 14) (G 15) (G 16) (G 17) (G 18) (G 19) (G 27) (G 28) nC nT nR nD).2.2.1)) 28 ((mr_M_know (F 26) (G 6) (G 7) (G 8) (G 9) (G 10) (G 11) (G 12) (G 13) (G 14) (G 15) (G 16) (G 17) (G 18) (G 19) (G 27) (G 28) nC nT nR nD).2.2.2))) := by
  refine ww_metV (by decide) rfl (Nat.le_of_ble_eq_true rfl) hP hD ?_
  intro p e s m args below meth c Q A Sx hK hP hD hS hA ls hl hret
  obtain ⟨hx, hb, hml, hown, hts⟩ := id Sx
  have hl : lv_has ls 3 [(0, .ref a)] := hl
  obtain ⟨H, eH⟩ : ∃ H : Heap, H = H0 := ⟨_, rfl⟩
  obtain ⟨locs, eL⟩ : ∃ L : List Loc, L = [] := ⟨_, rfl⟩
  have hP : va_P D cl (mW a ba ka F G) H := by rw [eH]; exact hP
  have hS : va_S A H0 H locs := by rw [eH, eL]; exact hS
  rw [show W p l e ({ frames := 3, cells := 0, slots := 0, locals := 70 } : Room) s m args below meth c H0 [] 0 0 Q (F0 m 0 ls []) = W p l e ({ frames := 3, cells := 0, slots := 0, locals := 70 } : Room) s m args below meth c H locs 0 0 Q (F0 m 0 ls []) by rw [eH, eL]]
  clear eH eL
  have f90 := hts _ (List.mem_cons_of_mem _ mfM_90)
  have inM_ : ∀ w ∈ wsM0, w ∈ wsM_know := fun w h => List.mem_cons_of_mem _ (inM_all w h)
  have f7 := hts _ (List.mem_cons_of_mem _ mfM_7)
  have f81 := hts _ (List.mem_cons_of_mem _ mfM_81)
  have f60 := hts _ (List.mem_cons_of_mem _ mfM_60)
  have f63 := hts _ (List.mem_cons_of_mem _ mfM_63)
  refine lv_aload_n hx hb dM_know_0 rfl (lv_at hl 0 rfl) ?_
  refine va_get (D := D) (ci := 0) (v := .int (F 26)) (C := RM) (T := TM) (N := 29) hx hb hts inM_ hown hK hP 0 rfl hcl 26 (by decide) f90 (fun _ h9 => h9) rfl dM_know_1 ?_
  refine lv_if_eq (tgt := 8) hx hb dM_know_4 (by decide) (fun c4 => ?_) (fun c4 => ?_)
  · refine lv_aload_n hx hb dM_know_8 rfl (lv_at hl 0 rfl) ?_
    refine lv_iconst (v := 1) hx hb dM_know_9 (by decide) ?_
    refine va_put (D := D) (ci := 0) (fs := mWl0 ba F) (v := .int 1) (ty := .boolean) (C := RM) (T := TM) (N := 29) hx hb hts inM_ tyM tyM_ok nmM hown hK hP hD hS 0 rfl hcl 26 (by decide) f90 (fun _ h9 => h9) rfl (by decide +kernel) (by first | rfl | assumption) rfl (Nat.le_of_ble_eq_true rfl) dM_know_10 (fun H locs hP hD hS => ?_)
    rw [mW_f26] at hP hD
    refine lv_iconst (v := 0) hx hb dM_know_13 (by decide) ?_
    refine lv_istore_n (lv' := [(1, .int 0), (0, .ref a)]) hx hb dM_know_14 rfl hl (by decide) rfl (fun ls hl => ?_)
    have loop15 : ∀ (N15 k15 : Nat), k15 ≤ nD → nD - k15 < N15 → ∀ (H : Heap) (locs : List Loc), va_P D cl (mW a ba ka (upd F 26 1) (va_up (va_up (va_up G 19 ((lf_M_know_15 (G 6) (G 7) (G 8) (G 9) (G 10) (G 11) (G 12) (G 13) (G 14) (G 15) (G 16) (G 17) (G 18) nC nT nR nD (G 19) (G 27) (G 28) k15).1)) 27 ((lf_M_know_15 (G 6) (G 7) (G 8) (G 9) (G 10) (G 11) (G 12) (G 13) (G 14) (G 15) (G 16) (G 17) (G 18) nC nT nR nD (G 19) (G 27) (G 28) k15).2.1)) 28 ((lf_M_know_15 (G 6) (G 7) (G 8) (G 9) (G 10) (G 11) (G 12) (G 13) (G 14) (G 15) (G 16) (G 17) (G 18) nC nT nR nD (G 19) (G 27) (G 28) k15).2.2))) H → va_D A (mW a ba ka (upd F 26 1) (va_up (va_up (va_up G 19 ((lf_M_know_15 (G 6) (G 7) (G 8) (G 9) (G 10) (G 11) (G 12) (G 13) (G 14) (G 15) (G 16) (G 17) (G 18) nC nT nR nD (G 19) (G 27) (G 28) k15).1)) 27 ((lf_M_know_15 (G 6) (G 7) (G 8) (G 9) (G 10) (G 11) (G 12) (G 13) (G 14) (G 15) (G 16) (G 17) (G 18) nC nT nR nD (G 19) (G 27) (G 28) k15).2.1)) 28 ((lf_M_know_15 (G 6) (G 7) (G 8) (G 9) (G 10) (G 11) (G 12) (G 13) (G 14) (G 15) (G 16) (G 17) (G 18) nC nT nR nD (G 19) (G 27) (G 28) k15).2.2))) → va_S A H0 H locs → ∀ (ls : Array Slot), lv_has ls 3 [(1, .int (nI k15)), (0, .ref a)] → W p l e ({ frames := 3, cells := 0, slots := 0, locals := 70 } : Room) s m args below meth c H locs 0 0 Q (F0 m 15 ls []) := by
      intro N15
      induction N15 with
      | zero => intro k15 hk15 hm15; exact absurd hm15 (Nat.not_lt_zero _)
      | succ N15 ih15 =>
        intro k15 hk15 hm15  H locs hP hD hS ls hl
        refine lv_iload_n hx hb dM_know_15 rfl (lv_at hl 0 rfl) ?_
        refine lv_aload_n hx hb dM_know_16 rfl (lv_at hl 1 rfl) ?_
        refine va_get (D := D) (ci := 0) (v := .int (F 5)) (C := RM) (T := TM) (N := 29) hx hb hts inM_ hown hK hP 0 rfl hcl 5 (by decide) f7 (fun _ h9 => h9) rfl dM_know_17 ?_
        refine wt_i h5 ?_
        refine lv_icmp_ge (tgt := 91) hx hb dM_know_20 (by decide) (fun c20 => ?_) (fun c20 => ?_)
        · have n20 : nD ≤ k15 := (nI_leI (a := nD) (b := k15) (by omega) (by omega)).mp c20
          have hx15 : nD = k15 := by omega
          subst hx15
          have em : mr_M_know (F 26) (G 6) (G 7) (G 8) (G 9) (G 10) (G 11) (G 12) (G 13) (G 14) (G 15) (G 16) (G 17) (G 18) (G 19) (G 27) (G 28) nC nT nR nD = (1, (lf_M_know_15 (G 6) (G 7) (G 8) (G 9) (G 10) (G 11) (G 12) (G 13) (G 14) (G 15) (G 16) (G 17) (G 18) nC nT nR nD (G 19) (G 27) (G 28) nD).1, (lf_M_know_15 (G 6) (G 7) (G 8) (G 9) (G 10) (G 11) (G 12) (G 13) (G 14) (G 15) (G 16) (G 17) (G 18) nC nT nR nD (G 19) (G 27) (G 28) nD).2.1, (lf_M_know_15 (G 6) (G 7) (G 8) (G 9) (G 10) (G 11) (G 12) (G 13) (G 14) (G 15) (G 16) (G 17) (G 18) nC nT nR nD (G 19) (G 27) (G 28) nD).2.2) := by rw [mr_M_know, if_pos c4]
          exact hret _ _ _ _ _ (by simp only [em]) hP hD hS dM_know_91
        · have n20 : ¬ nD ≤ k15 := fun h9 => c20 ((nI_leI (a := nD) (b := k15) (by omega) (by omega)).mpr h9)
          refine lv_aload_n hx hb dM_know_23 rfl (lv_at hl 1 rfl) ?_
          refine lv_iload_n hx hb dM_know_24 rfl (lv_at hl 0 rfl) ?_
          refine lv_aload_n hx hb dM_know_25 rfl (lv_at hl 1 rfl) ?_
          refine va_get (D := D) (ci := 0) (v := .int (F 2)) (C := RM) (T := TM) (N := 29) hx hb hts inM_ hown hK hP 0 rfl hcl 2 (by decide) f81 (fun _ h9 => h9) rfl dM_know_26 ?_
          refine wt_i h2 ?_
          refine ww_callV (r := none) (w' := mW a ba ka (upd F 26 1) (va_up (va_up (va_up (va_up G 19 ((lf_M_know_15 (G 6) (G 7) (G 8) (G 9) (G 10) (G 11) (G 12) (G 13) (G 14) (G 15) (G 16) (G 17) (G 18) nC nT nR nD (G 19) (G 27) (G 28) k15).1)) 27 ((lf_M_know_15 (G 6) (G 7) (G 8) (G 9) (G 10) (G 11) (G 12) (G 13) (G 14) (G 15) (G 16) (G 17) (G 18) nC nT nR nD (G 19) (G 27) (G 28) k15).2.1)) 28 ((lf_M_know_15 (G 6) (G 7) (G 8) (G 9) (G 10) (G 11) (G 12) (G 13) (G 14) (G 15) (G 16) (G 17) (G 18) nC nT nR nD (G 19) (G 27) (G 28) k15).2.2)) 19 (mr_M_open (G 6) ((lf_M_know_15 (G 6) (G 7) (G 8) (G 9) (G 10) (G 11) (G 12) (G 13) (G 14) (G 15) (G 16) (G 17) (G 18) nC nT nR nD (G 19) (G 27) (G 28) k15).1) nC k15 nC))) (As := [.int (nI k15), .int (nI nC)]) (rest := []) Sx (c_M_open l D cl hcl a ba ka (upd F 26 1) (va_up (va_up (va_up G 19 ((lf_M_know_15 (G 6) (G 7) (G 8) (G 9) (G 10) (G 11) (G 12) (G 13) (G 14) (G 15) (G 16) (G 17) (G 18) nC nT nR nD (G 19) (G 27) (G 28) k15).1)) 27 ((lf_M_know_15 (G 6) (G 7) (G 8) (G 9) (G 10) (G 11) (G 12) (G 13) (G 14) (G 15) (G 16) (G 17) (G 18) nC nT nR nD (G 19) (G 27) (G 28) k15).2.1)) 28 ((lf_M_know_15 (G 6) (G 7) (G 8) (G 9) (G 10) (G 11) (G 12) (G 13) (G 14) (G 15) (G 16) (G 17) (G 18) nC nT nR nD (G 19) (G 27) (G 28) k15).2.2)) hP (hD.weaken (fun _ _ _ _ => trivial)) nC k15 nC h2 hC h6 hC) (cwV 2 hts gM_know_M_open rfl rfl rfl (by decide +kernel) ⟨Nat.le_of_ble_eq_true rfl, Nat.le_of_ble_eq_true rfl⟩) hK (va_recv hK hP (ci := 0) (q0 := 0) hcl rfl) rfl hl.1 rfl (Nat.le_of_ble_eq_true rfl) dM_know_29 ⟨Nat.zero_le _, Nat.zero_le _⟩ hD hS hA (fun H locs hP hD hS => ?_)
          rw [vup_sw (i := 28) (j := 19) (by decide), vup_sw (i := 27) (j := 19) (by decide), vup_ow] at hP hD
          refine lv_aload_n hx hb dM_know_32 rfl (lv_at hl 1 rfl) ?_
          refine va_get (D := D) (ci := 0) (v := .ref (ba 27)) (C := RM) (T := TM) (N := 29) hx hb hts inM_ hown hK hP 0 rfl hcl 27 (by decide) f60 (fun _ h9 => h9) rfl dM_know_33 ?_
          refine lv_iload_n hx hb dM_know_36 rfl (lv_at hl 0 rfl) ?_
          refine lv_aload_n hx hb dM_know_37 rfl (lv_at hl 1 rfl) ?_
          refine ro_callV (r := (.int (mr_M_isBarred (G 13) (G 14) (G 15) (G 16) (mr_M_open (G 6) ((lf_M_know_15 (G 6) (G 7) (G 8) (G 9) (G 10) (G 11) (G 12) (G 13) (G 14) (G 15) (G 16) (G 17) (G 18) nC nT nR nD (G 19) (G 27) (G 28) k15).1) nC k15 nC) nC nR))) (As := []) (rest := [.int (nI k15), .ref (ba 27)]) Sx (c_M_isBarred l D cl hcl a ba ka (upd F 26 1) (va_up (va_up (va_up G 19 (mr_M_open (G 6) ((lf_M_know_15 (G 6) (G 7) (G 8) (G 9) (G 10) (G 11) (G 12) (G 13) (G 14) (G 15) (G 16) (G 17) (G 18) nC nT nR nD (G 19) (G 27) (G 28) k15).1) nC k15 nC)) 27 ((lf_M_know_15 (G 6) (G 7) (G 8) (G 9) (G 10) (G 11) (G 12) (G 13) (G 14) (G 15) (G 16) (G 17) (G 18) nC nT nR nD (G 19) (G 27) (G 28) k15).2.1)) 28 ((lf_M_know_15 (G 6) (G 7) (G 8) (G 9) (G 10) (G 11) (G 12) (G 13) (G 14) (G 15) (G 16) (G 17) (G 18) nC nT nR nD (G 19) (G 27) (G 28) k15).2.2)) hP nC nR hC h4 hR h13 h15) (cwV 0 hts gM_know_M_isBarred rfl rfl rfl (by decide +kernel) ⟨Nat.le_of_ble_eq_true rfl, Nat.le_of_ble_eq_true rfl⟩) hK (va_recv hK hP (ci := 0) (q0 := 0) hcl rfl) rfl hl.1 rfl (Nat.le_of_ble_eq_true rfl) dM_know_38 ⟨Nat.zero_le _, Nat.zero_le _⟩ ?_
          have j56 : ∀ (ls : Array Slot), lv_has ls 3 [(1, .int (nI k15)), (0, .ref a)] → W p l e ({ frames := 3, cells := 0, slots := 0, locals := 70 } : Room) s m args below meth c H locs 0 0 Q (F0 m 56 ls [.int ((if (mr_M_isBarred (G 13) (G 14) (G 15) (G 16) (mr_M_open (G 6) ((lf_M_know_15 (G 6) (G 7) (G 8) (G 9) (G 10) (G 11) (G 12) (G 13) (G 14) (G 15) (G 16) (G 17) (G 18) nC nT nR nD (G 19) (G 27) (G 28) k15).1) nC k15 nC) nC nR) = 0 then (if (mr_M_passesLimits (G 7) (G 8) (G 9) (G 10) (G 11) (G 12) (G 17) (G 18) (mr_M_open (G 6) ((lf_M_know_15 (G 6) (G 7) (G 8) (G 9) (G 10) (G 11) (G 12) (G 13) (G 14) (G 15) (G 16) (G 17) (G 18) nC nT nR nD (G 19) (G 27) (G 28) k15).1) nC k15 nC) nC nT) = 0 then 1 else 0) else 0) : Int32), .int (nI k15), .ref (ba 27)]) := by
            intro ls hl
            have sd56 : k15 < 4096 := by omega
            have eg56 : (va_up (va_up (va_up G 19 (mr_M_open (G 6) ((lf_M_know_15 (G 6) (G 7) (G 8) (G 9) (G 10) (G 11) (G 12) (G 13) (G 14) (G 15) (G 16) (G 17) (G 18) nC nT nR nD (G 19) (G 27) (G 28) k15).1) nC k15 nC)) 27 ((lf_M_know_15 (G 6) (G 7) (G 8) (G 9) (G 10) (G 11) (G 12) (G 13) (G 14) (G 15) (G 16) (G 17) (G 18) nC nT nR nD (G 19) (G 27) (G 28) k15).2.1)) 28 ((lf_M_know_15 (G 6) (G 7) (G 8) (G 9) (G 10) (G 11) (G 12) (G 13) (G 14) (G 15) (G 16) (G 17) (G 18) nC nT nR nD (G 19) (G 27) (G 28) k15).2.2)) 27 = (lf_M_know_15 (G 6) (G 7) (G 8) (G 9) (G 10) (G 11) (G 12) (G 13) (G 14) (G 15) (G 16) (G 17) (G 18) nC nT nR nD (G 19) (G 27) (G 28) k15).2.1 := by rw [vup_un (k := 28) (j := 27) (by decide), vup_us]
            refine wn_zast (f := (lf_M_know_15 (G 6) (G 7) (G 8) (G 9) (G 10) (G 11) (G 12) (G 13) (G 14) (G 15) (G 16) (G 17) (G 18) nC nT nR nD (G 19) (G 27) (G 28) k15).2.1) hx hb hK hP hD hS 15 14 (congrArg (fun z : Nat → Int32 => (some ((ba 27), (.inl ((ka 27), 4096, .inl z) : va_E)) : Option (Nat × va_E))) eg56) rfl k15 rfl sd56 (by decide) (by repeat' first | refine vb_i ?_ ?_ | exact vb_0 | exact vb_1) dM_know_56 (fun H locs hP hD hS => ?_)
            rw [mW_g27, vup_sw (i := 28) (j := 27) (by decide), vup_ow] at hP hD
            refine lv_iconst (v := 0) hx hb dM_know_57 (by decide) ?_
            refine lv_istore_n (lv' := [(2, .int 0), (1, .int (nI k15)), (0, .ref a)]) hx hb dM_know_58 rfl hl (by decide) rfl (fun ls hl => ?_)
            have loop59 : ∀ (N59 k59 : Nat), k59 ≤ 4 → 4 - k59 < N59 → ∀ (H : Heap) (locs : List Loc), va_P D cl (mW a ba ka (upd F 26 1) (va_up (va_up (va_up G 19 (mr_M_open (G 6) ((lf_M_know_15 (G 6) (G 7) (G 8) (G 9) (G 10) (G 11) (G 12) (G 13) (G 14) (G 15) (G 16) (G 17) (G 18) nC nT nR nD (G 19) (G 27) (G 28) k15).1) nC k15 nC)) 27 (upd ((lf_M_know_15 (G 6) (G 7) (G 8) (G 9) (G 10) (G 11) (G 12) (G 13) (G 14) (G 15) (G 16) (G 17) (G 18) nC nT nR nD (G 19) (G 27) (G 28) k15).2.1) k15 ((if (mr_M_isBarred (G 13) (G 14) (G 15) (G 16) (mr_M_open (G 6) ((lf_M_know_15 (G 6) (G 7) (G 8) (G 9) (G 10) (G 11) (G 12) (G 13) (G 14) (G 15) (G 16) (G 17) (G 18) nC nT nR nD (G 19) (G 27) (G 28) k15).1) nC k15 nC) nC nR) = 0 then (if (mr_M_passesLimits (G 7) (G 8) (G 9) (G 10) (G 11) (G 12) (G 17) (G 18) (mr_M_open (G 6) ((lf_M_know_15 (G 6) (G 7) (G 8) (G 9) (G 10) (G 11) (G 12) (G 13) (G 14) (G 15) (G 16) (G 17) (G 18) nC nT nR nD (G 19) (G 27) (G 28) k15).1) nC k15 nC) nC nT) = 0 then 1 else 0) else 0) : Int32))) 28 (lf_M_know_59 (G 7) (G 8) (G 9) (G 10) (G 11) (G 12) nC nT nR nD k15 (mr_M_open (G 6) ((lf_M_know_15 (G 6) (G 7) (G 8) (G 9) (G 10) (G 11) (G 12) (G 13) (G 14) (G 15) (G 16) (G 17) (G 18) nC nT nR nD (G 19) (G 27) (G 28) k15).1) nC k15 nC) ((lf_M_know_15 (G 6) (G 7) (G 8) (G 9) (G 10) (G 11) (G 12) (G 13) (G 14) (G 15) (G 16) (G 17) (G 18) nC nT nR nD (G 19) (G 27) (G 28) k15).2.2) k59))) H → va_D A (mW a ba ka (upd F 26 1) (va_up (va_up (va_up G 19 (mr_M_open (G 6) ((lf_M_know_15 (G 6) (G 7) (G 8) (G 9) (G 10) (G 11) (G 12) (G 13) (G 14) (G 15) (G 16) (G 17) (G 18) nC nT nR nD (G 19) (G 27) (G 28) k15).1) nC k15 nC)) 27 (upd ((lf_M_know_15 (G 6) (G 7) (G 8) (G 9) (G 10) (G 11) (G 12) (G 13) (G 14) (G 15) (G 16) (G 17) (G 18) nC nT nR nD (G 19) (G 27) (G 28) k15).2.1) k15 ((if (mr_M_isBarred (G 13) (G 14) (G 15) (G 16) (mr_M_open (G 6) ((lf_M_know_15 (G 6) (G 7) (G 8) (G 9) (G 10) (G 11) (G 12) (G 13) (G 14) (G 15) (G 16) (G 17) (G 18) nC nT nR nD (G 19) (G 27) (G 28) k15).1) nC k15 nC) nC nR) = 0 then (if (mr_M_passesLimits (G 7) (G 8) (G 9) (G 10) (G 11) (G 12) (G 17) (G 18) (mr_M_open (G 6) ((lf_M_know_15 (G 6) (G 7) (G 8) (G 9) (G 10) (G 11) (G 12) (G 13) (G 14) (G 15) (G 16) (G 17) (G 18) nC nT nR nD (G 19) (G 27) (G 28) k15).1) nC k15 nC) nC nT) = 0 then 1 else 0) else 0) : Int32))) 28 (lf_M_know_59 (G 7) (G 8) (G 9) (G 10) (G 11) (G 12) nC nT nR nD k15 (mr_M_open (G 6) ((lf_M_know_15 (G 6) (G 7) (G 8) (G 9) (G 10) (G 11) (G 12) (G 13) (G 14) (G 15) (G 16) (G 17) (G 18) nC nT nR nD (G 19) (G 27) (G 28) k15).1) nC k15 nC) ((lf_M_know_15 (G 6) (G 7) (G 8) (G 9) (G 10) (G 11) (G 12) (G 13) (G 14) (G 15) (G 16) (G 17) (G 18) nC nT nR nD (G 19) (G 27) (G 28) k15).2.2) k59))) → va_S A H0 H locs → ∀ (ls : Array Slot), lv_has ls 3 [(2, .int (nI k59)), (1, .int (nI k15)), (0, .ref a)] → W p l e ({ frames := 3, cells := 0, slots := 0, locals := 70 } : Room) s m args below meth c H locs 0 0 Q (F0 m 59 ls []) := by
              intro N59
              induction N59 with
              | zero => intro k59 hk59 hm59; exact absurd hm59 (Nat.not_lt_zero _)
              | succ N59 ih59 =>
                intro k59 hk59 hm59  H locs hP hD hS ls hl
                refine lv_iload_n hx hb dM_know_59 rfl (lv_at hl 0 rfl) ?_
                refine lv_iconst (v := 4) hx hb dM_know_60 (by decide) ?_
                refine lv_icmp_ge (tgt := 85) hx hb dM_know_61 (by decide) (fun c61 => ?_) (fun c61 => ?_)
                · have n61 : 4 ≤ k59 := (nI_leI (a := 4) (b := k59) (by omega) (by omega)).mp c61
                  have hx59 : 4 = k59 := by omega
                  subst hx59
                  refine lv_iinc (v := nI (k15 + 1)) (lv' := [(1, .int (nI (k15 + 1))), (2, .int (nI 4)), (0, .ref a)]) hx hb dM_know_85 hl (k := 1) rfl (by exact ii_1 k15) (by decide) rfl (fun ls hl => ?_)
                  refine lv_goto (tgt := 15) hx hb dM_know_88 (by decide) ?_
                  have eb15 : lf_M_know_15 (G 6) (G 7) (G 8) (G 9) (G 10) (G 11) (G 12) (G 13) (G 14) (G 15) (G 16) (G 17) (G 18) nC nT nR nD (G 19) (G 27) (G 28) (k15 + 1) = (mr_M_open (G 6) ((lf_M_know_15 (G 6) (G 7) (G 8) (G 9) (G 10) (G 11) (G 12) (G 13) (G 14) (G 15) (G 16) (G 17) (G 18) nC nT nR nD (G 19) (G 27) (G 28) k15).1) nC k15 nC, upd ((lf_M_know_15 (G 6) (G 7) (G 8) (G 9) (G 10) (G 11) (G 12) (G 13) (G 14) (G 15) (G 16) (G 17) (G 18) nC nT nR nD (G 19) (G 27) (G 28) k15).2.1) k15 ((if (mr_M_isBarred (G 13) (G 14) (G 15) (G 16) (mr_M_open (G 6) ((lf_M_know_15 (G 6) (G 7) (G 8) (G 9) (G 10) (G 11) (G 12) (G 13) (G 14) (G 15) (G 16) (G 17) (G 18) nC nT nR nD (G 19) (G 27) (G 28) k15).1) nC k15 nC) nC nR) = 0 then (if (mr_M_passesLimits (G 7) (G 8) (G 9) (G 10) (G 11) (G 12) (G 17) (G 18) (mr_M_open (G 6) ((lf_M_know_15 (G 6) (G 7) (G 8) (G 9) (G 10) (G 11) (G 12) (G 13) (G 14) (G 15) (G 16) (G 17) (G 18) nC nT nR nD (G 19) (G 27) (G 28) k15).1) nC k15 nC) nC nT) = 0 then 1 else 0) else 0) : Int32), lf_M_know_59 (G 7) (G 8) (G 9) (G 10) (G 11) (G 12) nC nT nR nD k15 (mr_M_open (G 6) ((lf_M_know_15 (G 6) (G 7) (G 8) (G 9) (G 10) (G 11) (G 12) (G 13) (G 14) (G 15) (G 16) (G 17) (G 18) nC nT nR nD (G 19) (G 27) (G 28) k15).1) nC k15 nC) ((lf_M_know_15 (G 6) (G 7) (G 8) (G 9) (G 10) (G 11) (G 12) (G 13) (G 14) (G 15) (G 16) (G 17) (G 18) nC nT nR nD (G 19) (G 27) (G 28) k15).2.2) 4) := by rw [lf_M_know_15]
                  exact ih15 (k15 + 1) (by omega) (by omega)  H locs (by rw [eb15]; exact hP) (by rw [eb15]; exact hD) hS ls (by exact lv_sub hl [0, 2] rfl)
                · have n61 : ¬ 4 ≤ k59 := fun h9 => c61 ((nI_leI (a := 4) (b := k59) (by omega) (by omega)).mpr h9)
                  refine lv_aload_n hx hb dM_know_64 rfl (lv_at hl 2 rfl) ?_
                  refine va_get (D := D) (ci := 0) (v := .ref (ba 28)) (C := RM) (T := TM) (N := 29) hx hb hts inM_ hown hK hP 0 rfl hcl 28 (by decide) f63 (fun _ h9 => h9) rfl dM_know_65 ?_
                  refine lv_iconst (v := 4) hx hb dM_know_68 (by decide) ?_
                  refine lv_iload_n hx hb dM_know_69 rfl (lv_at hl 1 rfl) ?_
                  refine lv_imul hx hb dM_know_70 ?_
                  refine wt_i (r := nI (4 * k15)) (by exact pk_mul 4 k15) ?_
                  refine lv_iload_n hx hb dM_know_71 rfl (lv_at hl 0 rfl) ?_
                  refine lv_iadd hx hb dM_know_72 ?_
                  refine wt_i (r := nI ((4 * k15) + k59)) (by exact nI_add (4 * k15) k59) ?_
                  refine lv_aload_n hx hb dM_know_73 rfl (lv_at hl 2 rfl) ?_
                  refine lv_iload_n hx hb dM_know_74 rfl (lv_at hl 0 rfl) ?_
                  refine ro_callV (r := (.int (mr_M_boundOf (G 7) (G 8) (G 9) (G 10) (G 11) (G 12) (mr_M_open (G 6) ((lf_M_know_15 (G 6) (G 7) (G 8) (G 9) (G 10) (G 11) (G 12) (G 13) (G 14) (G 15) (G 16) (G 17) (G 18) nC nT nR nD (G 19) (G 27) (G 28) k15).1) nC k15 nC) nC nT (nI k59)))) (As := [.int (nI k59)]) (rest := [.int (nI ((4 * k15) + k59)), .ref (ba 28)]) Sx (c_M_boundOf l D cl hcl a ba ka (upd F 26 1) (va_up (va_up (va_up G 19 (mr_M_open (G 6) ((lf_M_know_15 (G 6) (G 7) (G 8) (G 9) (G 10) (G 11) (G 12) (G 13) (G 14) (G 15) (G 16) (G 17) (G 18) nC nT nR nD (G 19) (G 27) (G 28) k15).1) nC k15 nC)) 27 (upd ((lf_M_know_15 (G 6) (G 7) (G 8) (G 9) (G 10) (G 11) (G 12) (G 13) (G 14) (G 15) (G 16) (G 17) (G 18) nC nT nR nD (G 19) (G 27) (G 28) k15).2.1) k15 ((if (mr_M_isBarred (G 13) (G 14) (G 15) (G 16) (mr_M_open (G 6) ((lf_M_know_15 (G 6) (G 7) (G 8) (G 9) (G 10) (G 11) (G 12) (G 13) (G 14) (G 15) (G 16) (G 17) (G 18) nC nT nR nD (G 19) (G 27) (G 28) k15).1) nC k15 nC) nC nR) = 0 then (if (mr_M_passesLimits (G 7) (G 8) (G 9) (G 10) (G 11) (G 12) (G 17) (G 18) (mr_M_open (G 6) ((lf_M_know_15 (G 6) (G 7) (G 8) (G 9) (G 10) (G 11) (G 12) (G 13) (G 14) (G 15) (G 16) (G 17) (G 18) nC nT nR nD (G 19) (G 27) (G 28) k15).1) nC k15 nC) nC nT) = 0 then 1 else 0) else 0) : Int32))) 28 (lf_M_know_59 (G 7) (G 8) (G 9) (G 10) (G 11) (G 12) nC nT nR nD k15 (mr_M_open (G 6) ((lf_M_know_15 (G 6) (G 7) (G 8) (G 9) (G 10) (G 11) (G 12) (G 13) (G 14) (G 15) (G 16) (G 17) (G 18) nC nT nR nD (G 19) (G 27) (G 28) k15).1) nC k15 nC) ((lf_M_know_15 (G 6) (G 7) (G 8) (G 9) (G 10) (G 11) (G 12) (G 13) (G 14) (G 15) (G 16) (G 17) (G 18) nC nT nR nD (G 19) (G 27) (G 28) k15).2.2) k59)) hP nC nT (nI k59) hC h3 hT h8 h10) (cwV 1 hts gM_know_M_boundOf rfl rfl rfl (by decide +kernel) ⟨Nat.le_of_ble_eq_true rfl, Nat.le_of_ble_eq_true rfl⟩) hK (va_recv hK hP (ci := 0) (q0 := 0) hcl rfl) rfl hl.1 rfl (Nat.le_of_ble_eq_true rfl) dM_know_75 ⟨Nat.zero_le _, Nat.zero_le _⟩ ?_
                  have sd78 : ((4 * k15) + k59) < 16384 := by omega
                  have eg78 : (va_up (va_up (va_up G 19 (mr_M_open (G 6) ((lf_M_know_15 (G 6) (G 7) (G 8) (G 9) (G 10) (G 11) (G 12) (G 13) (G 14) (G 15) (G 16) (G 17) (G 18) nC nT nR nD (G 19) (G 27) (G 28) k15).1) nC k15 nC)) 27 (upd ((lf_M_know_15 (G 6) (G 7) (G 8) (G 9) (G 10) (G 11) (G 12) (G 13) (G 14) (G 15) (G 16) (G 17) (G 18) nC nT nR nD (G 19) (G 27) (G 28) k15).2.1) k15 ((if (mr_M_isBarred (G 13) (G 14) (G 15) (G 16) (mr_M_open (G 6) ((lf_M_know_15 (G 6) (G 7) (G 8) (G 9) (G 10) (G 11) (G 12) (G 13) (G 14) (G 15) (G 16) (G 17) (G 18) nC nT nR nD (G 19) (G 27) (G 28) k15).1) nC k15 nC) nC nR) = 0 then (if (mr_M_passesLimits (G 7) (G 8) (G 9) (G 10) (G 11) (G 12) (G 17) (G 18) (mr_M_open (G 6) ((lf_M_know_15 (G 6) (G 7) (G 8) (G 9) (G 10) (G 11) (G 12) (G 13) (G 14) (G 15) (G 16) (G 17) (G 18) nC nT nR nD (G 19) (G 27) (G 28) k15).1) nC k15 nC) nC nT) = 0 then 1 else 0) else 0) : Int32))) 28 (lf_M_know_59 (G 7) (G 8) (G 9) (G 10) (G 11) (G 12) nC nT nR nD k15 (mr_M_open (G 6) ((lf_M_know_15 (G 6) (G 7) (G 8) (G 9) (G 10) (G 11) (G 12) (G 13) (G 14) (G 15) (G 16) (G 17) (G 18) nC nT nR nD (G 19) (G 27) (G 28) k15).1) nC k15 nC) ((lf_M_know_15 (G 6) (G 7) (G 8) (G 9) (G 10) (G 11) (G 12) (G 13) (G 14) (G 15) (G 16) (G 17) (G 18) nC nT nR nD (G 19) (G 27) (G 28) k15).2.2) k59)) 28 = lf_M_know_59 (G 7) (G 8) (G 9) (G 10) (G 11) (G 12) nC nT nR nD k15 (mr_M_open (G 6) ((lf_M_know_15 (G 6) (G 7) (G 8) (G 9) (G 10) (G 11) (G 12) (G 13) (G 14) (G 15) (G 16) (G 17) (G 18) nC nT nR nD (G 19) (G 27) (G 28) k15).1) nC k15 nC) ((lf_M_know_15 (G 6) (G 7) (G 8) (G 9) (G 10) (G 11) (G 12) (G 13) (G 14) (G 15) (G 16) (G 17) (G 18) nC nT nR nD (G 19) (G 27) (G 28) k15).2.2) k59 := by rw [vup_us]
                  refine wn_iast (f := lf_M_know_59 (G 7) (G 8) (G 9) (G 10) (G 11) (G 12) nC nT nR nD k15 (mr_M_open (G 6) ((lf_M_know_15 (G 6) (G 7) (G 8) (G 9) (G 10) (G 11) (G 12) (G 13) (G 14) (G 15) (G 16) (G 17) (G 18) nC nT nR nD (G 19) (G 27) (G 28) k15).1) nC k15 nC) ((lf_M_know_15 (G 6) (G 7) (G 8) (G 9) (G 10) (G 11) (G 12) (G 13) (G 14) (G 15) (G 16) (G 17) (G 18) nC nT nR nD (G 19) (G 27) (G 28) k15).2.2) k59) hx hb hK hP hD hS 16 15 (congrArg (fun z : Nat → Int32 => (some ((ba 28), (.inl ((ka 28), 16384, .inl z) : va_E)) : Option (Nat × va_E))) eg78) rfl ((4 * k15) + k59) rfl sd78 (by decide) dM_know_78 (fun H locs hP hD hS => ?_)
                  rw [mW_g28, vup_ow] at hP hD
                  refine lv_iinc (v := nI (k59 + 1)) (lv' := [(2, .int (nI (k59 + 1))), (1, .int (nI k15)), (0, .ref a)]) hx hb dM_know_79 hl (k := 0) rfl (by exact ii_1 k59) (by decide) rfl (fun ls hl => ?_)
                  refine lv_goto (tgt := 59) hx hb dM_know_82 (by decide) ?_
                  have eb59 : lf_M_know_59 (G 7) (G 8) (G 9) (G 10) (G 11) (G 12) nC nT nR nD k15 (mr_M_open (G 6) ((lf_M_know_15 (G 6) (G 7) (G 8) (G 9) (G 10) (G 11) (G 12) (G 13) (G 14) (G 15) (G 16) (G 17) (G 18) nC nT nR nD (G 19) (G 27) (G 28) k15).1) nC k15 nC) ((lf_M_know_15 (G 6) (G 7) (G 8) (G 9) (G 10) (G 11) (G 12) (G 13) (G 14) (G 15) (G 16) (G 17) (G 18) nC nT nR nD (G 19) (G 27) (G 28) k15).2.2) (k59 + 1) = upd (lf_M_know_59 (G 7) (G 8) (G 9) (G 10) (G 11) (G 12) nC nT nR nD k15 (mr_M_open (G 6) ((lf_M_know_15 (G 6) (G 7) (G 8) (G 9) (G 10) (G 11) (G 12) (G 13) (G 14) (G 15) (G 16) (G 17) (G 18) nC nT nR nD (G 19) (G 27) (G 28) k15).1) nC k15 nC) ((lf_M_know_15 (G 6) (G 7) (G 8) (G 9) (G 10) (G 11) (G 12) (G 13) (G 14) (G 15) (G 16) (G 17) (G 18) nC nT nR nD (G 19) (G 27) (G 28) k15).2.2) k59) ((4 * k15) + k59) (mr_M_boundOf (G 7) (G 8) (G 9) (G 10) (G 11) (G 12) (mr_M_open (G 6) ((lf_M_know_15 (G 6) (G 7) (G 8) (G 9) (G 10) (G 11) (G 12) (G 13) (G 14) (G 15) (G 16) (G 17) (G 18) nC nT nR nD (G 19) (G 27) (G 28) k15).1) nC k15 nC) nC nT (nI k59)) := by rw [lf_M_know_59]
                  exact ih59 (k59 + 1) (by omega) (by omega)  H locs (by rw [eb59]; exact hP) (by rw [eb59]; exact hD) hS ls (by exact lv_sub hl [0, 1, 2] rfl)
            exact loop59 _ 0 (Nat.zero_le _) (Nat.lt_succ_self _)  H locs hP hD hS ls (lv_sub hl [0, 1, 2] rfl)
          refine lv_if_ne (tgt := 55) hx hb dM_know_41 (by decide) (fun c41 => ?_) (fun c41 => ?_)
          · refine lv_iconst (v := 0) hx hb dM_know_55 (by decide) ?_
            exact wt_i (by rw [if_neg c41]) (j56 ls hl)
          · refine lv_aload_n hx hb dM_know_44 rfl (lv_at hl 1 rfl) ?_
            refine ro_callV (r := (.int (mr_M_passesLimits (G 7) (G 8) (G 9) (G 10) (G 11) (G 12) (G 17) (G 18) (mr_M_open (G 6) ((lf_M_know_15 (G 6) (G 7) (G 8) (G 9) (G 10) (G 11) (G 12) (G 13) (G 14) (G 15) (G 16) (G 17) (G 18) nC nT nR nD (G 19) (G 27) (G 28) k15).1) nC k15 nC) nC nT))) (As := []) (rest := [.int (nI k15), .ref (ba 27)]) Sx (c_M_passesLimits l D cl hcl a ba ka (upd F 26 1) (va_up (va_up (va_up G 19 (mr_M_open (G 6) ((lf_M_know_15 (G 6) (G 7) (G 8) (G 9) (G 10) (G 11) (G 12) (G 13) (G 14) (G 15) (G 16) (G 17) (G 18) nC nT nR nD (G 19) (G 27) (G 28) k15).1) nC k15 nC)) 27 ((lf_M_know_15 (G 6) (G 7) (G 8) (G 9) (G 10) (G 11) (G 12) (G 13) (G 14) (G 15) (G 16) (G 17) (G 18) nC nT nR nD (G 19) (G 27) (G 28) k15).2.1)) 28 ((lf_M_know_15 (G 6) (G 7) (G 8) (G 9) (G 10) (G 11) (G 12) (G 13) (G 14) (G 15) (G 16) (G 17) (G 18) nC nT nR nD (G 19) (G 27) (G 28) k15).2.2)) hP nC nT hC h3 hT h8 h10) (cwV 0 hts gM_know_M_passesLimits rfl rfl rfl (by decide +kernel) ⟨Nat.le_of_ble_eq_true rfl, Nat.le_of_ble_eq_true rfl⟩) hK (va_recv hK hP (ci := 0) (q0 := 0) hcl rfl) rfl hl.1 rfl (Nat.le_of_ble_eq_true rfl) dM_know_45 ⟨Nat.zero_le _, Nat.zero_le _⟩ ?_
            refine lv_if_ne (tgt := 55) hx hb dM_know_48 (by decide) (fun c48 => ?_) (fun c48 => ?_)
            · refine lv_iconst (v := 0) hx hb dM_know_55 (by decide) ?_
              exact wt_i (by rw [if_pos c41, if_neg c48]) (j56 ls hl)
            · refine lv_iconst (v := 1) hx hb dM_know_51 (by decide) ?_
              refine lv_goto (tgt := 56) hx hb dM_know_52 (by decide) ?_
              exact wt_i (by rw [if_pos c41, if_pos c48]) (j56 ls hl)
    exact loop15 _ 0 (Nat.zero_le _) (Nat.lt_succ_self _)  H locs hP hD hS ls (lv_sub hl [0, 1] rfl)
  · have em : mr_M_know (F 26) (G 6) (G 7) (G 8) (G 9) (G 10) (G 11) (G 12) (G 13) (G 14) (G 15) (G 16) (G 17) (G 18) (G 19) (G 27) (G 28) nC nT nR nD = (F 26, G 19, G 27, G 28) := by rw [mr_M_know, if_neg c4]
    exact hret _ _ _ _ _ (by simp only [em]; rw [upd_keep (f := F) (j := 26) (x := F 26) rfl, vup_keep (f := G) (j := 19) (x := G 19) rfl, vup_keep (f := G) (j := 27) (x := G 27) rfl, vup_keep (f := G) (j := 28) (x := G 28) rfl]) hP hD hS dM_know_7
def lf_M_nextRow_4 (g6 : Nat → Int32) (nC : Nat) (st : Nat) : Nat → Nat → (Nat → Int32) → Nat × (Nat → Int32)
  | 0, j, r => (j, r)
  | N + 1, j, r => (if (nI j - 1) < 0 then (j, r) else (if (r (j - 1)) = ((g6 (j - 1)) - 1) then lf_M_nextRow_4 g6 nC st N (j - 1) (upd r (j - 1) (-1)) else (j, r)))
def mr_M_nextRow (g6 : Nat → Int32) (g19 : Nat → Int32) (nC : Nat) (st : Nat) : Int32 × (Nat → Int32) := (if 0 ≤ (nI ((lf_M_nextRow_4 g6 nC st (st + 1) st g19).1) - 1) then (nI ((lf_M_nextRow_4 g6 nC st (st + 1) st g19).1), upd ((lf_M_nextRow_4 g6 nC st (st + 1) st g19).2) ((lf_M_nextRow_4 g6 nC st (st + 1) st g19).1 - 1) ((((lf_M_nextRow_4 g6 nC st (st + 1) st g19).2) ((lf_M_nextRow_4 g6 nC st (st + 1) st g19).1 - 1)) + 1)) else ((-1), (lf_M_nextRow_4 g6 nC st (st + 1) st g19).2))
theorem lfle_M_nextRow (g6 : Nat → Int32) (nC st : Nat) : ∀ (N j : Nat) (r : Nat → Int32), (lf_M_nextRow_4 g6 nC st N j r).1 ≤ j := by
  intro N
  induction N with
  | zero => intro j r; exact Nat.le_refl _
  | succ N ih => intro j r; rw [lf_M_nextRow_4]; repeat' first | exact Nat.le_refl _ | exact Nat.le_trans (ih _ _) (Nat.sub_le _ _) | split
theorem nx_spec (g6 : Nat → Int32) (nC st : Nat) : ∀ (N j : Nat) (r : Nat → Int32), j < N → j ≤ 65536 → (∀ c, c < (lf_M_nextRow_4 g6 nC st N j r).1 → (lf_M_nextRow_4 g6 nC st N j r).2 c = r c) ∧ ((lf_M_nextRow_4 g6 nC st N j r).1 = 0 ∨ ¬ r ((lf_M_nextRow_4 g6 nC st N j r).1 - 1) = g6 ((lf_M_nextRow_4 g6 nC st N j r).1 - 1) - 1) := by
  intro N
  induction N with
  | zero => intro j r h; exact absurd h (Nat.not_lt_zero _)
  | succ N ih =>
    intro j r hj hs
    by_cases c1 : nI j - 1 < 0
    · have h0 : j ≤ 0 := dn_neg (n := j) (k := 0) c1 hs
      rw [lf_M_nextRow_4, if_pos c1]
      exact ⟨fun c _ => rfl, Or.inl (by show j = 0; omega)⟩
    · have h0 : ¬ j ≤ 0 := dn_nneg (n := j) (k := 0) c1 hs
      by_cases c2 : r (j - 1) = g6 (j - 1) - 1
      · rw [lf_M_nextRow_4, if_neg c1, if_pos c2]
        obtain ⟨a1, a2⟩ := ih (j - 1) (upd r (j - 1) (-1)) (by omega) (by omega)
        have hle := lfle_M_nextRow g6 nC st N (j - 1) (upd r (j - 1) (-1))
        refine ⟨fun c hc => ?_, ?_⟩
        · rw [a1 c hc]; exact pk_un (by omega)
        · by_cases hz : (lf_M_nextRow_4 g6 nC st N (j - 1) (upd r (j - 1) (-1))).1 = 0
          · exact Or.inl hz
          · refine Or.inr ?_
            rcases a2 with a2 | a2
            · exact absurd a2 hz
            · rwa [pk_un (by omega)] at a2
      · rw [lf_M_nextRow_4, if_neg c1, if_neg c2]
        exact ⟨fun c _ => rfl, Or.inr c2⟩
theorem b_next {g6 : Nat → Int32} {nC : Nat} {r : Nat → Int32} {s : Nat} (hC : nC ≤ 8) (h6 : ∀ c, c < nC → ∃ z : Nat, g6 c = nI z ∧ 2 ≤ z ∧ z ≤ 6) (hs : s ≤ nC) (hr : ∀ c, c < s → ∃ v : Nat, r c = nI v ∧ v < zg g6 c) : bI g6 nC (mr_M_nextRow g6 r nC s).2 (mr_M_nextRow g6 r nC s).1 ∧ bm g6 nC (mr_M_nextRow g6 r nC s).2 (mr_M_nextRow g6 r nC s).1 < bm g6 nC r (nI s) := by
  obtain ⟨a1, a2⟩ := nx_spec g6 nC s (s + 1) s r (by omega) (by omega)
  have hle := lfle_M_nextRow g6 nC s (s + 1) s r
  generalize hq : lf_M_nextRow_4 g6 nC s (s + 1) s r = q at a1 a2 hle
  unfold mr_M_nextRow
  rw [hq, bm_at (by omega)]
  by_cases h0 : 0 ≤ nI q.1 - 1
  · have hp := up_pos h0 (by omega)
    rw [if_pos h0]
    obtain ⟨v, ev, hv⟩ := hr (q.1 - 1) (by omega)
    obtain ⟨z1, z2, z3⟩ := zg_ok h6 (c := q.1 - 1) (by omega)
    have hne : ¬ r (q.1 - 1) = g6 (q.1 - 1) - 1 := by
      rcases a2 with a2 | a2
      · omega
      · exact a2
    have hv1 : v < zg g6 (q.1 - 1) - 1 := by
      rcases Nat.lt_or_ge v (zg g6 (q.1 - 1) - 1) with h | h
      · exact h
      · exfalso
        apply hne
        rw [ev, z1, show zg g6 (q.1 - 1) = v + 1 by omega]
        exact (nI_pred v).symm
    have e2 : q.2 (q.1 - 1) = nI v := by rw [a1 _ (by omega), ev]
    have e4 : upd q.2 (q.1 - 1) (q.2 (q.1 - 1) + 1) (q.1 - 1) = nI (v + 1) := by rw [pk_us, e2, nI_1]
    refine ⟨Or.inr ⟨q.1, by omega, rfl, fun c hc => ?_⟩, ?_⟩
    · show ∃ v : Nat, upd q.2 (q.1 - 1) (q.2 (q.1 - 1) + 1) c = nI v ∧ v < zg g6 c
      by_cases h : c = q.1 - 1
      · rw [h]
        exact ⟨v + 1, e4, by omega⟩
      · rw [pk_un h, a1 c hc]
        exact hr c (by omega)
    · show bm g6 nC (upd q.2 (q.1 - 1) (q.2 (q.1 - 1) + 1)) (nI q.1) < _
      rw [bm_at (by omega)]
      have h := tr_next (z := zg g6) (r := rn r) (r' := rn (upd q.2 (q.1 - 1) (q.2 (q.1 - 1) + 1))) (n := nC) (c := q.1 - 1) (s := s) (by omega) (by unfold rn; rw [ev, nI_clamp (by omega)]; exact hv1) (by unfold rn; rw [e4, ev, nI_clamp (by omega), nI_clamp (by omega)]) (fun i hi => by unfold rn; rw [pk_un (by omega), a1 i (by omega)])
      rwa [show q.1 - 1 + 1 = q.1 by omega] at h
  · rw [if_neg h0]
    refine ⟨Or.inl rfl, ?_⟩
    show bm g6 nC q.2 (-1) < _
    have e : bm g6 nC q.2 (-1) = 0 := by unfold bm; exact if_pos (by decide)
    rw [e]
    exact tr_pos _ _ _ _
set_option maxHeartbeats 4000000 in
set_option maxRecDepth 100000 in
theorem c_M_nextRow (l : Launch) (D : va_G) (cl : List vw_C) (hcl : cl[0]? = some (RM, TM, 29)) (a : Nat) (ba : Nat → Nat) (ka : Nat → ClassId) (F : Nat → Int32) (G : Nat → Nat → Int32) {H0 : Heap} (hP : va_P D cl (mW a ba ka F G) H0) (hD : va_D (fun _ => True) (mW a ba ka F G)) (nC : Nat) (st : Nat) (hC : nC ≤ 8) (hst : st ≤ nC) : ww_Met l yM_nextRow wsM_nextRow ({ frames := 0, cells := 0, slots := 0, locals := 0 } : Room) D cl (mT ka) H0 [.ref a, .int (nI st)] (mW a ba ka F G) (some (.int ((mr_M_nextRow (G 6) (G 19) nC st).1))) (mW a ba ka F (va_up G 19 ((mr_M_nextRow (G 6) (G 19) nC st).2))) := by
  refine ww_metI (by decide) rfl (Nat.le_of_ble_eq_true rfl) hP hD ?_
  intro p e s m args below meth c Q A Sx hK hP hD hS hA ls hl hret
  obtain ⟨hx, hb, hml, hown, hts⟩ := id Sx
  have hl : lv_has ls 3 [(0, .ref a), (1, .int (nI st))] := hl
  obtain ⟨H, eH⟩ : ∃ H : Heap, H = H0 := ⟨_, rfl⟩
  obtain ⟨locs, eL⟩ : ∃ L : List Loc, L = [] := ⟨_, rfl⟩
  have hP : va_P D cl (mW a ba ka F G) H := by rw [eH]; exact hP
  have hS : va_S A H0 H locs := by rw [eH, eL]; exact hS
  rw [show W p l e ({ frames := 0, cells := 0, slots := 0, locals := 0 } : Room) s m args below meth c H0 [] 0 0 Q (F0 m 0 ls []) = W p l e ({ frames := 0, cells := 0, slots := 0, locals := 0 } : Room) s m args below meth c H locs 0 0 Q (F0 m 0 ls []) by rw [eH, eL]]
  clear eH eL
  have f54 := hts _ (List.mem_cons_of_mem _ mfM_54)
  have inM_ : ∀ w ∈ wsM0, w ∈ wsM_nextRow := fun w h => List.mem_cons_of_mem _ (inM_all w h)
  have f13 := hts _ (List.mem_cons_of_mem _ mfM_13)
  refine lv_iload_n hx hb dM_nextRow_0 rfl (lv_at hl 1 rfl) ?_
  refine lv_iconst (v := 1) hx hb dM_nextRow_1 (by decide) ?_
  refine lv_isub hx hb dM_nextRow_2 ?_
  refine lv_istore_n (lv' := [(2, .int ((nI st) - 1)), (0, .ref a), (1, .int (nI st))]) hx hb dM_nextRow_3 rfl hl (by decide) rfl (fun ls hl => ?_)
  have ex4 : ∀ (H : Heap) (locs : List Loc), va_P D cl (mW a ba ka F (va_up G 19 ((lf_M_nextRow_4 (G 6) nC st (st + 1) st (G 19)).2))) H → va_D A (mW a ba ka F (va_up G 19 ((lf_M_nextRow_4 (G 6) nC st (st + 1) st (G 19)).2))) → va_S A H0 H locs → ∀ (ls : Array Slot), lv_has ls 3 [(2, .int (nI ((lf_M_nextRow_4 (G 6) nC st (st + 1) st (G 19)).1) - 1)), (0, .ref a), (1, .int (nI st))] → W p l e ({ frames := 0, cells := 0, slots := 0, locals := 0 } : Room) s m args below meth c H locs 0 0 Q (F0 m 38 ls []) := by
    intro H locs hP hD hS ls hl
    have hRl := lfle_M_nextRow (G 6) nC st (st + 1) st (G 19)
    refine lv_iload_n hx hb dM_nextRow_38 rfl (lv_at hl 0 rfl) ?_
    refine lv_if_ge (tgt := 44) hx hb dM_nextRow_39 (by decide) (fun c39 => ?_) (fun c39 => ?_)
    · have n39 := up_pos c39 (by omega)
      refine lv_aload_n hx hb dM_nextRow_44 rfl (lv_at hl 1 rfl) ?_
      refine va_get (D := D) (ci := 0) (v := .ref (ba 19)) (C := RM) (T := TM) (N := 29) hx hb hts inM_ hown hK hP 0 rfl hcl 19 (by decide) f54 (fun _ h9 => h9) rfl dM_nextRow_45 ?_
      refine lv_iload_n hx hb dM_nextRow_48 rfl (lv_at hl 0 rfl) ?_
      refine lv_dup2_11 hx hb dM_nextRow_49 rfl rfl ?_
      have sd50 : (lf_M_nextRow_4 (G 6) nC st (st + 1) st (G 19)).1 - 1 < 8 := by omega
      have eg50 : (va_up G 19 ((lf_M_nextRow_4 (G 6) nC st (st + 1) st (G 19)).2)) 19 = (lf_M_nextRow_4 (G 6) nC st (st + 1) st (G 19)).2 := by rw [vup_us]
      refine wn_iald (f := (lf_M_nextRow_4 (G 6) nC st (st + 1) st (G 19)).2) hx hb hK hP 14 13 (congrArg (fun z : Nat → Int32 => (some ((ba 19), (.inl ((ka 19), 8, .inl z) : va_E)) : Option (Nat × va_E))) eg50) rfl ((lf_M_nextRow_4 (G 6) nC st (st + 1) st (G 19)).1 - 1) (dn_ix (n := (lf_M_nextRow_4 (G 6) nC st (st + 1) st (G 19)).1) (k := 0) (by omega)) sd50 (by decide) dM_nextRow_50 ?_
      refine lv_iconst (v := 1) hx hb dM_nextRow_51 (by decide) ?_
      refine lv_iadd hx hb dM_nextRow_52 ?_
      have sd53 : (lf_M_nextRow_4 (G 6) nC st (st + 1) st (G 19)).1 - 1 < 8 := by omega
      have eg53 : (va_up G 19 ((lf_M_nextRow_4 (G 6) nC st (st + 1) st (G 19)).2)) 19 = (lf_M_nextRow_4 (G 6) nC st (st + 1) st (G 19)).2 := by rw [vup_us]
      refine wn_iast (f := (lf_M_nextRow_4 (G 6) nC st (st + 1) st (G 19)).2) hx hb hK hP hD hS 14 13 (congrArg (fun z : Nat → Int32 => (some ((ba 19), (.inl ((ka 19), 8, .inl z) : va_E)) : Option (Nat × va_E))) eg53) rfl ((lf_M_nextRow_4 (G 6) nC st (st + 1) st (G 19)).1 - 1) (dn_ix (n := (lf_M_nextRow_4 (G 6) nC st (st + 1) st (G 19)).1) (k := 0) (by omega)) sd53 (by decide) dM_nextRow_53 (fun H locs hP hD hS => ?_)
      rw [mW_g19, vup_ow] at hP hD
      refine lv_iload_n hx hb dM_nextRow_54 rfl (lv_at hl 0 rfl) ?_
      refine lv_iconst (v := 1) hx hb dM_nextRow_55 (by decide) ?_
      refine lv_iadd hx hb dM_nextRow_56 ?_
      refine wt_i (r := nI ((lf_M_nextRow_4 (G 6) nC st (st + 1) st (G 19)).1)) (by exact up_1 _) ?_
      have em : mr_M_nextRow (G 6) (G 19) nC st = (nI ((lf_M_nextRow_4 (G 6) nC st (st + 1) st (G 19)).1), upd ((lf_M_nextRow_4 (G 6) nC st (st + 1) st (G 19)).2) ((lf_M_nextRow_4 (G 6) nC st (st + 1) st (G 19)).1 - 1) ((((lf_M_nextRow_4 (G 6) nC st (st + 1) st (G 19)).2) ((lf_M_nextRow_4 (G 6) nC st (st + 1) st (G 19)).1 - 1)) + 1)) := by rw [mr_M_nextRow, if_pos c39]
      exact hret _ _ _ _ _ _ (by simp only [em]) (by simp only [em]) hP hD hS dM_nextRow_57
    · refine lv_iconst (v := (-1)) hx hb dM_nextRow_42 (by decide) ?_
      have em : mr_M_nextRow (G 6) (G 19) nC st = ((-1), (lf_M_nextRow_4 (G 6) nC st (st + 1) st (G 19)).2) := by rw [mr_M_nextRow, if_neg c39]
      exact hret _ _ _ _ _ _ (by simp only [em]) (by simp only [em]) hP hD hS dM_nextRow_43
  have loop4 : ∀ (N4 : Nat) (j : Nat) (r : Nat → Int32), j ≤ st → j < N4 → lf_M_nextRow_4 (G 6) nC st (st + 1) st (G 19) = lf_M_nextRow_4 (G 6) nC st N4 j r → ∀ (H : Heap) (locs : List Loc), va_P D cl (mW a ba ka F (va_up G 19 r)) H → va_D A (mW a ba ka F (va_up G 19 r)) → va_S A H0 H locs → ∀ (ls : Array Slot), lv_has ls 3 [(2, .int (nI j - 1)), (0, .ref a), (1, .int (nI st))] → W p l e ({ frames := 0, cells := 0, slots := 0, locals := 0 } : Room) s m args below meth c H locs 0 0 Q (F0 m 4 ls []) := by
    intro N4
    induction N4 with
    | zero => intro j r hj hm4; exact absurd hm4 (Nat.not_lt_zero _)
    | succ N4 ih4 =>
      intro j r hj hm4 hR4 H locs hP hD hS ls hl
      refine lv_iload_n hx hb dM_nextRow_4 rfl (lv_at hl 0 rfl) ?_
      refine lv_if_lt (tgt := 38) hx hb dM_nextRow_5 (by decide) (fun c5 => ?_) (fun c5 => ?_)
      · have er4 : lf_M_nextRow_4 (G 6) nC st (N4 + 1) j r = (j, r) := by rw [lf_M_nextRow_4, if_pos c5]
        rw [er4] at hR4
        exact ex4 H locs (by rw [hR4]; exact hP) (by rw [hR4]; exact hD) hS ls (by rw [hR4]; exact lv_sub hl [0, 1, 2] rfl)
      · have n5 : ¬ j ≤ 0 := dn_nneg (n := j) (k := 0) c5 (by omega)
        refine lv_aload_n hx hb dM_nextRow_8 rfl (lv_at hl 1 rfl) ?_
        refine va_get (D := D) (ci := 0) (v := .ref (ba 19)) (C := RM) (T := TM) (N := 29) hx hb hts inM_ hown hK hP 0 rfl hcl 19 (by decide) f54 (fun _ h9 => h9) rfl dM_nextRow_9 ?_
        refine lv_iload_n hx hb dM_nextRow_12 rfl (lv_at hl 0 rfl) ?_
        have sd13 : j - 1 < 8 := by omega
        have eg13 : (va_up G 19 r) 19 = r := by rw [vup_us]
        refine wn_iald (f := r) hx hb hK hP 14 13 (congrArg (fun z : Nat → Int32 => (some ((ba 19), (.inl ((ka 19), 8, .inl z) : va_E)) : Option (Nat × va_E))) eg13) rfl (j - 1) (dn_ix (n := j) (k := 0) (by omega)) sd13 (by decide) dM_nextRow_13 ?_
        refine lv_aload_n hx hb dM_nextRow_14 rfl (lv_at hl 1 rfl) ?_
        refine va_get (D := D) (ci := 0) (v := .ref (ba 6)) (C := RM) (T := TM) (N := 29) hx hb hts inM_ hown hK hP 0 rfl hcl 6 (by decide) f13 (fun _ h9 => h9) rfl dM_nextRow_15 ?_
        refine lv_iload_n hx hb dM_nextRow_18 rfl (lv_at hl 0 rfl) ?_
        have sd19 : j - 1 < 8 := by omega
        refine wn_iald (f := G 6) hx hb hK hP 1 0 rfl rfl (j - 1) (dn_ix (n := j) (k := 0) (by omega)) sd19 (by decide) dM_nextRow_19 ?_
        refine lv_iconst (v := 1) hx hb dM_nextRow_20 (by decide) ?_
        refine lv_isub hx hb dM_nextRow_21 ?_
        refine lv_icmp_ne (tgt := 38) hx hb dM_nextRow_22 (by decide) (fun c22 => ?_) (fun c22 => ?_)
        · have er4 : lf_M_nextRow_4 (G 6) nC st (N4 + 1) j r = (j, r) := by rw [lf_M_nextRow_4, if_neg c5, if_neg c22]
          rw [er4] at hR4
          exact ex4 H locs (by rw [hR4]; exact hP) (by rw [hR4]; exact hD) hS ls (by rw [hR4]; exact lv_sub hl [0, 1, 2] rfl)
        · refine lv_aload_n hx hb dM_nextRow_25 rfl (lv_at hl 1 rfl) ?_
          refine va_get (D := D) (ci := 0) (v := .ref (ba 19)) (C := RM) (T := TM) (N := 29) hx hb hts inM_ hown hK hP 0 rfl hcl 19 (by decide) f54 (fun _ h9 => h9) rfl dM_nextRow_26 ?_
          refine lv_iload_n hx hb dM_nextRow_29 rfl (lv_at hl 0 rfl) ?_
          refine lv_iconst (v := (-1)) hx hb dM_nextRow_30 (by decide) ?_
          have sd31 : j - 1 < 8 := by omega
          have eg31 : (va_up G 19 r) 19 = r := by rw [vup_us]
          refine wn_iast (f := r) hx hb hK hP hD hS 14 13 (congrArg (fun z : Nat → Int32 => (some ((ba 19), (.inl ((ka 19), 8, .inl z) : va_E)) : Option (Nat × va_E))) eg31) rfl (j - 1) (dn_ix (n := j) (k := 0) (by omega)) sd31 (by decide) dM_nextRow_31 (fun H locs hP hD hS => ?_)
          rw [mW_g19, vup_ow] at hP hD
          refine lv_iinc (v := nI (j - 1) - 1) (lv' := [(2, .int (nI (j - 1) - 1)), (0, .ref a), (1, .int (nI st))]) hx hb dM_nextRow_32 hl (k := 0) rfl (by exact dn_dec (n := j) (k := 0) (by omega)) (by decide) rfl (fun ls hl => ?_)
          refine lv_goto (tgt := 4) hx hb dM_nextRow_35 (by decide) ?_
          have er4 : lf_M_nextRow_4 (G 6) nC st (N4 + 1) j r = lf_M_nextRow_4 (G 6) nC st N4 (j - 1) (upd r (j - 1) (-1)) := by rw [lf_M_nextRow_4, if_neg c5, if_pos c22]
          exact ih4 (j - 1) (upd r (j - 1) (-1)) (by omega) (by omega) (hR4.trans er4) H locs hP hD hS ls (lv_sub hl [0, 1, 2] rfl)
  exact loop4 (st + 1) st (G 19) (by omega) (by omega) rfl H locs hP hD hS ls (lv_sub hl [0, 1, 2] rfl)
def lf_M_nearOf_26 (g6 : Nat → Int32) (g19 : Nat → Int32) (nC : Nat) (d : Nat) (q : Int32) (c_ : Nat) (qg19_26 : Nat → Int32) (K : Nat → Int32 → (Int32 × (Nat → Int32))) : Nat → Nat → Int32 → (Int32 × (Nat → Int32))
  | 0, v_, le_ => (0, g19)
  | N + 1, v_, le_ => (if (nI (g6 c_).toNatClampNeg) ≤ (nI v_) then K (c_ + 1) le_ else (if (nI v_) = (qg19_26 c_) then lf_M_nearOf_26 g6 g19 nC d q c_ qg19_26 K N (v_ + 1) le_ else (if le_ = 0 then (mr_M_closed g6 (upd qg19_26 c_ (nI v_)) nC, upd qg19_26 c_ (nI v_)) else lf_M_nearOf_26 g6 g19 nC d q c_ qg19_26 K N (v_ + 1) (le_ + (-1)))))
def lf_M_nearOf_14 (g6 : Nat → Int32) (g19 : Nat → Int32) (nC : Nat) (d : Nat) (q : Int32) (qg19_14 : Nat → Int32) : Nat → Nat → Int32 → (Int32 × (Nat → Int32))
  | 0, c_, lf_ => (0, g19)
  | N + 1, c_, lf_ => (if (nI nC) ≤ (nI c_) then ((-1), qg19_14) else lf_M_nearOf_26 g6 g19 nC d q c_ qg19_14 (fun c__ lf__ => lf_M_nearOf_14 g6 g19 nC d q qg19_14 N c__ lf__) 7 0 lf_)
def mr_M_nearOf (g6 : Nat → Int32) (g19 : Nat → Int32) (nC : Nat) (d : Nat) (q : Int32) : Int32 × (Nat → Int32) := lf_M_nearOf_14 g6 g19 nC d q (mr_M_open g6 g19 nC d nC) (nC + 1) 0 q
set_option maxHeartbeats 4000000 in
set_option maxRecDepth 100000 in
theorem c_M_nearOf (l : Launch) (D : va_G) (cl : List vw_C) (hcl : cl[0]? = some (RM, TM, 29)) (a : Nat) (ba : Nat → Nat) (ka : Nat → ClassId) (F : Nat → Int32) (G : Nat → Nat → Int32) {H0 : Heap} (hP : va_P D cl (mW a ba ka F G) H0) (hD : va_D (fun _ => True) (mW a ba ka F G)) (nC : Nat) (d : Nat) (q : Int32) (h2 : F 2 = nI nC) (hC : nC ≤ 8) (h6 : ∀ c, c < nC → ∃ z : Nat, G 6 c = nI z ∧ 2 ≤ z ∧ z ≤ 6) : ww_Met l yM_nearOf wsM_nearOf ({ frames := 1, cells := 0, slots := 0, locals := 24 } : Room) D cl (mT ka) H0 [.ref a, .int (nI d), .int q] (mW a ba ka F G) (some (.int ((mr_M_nearOf (G 6) (G 19) nC d q).1))) (mW a ba ka F (va_up G 19 ((mr_M_nearOf (G 6) (G 19) nC d q).2))) := by
  refine ww_metI (by decide) rfl (Nat.le_of_ble_eq_true rfl) hP hD ?_
  intro p e s m args below meth c Q A Sx hK hP hD hS hA ls hl hret
  obtain ⟨hx, hb, hml, hown, hts⟩ := id Sx
  have hl : lv_has ls 6 [(0, .ref a), (1, .int (nI d)), (2, .int q)] := hl
  obtain ⟨H, eH⟩ : ∃ H : Heap, H = H0 := ⟨_, rfl⟩
  obtain ⟨locs, eL⟩ : ∃ L : List Loc, L = [] := ⟨_, rfl⟩
  have hP : va_P D cl (mW a ba ka F G) H := by rw [eH]; exact hP
  have hS : va_S A H0 H locs := by rw [eH, eL]; exact hS
  rw [show W p l e ({ frames := 1, cells := 0, slots := 0, locals := 24 } : Room) s m args below meth c H0 [] 0 0 Q (F0 m 0 ls []) = W p l e ({ frames := 1, cells := 0, slots := 0, locals := 24 } : Room) s m args below meth c H locs 0 0 Q (F0 m 0 ls []) by rw [eH, eL]]
  clear eH eL
  have f81 := hts _ (List.mem_cons_of_mem _ mfM_81)
  have inM_ : ∀ w ∈ wsM0, w ∈ wsM_nearOf := fun w h => List.mem_cons_of_mem _ (inM_all w h)
  have f13 := hts _ (List.mem_cons_of_mem _ mfM_13)
  have f54 := hts _ (List.mem_cons_of_mem _ mfM_54)
  refine lv_aload_n hx hb dM_nearOf_0 rfl (lv_at hl 0 rfl) ?_
  refine lv_iload_n hx hb dM_nearOf_1 rfl (lv_at hl 1 rfl) ?_
  refine lv_aload_n hx hb dM_nearOf_2 rfl (lv_at hl 0 rfl) ?_
  refine va_get (D := D) (ci := 0) (v := .int (F 2)) (C := RM) (T := TM) (N := 29) hx hb hts inM_ hown hK hP 0 rfl hcl 2 (by decide) f81 (fun _ h9 => h9) rfl dM_nearOf_3 ?_
  refine wt_i h2 ?_
  refine ww_callV (r := none) (w' := mW a ba ka F (va_up G 19 (mr_M_open (G 6) (G 19) nC d nC))) (As := [.int (nI d), .int (nI nC)]) (rest := []) Sx (c_M_open l D cl hcl a ba ka F G hP (hD.weaken (fun _ _ _ _ => trivial)) nC d nC h2 hC h6 hC) (cwV 2 hts gM_nearOf_M_open rfl rfl rfl (by decide +kernel) ⟨Nat.le_of_ble_eq_true rfl, Nat.le_of_ble_eq_true rfl⟩) hK (va_recv hK hP (ci := 0) (q0 := 0) hcl rfl) rfl hl.1 rfl (Nat.le_of_ble_eq_true rfl) dM_nearOf_6 ⟨Nat.zero_le _, Nat.zero_le _⟩ hD hS hA (fun H locs hP hD hS => ?_)
  refine lv_iload_n hx hb dM_nearOf_9 rfl (lv_at hl 2 rfl) ?_
  refine lv_istore_n (lv' := [(3, .int q), (0, .ref a), (1, .int (nI d)), (2, .int q)]) hx hb dM_nearOf_10 rfl hl (by decide) rfl (fun ls hl => ?_)
  refine lv_iconst (v := 0) hx hb dM_nearOf_11 (by decide) ?_
  refine lv_istore (lv' := [(4, .int 0), (3, .int q), (0, .ref a), (1, .int (nI d)), (2, .int q)]) hx hb dM_nearOf_12 hl (by decide) rfl (fun ls hl => ?_)
  have loop14 : ∀ (N14 : Nat) (c_ : Nat) (lf_ : Int32), c_ ≤ nC → nC - c_ < N14 → lf_M_nearOf_14 (G 6) (G 19) nC d q (mr_M_open (G 6) (G 19) nC d nC) (nC + 1) 0 q = lf_M_nearOf_14 (G 6) (G 19) nC d q (mr_M_open (G 6) (G 19) nC d nC) N14 c_ lf_ → ∀ (H : Heap) (locs : List Loc), va_P D cl (mW a ba ka F (va_up G 19 (mr_M_open (G 6) (G 19) nC d nC))) H → va_D A (mW a ba ka F (va_up G 19 (mr_M_open (G 6) (G 19) nC d nC))) → va_S A H0 H locs → ∀ (ls : Array Slot), lv_has ls 6 [(4, .int (nI c_)), (3, .int lf_), (0, .ref a), (1, .int (nI d)), (2, .int q)] → W p l e ({ frames := 1, cells := 0, slots := 0, locals := 24 } : Room) s m args below meth c H locs 0 0 Q (F0 m 14 ls []) := by
    intro N14
    induction N14 with
    | zero => intro c_ lf_ hc hm14; exact absurd hm14 (Nat.not_lt_zero _)
    | succ N14 ih14 =>
      intro c_ lf_ hc hm14 hR14 H locs hP hD hS ls hl
      refine lv_iload hx hb dM_nearOf_14 (lv_at hl 0 rfl) ?_
      refine lv_aload_n hx hb dM_nearOf_16 rfl (lv_at hl 2 rfl) ?_
      refine va_get (D := D) (ci := 0) (v := .int (F 2)) (C := RM) (T := TM) (N := 29) hx hb hts inM_ hown hK hP 0 rfl hcl 2 (by decide) f81 (fun _ h9 => h9) rfl dM_nearOf_17 ?_
      refine wt_i h2 ?_
      refine lv_icmp_ge (tgt := 83) hx hb dM_nearOf_20 (by decide) (fun c20 => ?_) (fun c20 => ?_)
      · have n20 : nC ≤ c_ := (nI_leI (a := nC) (b := c_) (by omega) (by omega)).mp c20
        refine lv_iconst (v := (-1)) hx hb dM_nearOf_83 (by decide) ?_
        have em : mr_M_nearOf (G 6) (G 19) nC d q = ((-1), mr_M_open (G 6) (G 19) nC d nC) := by rw [mr_M_nearOf, hR14, lf_M_nearOf_14, if_pos c20]
        exact hret _ _ _ _ _ _ (by simp only [em]) (by simp only [em]) hP hD hS dM_nearOf_84
      · have n20 : ¬ nC ≤ c_ := fun h9 => c20 ((nI_leI (a := nC) (b := c_) (by omega) (by omega)).mpr h9)
        obtain ⟨z, ez, hz1, hz2⟩ := h6 c_ (by omega)
        have xz : G 6 c_ = nI (G 6 c_).toNatClampNeg ∧ (G 6 c_).toNatClampNeg < 7 := ix_cl ⟨z, by omega, ez⟩ (by omega)
        refine lv_iconst (v := 0) hx hb dM_nearOf_23 (by decide) ?_
        refine lv_istore (lv' := [(5, .int 0), (4, .int (nI c_)), (3, .int lf_), (0, .ref a), (1, .int (nI d)), (2, .int q)]) hx hb dM_nearOf_24 hl (by decide) rfl (fun ls hl => ?_)
        have loop26 : ∀ (N26 : Nat) (v_ : Nat) (le_ : Int32), v_ ≤ 6 → 6 - v_ < N26 → lf_M_nearOf_26 (G 6) (G 19) nC d q c_ (mr_M_open (G 6) (G 19) nC d nC) (fun c__ lf__ => lf_M_nearOf_14 (G 6) (G 19) nC d q (mr_M_open (G 6) (G 19) nC d nC) N14 c__ lf__) 7 0 lf_ = lf_M_nearOf_26 (G 6) (G 19) nC d q c_ (mr_M_open (G 6) (G 19) nC d nC) (fun c__ lf__ => lf_M_nearOf_14 (G 6) (G 19) nC d q (mr_M_open (G 6) (G 19) nC d nC) N14 c__ lf__) N26 v_ le_ → ∀ (H : Heap) (locs : List Loc), va_P D cl (mW a ba ka F (va_up G 19 (mr_M_open (G 6) (G 19) nC d nC))) H → va_D A (mW a ba ka F (va_up G 19 (mr_M_open (G 6) (G 19) nC d nC))) → va_S A H0 H locs → ∀ (ls : Array Slot), lv_has ls 6 [(5, .int (nI v_)), (4, .int (nI c_)), (3, .int le_), (0, .ref a), (1, .int (nI d)), (2, .int q)] → W p l e ({ frames := 1, cells := 0, slots := 0, locals := 24 } : Room) s m args below meth c H locs 0 0 Q (F0 m 26 ls []) := by
          intro N26
          induction N26 with
          | zero => intro v_ le_ hv hm26; exact absurd hm26 (Nat.not_lt_zero _)
          | succ N26 ih26 =>
            intro v_ le_ hv hm26 hR26 H locs hP hD hS ls hl
            refine lv_iload hx hb dM_nearOf_26 (lv_at hl 0 rfl) ?_
            refine lv_aload_n hx hb dM_nearOf_28 rfl (lv_at hl 3 rfl) ?_
            refine va_get (D := D) (ci := 0) (v := .ref (ba 6)) (C := RM) (T := TM) (N := 29) hx hb hts inM_ hown hK hP 0 rfl hcl 6 (by decide) f13 (fun _ h9 => h9) rfl dM_nearOf_29 ?_
            refine lv_iload hx hb dM_nearOf_32 (lv_at hl 1 rfl) ?_
            have sd34 : c_ < 8 := by omega
            refine wn_iald (f := G 6) hx hb hK hP 1 0 rfl rfl c_ rfl sd34 (by decide) dM_nearOf_34 ?_
            refine wt_i (r := nI (G 6 c_).toNatClampNeg) (by exact xz.1) ?_
            refine lv_icmp_ge (tgt := 77) hx hb dM_nearOf_35 (by decide) (fun c35 => ?_) (fun c35 => ?_)
            · have n35 : ((G 6 c_).toNatClampNeg) ≤ v_ := (nI_leI (a := ((G 6 c_).toNatClampNeg)) (b := v_) (by omega) (by omega)).mp c35
              refine lv_iinc (v := nI (c_ + 1)) (lv' := [(4, .int (nI (c_ + 1))), (5, .int (nI v_)), (3, .int le_), (0, .ref a), (1, .int (nI d)), (2, .int q)]) hx hb dM_nearOf_77 hl (k := 1) rfl (by exact ii_1 c_) (by decide) rfl (fun ls hl => ?_)
              refine lv_goto (tgt := 14) hx hb dM_nearOf_80 (by decide) ?_
              have er14 : lf_M_nearOf_14 (G 6) (G 19) nC d q (mr_M_open (G 6) (G 19) nC d nC) (N14 + 1) c_ lf_ = lf_M_nearOf_14 (G 6) (G 19) nC d q (mr_M_open (G 6) (G 19) nC d nC) N14 (c_ + 1) le_ := by rw [lf_M_nearOf_14, if_neg c20, hR26, lf_M_nearOf_26, if_pos c35]
              exact ih14 (c_ + 1) le_ (by omega) (by omega) (hR14.trans er14) H locs hP hD hS ls (lv_sub hl [0, 2, 3, 4, 5] rfl)
            · have n35 : ¬ ((G 6 c_).toNatClampNeg) ≤ v_ := fun h9 => c35 ((nI_leI (a := ((G 6 c_).toNatClampNeg)) (b := v_) (by omega) (by omega)).mpr h9)
              refine lv_iload hx hb dM_nearOf_38 (lv_at hl 0 rfl) ?_
              refine lv_aload_n hx hb dM_nearOf_40 rfl (lv_at hl 3 rfl) ?_
              refine va_get (D := D) (ci := 0) (v := .ref (ba 19)) (C := RM) (T := TM) (N := 29) hx hb hts inM_ hown hK hP 0 rfl hcl 19 (by decide) f54 (fun _ h9 => h9) rfl dM_nearOf_41 ?_
              refine lv_iload hx hb dM_nearOf_44 (lv_at hl 1 rfl) ?_
              have sd46 : c_ < 8 := by omega
              have eg46 : (va_up G 19 (mr_M_open (G 6) (G 19) nC d nC)) 19 = mr_M_open (G 6) (G 19) nC d nC := by rw [vup_us]
              refine wn_iald (f := mr_M_open (G 6) (G 19) nC d nC) hx hb hK hP 14 13 (congrArg (fun z : Nat → Int32 => (some ((ba 19), (.inl ((ka 19), 8, .inl z) : va_E)) : Option (Nat × va_E))) eg46) rfl c_ rfl sd46 (by decide) dM_nearOf_46 ?_
              refine lv_icmp_eq (tgt := 71) hx hb dM_nearOf_47 (by decide) (fun c47 => ?_) (fun c47 => ?_)
              · refine lv_iinc (v := nI (v_ + 1)) (lv' := [(5, .int (nI (v_ + 1))), (4, .int (nI c_)), (3, .int le_), (0, .ref a), (1, .int (nI d)), (2, .int q)]) hx hb dM_nearOf_71 hl (k := 0) rfl (by exact ii_1 v_) (by decide) rfl (fun ls hl => ?_)
                refine lv_goto (tgt := 26) hx hb dM_nearOf_74 (by decide) ?_
                have er26 : lf_M_nearOf_26 (G 6) (G 19) nC d q c_ (mr_M_open (G 6) (G 19) nC d nC) (fun c__ lf__ => lf_M_nearOf_14 (G 6) (G 19) nC d q (mr_M_open (G 6) (G 19) nC d nC) N14 c__ lf__) (N26 + 1) v_ le_ = lf_M_nearOf_26 (G 6) (G 19) nC d q c_ (mr_M_open (G 6) (G 19) nC d nC) (fun c__ lf__ => lf_M_nearOf_14 (G 6) (G 19) nC d q (mr_M_open (G 6) (G 19) nC d nC) N14 c__ lf__) N26 (v_ + 1) le_ := by rw [lf_M_nearOf_26, if_neg c35, if_pos c47]
                exact ih26 (v_ + 1) le_ (by omega) (by omega) (hR26.trans er26) H locs hP hD hS ls (lv_sub hl [0, 1, 2, 3, 4, 5] rfl)
              · refine lv_iload_n hx hb dM_nearOf_50 rfl (lv_at hl 2 rfl) ?_
                refine lv_if_ne (tgt := 68) hx hb dM_nearOf_51 (by decide) (fun c51 => ?_) (fun c51 => ?_)
                · refine lv_iinc (v := le_ + (-1)) (lv' := [(3, .int (le_ + (-1))), (5, .int (nI v_)), (4, .int (nI c_)), (0, .ref a), (1, .int (nI d)), (2, .int q)]) hx hb dM_nearOf_68 hl (k := 2) rfl (by exact rfl) (by decide) rfl (fun ls hl => ?_)
                  refine lv_iinc (v := nI (v_ + 1)) (lv' := [(5, .int (nI (v_ + 1))), (3, .int (le_ + (-1))), (4, .int (nI c_)), (0, .ref a), (1, .int (nI d)), (2, .int q)]) hx hb dM_nearOf_71 hl (k := 1) rfl (by exact ii_1 v_) (by decide) rfl (fun ls hl => ?_)
                  refine lv_goto (tgt := 26) hx hb dM_nearOf_74 (by decide) ?_
                  have er26 : lf_M_nearOf_26 (G 6) (G 19) nC d q c_ (mr_M_open (G 6) (G 19) nC d nC) (fun c__ lf__ => lf_M_nearOf_14 (G 6) (G 19) nC d q (mr_M_open (G 6) (G 19) nC d nC) N14 c__ lf__) (N26 + 1) v_ le_ = lf_M_nearOf_26 (G 6) (G 19) nC d q c_ (mr_M_open (G 6) (G 19) nC d nC) (fun c__ lf__ => lf_M_nearOf_14 (G 6) (G 19) nC d q (mr_M_open (G 6) (G 19) nC d nC) N14 c__ lf__) N26 (v_ + 1) (le_ + (-1)) := by rw [lf_M_nearOf_26, if_neg c35, if_neg c47, if_neg c51]
                  exact ih26 (v_ + 1) (le_ + (-1)) (by omega) (by omega) (hR26.trans er26) H locs hP hD hS ls (lv_sub hl [0, 2, 1, 3, 4, 5] rfl)
                · refine lv_aload_n hx hb dM_nearOf_54 rfl (lv_at hl 3 rfl) ?_
                  refine va_get (D := D) (ci := 0) (v := .ref (ba 19)) (C := RM) (T := TM) (N := 29) hx hb hts inM_ hown hK hP 0 rfl hcl 19 (by decide) f54 (fun _ h9 => h9) rfl dM_nearOf_55 ?_
                  refine lv_iload hx hb dM_nearOf_58 (lv_at hl 1 rfl) ?_
                  refine lv_iload hx hb dM_nearOf_60 (lv_at hl 0 rfl) ?_
                  have sd62 : c_ < 8 := by omega
                  have eg62 : (va_up G 19 (mr_M_open (G 6) (G 19) nC d nC)) 19 = mr_M_open (G 6) (G 19) nC d nC := by rw [vup_us]
                  refine wn_iast (f := mr_M_open (G 6) (G 19) nC d nC) hx hb hK hP hD hS 14 13 (congrArg (fun z : Nat → Int32 => (some ((ba 19), (.inl ((ka 19), 8, .inl z) : va_E)) : Option (Nat × va_E))) eg62) rfl c_ rfl sd62 (by decide) dM_nearOf_62 (fun H locs hP hD hS => ?_)
                  rw [mW_g19, vup_ow] at hP hD
                  refine lv_aload_n hx hb dM_nearOf_63 rfl (lv_at hl 3 rfl) ?_
                  refine ro_callV (r := (.int (mr_M_closed (G 6) (upd (mr_M_open (G 6) (G 19) nC d nC) c_ (nI v_)) nC))) (As := []) (rest := []) Sx (c_M_closed l D cl hcl a ba ka F (va_up G 19 (upd (mr_M_open (G 6) (G 19) nC d nC) c_ (nI v_))) hP nC h2 hC) (cwV 0 hts gM_nearOf_M_closed rfl rfl rfl (by decide +kernel) ⟨Nat.le_of_ble_eq_true rfl, Nat.le_of_ble_eq_true rfl⟩) hK (va_recv hK hP (ci := 0) (q0 := 0) hcl rfl) rfl hl.1 rfl (Nat.le_of_ble_eq_true rfl) dM_nearOf_64 ⟨Nat.zero_le _, Nat.zero_le _⟩ ?_
                  have em : mr_M_nearOf (G 6) (G 19) nC d q = (mr_M_closed (G 6) (upd (mr_M_open (G 6) (G 19) nC d nC) c_ (nI v_)) nC, upd (mr_M_open (G 6) (G 19) nC d nC) c_ (nI v_)) := by rw [mr_M_nearOf, hR14, lf_M_nearOf_14, if_neg c20, hR26, lf_M_nearOf_26, if_neg c35, if_neg c47, if_pos c51]
                  exact hret _ _ _ _ _ _ (by simp only [em]) (by simp only [em]) hP hD hS dM_nearOf_67
        exact loop26 7 0 lf_ (by omega) (by omega) rfl H locs hP hD hS ls (lv_sub hl [0, 1, 2, 3, 4, 5] rfl)
  exact loop14 (nC + 1) 0 q (by omega) (by omega) rfl H locs hP hD hS ls (lv_sub hl [0, 1, 2, 3, 4] rfl)
end
section
/-! what the reference's small methods mean: rows of digits and their numbers (M is its tag) -/
theorem open_sem {g6 g19 : Nat → Int32} {nC d st : Nat} (hC : nC ≤ 8) (h6 : ∀ c, c < nC → ∃ z : Nat, g6 c = nI z ∧ 2 ≤ z ∧ z ≤ 6) (hd : d < 2 ^ 31) (hst : st ≤ 8) : ∀ k, k ≤ nC →
    (lf_M_open_10 g6 nC d st (nI d) g19 k).1 = nI (d / mp (zg g6) (nC - k) k) ∧ ∀ c, (lf_M_open_10 g6 nC d st (nI d) g19 k).2 c = if nC - k ≤ c ∧ c < nC then (if c < st then nI (dg (zg g6) nC d c) else -1) else g19 c := by
  intro k
  induction k with
  | zero =>
    intro _
    rw [lf_M_open_10]
    refine ⟨?_, fun c => ?_⟩
    · rw [mp, Nat.div_one]
    · rw [if_neg (by omega)]
  | succ k ih =>
    intro hk
    obtain ⟨i1, i2⟩ := ih (by omega)
    obtain ⟨z1, z2, z3⟩ := zg_ok h6 (c := nC - 1 - k) (by omega)
    have hm := mp_small h6 (a := nC - k) (n := k) (by omega)
    have hlt : d / mp (zg g6) (nC - k) k < 2 ^ 31 := Nat.lt_of_le_of_lt (Nat.div_le_self _ _) hd
    have e1 : nC - (k + 1) = nC - 1 - k := by omega
    have e2 : nC - 1 - k + 1 = nC - k := by omega
    rw [lf_M_open_10]
    refine ⟨?_, fun c => ?_⟩
    · show (lf_M_open_10 g6 nC d st (nI d) g19 k).1 / g6 (nC - 1 - k) = _
      rw [i1, z1, pk_div hlt (by omega) (by omega), mp_first, e1, e2, Nat.mul_comm, Nat.div_div_eq_div_mul]
    · show upd _ (nC - 1 - k) _ c = _
      unfold upd
      by_cases hc : c = nC - 1 - k
      · rw [if_pos hc, if_pos (show nC - (k + 1) ≤ c ∧ c < nC by omega)]
        have ec : nI (nC - k) - 1 = nI (nC - 1 - k) := dn_ix (by omega)
        rw [ec]
        by_cases hs : st ≤ nC - 1 - k
        · rw [if_pos ((nI_leI (by omega) (by omega)).mpr hs), if_neg (by omega)]
        · rw [if_neg (fun h => hs ((nI_leI (by omega) (by omega)).mp h)), if_pos (by omega), i1, z1, pk_rem hlt (by omega) (by omega)]
          unfold dg pc_
          rw [hc, e2, show nC - (nC - k) = k by omega]
      · rw [if_neg hc, i2]
        by_cases h1 : nC - k ≤ c ∧ c < nC
        · rw [if_pos h1, if_pos (show nC - (k + 1) ≤ c ∧ c < nC by omega)]
        · rw [if_neg h1, if_neg (show ¬ (nC - (k + 1) ≤ c ∧ c < nC) by omega)]
/-- a design's row, with the first st choices set -/
theorem open_row {g6 g19 : Nat → Int32} {nC d st : Nat} (hC : nC ≤ 8) (h6 : ∀ c, c < nC → ∃ z : Nat, g6 c = nI z ∧ 2 ≤ z ∧ z ≤ 6) (hd : d < 2 ^ 31) (hst : st ≤ 8) (c : Nat) : mr_M_open g6 g19 nC d st c = if c < nC then (if c < st then nI (dg (zg g6) nC d c) else -1) else g19 c := by
  unfold mr_M_open
  rw [(open_sem hC h6 hd hst nC (Nat.le_refl _)).2 c, Nat.sub_self]
  by_cases h : c < nC
  · rw [if_pos h, if_pos ⟨Nat.zero_le _, h⟩]
  · rw [if_neg h, if_neg (fun q => h q.2)]
theorem closed_sem {g6 g19 : Nat → Int32} {nC : Nat} {r : Nat → Nat} (h6 : ∀ c, c < nC → ∃ z : Nat, g6 c = nI z ∧ 2 ≤ z ∧ z ≤ 6) (hr : ∀ c, c < nC → g19 c = nI (r c)) : ∀ k, k ≤ nC → lf_M_closed_4 g6 g19 nC 0 k = nI (cn (zg g6) r k) := by
  intro k
  induction k with
  | zero => intro _; rfl
  | succ k ih =>
    intro hk
    rw [lf_M_closed_4, ih (by omega), (zg_ok h6 (c := k) (by omega)).1, hr k (by omega), pk_mul, nI_add]
    rfl
theorem closed_num {g6 g19 : Nat → Int32} {nC : Nat} {r : Nat → Nat} (h6 : ∀ c, c < nC → ∃ z : Nat, g6 c = nI z ∧ 2 ≤ z ∧ z ≤ 6) (hr : ∀ c, c < nC → g19 c = nI (r c)) : mr_M_closed g6 g19 nC = nI (cn (zg g6) r nC) := closed_sem h6 hr nC (Nat.le_refl _)
theorem nears_sem {g6 : Nat → Int32} {nC : Nat} (h6 : ∀ c, c < nC → ∃ z : Nat, g6 c = nI z ∧ 2 ≤ z ∧ z ≤ 6) : ∀ k, k ≤ nC → lf_M_nears_4 g6 nC 0 k = nI (ns (zg g6) k) := by
  intro k
  induction k with
  | zero => intro _; rfl
  | succ k ih =>
    intro hk
    obtain ⟨z1, z2, z3⟩ := zg_ok h6 (c := k) (by omega)
    have e : g6 k - 1 = nI (zg g6 k - 1) := by
      rw [z1, show zg g6 k = (zg g6 k - 1) + 1 by omega, nI_pred]
      rfl
    rw [lf_M_nears_4, ih (by omega), e, nI_add]
    rfl
theorem nears_num {g6 : Nat → Int32} {nC : Nat} (h6 : ∀ c, c < nC → ∃ z : Nat, g6 c = nI z ∧ 2 ≤ z ∧ z ≤ 6) : mr_M_nears g6 nC = nI (ns (zg g6) nC) := nears_sem h6 nC (Nat.le_refl _)
theorem ns_small {g6 : Nat → Int32} {nC : Nat} (h6 : ∀ c, c < nC → ∃ z : Nat, g6 c = nI z ∧ 2 ≤ z ∧ z ≤ 6) : ∀ k, k ≤ nC → k ≤ ns (zg g6) k ∧ ns (zg g6) k ≤ 5 * k := by
  intro k
  induction k with
  | zero => intro _; exact ⟨Nat.le_refl _, Nat.le_refl _⟩
  | succ k ih =>
    intro hk
    have h := ih (by omega)
    obtain ⟨z1, z2, z3⟩ := zg_ok h6 (c := k) (by omega)
    rw [ns]
    omega
/-- the inner loop of nearOf: at the choice c, whose own value is o -/
theorem near_in {g6 g19 rr : Nat → Int32} {nC d c o : Nat} {q : Int32} {K : Nat → Int32 → Int32 × (Nat → Int32)} (hz : g6 c = nI (zg g6 c)) (hz6 : zg g6 c ≤ 6) (ho : o < zg g6 c) (hr : rr c = nI o) : ∀ (N v L : Nat), zg g6 c - v < N → v ≤ zg g6 c → L < 2 ^ 31 →
    lf_M_nearOf_26 g6 g19 nC d q c rr K N v (nI L) = if L < (zg g6 c - v) - (if v ≤ o then 1 else 0) then (mr_M_closed g6 (upd rr c (nI (if o < v ∨ v + L < o then v + L else v + L + 1))) nC, upd rr c (nI (if o < v ∨ v + L < o then v + L else v + L + 1))) else K (c + 1) (nI (L - ((zg g6 c - v) - (if v ≤ o then 1 else 0)))) := by
  intro N
  induction N with
  | zero => intro v L h; exact absurd h (Nat.not_lt_zero _)
  | succ N ih =>
    intro v L h hv hL
    have hzz : (nI (zg g6 c) : Int32) = nI (g6 c).toNatClampNeg := rfl
    rw [lf_M_nearOf_26, ← hzz]
    by_cases h1 : zg g6 c ≤ v
    · have e1 : v = zg g6 c := by omega
      rw [if_pos ((nI_leI (by omega) (by omega)).mpr h1), if_neg (show ¬ v ≤ o by omega), if_neg (by omega), show L - (zg g6 c - v - 0) = L by omega]
    · rw [if_neg (fun h9 => h1 ((nI_leI (by omega) (by omega)).mp h9)), hr]
      by_cases h2 : v = o
      · rw [if_pos (by rw [h2]), ih (v + 1) L (by omega) (by omega) hL, if_neg (show ¬ v + 1 ≤ o by omega), if_pos (show v ≤ o by omega)]
        rw [show zg g6 c - (v + 1) - 0 = zg g6 c - v - 1 by omega]
        by_cases h3 : L < zg g6 c - v - 1
        · rw [if_pos h3, if_pos h3, if_pos (show o < v + 1 ∨ v + 1 + L < o by omega), if_neg (show ¬ (o < v ∨ v + L < o) by omega), show v + 1 + L = v + L + 1 by omega]
        · rw [if_neg h3, if_neg h3]
      · rw [if_neg (fun h9 => h2 ((nI_eq (by omega) (by omega)).mp h9))]
        by_cases h4 : L = 0
        · subst h4
          rw [if_pos (show nI 0 = 0 from rfl)]
          have hlt : 0 < (zg g6 c - v) - (if v ≤ o then 1 else 0) := by split <;> omega
          have hw : (o < v ∨ v + 0 < o) := by omega
          rw [if_pos hlt, if_pos hw, Nat.add_zero]
        · have e5 : nI L + (-1) = nI (L - 1) := sb_m1 (by omega)
          rw [if_neg (nI_ne0 (by omega) hL), e5, ih (v + 1) (L - 1) (by omega) (by omega) (by omega)]
          have ei : (zg g6 c - (v + 1)) - (if v + 1 ≤ o then 1 else 0) + 1 = (zg g6 c - v) - (if v ≤ o then 1 else 0) := by split <;> split <;> omega
          by_cases h3 : L < (zg g6 c - v) - (if v ≤ o then 1 else 0)
          · rw [if_pos h3, if_pos (show L - 1 < (zg g6 c - (v + 1)) - (if v + 1 ≤ o then 1 else 0) by omega)]
            have ew : (if o < v + 1 ∨ v + 1 + (L - 1) < o then v + 1 + (L - 1) else v + 1 + (L - 1) + 1) = (if o < v ∨ v + L < o then v + L else v + L + 1) := by split <;> split <;> omega
            rw [ew]
          · rw [if_neg h3, if_neg (show ¬ L - 1 < (zg g6 c - (v + 1)) - (if v + 1 ≤ o then 1 else 0) by omega), show L - 1 - ((zg g6 c - (v + 1)) - (if v + 1 ≤ o then 1 else 0)) = L - ((zg g6 c - v) - (if v ≤ o then 1 else 0)) by omega]
theorem near_out {g6 g19 rr : Nat → Int32} {nC d : Nat} {q : Int32} (hC : nC ≤ 8) (h6 : ∀ c, c < nC → ∃ z : Nat, g6 c = nI z ∧ 2 ≤ z ∧ z ≤ 6) (hr : ∀ c, c < nC → rr c = nI (dg (zg g6) nC d c)) : ∀ (N c L : Nat), nC - c < N → c ≤ nC → L < 2 ^ 31 →
    lf_M_nearOf_14 g6 g19 nC d q rr N c (nI L) = match nbr (zg g6) nC d N c L with
      | none => (-1, rr)
      | some (c', w) => (mr_M_closed g6 (upd rr c' (nI w)) nC, upd rr c' (nI w)) := by
  intro N
  induction N with
  | zero => intro c L h; exact absurd h (Nat.not_lt_zero _)
  | succ N ih =>
    intro c L h hc hL
    rw [lf_M_nearOf_14, nbr]
    by_cases h1 : nC ≤ c
    · rw [if_pos ((nI_leI (by omega) (by omega)).mpr h1), if_pos h1]
    · obtain ⟨z1, z2, z3⟩ := zg_ok h6 (c := c) (by omega)
      have ho : dg (zg g6) nC d c < zg g6 c := dg_lt (by omega)
      rw [if_neg (fun h9 => h1 ((nI_leI (by omega) (by omega)).mp h9)), if_neg h1, near_in z1 z3 ho (hr c (by omega)) 7 0 L (by omega) (by omega) hL]
      rw [if_pos (Nat.zero_le _), show zg g6 c - 0 - 1 = zg g6 c - 1 by omega]
      by_cases h2 : L < zg g6 c - 1
      · rw [if_pos h2, if_pos h2]
        have ew : (if dg (zg g6) nC d c < 0 ∨ 0 + L < dg (zg g6) nC d c then 0 + L else 0 + L + 1) = (if L < dg (zg g6) nC d c then L else L + 1) := by
          rw [Nat.zero_add]
          by_cases h3 : L < dg (zg g6) nC d c
          · rw [if_pos h3, if_pos (Or.inr h3)]
          · rw [if_neg h3, if_neg (by omega)]
        rw [ew]
      · rw [if_neg h2, if_neg h2]
        exact ih (c + 1) (L - (zg g6 c - 1)) (by omega) (by omega) (by omega)
/-- the near design as a number, and the row that is left -/
theorem near_num {g6 g19 : Nat → Int32} {nC d k : Nat} (hC : nC ≤ 8) (h6 : ∀ c, c < nC → ∃ z : Nat, g6 c = nI z ∧ 2 ≤ z ∧ z ≤ 6) (hd : d < 2 ^ 31) (hk : k < ns (zg g6) nC) : ∃ c w : Nat, nbr (zg g6) nC d (nC + 1) 0 k = some (c, w) ∧ c < nC ∧ w < zg g6 c ∧ (mr_M_nearOf g6 g19 nC d (nI k)).1 = nI (cn (zg g6) (fun j => if j = c then w else dg (zg g6) nC d j) nC) := by
  obtain ⟨c, w, e, hc, hw⟩ := nbr_some (z := zg g6) (n := nC) (d := d) (fun c hc => (zg_ok h6 hc).2.1) (nC + 1) 0 k (by omega) (Nat.zero_le _) hk
  have hks := (ns_small h6 nC (Nat.le_refl _)).2
  have hrow : ∀ c, c < nC → mr_M_open g6 g19 nC d nC c = nI (dg (zg g6) nC d c) := fun c hc => by
    rw [open_row hC h6 hd hC c, if_pos hc, if_pos hc]
  refine ⟨c, w, e, hc, hw, ?_⟩
  unfold mr_M_nearOf
  rw [near_out hC h6 hrow (nC + 1) 0 k (by omega) (Nat.zero_le _) (by omega), e]
  show mr_M_closed g6 (upd (mr_M_open g6 g19 nC d nC) c (nI w)) nC = _
  refine closed_num h6 (fun j hj => ?_)
  by_cases h : j = c
  · rw [h, pk_us, if_pos rfl]
  · rw [pk_un h, if_neg h, hrow j hj]
theorem near_lt {g6 g19 : Nat → Int32} {nC d k : Nat} (hC : nC ≤ 8) (h6 : ∀ c, c < nC → ∃ z : Nat, g6 c = nI z ∧ 2 ≤ z ∧ z ≤ 6) (hd : d < 2 ^ 31) (hk : k < ns (zg g6) nC) : ∃ j : Nat, j < mp (zg g6) 0 nC ∧ (mr_M_nearOf g6 g19 nC d (nI k)).1 = nI j := by
  obtain ⟨c, w, e, hc, hw, en⟩ := near_num (g19 := g19) hC h6 hd hk
  refine ⟨_, cn_lt (fun j hj => ?_), en⟩
  have := (zg_ok h6 hj).2.1
  by_cases h : j = c
  · rw [if_pos h, h]; exact hw
  · rw [if_neg h]; exact dg_lt (by omega)
end
section
def mr_M_legal (f26 : Int32) (g6 : Nat → Int32) (g7 : Nat → Int32) (g8 : Nat → Int32) (g9 : Nat → Int32) (g10 : Nat → Int32) (g11 : Nat → Int32) (g12 : Nat → Int32) (g13 : Nat → Int32) (g14 : Nat → Int32) (g15 : Nat → Int32) (g16 : Nat → Int32) (g17 : Nat → Int32) (g18 : Nat → Int32) (g19 : Nat → Int32) (g27 : Nat → Int32) (g28 : Nat → Int32) (nC : Nat) (nT : Nat) (nR : Nat) (nD : Nat) (d : Int32) : Int32 × Int32 × Int32 × (Nat → Int32) × (Nat → Int32) × (Nat → Int32) := (if ((if (mr_M_isDesign nD d) = 0 then 1 else 0) : Int32) ≤ 0 then (((mr_M_know f26 g6 g7 g8 g9 g10 g11 g12 g13 g14 g15 g16 g17 g18 g19 g27 g28 nC nT nR nD).2.2.1) d.toNatClampNeg, ((if (mr_M_isDesign nD d) = 0 then 1 else 0) : Int32), (mr_M_know f26 g6 g7 g8 g9 g10 g11 g12 g13 g14 g15 g16 g17 g18 g19 g27 g28 nC nT nR nD).1, (mr_M_know f26 g6 g7 g8 g9 g10 g11 g12 g13 g14 g15 g16 g17 g18 g19 g27 g28 nC nT nR nD).2.1, (mr_M_know f26 g6 g7 g8 g9 g10 g11 g12 g13 g14 g15 g16 g17 g18 g19 g27 g28 nC nT nR nD).2.2.1, (mr_M_know f26 g6 g7 g8 g9 g10 g11 g12 g13 g14 g15 g16 g17 g18 g19 g27 g28 nC nT nR nD).2.2.2) else (0, ((if (mr_M_isDesign nD d) = 0 then 1 else 0) : Int32), f26, g19, g27, g28))
set_option maxHeartbeats 4000000 in
set_option maxRecDepth 100000 in
theorem c_M_legal (l : Launch) (D : va_G) (cl : List vw_C) (hcl : cl[0]? = some (RM, TM, 29)) (a : Nat) (ba : Nat → Nat) (ka : Nat → ClassId) (F : Nat → Int32) (G : Nat → Nat → Int32) {H0 : Heap} (hP : va_P D cl (mW a ba ka F G) H0) (hD : va_D (fun _ => True) (mW a ba ka F G)) (nC : Nat) (nT : Nat) (nR : Nat) (nD : Nat) (d : Int32) (h2 : F 2 = nI nC) (hC : nC ≤ 8) (h3 : F 3 = nI nT) (hT : nT ≤ 100) (h4 : F 4 = nI nR) (hR : nR ≤ 40) (h5 : F 5 = nI nD) (hN : nD ≤ 4096) (h6 : ∀ c, c < nC → ∃ z : Nat, G 6 c = nI z ∧ 2 ≤ z ∧ z ≤ 6) (h8 : ∀ t, t < nT → ∃ x : Nat, x < nC ∧ G 8 t = nI x) (h10 : ∀ t, t < nT → G 10 t = -1 ∨ ∃ x : Nat, x < nC ∧ G 10 t = nI x) (h13 : ∀ j, j < nR → ∃ x : Nat, x < nC ∧ G 13 j = nI x) (h15 : ∀ j, j < nR → ∃ x : Nat, x < nC ∧ G 15 j = nI x) (h27 : ∀ j, narrow .boolean (.int (G 27 j)) = .int (G 27 j)) : ww_Met l yM_legal wsM_legal ({ frames := 4, cells := 0, slots := 0, locals := 92 } : Room) D cl (mT ka) H0 [.ref a, .int d] (mW a ba ka F G) (some (.int ((mr_M_legal (F 26) (G 6) (G 7) (G 8) (G 9) (G 10) (G 11) (G 12) (G 13) (G 14) (G 15) (G 16) (G 17) (G 18) (G 19) (G 27) (G 28) nC nT nR nD d).1))) (mW a ba ka (upd (upd F 0 ((mr_M_legal (F 26) (G 6) (G 7) (G 8) (G 9) (G 10) (G 11) (G 12) (G 13) (G 14) (G 15) (G 16) (G 17) (G 18) (G 19) (G 27) (G 28) nC nT nR nD d).2.1)) 26 ((mr_M_legal (F 26) (G 6) (G 7) (G 8) (G 9) (G 10) (G 11) (G 12) (G 13) (G 14) (G 15) (G 16) (G 17) (G 18) (G 19) (G 27) (G 28) nC nT nR nD d).2.2.1)) (va_up (va_up (va_up G 19 ((mr_M_legal (F 26) (G 6) (G 7) (G 8) (G 9) (G 10) (G 11) (G 12) (G 13) (G 14) (G 15) (G 16) (G 17) (G 18) (G 19) (G 27) (G 28) nC nT nR nD d).2.2.2.1)) 27 ((mr_M_legal (F 26) (G 6) (G 7) (G 8) (G 9) (G 10) (G 11) (G 12) (G 13) (G 14) (G 15) (G 16) (G 17) (G 18) (G 19) (G 27) (G 28) nC nT nR nD d).2.2.2.2.1)) 28 ((mr_M_legal (F 26) (G 6) (G 7) (G 8) (G 9) (G 10) (G 11) (G 12) (G 13) (G 14) (G 15) (G 16) (G 17) (G 18) (G 19) (G 27) (G 28) nC nT nR nD d).2.2.2.2.2))) := by
  refine ww_metZ (by unfold mr_M_legal; exact zb_f (zb_M_know h27 _) zb_0) (by decide) rfl (Nat.le_of_ble_eq_true rfl) hP hD ?_
  intro p e s m args below meth c Q A Sx hK hP hD hS hA ls hl hret
  obtain ⟨hx, hb, hml, hown, hts⟩ := id Sx
  have hl : lv_has ls 2 [(0, .ref a), (1, .int d)] := hl
  obtain ⟨H, eH⟩ : ∃ H : Heap, H = H0 := ⟨_, rfl⟩
  obtain ⟨locs, eL⟩ : ∃ L : List Loc, L = [] := ⟨_, rfl⟩
  have hP : va_P D cl (mW a ba ka F G) H := by rw [eH]; exact hP
  have hS : va_S A H0 H locs := by rw [eH, eL]; exact hS
  rw [show W p l e ({ frames := 4, cells := 0, slots := 0, locals := 92 } : Room) s m args below meth c H0 [] 0 0 Q (F0 m 0 ls []) = W p l e ({ frames := 4, cells := 0, slots := 0, locals := 92 } : Room) s m args below meth c H locs 0 0 Q (F0 m 0 ls []) by rw [eH, eL]]
  clear eH eL
  have f70 := hts _ (List.mem_cons_of_mem _ mfM_70)
  have inM_ : ∀ w ∈ wsM0, w ∈ wsM_legal := fun w h => List.mem_cons_of_mem _ (inM_all w h)
  have f60 := hts _ (List.mem_cons_of_mem _ mfM_60)
  refine lv_aload_n hx hb dM_legal_0 rfl (lv_at hl 0 rfl) ?_
  refine lv_aload_n hx hb dM_legal_1 rfl (lv_at hl 0 rfl) ?_
  refine lv_iload_n hx hb dM_legal_2 rfl (lv_at hl 1 rfl) ?_
  refine ro_callV (r := (.int (mr_M_isDesign nD d))) (As := [.int d]) (rest := [.ref a]) Sx (c_M_isDesign l D cl hcl a ba ka F G hP nD d h5) (cwV 1 hts gM_legal_M_isDesign rfl rfl rfl (by decide +kernel) ⟨Nat.le_of_ble_eq_true rfl, Nat.le_of_ble_eq_true rfl⟩) hK (va_recv hK hP (ci := 0) (q0 := 0) hcl rfl) rfl hl.1 rfl (Nat.le_of_ble_eq_true rfl) dM_legal_3 ⟨Nat.zero_le _, Nat.zero_le _⟩ ?_
  have j14 : ∀ (ls : Array Slot), lv_has ls 2 [(0, .ref a), (1, .int d)] → W p l e ({ frames := 4, cells := 0, slots := 0, locals := 92 } : Room) s m args below meth c H locs 0 0 Q (F0 m 14 ls [.int ((if (mr_M_isDesign nD d) = 0 then 1 else 0) : Int32), .ref a]) := by
    intro ls hl
    refine va_put (D := D) (ci := 0) (fs := mWl0 ba F) (v := .int ((if (mr_M_isDesign nD d) = 0 then 1 else 0) : Int32)) (ty := .int) (C := RM) (T := TM) (N := 29) hx hb hts inM_ tyM tyM_ok nmM hown hK hP hD hS 0 rfl hcl 0 (by decide) f70 (fun _ h9 => h9) rfl (by decide +kernel) rfl rfl (Nat.le_of_ble_eq_true rfl) dM_legal_14 (fun H locs hP hD hS => ?_)
    rw [mW_f0] at hP hD
    refine lv_aload_n hx hb dM_legal_17 rfl (lv_at hl 0 rfl) ?_
    have ef18 : (upd F 0 ((if (mr_M_isDesign nD d) = 0 then 1 else 0) : Int32)) 0 = ((if (mr_M_isDesign nD d) = 0 then 1 else 0) : Int32) := by rw [pk_us]
    refine va_get (D := D) (ci := 0) (v := .int ((if (mr_M_isDesign nD d) = 0 then 1 else 0) : Int32)) (C := RM) (T := TM) (N := 29) hx hb hts inM_ hown hK hP 0 rfl hcl 0 (by decide) f70 (fun _ h9 => h9) (congrArg (fun z => some (Value.int z)) ef18) dM_legal_18 ?_
    refine lv_if_le (tgt := 26) hx hb dM_legal_21 (by decide) (fun c21 => ?_) (fun c21 => ?_)
    · have xd := ix_cl (wd_ix (bq_c c21) hN) (by omega)
      refine lv_aload_n hx hb dM_legal_26 rfl (lv_at hl 0 rfl) ?_
      refine ww_callV (r := none) (w' := mW a ba ka (upd (upd F 0 ((if (mr_M_isDesign nD d) = 0 then 1 else 0) : Int32)) 26 ((mr_M_know (F 26) (G 6) (G 7) (G 8) (G 9) (G 10) (G 11) (G 12) (G 13) (G 14) (G 15) (G 16) (G 17) (G 18) (G 19) (G 27) (G 28) nC nT nR nD).1)) (va_up (va_up (va_up G 19 ((mr_M_know (F 26) (G 6) (G 7) (G 8) (G 9) (G 10) (G 11) (G 12) (G 13) (G 14) (G 15) (G 16) (G 17) (G 18) (G 19) (G 27) (G 28) nC nT nR nD).2.1)) 27 ((mr_M_know (F 26) (G 6) (G 7) (G 8) (G 9) (G 10) (G 11) (G 12) (G 13) (G 14) (G 15) (G 16) (G 17) (G 18) (G 19) (G 27) (G 28) nC nT nR nD).2.2.1)) 28 ((mr_M_know (F 26) (G 6) (G 7) (G 8) (G 9) (G 10) (G 11) (G 12) (G 13) (G 14) (G 15) (G 16) (G 17) (G 18) (G 19) (G 27) (G 28) nC nT nR nD).2.2.2))) (As := []) (rest := []) Sx (c_M_know l D cl hcl a ba ka (upd F 0 ((if (mr_M_isDesign nD d) = 0 then 1 else 0) : Int32)) G hP (hD.weaken (fun _ _ _ _ => trivial)) nC nT nR nD h2 hC h3 hT h4 hR h5 hN h6 h8 h10 h13 h15) (cwV 0 hts gM_legal_M_know rfl rfl rfl (by decide +kernel) ⟨Nat.le_of_ble_eq_true rfl, Nat.le_of_ble_eq_true rfl⟩) hK (va_recv hK hP (ci := 0) (q0 := 0) hcl rfl) rfl hl.1 rfl (Nat.le_of_ble_eq_true rfl) dM_legal_27 ⟨Nat.zero_le _, Nat.zero_le _⟩ hD hS hA (fun H locs hP hD hS => ?_)
      refine lv_aload_n hx hb dM_legal_30 rfl (lv_at hl 0 rfl) ?_
      refine va_get (D := D) (ci := 0) (v := .ref (ba 27)) (C := RM) (T := TM) (N := 29) hx hb hts inM_ hown hK hP 0 rfl hcl 27 (by decide) f60 (fun _ h9 => h9) rfl dM_legal_31 ?_
      refine lv_iload_n hx hb dM_legal_34 rfl (lv_at hl 1 rfl) ?_
      refine wt_i (r := nI d.toNatClampNeg) (by exact xd.1) ?_
      have sd35 : d.toNatClampNeg < 4096 := by omega
      have eg35 : (va_up (va_up (va_up G 19 ((mr_M_know (F 26) (G 6) (G 7) (G 8) (G 9) (G 10) (G 11) (G 12) (G 13) (G 14) (G 15) (G 16) (G 17) (G 18) (G 19) (G 27) (G 28) nC nT nR nD).2.1)) 27 ((mr_M_know (F 26) (G 6) (G 7) (G 8) (G 9) (G 10) (G 11) (G 12) (G 13) (G 14) (G 15) (G 16) (G 17) (G 18) (G 19) (G 27) (G 28) nC nT nR nD).2.2.1)) 28 ((mr_M_know (F 26) (G 6) (G 7) (G 8) (G 9) (G 10) (G 11) (G 12) (G 13) (G 14) (G 15) (G 16) (G 17) (G 18) (G 19) (G 27) (G 28) nC nT nR nD).2.2.2)) 27 = (mr_M_know (F 26) (G 6) (G 7) (G 8) (G 9) (G 10) (G 11) (G 12) (G 13) (G 14) (G 15) (G 16) (G 17) (G 18) (G 19) (G 27) (G 28) nC nT nR nD).2.2.1 := by rw [vup_un (k := 28) (j := 27) (by decide), vup_us]
      refine wn_zald (f := (mr_M_know (F 26) (G 6) (G 7) (G 8) (G 9) (G 10) (G 11) (G 12) (G 13) (G 14) (G 15) (G 16) (G 17) (G 18) (G 19) (G 27) (G 28) nC nT nR nD).2.2.1) hx hb hK hP 15 14 (congrArg (fun z : Nat → Int32 => (some ((ba 27), (.inl ((ka 27), 4096, .inl z) : va_E)) : Option (Nat × va_E))) eg35) rfl d.toNatClampNeg rfl sd35 (by decide) dM_legal_35 ?_
      have em : mr_M_legal (F 26) (G 6) (G 7) (G 8) (G 9) (G 10) (G 11) (G 12) (G 13) (G 14) (G 15) (G 16) (G 17) (G 18) (G 19) (G 27) (G 28) nC nT nR nD d = (((mr_M_know (F 26) (G 6) (G 7) (G 8) (G 9) (G 10) (G 11) (G 12) (G 13) (G 14) (G 15) (G 16) (G 17) (G 18) (G 19) (G 27) (G 28) nC nT nR nD).2.2.1) d.toNatClampNeg, ((if (mr_M_isDesign nD d) = 0 then 1 else 0) : Int32), (mr_M_know (F 26) (G 6) (G 7) (G 8) (G 9) (G 10) (G 11) (G 12) (G 13) (G 14) (G 15) (G 16) (G 17) (G 18) (G 19) (G 27) (G 28) nC nT nR nD).1, (mr_M_know (F 26) (G 6) (G 7) (G 8) (G 9) (G 10) (G 11) (G 12) (G 13) (G 14) (G 15) (G 16) (G 17) (G 18) (G 19) (G 27) (G 28) nC nT nR nD).2.1, (mr_M_know (F 26) (G 6) (G 7) (G 8) (G 9) (G 10) (G 11) (G 12) (G 13) (G 14) (G 15) (G 16) (G 17) (G 18) (G 19) (G 27) (G 28) nC nT nR nD).2.2.1, (mr_M_know (F 26) (G 6) (G 7) (G 8) (G 9) (G 10) (G 11) (G 12) (G 13) (G 14) (G 15) (G 16) (G 17) (G 18) (G 19) (G 27) (G 28) nC nT nR nD).2.2.2) := by rw [mr_M_legal, if_pos c21]
      exact hret _ _ _ _ _ _ (by simp only [em]) (by simp only [em]) hP hD hS dM_legal_36
    · refine lv_iconst (v := 0) hx hb dM_legal_24 (by decide) ?_
      have em : mr_M_legal (F 26) (G 6) (G 7) (G 8) (G 9) (G 10) (G 11) (G 12) (G 13) (G 14) (G 15) (G 16) (G 17) (G 18) (G 19) (G 27) (G 28) nC nT nR nD d = (0, ((if (mr_M_isDesign nD d) = 0 then 1 else 0) : Int32), F 26, G 19, G 27, G 28) := by rw [mr_M_legal, if_neg c21]
      exact hret _ _ _ _ _ _ (by simp only [em]) (by simp only [em]; rw [upd_keep (f := upd F 0 ((if (mr_M_isDesign nD d) = 0 then 1 else 0) : Int32)) (j := 26) (x := F 26) rfl, vup_keep (f := G) (j := 19) (x := G 19) rfl, vup_keep (f := G) (j := 27) (x := G 27) rfl, vup_keep (f := G) (j := 28) (x := G 28) rfl]) hP hD hS dM_legal_25
  refine lv_if_eq (tgt := 13) hx hb dM_legal_6 (by decide) (fun c6 => ?_) (fun c6 => ?_)
  · refine lv_iconst (v := 1) hx hb dM_legal_13 (by decide) ?_
    exact wt_i (by rw [if_pos c6]) (j14 ls hl)
  · refine lv_iconst (v := 0) hx hb dM_legal_9 (by decide) ?_
    refine lv_goto (tgt := 14) hx hb dM_legal_10 (by decide) ?_
    exact wt_i (by rw [if_neg c6]) (j14 ls hl)
def mr_M_limit (f26 : Int32) (g17 : Nat → Int32) (g18 : Nat → Int32) (nu : Int32) (on : Int32) (mo : Int32) : Int32 × Int32 × Int32 × (Nat → Int32) × (Nat → Int32) := (if ((if (mr_M_within nu 0 3) = 0 then 1 else 0) : Int32) ≤ 0 then (g17 nu.toNatClampNeg, ((if (mr_M_within nu 0 3) = 0 then 1 else 0) : Int32), 0, upd g17 nu.toNatClampNeg on, upd g18 nu.toNatClampNeg mo) else (0, ((if (mr_M_within nu 0 3) = 0 then 1 else 0) : Int32), f26, g17, g18))
set_option maxHeartbeats 4000000 in
set_option maxRecDepth 100000 in
theorem c_M_limit (l : Launch) (D : va_G) (cl : List vw_C) (hcl : cl[0]? = some (RM, TM, 29)) (a : Nat) (ba : Nat → Nat) (ka : Nat → ClassId) (F : Nat → Int32) (G : Nat → Nat → Int32) {H0 : Heap} (hP : va_P D cl (mW a ba ka F G) H0) (hD : va_D (fun _ => True) (mW a ba ka F G)) (nu : Int32) (on : Int32) (mo : Int32) (h17 : ∀ j, narrow .boolean (.int (G 17 j)) = .int (G 17 j)) (hon : vp_nar .boolean on = on) : ww_Met l yM_limit wsM_limit ({ frames := 1, cells := 0, slots := 0, locals := 22 } : Room) D cl (mT ka) H0 [.ref a, .int nu, .int on, .int mo] (mW a ba ka F G) (some (.int ((mr_M_limit (F 26) (G 17) (G 18) nu on mo).1))) (mW a ba ka (upd (upd F 0 ((mr_M_limit (F 26) (G 17) (G 18) nu on mo).2.1)) 26 ((mr_M_limit (F 26) (G 17) (G 18) nu on mo).2.2.1)) (va_up (va_up G 17 ((mr_M_limit (F 26) (G 17) (G 18) nu on mo).2.2.2.1)) 18 ((mr_M_limit (F 26) (G 17) (G 18) nu on mo).2.2.2.2))) := by
  refine ww_metZ (by unfold mr_M_limit; exact zb_f (h17 _) zb_0) (by decide) rfl (Nat.le_of_ble_eq_true rfl) hP hD ?_
  intro p e s m args below meth c Q A Sx hK hP hD hS hA ls hl hret
  obtain ⟨hx, hb, hml, hown, hts⟩ := id Sx
  have hl : lv_has ls 5 [(0, .ref a), (1, .int nu), (2, .int on), (3, .int mo)] := hl
  obtain ⟨H, eH⟩ : ∃ H : Heap, H = H0 := ⟨_, rfl⟩
  obtain ⟨locs, eL⟩ : ∃ L : List Loc, L = [] := ⟨_, rfl⟩
  have hP : va_P D cl (mW a ba ka F G) H := by rw [eH]; exact hP
  have hS : va_S A H0 H locs := by rw [eH, eL]; exact hS
  rw [show W p l e ({ frames := 1, cells := 0, slots := 0, locals := 22 } : Room) s m args below meth c H0 [] 0 0 Q (F0 m 0 ls []) = W p l e ({ frames := 1, cells := 0, slots := 0, locals := 22 } : Room) s m args below meth c H locs 0 0 Q (F0 m 0 ls []) by rw [eH, eL]]
  clear eH eL
  have f70 := hts _ (List.mem_cons_of_mem _ mfM_70)
  have inM_ : ∀ w ∈ wsM0, w ∈ wsM_limit := fun w h => List.mem_cons_of_mem _ (inM_all w h)
  have f47 := hts _ (List.mem_cons_of_mem _ mfM_47)
  have f51 := hts _ (List.mem_cons_of_mem _ mfM_51)
  have f90 := hts _ (List.mem_cons_of_mem _ mfM_90)
  refine lv_aload_n hx hb dM_limit_0 rfl (lv_at hl 0 rfl) ?_
  refine lv_iload_n hx hb dM_limit_1 rfl (lv_at hl 1 rfl) ?_
  refine lv_iconst (v := 0) hx hb dM_limit_2 (by decide) ?_
  refine lv_iconst (v := 3) hx hb dM_limit_3 (by decide) ?_
  refine ro_callS (r := (.int (mr_M_within nu 0 3))) (As := [.int nu, .int 0, .int 3]) (rest := [.ref a]) Sx (c_M_within l D cl hcl a ba ka F G hP nu 0 3) (va_cwS 3 hts gM_limit_M_within rfl rfl rfl (by decide +kernel) ⟨Nat.le_of_ble_eq_true rfl, Nat.le_of_ble_eq_true rfl⟩) hK rfl hl.1 rfl (Nat.le_of_ble_eq_true rfl) dM_limit_4 ⟨Nat.zero_le _, Nat.zero_le _⟩ ?_
  have j15 : ∀ (ls : Array Slot), lv_has ls 5 [(0, .ref a), (1, .int nu), (2, .int on), (3, .int mo)] → W p l e ({ frames := 1, cells := 0, slots := 0, locals := 22 } : Room) s m args below meth c H locs 0 0 Q (F0 m 15 ls [.int ((if (mr_M_within nu 0 3) = 0 then 1 else 0) : Int32), .ref a]) := by
    intro ls hl
    refine va_put (D := D) (ci := 0) (fs := mWl0 ba F) (v := .int ((if (mr_M_within nu 0 3) = 0 then 1 else 0) : Int32)) (ty := .int) (C := RM) (T := TM) (N := 29) hx hb hts inM_ tyM tyM_ok nmM hown hK hP hD hS 0 rfl hcl 0 (by decide) f70 (fun _ h9 => h9) rfl (by decide +kernel) rfl rfl (Nat.le_of_ble_eq_true rfl) dM_limit_15 (fun H locs hP hD hS => ?_)
    rw [mW_f0] at hP hD
    refine lv_aload_n hx hb dM_limit_18 rfl (lv_at hl 0 rfl) ?_
    have ef19 : (upd F 0 ((if (mr_M_within nu 0 3) = 0 then 1 else 0) : Int32)) 0 = ((if (mr_M_within nu 0 3) = 0 then 1 else 0) : Int32) := by rw [pk_us]
    refine va_get (D := D) (ci := 0) (v := .int ((if (mr_M_within nu 0 3) = 0 then 1 else 0) : Int32)) (C := RM) (T := TM) (N := 29) hx hb hts inM_ hown hK hP 0 rfl hcl 0 (by decide) f70 (fun _ h9 => h9) (congrArg (fun z => some (Value.int z)) ef19) dM_limit_19 ?_
    refine lv_if_le (tgt := 27) hx hb dM_limit_22 (by decide) (fun c22 => ?_) (fun c22 => ?_)
    · have xn := ix_cl (wi_nx (n := 3) (bq_c c22) (by decide)) (by omega)
      refine lv_aload_n hx hb dM_limit_27 rfl (lv_at hl 0 rfl) ?_
      refine va_get (D := D) (ci := 0) (v := .ref (ba 17)) (C := RM) (T := TM) (N := 29) hx hb hts inM_ hown hK hP 0 rfl hcl 17 (by decide) f47 (fun _ h9 => h9) rfl dM_limit_28 ?_
      refine lv_iload_n hx hb dM_limit_31 rfl (lv_at hl 1 rfl) ?_
      refine wt_i (r := nI nu.toNatClampNeg) (by exact xn.1) ?_
      have sd32 : nu.toNatClampNeg < 4 := by omega
      refine wn_zald (f := G 17) hx hb hK hP 12 11 rfl rfl nu.toNatClampNeg rfl sd32 (by decide) dM_limit_32 ?_
      refine lv_istore (lv' := [(4, .int (G 17 nu.toNatClampNeg)), (0, .ref a), (1, .int nu), (2, .int on), (3, .int mo)]) hx hb dM_limit_33 hl (by decide) rfl (fun ls hl => ?_)
      refine lv_aload_n hx hb dM_limit_35 rfl (lv_at hl 1 rfl) ?_
      refine va_get (D := D) (ci := 0) (v := .ref (ba 17)) (C := RM) (T := TM) (N := 29) hx hb hts inM_ hown hK hP 0 rfl hcl 17 (by decide) f47 (fun _ h9 => h9) rfl dM_limit_36 ?_
      refine lv_iload_n hx hb dM_limit_39 rfl (lv_at hl 2 rfl) ?_
      refine wt_i (r := nI nu.toNatClampNeg) (by exact xn.1) ?_
      refine lv_iload_n hx hb dM_limit_40 rfl (lv_at hl 3 rfl) ?_
      have sd41 : nu.toNatClampNeg < 4 := by omega
      refine wn_zast (f := G 17) hx hb hK hP hD hS 12 11 rfl rfl nu.toNatClampNeg rfl sd41 (by decide) (by exact hon) dM_limit_41 (fun H locs hP hD hS => ?_)
      rw [mW_g17] at hP hD
      refine lv_aload_n hx hb dM_limit_42 rfl (lv_at hl 1 rfl) ?_
      refine va_get (D := D) (ci := 0) (v := .ref (ba 18)) (C := RM) (T := TM) (N := 29) hx hb hts inM_ hown hK hP 0 rfl hcl 18 (by decide) f51 (fun _ h9 => h9) rfl dM_limit_43 ?_
      refine lv_iload_n hx hb dM_limit_46 rfl (lv_at hl 2 rfl) ?_
      refine wt_i (r := nI nu.toNatClampNeg) (by exact xn.1) ?_
      refine lv_iload_n hx hb dM_limit_47 rfl (lv_at hl 4 rfl) ?_
      have sd48 : nu.toNatClampNeg < 4 := by omega
      refine wn_iast (f := G 18) hx hb hK hP hD hS 13 12 rfl rfl nu.toNatClampNeg rfl sd48 (by decide) dM_limit_48 (fun H locs hP hD hS => ?_)
      rw [mW_g18] at hP hD
      refine lv_aload_n hx hb dM_limit_49 rfl (lv_at hl 1 rfl) ?_
      refine lv_iconst (v := 0) hx hb dM_limit_50 (by decide) ?_
      refine va_put (D := D) (ci := 0) (fs := mWl0 ba (upd F 0 ((if (mr_M_within nu 0 3) = 0 then 1 else 0) : Int32))) (v := .int 0) (ty := .boolean) (C := RM) (T := TM) (N := 29) hx hb hts inM_ tyM tyM_ok nmM hown hK hP hD hS 0 rfl hcl 26 (by decide) f90 (fun _ h9 => h9) rfl (by decide +kernel) (by first | rfl | assumption) rfl (Nat.le_of_ble_eq_true rfl) dM_limit_51 (fun H locs hP hD hS => ?_)
      rw [mW_f26] at hP hD
      refine lv_iload hx hb dM_limit_54 (lv_at hl 0 rfl) ?_
      have em : mr_M_limit (F 26) (G 17) (G 18) nu on mo = (G 17 nu.toNatClampNeg, ((if (mr_M_within nu 0 3) = 0 then 1 else 0) : Int32), 0, upd (G 17) nu.toNatClampNeg on, upd (G 18) nu.toNatClampNeg mo) := by rw [mr_M_limit, if_pos c22]
      exact hret _ _ _ _ _ _ (by simp only [em]) (by simp only [em]) hP hD hS dM_limit_56
    · refine lv_iconst (v := 0) hx hb dM_limit_25 (by decide) ?_
      have em : mr_M_limit (F 26) (G 17) (G 18) nu on mo = (0, ((if (mr_M_within nu 0 3) = 0 then 1 else 0) : Int32), F 26, G 17, G 18) := by rw [mr_M_limit, if_neg c22]
      exact hret _ _ _ _ _ _ (by simp only [em]) (by simp only [em]; rw [upd_keep (f := upd F 0 ((if (mr_M_within nu 0 3) = 0 then 1 else 0) : Int32)) (j := 26) (x := F 26) rfl, vup_keep (f := G) (j := 17) (x := G 17) rfl, vup_keep (f := G) (j := 18) (x := G 18) rfl]) hP hD hS dM_limit_26
  refine lv_if_eq (tgt := 14) hx hb dM_limit_7 (by decide) (fun c7 => ?_) (fun c7 => ?_)
  · refine lv_iconst (v := 1) hx hb dM_limit_14 (by decide) ?_
    exact wt_i (by rw [if_pos c7]) (j15 ls hl)
  · refine lv_iconst (v := 0) hx hb dM_limit_10 (by decide) ?_
    refine lv_goto (tgt := 15) hx hb dM_limit_11 (by decide) ?_
    exact wt_i (by rw [if_neg c7]) (j15 ls hl)
def mr_M_near (g6 : Nat → Int32) (g19 : Nat → Int32) (nC : Nat) (nD : Nat) (d : Int32) (q : Int32) : Int32 × Int32 × (Nat → Int32) := (if (mr_M_isDesign nD d) = 0 then ((mr_M_fail 1).1, (mr_M_fail 1).2, g19) else (if (mr_M_within q 0 ((mr_M_nears g6 nC) - 1)) = 0 then ((mr_M_fail 1).1, (mr_M_fail 1).2, g19) else ((mr_M_nearOf g6 g19 nC d.toNatClampNeg q).1, 0, (mr_M_nearOf g6 g19 nC d.toNatClampNeg q).2)))
set_option maxHeartbeats 4000000 in
set_option maxRecDepth 100000 in
theorem c_M_near (l : Launch) (D : va_G) (cl : List vw_C) (hcl : cl[0]? = some (RM, TM, 29)) (a : Nat) (ba : Nat → Nat) (ka : Nat → ClassId) (F : Nat → Int32) (G : Nat → Nat → Int32) {H0 : Heap} (hP : va_P D cl (mW a ba ka F G) H0) (hD : va_D (fun _ => True) (mW a ba ka F G)) (nC : Nat) (nD : Nat) (d : Int32) (q : Int32) (h2 : F 2 = nI nC) (hC : nC ≤ 8) (h5 : F 5 = nI nD) (hN : nD ≤ 4096) (h6 : ∀ c, c < nC → ∃ z : Nat, G 6 c = nI z ∧ 2 ≤ z ∧ z ≤ 6) : ww_Met l yM_near wsM_near ({ frames := 2, cells := 0, slots := 0, locals := 49 } : Room) D cl (mT ka) H0 [.ref a, .int d, .int q] (mW a ba ka F G) (some (.int ((mr_M_near (G 6) (G 19) nC nD d q).1))) (mW a ba ka (upd F 0 ((mr_M_near (G 6) (G 19) nC nD d q).2.1)) (va_up G 19 ((mr_M_near (G 6) (G 19) nC nD d q).2.2))) := by
  refine ww_metI (by decide) rfl (Nat.le_of_ble_eq_true rfl) hP hD ?_
  intro p e s m args below meth c Q A Sx hK hP hD hS hA ls hl hret
  obtain ⟨hx, hb, hml, hown, hts⟩ := id Sx
  have hl : lv_has ls 3 [(0, .ref a), (1, .int d), (2, .int q)] := hl
  obtain ⟨H, eH⟩ : ∃ H : Heap, H = H0 := ⟨_, rfl⟩
  obtain ⟨locs, eL⟩ : ∃ L : List Loc, L = [] := ⟨_, rfl⟩
  have hP : va_P D cl (mW a ba ka F G) H := by rw [eH]; exact hP
  have hS : va_S A H0 H locs := by rw [eH, eL]; exact hS
  rw [show W p l e ({ frames := 2, cells := 0, slots := 0, locals := 49 } : Room) s m args below meth c H0 [] 0 0 Q (F0 m 0 ls []) = W p l e ({ frames := 2, cells := 0, slots := 0, locals := 49 } : Room) s m args below meth c H locs 0 0 Q (F0 m 0 ls []) by rw [eH, eL]]
  clear eH eL
  have f70 := hts _ (List.mem_cons_of_mem _ mfM_70)
  have inM_ : ∀ w ∈ wsM0, w ∈ wsM_near := fun w h => List.mem_cons_of_mem _ (inM_all w h)
  refine lv_aload_n hx hb dM_near_0 rfl (lv_at hl 0 rfl) ?_
  refine lv_iconst (v := 0) hx hb dM_near_1 (by decide) ?_
  refine va_put (D := D) (ci := 0) (fs := mWl0 ba F) (v := .int 0) (ty := .int) (C := RM) (T := TM) (N := 29) hx hb hts inM_ tyM tyM_ok nmM hown hK hP hD hS 0 rfl hcl 0 (by decide) f70 (fun _ h9 => h9) rfl (by decide +kernel) rfl rfl (Nat.le_of_ble_eq_true rfl) dM_near_2 (fun H locs hP hD hS => ?_)
  rw [mW_f0] at hP hD
  refine lv_aload_n hx hb dM_near_5 rfl (lv_at hl 0 rfl) ?_
  refine lv_iload_n hx hb dM_near_6 rfl (lv_at hl 1 rfl) ?_
  refine ro_callV (r := (.int (mr_M_isDesign nD d))) (As := [.int d]) (rest := []) Sx (c_M_isDesign l D cl hcl a ba ka (upd F 0 0) G hP nD d h5) (cwV 1 hts gM_near_M_isDesign rfl rfl rfl (by decide +kernel) ⟨Nat.le_of_ble_eq_true rfl, Nat.le_of_ble_eq_true rfl⟩) hK (va_recv hK hP (ci := 0) (q0 := 0) hcl rfl) rfl hl.1 rfl (Nat.le_of_ble_eq_true rfl) dM_near_7 ⟨Nat.zero_le _, Nat.zero_le _⟩ ?_
  refine lv_if_eq (tgt := 27) hx hb dM_near_10 (by decide) (fun c10 => ?_) (fun c10 => ?_)
  · refine lv_aload_n hx hb dM_near_27 rfl (lv_at hl 0 rfl) ?_
    refine lv_iconst (v := 1) hx hb dM_near_28 (by decide) ?_
    refine ww_callV (r := (some (.int ((mr_M_fail 1).1)))) (w' := mW a ba ka (upd (upd F 0 0) 0 ((mr_M_fail 1).2)) G) (As := [.int 1]) (rest := []) Sx (c_M_fail l D cl hcl a ba ka (upd F 0 0) G hP (hD.weaken (fun _ _ _ _ => trivial)) 1) (cwV 1 hts gM_near_M_fail rfl rfl rfl (by decide +kernel) ⟨Nat.le_of_ble_eq_true rfl, Nat.le_of_ble_eq_true rfl⟩) hK (va_recv hK hP (ci := 0) (q0 := 0) hcl rfl) rfl hl.1 rfl (Nat.le_of_ble_eq_true rfl) dM_near_29 ⟨Nat.zero_le _, Nat.zero_le _⟩ hD hS hA (fun H locs hP hD hS => ?_)
    rw [upd_ow] at hP hD
    have em : mr_M_near (G 6) (G 19) nC nD d q = ((mr_M_fail 1).1, (mr_M_fail 1).2, G 19) := by rw [mr_M_near, if_pos c10]
    exact hret _ _ _ _ _ _ (by simp only [em]) (by simp only [em]; rw [vup_keep (f := G) (j := 19) (x := G 19) rfl]) hP hD hS dM_near_32
  · have xd := ix_cl (wd_ix c10 hN) (by omega)
    refine lv_iload_n hx hb dM_near_13 rfl (lv_at hl 2 rfl) ?_
    refine lv_iconst (v := 0) hx hb dM_near_14 (by decide) ?_
    refine lv_aload_n hx hb dM_near_15 rfl (lv_at hl 0 rfl) ?_
    refine ro_callV (r := (.int (mr_M_nears (G 6) nC))) (As := []) (rest := [.int 0, .int q]) Sx (c_M_nears l D cl hcl a ba ka (upd F 0 0) G hP nC h2 hC) (cwV 0 hts gM_near_M_nears rfl rfl rfl (by decide +kernel) ⟨Nat.le_of_ble_eq_true rfl, Nat.le_of_ble_eq_true rfl⟩) hK (va_recv hK hP (ci := 0) (q0 := 0) hcl rfl) rfl hl.1 rfl (Nat.le_of_ble_eq_true rfl) dM_near_16 ⟨Nat.zero_le _, Nat.zero_le _⟩ ?_
    refine lv_iconst (v := 1) hx hb dM_near_19 (by decide) ?_
    refine lv_isub hx hb dM_near_20 ?_
    refine ro_callS (r := (.int (mr_M_within q 0 ((mr_M_nears (G 6) nC) - 1)))) (As := [.int q, .int 0, .int ((mr_M_nears (G 6) nC) - 1)]) (rest := []) Sx (c_M_within l D cl hcl a ba ka (upd F 0 0) G hP q 0 ((mr_M_nears (G 6) nC) - 1)) (va_cwS 3 hts gM_near_M_within rfl rfl rfl (by decide +kernel) ⟨Nat.le_of_ble_eq_true rfl, Nat.le_of_ble_eq_true rfl⟩) hK rfl hl.1 rfl (Nat.le_of_ble_eq_true rfl) dM_near_21 ⟨Nat.zero_le _, Nat.zero_le _⟩ ?_
    refine lv_if_ne (tgt := 33) hx hb dM_near_24 (by decide) (fun c24 => ?_) (fun c24 => ?_)
    · refine lv_aload_n hx hb dM_near_33 rfl (lv_at hl 0 rfl) ?_
      refine lv_iload_n hx hb dM_near_34 rfl (lv_at hl 1 rfl) ?_
      refine wt_i (r := nI d.toNatClampNeg) (by exact xd.1) ?_
      refine lv_iload_n hx hb dM_near_35 rfl (lv_at hl 2 rfl) ?_
      refine ww_callV (r := (some (.int ((mr_M_nearOf (G 6) (G 19) nC d.toNatClampNeg q).1)))) (w' := mW a ba ka (upd F 0 0) (va_up G 19 ((mr_M_nearOf (G 6) (G 19) nC d.toNatClampNeg q).2))) (As := [.int (nI d.toNatClampNeg), .int q]) (rest := []) Sx (c_M_nearOf l D cl hcl a ba ka (upd F 0 0) G hP (hD.weaken (fun _ _ _ _ => trivial)) nC d.toNatClampNeg q h2 hC h6) (cwV 2 hts gM_near_M_nearOf rfl rfl rfl (by decide +kernel) ⟨Nat.le_of_ble_eq_true rfl, Nat.le_of_ble_eq_true rfl⟩) hK (va_recv hK hP (ci := 0) (q0 := 0) hcl rfl) rfl hl.1 rfl (Nat.le_of_ble_eq_true rfl) dM_near_36 ⟨Nat.zero_le _, Nat.zero_le _⟩ hD hS hA (fun H locs hP hD hS => ?_)
      have em : mr_M_near (G 6) (G 19) nC nD d q = ((mr_M_nearOf (G 6) (G 19) nC d.toNatClampNeg q).1, 0, (mr_M_nearOf (G 6) (G 19) nC d.toNatClampNeg q).2) := by rw [mr_M_near, if_neg c10, if_neg c24]
      exact hret _ _ _ _ _ _ (by simp only [em]) (by simp only [em]) hP hD hS dM_near_39
    · refine lv_aload_n hx hb dM_near_27 rfl (lv_at hl 0 rfl) ?_
      refine lv_iconst (v := 1) hx hb dM_near_28 (by decide) ?_
      refine ww_callV (r := (some (.int ((mr_M_fail 1).1)))) (w' := mW a ba ka (upd (upd F 0 0) 0 ((mr_M_fail 1).2)) G) (As := [.int 1]) (rest := []) Sx (c_M_fail l D cl hcl a ba ka (upd F 0 0) G hP (hD.weaken (fun _ _ _ _ => trivial)) 1) (cwV 1 hts gM_near_M_fail rfl rfl rfl (by decide +kernel) ⟨Nat.le_of_ble_eq_true rfl, Nat.le_of_ble_eq_true rfl⟩) hK (va_recv hK hP (ci := 0) (q0 := 0) hcl rfl) rfl hl.1 rfl (Nat.le_of_ble_eq_true rfl) dM_near_29 ⟨Nat.zero_le _, Nat.zero_le _⟩ hD hS hA (fun H locs hP hD hS => ?_)
      rw [upd_ow] at hP hD
      have em : mr_M_near (G 6) (G 19) nC nD d q = ((mr_M_fail 1).1, (mr_M_fail 1).2, G 19) := by rw [mr_M_near, if_neg c10, if_pos c24]
      exact hret _ _ _ _ _ _ (by simp only [em]) (by simp only [em]; rw [vup_keep (f := G) (j := 19) (x := G 19) rfl]) hP hD hS dM_near_32
def lf_M_sweep_47 (nC : Nat) (nT : Nat) (nR : Nat) (nD : Nat) (pl : Nat) (n : Int32) (qg27_47 : Nat → Int32) : Nat → Int32 → Nat → Nat → Int32 × Nat × Nat
  | 0, fo, j, pq => (fo, j, pq)
  | N + 1, fo, j, pq => (if n ≤ (nI j) then (fo, j, pq) else (if (nI nD) ≤ (nI pq) then (fo, j, pq) else lf_M_sweep_47 nC nT nR nD pl n qg27_47 N (fo + ((if (qg27_47 pq) = 0 then 0 else 1) : Int32)) (j + 1) (pq + 1)))
def mr_M_sweep (f24 : Int32) (f25 : Int32) (f26 : Int32) (g6 : Nat → Int32) (g7 : Nat → Int32) (g8 : Nat → Int32) (g9 : Nat → Int32) (g10 : Nat → Int32) (g11 : Nat → Int32) (g12 : Nat → Int32) (g13 : Nat → Int32) (g14 : Nat → Int32) (g15 : Nat → Int32) (g16 : Nat → Int32) (g17 : Nat → Int32) (g18 : Nat → Int32) (g19 : Nat → Int32) (g27 : Nat → Int32) (g28 : Nat → Int32) (nC : Nat) (nT : Nat) (nR : Nat) (nD : Nat) (pl : Nat) (n : Int32) : Int32 × Int32 × Int32 × Int32 × Int32 × (Nat → Int32) × (Nat → Int32) × (Nat → Int32) := (if (mr_M_within n 1 5000) = 0 then ((mr_M_fail 1).1, (mr_M_fail 1).2, f24, f25, f26, g19, g27, g28) else (if (nI pl) = (nI nD) then ((mr_M_fail 2).1, (mr_M_fail 2).2, f24, f25, f26, g19, g27, g28) else ((lf_M_sweep_47 nC nT nR nD pl n ((mr_M_know f26 g6 g7 g8 g9 g10 g11 g12 g13 g14 g15 g16 g17 g18 g19 g27 g28 nC nT nR nD).2.2.1) (nD + 1) 0 0 pl).1, 0, nI ((lf_M_sweep_47 nC nT nR nD pl n ((mr_M_know f26 g6 g7 g8 g9 g10 g11 g12 g13 g14 g15 g16 g17 g18 g19 g27 g28 nC nT nR nD).2.2.1) (nD + 1) 0 0 pl).2.2), f25 + ((lf_M_sweep_47 nC nT nR nD pl n ((mr_M_know f26 g6 g7 g8 g9 g10 g11 g12 g13 g14 g15 g16 g17 g18 g19 g27 g28 nC nT nR nD).2.2.1) (nD + 1) 0 0 pl).1), (mr_M_know f26 g6 g7 g8 g9 g10 g11 g12 g13 g14 g15 g16 g17 g18 g19 g27 g28 nC nT nR nD).1, (mr_M_know f26 g6 g7 g8 g9 g10 g11 g12 g13 g14 g15 g16 g17 g18 g19 g27 g28 nC nT nR nD).2.1, (mr_M_know f26 g6 g7 g8 g9 g10 g11 g12 g13 g14 g15 g16 g17 g18 g19 g27 g28 nC nT nR nD).2.2.1, (mr_M_know f26 g6 g7 g8 g9 g10 g11 g12 g13 g14 g15 g16 g17 g18 g19 g27 g28 nC nT nR nD).2.2.2)))
set_option maxHeartbeats 4000000 in
set_option maxRecDepth 100000 in
theorem c_M_sweep (l : Launch) (D : va_G) (cl : List vw_C) (hcl : cl[0]? = some (RM, TM, 29)) (a : Nat) (ba : Nat → Nat) (ka : Nat → ClassId) (F : Nat → Int32) (G : Nat → Nat → Int32) {H0 : Heap} (hP : va_P D cl (mW a ba ka F G) H0) (hD : va_D (fun _ => True) (mW a ba ka F G)) (nC : Nat) (nT : Nat) (nR : Nat) (nD : Nat) (pl : Nat) (n : Int32) (h2 : F 2 = nI nC) (hC : nC ≤ 8) (h3 : F 3 = nI nT) (hT : nT ≤ 100) (h4 : F 4 = nI nR) (hR : nR ≤ 40) (h5 : F 5 = nI nD) (hN : nD ≤ 4096) (h6 : ∀ c, c < nC → ∃ z : Nat, G 6 c = nI z ∧ 2 ≤ z ∧ z ≤ 6) (h8 : ∀ t, t < nT → ∃ x : Nat, x < nC ∧ G 8 t = nI x) (h10 : ∀ t, t < nT → G 10 t = -1 ∨ ∃ x : Nat, x < nC ∧ G 10 t = nI x) (h13 : ∀ j, j < nR → ∃ x : Nat, x < nC ∧ G 13 j = nI x) (h15 : ∀ j, j < nR → ∃ x : Nat, x < nC ∧ G 15 j = nI x) (h24 : F 24 = nI pl) (hpl : pl ≤ nD) : ww_Met l yM_sweep wsM_sweep ({ frames := 4, cells := 0, slots := 0, locals := 92 } : Room) D cl (mT ka) H0 [.ref a, .int n] (mW a ba ka F G) (some (.int ((mr_M_sweep (F 24) (F 25) (F 26) (G 6) (G 7) (G 8) (G 9) (G 10) (G 11) (G 12) (G 13) (G 14) (G 15) (G 16) (G 17) (G 18) (G 19) (G 27) (G 28) nC nT nR nD pl n).1))) (mW a ba ka (upd (upd (upd (upd F 0 ((mr_M_sweep (F 24) (F 25) (F 26) (G 6) (G 7) (G 8) (G 9) (G 10) (G 11) (G 12) (G 13) (G 14) (G 15) (G 16) (G 17) (G 18) (G 19) (G 27) (G 28) nC nT nR nD pl n).2.1)) 24 ((mr_M_sweep (F 24) (F 25) (F 26) (G 6) (G 7) (G 8) (G 9) (G 10) (G 11) (G 12) (G 13) (G 14) (G 15) (G 16) (G 17) (G 18) (G 19) (G 27) (G 28) nC nT nR nD pl n).2.2.1)) 25 ((mr_M_sweep (F 24) (F 25) (F 26) (G 6) (G 7) (G 8) (G 9) (G 10) (G 11) (G 12) (G 13) (G 14) (G 15) (G 16) (G 17) (G 18) (G 19) (G 27) (G 28) nC nT nR nD pl n).2.2.2.1)) 26 ((mr_M_sweep (F 24) (F 25) (F 26) (G 6) (G 7) (G 8) (G 9) (G 10) (G 11) (G 12) (G 13) (G 14) (G 15) (G 16) (G 17) (G 18) (G 19) (G 27) (G 28) nC nT nR nD pl n).2.2.2.2.1)) (va_up (va_up (va_up G 19 ((mr_M_sweep (F 24) (F 25) (F 26) (G 6) (G 7) (G 8) (G 9) (G 10) (G 11) (G 12) (G 13) (G 14) (G 15) (G 16) (G 17) (G 18) (G 19) (G 27) (G 28) nC nT nR nD pl n).2.2.2.2.2.1)) 27 ((mr_M_sweep (F 24) (F 25) (F 26) (G 6) (G 7) (G 8) (G 9) (G 10) (G 11) (G 12) (G 13) (G 14) (G 15) (G 16) (G 17) (G 18) (G 19) (G 27) (G 28) nC nT nR nD pl n).2.2.2.2.2.2.1)) 28 ((mr_M_sweep (F 24) (F 25) (F 26) (G 6) (G 7) (G 8) (G 9) (G 10) (G 11) (G 12) (G 13) (G 14) (G 15) (G 16) (G 17) (G 18) (G 19) (G 27) (G 28) nC nT nR nD pl n).2.2.2.2.2.2.2))) := by
  refine ww_metI (by decide) rfl (Nat.le_of_ble_eq_true rfl) hP hD ?_
  intro p e s m args below meth c Q A Sx hK hP hD hS hA ls hl hret
  obtain ⟨hx, hb, hml, hown, hts⟩ := id Sx
  have hl : lv_has ls 4 [(0, .ref a), (1, .int n)] := hl
  obtain ⟨H, eH⟩ : ∃ H : Heap, H = H0 := ⟨_, rfl⟩
  obtain ⟨locs, eL⟩ : ∃ L : List Loc, L = [] := ⟨_, rfl⟩
  have hP : va_P D cl (mW a ba ka F G) H := by rw [eH]; exact hP
  have hS : va_S A H0 H locs := by rw [eH, eL]; exact hS
  rw [show W p l e ({ frames := 4, cells := 0, slots := 0, locals := 92 } : Room) s m args below meth c H0 [] 0 0 Q (F0 m 0 ls []) = W p l e ({ frames := 4, cells := 0, slots := 0, locals := 92 } : Room) s m args below meth c H locs 0 0 Q (F0 m 0 ls []) by rw [eH, eL]]
  clear eH eL
  have f70 := hts _ (List.mem_cons_of_mem _ mfM_70)
  have inM_ : ∀ w ∈ wsM0, w ∈ wsM_sweep := fun w h => List.mem_cons_of_mem _ (inM_all w h)
  have f84 := hts _ (List.mem_cons_of_mem _ mfM_84)
  have f7 := hts _ (List.mem_cons_of_mem _ mfM_7)
  have f87 := hts _ (List.mem_cons_of_mem _ mfM_87)
  have f60 := hts _ (List.mem_cons_of_mem _ mfM_60)
  refine lv_aload_n hx hb dM_sweep_0 rfl (lv_at hl 0 rfl) ?_
  refine lv_iconst (v := 0) hx hb dM_sweep_1 (by decide) ?_
  refine va_put (D := D) (ci := 0) (fs := mWl0 ba F) (v := .int 0) (ty := .int) (C := RM) (T := TM) (N := 29) hx hb hts inM_ tyM tyM_ok nmM hown hK hP hD hS 0 rfl hcl 0 (by decide) f70 (fun _ h9 => h9) rfl (by decide +kernel) rfl rfl (Nat.le_of_ble_eq_true rfl) dM_sweep_2 (fun H locs hP hD hS => ?_)
  rw [mW_f0] at hP hD
  refine lv_iload_n hx hb dM_sweep_5 rfl (lv_at hl 1 rfl) ?_
  refine lv_iconst (v := 1) hx hb dM_sweep_6 (by decide) ?_
  refine lv_sipush (v := 5000) hx hb dM_sweep_7 (by decide) ?_
  refine ro_callS (r := (.int (mr_M_within n 1 5000))) (As := [.int n, .int 1, .int 5000]) (rest := []) Sx (c_M_within l D cl hcl a ba ka (upd F 0 0) G hP n 1 5000) (va_cwS 3 hts gM_sweep_M_within rfl rfl rfl (by decide +kernel) ⟨Nat.le_of_ble_eq_true rfl, Nat.le_of_ble_eq_true rfl⟩) hK rfl hl.1 rfl (Nat.le_of_ble_eq_true rfl) dM_sweep_10 ⟨Nat.zero_le _, Nat.zero_le _⟩ ?_
  refine lv_if_ne (tgt := 22) hx hb dM_sweep_13 (by decide) (fun c13 => ?_) (fun c13 => ?_)
  · refine lv_aload_n hx hb dM_sweep_22 rfl (lv_at hl 0 rfl) ?_
    refine va_get (D := D) (ci := 0) (v := .int (F 24)) (C := RM) (T := TM) (N := 29) hx hb hts inM_ hown hK hP 0 rfl hcl 24 (by decide) f84 (fun _ h9 => h9) rfl dM_sweep_23 ?_
    refine wt_i h24 ?_
    refine lv_aload_n hx hb dM_sweep_26 rfl (lv_at hl 0 rfl) ?_
    refine va_get (D := D) (ci := 0) (v := .int (F 5)) (C := RM) (T := TM) (N := 29) hx hb hts inM_ hown hK hP 0 rfl hcl 5 (by decide) f7 (fun _ h9 => h9) rfl dM_sweep_27 ?_
    refine wt_i h5 ?_
    refine lv_icmp_ne (tgt := 39) hx hb dM_sweep_30 (by decide) (fun c30 => ?_) (fun c30 => ?_)
    · have n30 : ¬ pl = nD := fun h9 => c30 ((nI_eq (a := pl) (b := nD) (by omega) (by omega)).mpr h9)
      refine lv_aload_n hx hb dM_sweep_39 rfl (lv_at hl 0 rfl) ?_
      refine ww_callV (r := none) (w' := mW a ba ka (upd (upd F 0 0) 26 ((mr_M_know (F 26) (G 6) (G 7) (G 8) (G 9) (G 10) (G 11) (G 12) (G 13) (G 14) (G 15) (G 16) (G 17) (G 18) (G 19) (G 27) (G 28) nC nT nR nD).1)) (va_up (va_up (va_up G 19 ((mr_M_know (F 26) (G 6) (G 7) (G 8) (G 9) (G 10) (G 11) (G 12) (G 13) (G 14) (G 15) (G 16) (G 17) (G 18) (G 19) (G 27) (G 28) nC nT nR nD).2.1)) 27 ((mr_M_know (F 26) (G 6) (G 7) (G 8) (G 9) (G 10) (G 11) (G 12) (G 13) (G 14) (G 15) (G 16) (G 17) (G 18) (G 19) (G 27) (G 28) nC nT nR nD).2.2.1)) 28 ((mr_M_know (F 26) (G 6) (G 7) (G 8) (G 9) (G 10) (G 11) (G 12) (G 13) (G 14) (G 15) (G 16) (G 17) (G 18) (G 19) (G 27) (G 28) nC nT nR nD).2.2.2))) (As := []) (rest := []) Sx (c_M_know l D cl hcl a ba ka (upd F 0 0) G hP (hD.weaken (fun _ _ _ _ => trivial)) nC nT nR nD h2 hC h3 hT h4 hR h5 hN h6 h8 h10 h13 h15) (cwV 0 hts gM_sweep_M_know rfl rfl rfl (by decide +kernel) ⟨Nat.le_of_ble_eq_true rfl, Nat.le_of_ble_eq_true rfl⟩) hK (va_recv hK hP (ci := 0) (q0 := 0) hcl rfl) rfl hl.1 rfl (Nat.le_of_ble_eq_true rfl) dM_sweep_40 ⟨Nat.zero_le _, Nat.zero_le _⟩ hD hS hA (fun H locs hP hD hS => ?_)
      refine lv_iconst (v := 0) hx hb dM_sweep_43 (by decide) ?_
      refine lv_istore_n (lv' := [(2, .int 0), (0, .ref a), (1, .int n)]) hx hb dM_sweep_44 rfl hl (by decide) rfl (fun ls hl => ?_)
      refine lv_iconst (v := 0) hx hb dM_sweep_45 (by decide) ?_
      refine lv_istore_n (lv' := [(3, .int 0), (2, .int 0), (0, .ref a), (1, .int n)]) hx hb dM_sweep_46 rfl hl (by decide) rfl (fun ls hl => ?_)
      have ex47 : ∀ (H : Heap) (locs : List Loc), va_P D cl (mW a ba ka (upd (upd (upd F 0 0) 24 (nI ((lf_M_sweep_47 nC nT nR nD pl n ((mr_M_know (F 26) (G 6) (G 7) (G 8) (G 9) (G 10) (G 11) (G 12) (G 13) (G 14) (G 15) (G 16) (G 17) (G 18) (G 19) (G 27) (G 28) nC nT nR nD).2.2.1) (nD + 1) 0 0 pl).2.2))) 26 ((mr_M_know (F 26) (G 6) (G 7) (G 8) (G 9) (G 10) (G 11) (G 12) (G 13) (G 14) (G 15) (G 16) (G 17) (G 18) (G 19) (G 27) (G 28) nC nT nR nD).1)) (va_up (va_up (va_up G 19 ((mr_M_know (F 26) (G 6) (G 7) (G 8) (G 9) (G 10) (G 11) (G 12) (G 13) (G 14) (G 15) (G 16) (G 17) (G 18) (G 19) (G 27) (G 28) nC nT nR nD).2.1)) 27 ((mr_M_know (F 26) (G 6) (G 7) (G 8) (G 9) (G 10) (G 11) (G 12) (G 13) (G 14) (G 15) (G 16) (G 17) (G 18) (G 19) (G 27) (G 28) nC nT nR nD).2.2.1)) 28 ((mr_M_know (F 26) (G 6) (G 7) (G 8) (G 9) (G 10) (G 11) (G 12) (G 13) (G 14) (G 15) (G 16) (G 17) (G 18) (G 19) (G 27) (G 28) nC nT nR nD).2.2.2))) H → va_D A (mW a ba ka (upd (upd (upd F 0 0) 24 (nI ((lf_M_sweep_47 nC nT nR nD pl n ((mr_M_know (F 26) (G 6) (G 7) (G 8) (G 9) (G 10) (G 11) (G 12) (G 13) (G 14) (G 15) (G 16) (G 17) (G 18) (G 19) (G 27) (G 28) nC nT nR nD).2.2.1) (nD + 1) 0 0 pl).2.2))) 26 ((mr_M_know (F 26) (G 6) (G 7) (G 8) (G 9) (G 10) (G 11) (G 12) (G 13) (G 14) (G 15) (G 16) (G 17) (G 18) (G 19) (G 27) (G 28) nC nT nR nD).1)) (va_up (va_up (va_up G 19 ((mr_M_know (F 26) (G 6) (G 7) (G 8) (G 9) (G 10) (G 11) (G 12) (G 13) (G 14) (G 15) (G 16) (G 17) (G 18) (G 19) (G 27) (G 28) nC nT nR nD).2.1)) 27 ((mr_M_know (F 26) (G 6) (G 7) (G 8) (G 9) (G 10) (G 11) (G 12) (G 13) (G 14) (G 15) (G 16) (G 17) (G 18) (G 19) (G 27) (G 28) nC nT nR nD).2.2.1)) 28 ((mr_M_know (F 26) (G 6) (G 7) (G 8) (G 9) (G 10) (G 11) (G 12) (G 13) (G 14) (G 15) (G 16) (G 17) (G 18) (G 19) (G 27) (G 28) nC nT nR nD).2.2.2))) → va_S A H0 H locs → ∀ (ls : Array Slot), lv_has ls 4 [(3, .int (nI ((lf_M_sweep_47 nC nT nR nD pl n ((mr_M_know (F 26) (G 6) (G 7) (G 8) (G 9) (G 10) (G 11) (G 12) (G 13) (G 14) (G 15) (G 16) (G 17) (G 18) (G 19) (G 27) (G 28) nC nT nR nD).2.2.1) (nD + 1) 0 0 pl).2.1))), (2, .int ((lf_M_sweep_47 nC nT nR nD pl n ((mr_M_know (F 26) (G 6) (G 7) (G 8) (G 9) (G 10) (G 11) (G 12) (G 13) (G 14) (G 15) (G 16) (G 17) (G 18) (G 19) (G 27) (G 28) nC nT nR nD).2.2.1) (nD + 1) 0 0 pl).1)), (0, .ref a), (1, .int n)] → W p l e ({ frames := 4, cells := 0, slots := 0, locals := 92 } : Room) s m args below meth c H locs 0 0 Q (F0 m 99 ls []) := by
        intro H locs hP hD hS ls hl
        refine lv_aload_n hx hb dM_sweep_99 rfl (lv_at hl 2 rfl) ?_
        refine lv_dup hx hb dM_sweep_100 rfl ?_
        refine va_get (D := D) (ci := 0) (v := .int (F 25)) (C := RM) (T := TM) (N := 29) hx hb hts inM_ hown hK hP 0 rfl hcl 25 (by decide) f87 (fun _ h9 => h9) rfl dM_sweep_101 ?_
        refine lv_iload_n hx hb dM_sweep_104 rfl (lv_at hl 1 rfl) ?_
        refine lv_iadd hx hb dM_sweep_105 ?_
        refine va_put (D := D) (ci := 0) (fs := mWl0 ba (upd (upd (upd F 0 0) 24 (nI ((lf_M_sweep_47 nC nT nR nD pl n ((mr_M_know (F 26) (G 6) (G 7) (G 8) (G 9) (G 10) (G 11) (G 12) (G 13) (G 14) (G 15) (G 16) (G 17) (G 18) (G 19) (G 27) (G 28) nC nT nR nD).2.2.1) (nD + 1) 0 0 pl).2.2))) 26 ((mr_M_know (F 26) (G 6) (G 7) (G 8) (G 9) (G 10) (G 11) (G 12) (G 13) (G 14) (G 15) (G 16) (G 17) (G 18) (G 19) (G 27) (G 28) nC nT nR nD).1))) (v := .int ((F 25) + ((lf_M_sweep_47 nC nT nR nD pl n ((mr_M_know (F 26) (G 6) (G 7) (G 8) (G 9) (G 10) (G 11) (G 12) (G 13) (G 14) (G 15) (G 16) (G 17) (G 18) (G 19) (G 27) (G 28) nC nT nR nD).2.2.1) (nD + 1) 0 0 pl).1))) (ty := .int) (C := RM) (T := TM) (N := 29) hx hb hts inM_ tyM tyM_ok nmM hown hK hP hD hS 0 rfl hcl 25 (by decide) f87 (fun _ h9 => h9) rfl (by decide +kernel) rfl rfl (Nat.le_of_ble_eq_true rfl) dM_sweep_106 (fun H locs hP hD hS => ?_)
        rw [mW_f25, upd_sw (i := 26) (j := 25) (by decide)] at hP hD
        refine lv_iload_n hx hb dM_sweep_109 rfl (lv_at hl 1 rfl) ?_
        have em : mr_M_sweep (F 24) (F 25) (F 26) (G 6) (G 7) (G 8) (G 9) (G 10) (G 11) (G 12) (G 13) (G 14) (G 15) (G 16) (G 17) (G 18) (G 19) (G 27) (G 28) nC nT nR nD pl n = ((lf_M_sweep_47 nC nT nR nD pl n ((mr_M_know (F 26) (G 6) (G 7) (G 8) (G 9) (G 10) (G 11) (G 12) (G 13) (G 14) (G 15) (G 16) (G 17) (G 18) (G 19) (G 27) (G 28) nC nT nR nD).2.2.1) (nD + 1) 0 0 pl).1, 0, nI ((lf_M_sweep_47 nC nT nR nD pl n ((mr_M_know (F 26) (G 6) (G 7) (G 8) (G 9) (G 10) (G 11) (G 12) (G 13) (G 14) (G 15) (G 16) (G 17) (G 18) (G 19) (G 27) (G 28) nC nT nR nD).2.2.1) (nD + 1) 0 0 pl).2.2), (F 25) + ((lf_M_sweep_47 nC nT nR nD pl n ((mr_M_know (F 26) (G 6) (G 7) (G 8) (G 9) (G 10) (G 11) (G 12) (G 13) (G 14) (G 15) (G 16) (G 17) (G 18) (G 19) (G 27) (G 28) nC nT nR nD).2.2.1) (nD + 1) 0 0 pl).1), (mr_M_know (F 26) (G 6) (G 7) (G 8) (G 9) (G 10) (G 11) (G 12) (G 13) (G 14) (G 15) (G 16) (G 17) (G 18) (G 19) (G 27) (G 28) nC nT nR nD).1, (mr_M_know (F 26) (G 6) (G 7) (G 8) (G 9) (G 10) (G 11) (G 12) (G 13) (G 14) (G 15) (G 16) (G 17) (G 18) (G 19) (G 27) (G 28) nC nT nR nD).2.1, (mr_M_know (F 26) (G 6) (G 7) (G 8) (G 9) (G 10) (G 11) (G 12) (G 13) (G 14) (G 15) (G 16) (G 17) (G 18) (G 19) (G 27) (G 28) nC nT nR nD).2.2.1, (mr_M_know (F 26) (G 6) (G 7) (G 8) (G 9) (G 10) (G 11) (G 12) (G 13) (G 14) (G 15) (G 16) (G 17) (G 18) (G 19) (G 27) (G 28) nC nT nR nD).2.2.2) := by rw [mr_M_sweep, if_neg c13, if_neg c30]
        exact hret _ _ _ _ _ _ (by simp only [em]) (by simp only [em]) hP hD hS dM_sweep_110
      have loop47 : ∀ (N47 : Nat) (fo : Int32) (j : Nat) (pq : Nat), pq ≤ nD → nD - pq < N47 → lf_M_sweep_47 nC nT nR nD pl n ((mr_M_know (F 26) (G 6) (G 7) (G 8) (G 9) (G 10) (G 11) (G 12) (G 13) (G 14) (G 15) (G 16) (G 17) (G 18) (G 19) (G 27) (G 28) nC nT nR nD).2.2.1) (nD + 1) 0 0 pl = lf_M_sweep_47 nC nT nR nD pl n ((mr_M_know (F 26) (G 6) (G 7) (G 8) (G 9) (G 10) (G 11) (G 12) (G 13) (G 14) (G 15) (G 16) (G 17) (G 18) (G 19) (G 27) (G 28) nC nT nR nD).2.2.1) N47 fo j pq → ∀ (H : Heap) (locs : List Loc), va_P D cl (mW a ba ka (upd (upd (upd F 0 0) 24 (nI pq)) 26 ((mr_M_know (F 26) (G 6) (G 7) (G 8) (G 9) (G 10) (G 11) (G 12) (G 13) (G 14) (G 15) (G 16) (G 17) (G 18) (G 19) (G 27) (G 28) nC nT nR nD).1)) (va_up (va_up (va_up G 19 ((mr_M_know (F 26) (G 6) (G 7) (G 8) (G 9) (G 10) (G 11) (G 12) (G 13) (G 14) (G 15) (G 16) (G 17) (G 18) (G 19) (G 27) (G 28) nC nT nR nD).2.1)) 27 ((mr_M_know (F 26) (G 6) (G 7) (G 8) (G 9) (G 10) (G 11) (G 12) (G 13) (G 14) (G 15) (G 16) (G 17) (G 18) (G 19) (G 27) (G 28) nC nT nR nD).2.2.1)) 28 ((mr_M_know (F 26) (G 6) (G 7) (G 8) (G 9) (G 10) (G 11) (G 12) (G 13) (G 14) (G 15) (G 16) (G 17) (G 18) (G 19) (G 27) (G 28) nC nT nR nD).2.2.2))) H → va_D A (mW a ba ka (upd (upd (upd F 0 0) 24 (nI pq)) 26 ((mr_M_know (F 26) (G 6) (G 7) (G 8) (G 9) (G 10) (G 11) (G 12) (G 13) (G 14) (G 15) (G 16) (G 17) (G 18) (G 19) (G 27) (G 28) nC nT nR nD).1)) (va_up (va_up (va_up G 19 ((mr_M_know (F 26) (G 6) (G 7) (G 8) (G 9) (G 10) (G 11) (G 12) (G 13) (G 14) (G 15) (G 16) (G 17) (G 18) (G 19) (G 27) (G 28) nC nT nR nD).2.1)) 27 ((mr_M_know (F 26) (G 6) (G 7) (G 8) (G 9) (G 10) (G 11) (G 12) (G 13) (G 14) (G 15) (G 16) (G 17) (G 18) (G 19) (G 27) (G 28) nC nT nR nD).2.2.1)) 28 ((mr_M_know (F 26) (G 6) (G 7) (G 8) (G 9) (G 10) (G 11) (G 12) (G 13) (G 14) (G 15) (G 16) (G 17) (G 18) (G 19) (G 27) (G 28) nC nT nR nD).2.2.2))) → va_S A H0 H locs → ∀ (ls : Array Slot), lv_has ls 4 [(3, .int (nI j)), (2, .int fo), (0, .ref a), (1, .int n)] → W p l e ({ frames := 4, cells := 0, slots := 0, locals := 92 } : Room) s m args below meth c H locs 0 0 Q (F0 m 47 ls []) := by
        intro N47
        induction N47 with
        | zero => intro fo j pq hpq hm47; exact absurd hm47 (Nat.not_lt_zero _)
        | succ N47 ih47 =>
          intro fo j pq hpq hm47 hR47 H locs hP hD hS ls hl
          refine lv_iload_n hx hb dM_sweep_47 rfl (lv_at hl 0 rfl) ?_
          refine lv_iload_n hx hb dM_sweep_48 rfl (lv_at hl 3 rfl) ?_
          refine lv_icmp_ge (tgt := 99) hx hb dM_sweep_49 (by decide) (fun c49 => ?_) (fun c49 => ?_)
          · have er47 : lf_M_sweep_47 nC nT nR nD pl n ((mr_M_know (F 26) (G 6) (G 7) (G 8) (G 9) (G 10) (G 11) (G 12) (G 13) (G 14) (G 15) (G 16) (G 17) (G 18) (G 19) (G 27) (G 28) nC nT nR nD).2.2.1) (N47 + 1) fo j pq = (fo, j, pq) := by rw [lf_M_sweep_47, if_pos c49]
            rw [er47] at hR47
            exact ex47 H locs (by rw [hR47]; exact hP) (by rw [hR47]; exact hD) hS ls (by rw [hR47]; exact lv_sub hl [0, 1, 2, 3] rfl)
          · refine lv_aload_n hx hb dM_sweep_52 rfl (lv_at hl 2 rfl) ?_
            have ef53 : (upd (upd (upd F 0 0) 24 (nI pq)) 26 ((mr_M_know (F 26) (G 6) (G 7) (G 8) (G 9) (G 10) (G 11) (G 12) (G 13) (G 14) (G 15) (G 16) (G 17) (G 18) (G 19) (G 27) (G 28) nC nT nR nD).1)) 24 = nI pq := by rw [pk_un (k := 26) (j := 24) (by decide), pk_us]
            refine va_get (D := D) (ci := 0) (v := .int (nI pq)) (C := RM) (T := TM) (N := 29) hx hb hts inM_ hown hK hP 0 rfl hcl 24 (by decide) f84 (fun _ h9 => h9) (congrArg (fun z => some (Value.int z)) ef53) dM_sweep_53 ?_
            refine lv_aload_n hx hb dM_sweep_56 rfl (lv_at hl 2 rfl) ?_
            refine va_get (D := D) (ci := 0) (v := .int (F 5)) (C := RM) (T := TM) (N := 29) hx hb hts inM_ hown hK hP 0 rfl hcl 5 (by decide) f7 (fun _ h9 => h9) rfl dM_sweep_57 ?_
            refine wt_i h5 ?_
            refine lv_icmp_ge (tgt := 99) hx hb dM_sweep_60 (by decide) (fun c60 => ?_) (fun c60 => ?_)
            · have n60 : nD ≤ pq := (nI_leI (a := nD) (b := pq) (by omega) (by omega)).mp c60
              have er47 : lf_M_sweep_47 nC nT nR nD pl n ((mr_M_know (F 26) (G 6) (G 7) (G 8) (G 9) (G 10) (G 11) (G 12) (G 13) (G 14) (G 15) (G 16) (G 17) (G 18) (G 19) (G 27) (G 28) nC nT nR nD).2.2.1) (N47 + 1) fo j pq = (fo, j, pq) := by rw [lf_M_sweep_47, if_neg c49, if_pos c60]
              rw [er47] at hR47
              exact ex47 H locs (by rw [hR47]; exact hP) (by rw [hR47]; exact hD) hS ls (by rw [hR47]; exact lv_sub hl [0, 1, 2, 3] rfl)
            · have n60 : ¬ nD ≤ pq := fun h9 => c60 ((nI_leI (a := nD) (b := pq) (by omega) (by omega)).mpr h9)
              refine lv_iload_n hx hb dM_sweep_63 rfl (lv_at hl 1 rfl) ?_
              refine lv_aload_n hx hb dM_sweep_64 rfl (lv_at hl 2 rfl) ?_
              refine va_get (D := D) (ci := 0) (v := .ref (ba 27)) (C := RM) (T := TM) (N := 29) hx hb hts inM_ hown hK hP 0 rfl hcl 27 (by decide) f60 (fun _ h9 => h9) rfl dM_sweep_65 ?_
              refine lv_aload_n hx hb dM_sweep_68 rfl (lv_at hl 2 rfl) ?_
              have ef69 : (upd (upd (upd F 0 0) 24 (nI pq)) 26 ((mr_M_know (F 26) (G 6) (G 7) (G 8) (G 9) (G 10) (G 11) (G 12) (G 13) (G 14) (G 15) (G 16) (G 17) (G 18) (G 19) (G 27) (G 28) nC nT nR nD).1)) 24 = nI pq := by rw [pk_un (k := 26) (j := 24) (by decide), pk_us]
              refine va_get (D := D) (ci := 0) (v := .int (nI pq)) (C := RM) (T := TM) (N := 29) hx hb hts inM_ hown hK hP 0 rfl hcl 24 (by decide) f84 (fun _ h9 => h9) (congrArg (fun z => some (Value.int z)) ef69) dM_sweep_69 ?_
              have sd72 : pq < 4096 := by omega
              have eg72 : (va_up (va_up (va_up G 19 ((mr_M_know (F 26) (G 6) (G 7) (G 8) (G 9) (G 10) (G 11) (G 12) (G 13) (G 14) (G 15) (G 16) (G 17) (G 18) (G 19) (G 27) (G 28) nC nT nR nD).2.1)) 27 ((mr_M_know (F 26) (G 6) (G 7) (G 8) (G 9) (G 10) (G 11) (G 12) (G 13) (G 14) (G 15) (G 16) (G 17) (G 18) (G 19) (G 27) (G 28) nC nT nR nD).2.2.1)) 28 ((mr_M_know (F 26) (G 6) (G 7) (G 8) (G 9) (G 10) (G 11) (G 12) (G 13) (G 14) (G 15) (G 16) (G 17) (G 18) (G 19) (G 27) (G 28) nC nT nR nD).2.2.2)) 27 = (mr_M_know (F 26) (G 6) (G 7) (G 8) (G 9) (G 10) (G 11) (G 12) (G 13) (G 14) (G 15) (G 16) (G 17) (G 18) (G 19) (G 27) (G 28) nC nT nR nD).2.2.1 := by rw [vup_un (k := 28) (j := 27) (by decide), vup_us]
              refine wn_zald (f := (mr_M_know (F 26) (G 6) (G 7) (G 8) (G 9) (G 10) (G 11) (G 12) (G 13) (G 14) (G 15) (G 16) (G 17) (G 18) (G 19) (G 27) (G 28) nC nT nR nD).2.2.1) hx hb hK hP 15 14 (congrArg (fun z : Nat → Int32 => (some ((ba 27), (.inl ((ka 27), 4096, .inl z) : va_E)) : Option (Nat × va_E))) eg72) rfl pq rfl sd72 (by decide) dM_sweep_72 ?_
              have j81 : ∀ (ls : Array Slot), lv_has ls 4 [(3, .int (nI j)), (2, .int fo), (0, .ref a), (1, .int n)] → W p l e ({ frames := 4, cells := 0, slots := 0, locals := 92 } : Room) s m args below meth c H locs 0 0 Q (F0 m 81 ls [.int ((if (((mr_M_know (F 26) (G 6) (G 7) (G 8) (G 9) (G 10) (G 11) (G 12) (G 13) (G 14) (G 15) (G 16) (G 17) (G 18) (G 19) (G 27) (G 28) nC nT nR nD).2.2.1) pq) = 0 then 0 else 1) : Int32), .int fo]) := by
                intro ls hl
                refine lv_iadd hx hb dM_sweep_81 ?_
                refine lv_istore_n (lv' := [(2, .int (fo + ((if (((mr_M_know (F 26) (G 6) (G 7) (G 8) (G 9) (G 10) (G 11) (G 12) (G 13) (G 14) (G 15) (G 16) (G 17) (G 18) (G 19) (G 27) (G 28) nC nT nR nD).2.2.1) pq) = 0 then 0 else 1) : Int32))), (3, .int (nI j)), (0, .ref a), (1, .int n)]) hx hb dM_sweep_82 rfl hl (by decide) rfl (fun ls hl => ?_)
                refine lv_aload_n hx hb dM_sweep_83 rfl (lv_at hl 2 rfl) ?_
                refine lv_dup hx hb dM_sweep_84 rfl ?_
                have ef85 : (upd (upd (upd F 0 0) 24 (nI pq)) 26 ((mr_M_know (F 26) (G 6) (G 7) (G 8) (G 9) (G 10) (G 11) (G 12) (G 13) (G 14) (G 15) (G 16) (G 17) (G 18) (G 19) (G 27) (G 28) nC nT nR nD).1)) 24 = nI pq := by rw [pk_un (k := 26) (j := 24) (by decide), pk_us]
                refine va_get (D := D) (ci := 0) (v := .int (nI pq)) (C := RM) (T := TM) (N := 29) hx hb hts inM_ hown hK hP 0 rfl hcl 24 (by decide) f84 (fun _ h9 => h9) (congrArg (fun z => some (Value.int z)) ef85) dM_sweep_85 ?_
                refine lv_iconst (v := 1) hx hb dM_sweep_88 (by decide) ?_
                refine lv_iadd hx hb dM_sweep_89 ?_
                refine wt_i (r := nI (pq + 1)) (by exact nI_add pq 1) ?_
                refine va_put (D := D) (ci := 0) (fs := mWl0 ba (upd (upd (upd F 0 0) 24 (nI pq)) 26 ((mr_M_know (F 26) (G 6) (G 7) (G 8) (G 9) (G 10) (G 11) (G 12) (G 13) (G 14) (G 15) (G 16) (G 17) (G 18) (G 19) (G 27) (G 28) nC nT nR nD).1))) (v := .int (nI (pq + 1))) (ty := .int) (C := RM) (T := TM) (N := 29) hx hb hts inM_ tyM tyM_ok nmM hown hK hP hD hS 0 rfl hcl 24 (by decide) f84 (fun _ h9 => h9) rfl (by decide +kernel) rfl rfl (Nat.le_of_ble_eq_true rfl) dM_sweep_90 (fun H locs hP hD hS => ?_)
                rw [mW_f24, upd_sw (i := 26) (j := 24) (by decide), upd_ow] at hP hD
                refine lv_iinc (v := nI (j + 1)) (lv' := [(3, .int (nI (j + 1))), (2, .int (fo + ((if (((mr_M_know (F 26) (G 6) (G 7) (G 8) (G 9) (G 10) (G 11) (G 12) (G 13) (G 14) (G 15) (G 16) (G 17) (G 18) (G 19) (G 27) (G 28) nC nT nR nD).2.2.1) pq) = 0 then 0 else 1) : Int32))), (0, .ref a), (1, .int n)]) hx hb dM_sweep_93 hl (k := 1) rfl (by exact ii_1 j) (by decide) rfl (fun ls hl => ?_)
                refine lv_goto (tgt := 47) hx hb dM_sweep_96 (by decide) ?_
                have er47 : lf_M_sweep_47 nC nT nR nD pl n ((mr_M_know (F 26) (G 6) (G 7) (G 8) (G 9) (G 10) (G 11) (G 12) (G 13) (G 14) (G 15) (G 16) (G 17) (G 18) (G 19) (G 27) (G 28) nC nT nR nD).2.2.1) (N47 + 1) fo j pq = lf_M_sweep_47 nC nT nR nD pl n ((mr_M_know (F 26) (G 6) (G 7) (G 8) (G 9) (G 10) (G 11) (G 12) (G 13) (G 14) (G 15) (G 16) (G 17) (G 18) (G 19) (G 27) (G 28) nC nT nR nD).2.2.1) N47 (fo + ((if (((mr_M_know (F 26) (G 6) (G 7) (G 8) (G 9) (G 10) (G 11) (G 12) (G 13) (G 14) (G 15) (G 16) (G 17) (G 18) (G 19) (G 27) (G 28) nC nT nR nD).2.2.1) pq) = 0 then 0 else 1) : Int32)) (j + 1) (pq + 1) := by rw [lf_M_sweep_47, if_neg c49, if_neg c60]
                exact ih47 (fo + ((if (((mr_M_know (F 26) (G 6) (G 7) (G 8) (G 9) (G 10) (G 11) (G 12) (G 13) (G 14) (G 15) (G 16) (G 17) (G 18) (G 19) (G 27) (G 28) nC nT nR nD).2.2.1) pq) = 0 then 0 else 1) : Int32)) (j + 1) (pq + 1) (by omega) (by omega) (hR47.trans er47) H locs hP hD hS ls (lv_sub hl [0, 1, 2, 3] rfl)
              refine lv_if_eq (tgt := 80) hx hb dM_sweep_73 (by decide) (fun c73 => ?_) (fun c73 => ?_)
              · refine lv_iconst (v := 0) hx hb dM_sweep_80 (by decide) ?_
                exact wt_i (by rw [if_pos c73]) (j81 ls hl)
              · refine lv_iconst (v := 1) hx hb dM_sweep_76 (by decide) ?_
                refine lv_goto (tgt := 81) hx hb dM_sweep_77 (by decide) ?_
                exact wt_i (by rw [if_neg c73]) (j81 ls hl)
      exact loop47 (nD + 1) 0 0 pl (by omega) (by omega) rfl H locs (by rw [← h24]; exact hP) (by rw [← h24]; exact hD) hS ls (lv_sub hl [0, 1, 2, 3] rfl)
    · have n30 : pl = nD := (nI_eq (a := pl) (b := nD) (by omega) (by omega)).mp c30
      refine lv_aload_n hx hb dM_sweep_33 rfl (lv_at hl 0 rfl) ?_
      refine lv_iconst (v := 2) hx hb dM_sweep_34 (by decide) ?_
      refine ww_callV (r := (some (.int ((mr_M_fail 2).1)))) (w' := mW a ba ka (upd (upd F 0 0) 0 ((mr_M_fail 2).2)) G) (As := [.int 2]) (rest := []) Sx (c_M_fail l D cl hcl a ba ka (upd F 0 0) G hP (hD.weaken (fun _ _ _ _ => trivial)) 2) (cwV 1 hts gM_sweep_M_fail rfl rfl rfl (by decide +kernel) ⟨Nat.le_of_ble_eq_true rfl, Nat.le_of_ble_eq_true rfl⟩) hK (va_recv hK hP (ci := 0) (q0 := 0) hcl rfl) rfl hl.1 rfl (Nat.le_of_ble_eq_true rfl) dM_sweep_35 ⟨Nat.zero_le _, Nat.zero_le _⟩ hD hS hA (fun H locs hP hD hS => ?_)
      rw [upd_ow] at hP hD
      have em : mr_M_sweep (F 24) (F 25) (F 26) (G 6) (G 7) (G 8) (G 9) (G 10) (G 11) (G 12) (G 13) (G 14) (G 15) (G 16) (G 17) (G 18) (G 19) (G 27) (G 28) nC nT nR nD pl n = ((mr_M_fail 2).1, (mr_M_fail 2).2, F 24, F 25, F 26, G 19, G 27, G 28) := by rw [mr_M_sweep, if_neg c13, if_pos c30]
      exact hret _ _ _ _ _ _ (by simp only [em]) (by simp only [em]; rw [upd_keep (f := upd F 0 ((mr_M_fail 2).2)) (j := 24) (x := F 24) rfl, upd_keep (f := upd F 0 ((mr_M_fail 2).2)) (j := 25) (x := F 25) rfl, upd_keep (f := upd F 0 ((mr_M_fail 2).2)) (j := 26) (x := F 26) rfl, vup_keep (f := G) (j := 19) (x := G 19) rfl, vup_keep (f := G) (j := 27) (x := G 27) rfl, vup_keep (f := G) (j := 28) (x := G 28) rfl]) hP hD hS dM_sweep_38
  · refine lv_aload_n hx hb dM_sweep_16 rfl (lv_at hl 0 rfl) ?_
    refine lv_iconst (v := 1) hx hb dM_sweep_17 (by decide) ?_
    refine ww_callV (r := (some (.int ((mr_M_fail 1).1)))) (w' := mW a ba ka (upd (upd F 0 0) 0 ((mr_M_fail 1).2)) G) (As := [.int 1]) (rest := []) Sx (c_M_fail l D cl hcl a ba ka (upd F 0 0) G hP (hD.weaken (fun _ _ _ _ => trivial)) 1) (cwV 1 hts gM_sweep_M_fail rfl rfl rfl (by decide +kernel) ⟨Nat.le_of_ble_eq_true rfl, Nat.le_of_ble_eq_true rfl⟩) hK (va_recv hK hP (ci := 0) (q0 := 0) hcl rfl) rfl hl.1 rfl (Nat.le_of_ble_eq_true rfl) dM_sweep_18 ⟨Nat.zero_le _, Nat.zero_le _⟩ hD hS hA (fun H locs hP hD hS => ?_)
    rw [upd_ow] at hP hD
    have em : mr_M_sweep (F 24) (F 25) (F 26) (G 6) (G 7) (G 8) (G 9) (G 10) (G 11) (G 12) (G 13) (G 14) (G 15) (G 16) (G 17) (G 18) (G 19) (G 27) (G 28) nC nT nR nD pl n = ((mr_M_fail 1).1, (mr_M_fail 1).2, F 24, F 25, F 26, G 19, G 27, G 28) := by rw [mr_M_sweep, if_pos c13]
    exact hret _ _ _ _ _ _ (by simp only [em]) (by simp only [em]; rw [upd_keep (f := upd F 0 ((mr_M_fail 1).2)) (j := 24) (x := F 24) rfl, upd_keep (f := upd F 0 ((mr_M_fail 1).2)) (j := 25) (x := F 25) rfl, upd_keep (f := upd F 0 ((mr_M_fail 1).2)) (j := 26) (x := F 26) rfl, vup_keep (f := G) (j := 19) (x := G 19) rfl, vup_keep (f := G) (j := 27) (x := G 27) rfl, vup_keep (f := G) (j := 28) (x := G 28) rfl]) hP hD hS dM_sweep_21
def lf_M_count_82 (g17 : Nat → Int32) (w : Int32) (i0 : Int32) : Nat → Int32
  | 0 => i0
  | k82 + 1 => ((lf_M_count_82 g17 w i0 k82) + ((if (g17 k82) = 0 then 0 else 1) : Int32))
def mr_M_count (f2 : Int32) (f3 : Int32) (f4 : Int32) (f5 : Int32) (f21 : Int32) (f23 : Int32) (f24 : Int32) (f25 : Int32) (g17 : Nat → Int32) (w : Int32) : Int32 × Int32 := (if w = 0 then (f2, 0) else (if w = 1 then (f5, 0) else (if w = 2 then (f3, 0) else (if w = 3 then (f4, 0) else (if w = 4 then (lf_M_count_82 g17 w 0 4, 0) else (if w = 5 then (f21, 0) else (if w = 6 then (((if f24 = f5 then (-1) else f24) : Int32), 0) else (if w = 7 then (f25, 0) else (if w = 8 then (f23, 0) else ((-1), 0))))))))))
set_option maxHeartbeats 4000000 in
set_option maxRecDepth 100000 in
theorem c_M_count (l : Launch) (D : va_G) (cl : List vw_C) (hcl : cl[0]? = some (RM, TM, 29)) (a : Nat) (ba : Nat → Nat) (ka : Nat → ClassId) (F : Nat → Int32) (G : Nat → Nat → Int32) {H0 : Heap} (hP : va_P D cl (mW a ba ka F G) H0) (hD : va_D (fun _ => True) (mW a ba ka F G)) (w : Int32) : ww_Met l yM_count wsM_count ({ frames := 0, cells := 0, slots := 0, locals := 0 } : Room) D cl (mT ka) H0 [.ref a, .int w] (mW a ba ka F G) (some (.int ((mr_M_count (F 2) (F 3) (F 4) (F 5) (F 21) (F 23) (F 24) (F 25) (G 17) w).1))) (mW a ba ka (upd F 0 ((mr_M_count (F 2) (F 3) (F 4) (F 5) (F 21) (F 23) (F 24) (F 25) (G 17) w).2)) G) := by
  refine ww_metI (by decide) rfl (Nat.le_of_ble_eq_true rfl) hP hD ?_
  intro p e s m args below meth c Q A Sx hK hP hD hS hA ls hl hret
  obtain ⟨hx, hb, hml, hown, hts⟩ := id Sx
  have hl : lv_has ls 4 [(0, .ref a), (1, .int w)] := hl
  obtain ⟨H, eH⟩ : ∃ H : Heap, H = H0 := ⟨_, rfl⟩
  obtain ⟨locs, eL⟩ : ∃ L : List Loc, L = [] := ⟨_, rfl⟩
  have hP : va_P D cl (mW a ba ka F G) H := by rw [eH]; exact hP
  have hS : va_S A H0 H locs := by rw [eH, eL]; exact hS
  rw [show W p l e ({ frames := 0, cells := 0, slots := 0, locals := 0 } : Room) s m args below meth c H0 [] 0 0 Q (F0 m 0 ls []) = W p l e ({ frames := 0, cells := 0, slots := 0, locals := 0 } : Room) s m args below meth c H locs 0 0 Q (F0 m 0 ls []) by rw [eH, eL]]
  clear eH eL
  have f70 := hts _ (List.mem_cons_of_mem _ mfM_70)
  have inM_ : ∀ w ∈ wsM0, w ∈ wsM_count := fun w h => List.mem_cons_of_mem _ (inM_all w h)
  have f81 := hts _ (List.mem_cons_of_mem _ mfM_81)
  have f7 := hts _ (List.mem_cons_of_mem _ mfM_7)
  have f100 := hts _ (List.mem_cons_of_mem _ mfM_100)
  have f103 := hts _ (List.mem_cons_of_mem _ mfM_103)
  have f47 := hts _ (List.mem_cons_of_mem _ mfM_47)
  have f153 := hts _ (List.mem_cons_of_mem _ mfM_153)
  have f84 := hts _ (List.mem_cons_of_mem _ mfM_84)
  have f87 := hts _ (List.mem_cons_of_mem _ mfM_87)
  have f156 := hts _ (List.mem_cons_of_mem _ mfM_156)
  refine lv_aload_n hx hb dM_count_0 rfl (lv_at hl 0 rfl) ?_
  refine lv_iconst (v := 0) hx hb dM_count_1 (by decide) ?_
  refine va_put (D := D) (ci := 0) (fs := mWl0 ba F) (v := .int 0) (ty := .int) (C := RM) (T := TM) (N := 29) hx hb hts inM_ tyM tyM_ok nmM hown hK hP hD hS 0 rfl hcl 0 (by decide) f70 (fun _ h9 => h9) rfl (by decide +kernel) rfl rfl (Nat.le_of_ble_eq_true rfl) dM_count_2 (fun H locs hP hD hS => ?_)
  rw [mW_f0] at hP hD
  refine lv_iconst (v := 0) hx hb dM_count_5 (by decide) ?_
  refine lv_istore_n (lv' := [(2, .int 0), (0, .ref a), (1, .int w)]) hx hb dM_count_6 rfl hl (by decide) rfl (fun ls hl => ?_)
  refine lv_iload_n hx hb dM_count_7 rfl (lv_at hl 2 rfl) ?_
  by_cases c8_0 : w = 0
  · refine wt_i c8_0 ?_
    refine lv_tableIn (tgt := 60) hx hb dM_count_8 (by decide) (by decide) rfl (by decide) ?_
    refine lv_aload_n hx hb dM_count_60 rfl (lv_at hl 1 rfl) ?_
    refine va_get (D := D) (ci := 0) (v := .int (F 2)) (C := RM) (T := TM) (N := 29) hx hb hts inM_ hown hK hP 0 rfl hcl 2 (by decide) f81 (fun _ h9 => h9) rfl dM_count_61 ?_
    have em : mr_M_count (F 2) (F 3) (F 4) (F 5) (F 21) (F 23) (F 24) (F 25) (G 17) w = (F 2, 0) := by rw [mr_M_count, if_pos c8_0]
    exact hret _ _ _ _ _ _ (by simp only [em]) (by simp only [em]) hP hD hS dM_count_64
  · by_cases c8_1 : w = 1
    · refine wt_i c8_1 ?_
      refine lv_tableIn (tgt := 65) hx hb dM_count_8 (by decide) (by decide) rfl (by decide) ?_
      refine lv_aload_n hx hb dM_count_65 rfl (lv_at hl 1 rfl) ?_
      refine va_get (D := D) (ci := 0) (v := .int (F 5)) (C := RM) (T := TM) (N := 29) hx hb hts inM_ hown hK hP 0 rfl hcl 5 (by decide) f7 (fun _ h9 => h9) rfl dM_count_66 ?_
      have em : mr_M_count (F 2) (F 3) (F 4) (F 5) (F 21) (F 23) (F 24) (F 25) (G 17) w = (F 5, 0) := by rw [mr_M_count, if_neg c8_0, if_pos c8_1]
      exact hret _ _ _ _ _ _ (by simp only [em]) (by simp only [em]) hP hD hS dM_count_69
    · by_cases c8_2 : w = 2
      · refine wt_i c8_2 ?_
        refine lv_tableIn (tgt := 70) hx hb dM_count_8 (by decide) (by decide) rfl (by decide) ?_
        refine lv_aload_n hx hb dM_count_70 rfl (lv_at hl 1 rfl) ?_
        refine va_get (D := D) (ci := 0) (v := .int (F 3)) (C := RM) (T := TM) (N := 29) hx hb hts inM_ hown hK hP 0 rfl hcl 3 (by decide) f100 (fun _ h9 => h9) rfl dM_count_71 ?_
        have em : mr_M_count (F 2) (F 3) (F 4) (F 5) (F 21) (F 23) (F 24) (F 25) (G 17) w = (F 3, 0) := by rw [mr_M_count, if_neg c8_0, if_neg c8_1, if_pos c8_2]
        exact hret _ _ _ _ _ _ (by simp only [em]) (by simp only [em]) hP hD hS dM_count_74
      · by_cases c8_3 : w = 3
        · refine wt_i c8_3 ?_
          refine lv_tableIn (tgt := 75) hx hb dM_count_8 (by decide) (by decide) rfl (by decide) ?_
          refine lv_aload_n hx hb dM_count_75 rfl (lv_at hl 1 rfl) ?_
          refine va_get (D := D) (ci := 0) (v := .int (F 4)) (C := RM) (T := TM) (N := 29) hx hb hts inM_ hown hK hP 0 rfl hcl 4 (by decide) f103 (fun _ h9 => h9) rfl dM_count_76 ?_
          have em : mr_M_count (F 2) (F 3) (F 4) (F 5) (F 21) (F 23) (F 24) (F 25) (G 17) w = (F 4, 0) := by rw [mr_M_count, if_neg c8_0, if_neg c8_1, if_neg c8_2, if_pos c8_3]
          exact hret _ _ _ _ _ _ (by simp only [em]) (by simp only [em]) hP hD hS dM_count_79
        · by_cases c8_4 : w = 4
          · refine wt_i c8_4 ?_
            refine lv_tableIn (tgt := 80) hx hb dM_count_8 (by decide) (by decide) rfl (by decide) ?_
            refine lv_iconst (v := 0) hx hb dM_count_80 (by decide) ?_
            refine lv_istore_n (lv' := [(3, .int 0), (2, .int 0), (0, .ref a), (1, .int w)]) hx hb dM_count_81 rfl hl (by decide) rfl (fun ls hl => ?_)
            have loop82 : ∀ (N82 k82 : Nat), k82 ≤ 4 → 4 - k82 < N82 → ∀ (H : Heap) (locs : List Loc), va_P D cl (mW a ba ka (upd F 0 0) G) H → va_D A (mW a ba ka (upd F 0 0) G) → va_S A H0 H locs → ∀ (ls : Array Slot), lv_has ls 4 [(3, .int (nI k82)), (2, .int (lf_M_count_82 (G 17) w 0 k82)), (0, .ref a), (1, .int w)] → W p l e ({ frames := 0, cells := 0, slots := 0, locals := 0 } : Room) s m args below meth c H locs 0 0 Q (F0 m 82 ls []) := by
              intro N82
              induction N82 with
              | zero => intro k82 hk82 hm82; exact absurd hm82 (Nat.not_lt_zero _)
              | succ N82 ih82 =>
                intro k82 hk82 hm82  H locs hP hD hS ls hl
                refine lv_iload_n hx hb dM_count_82 rfl (lv_at hl 0 rfl) ?_
                refine lv_iconst (v := 4) hx hb dM_count_83 (by decide) ?_
                refine lv_icmp_ge (tgt := 110) hx hb dM_count_84 (by decide) (fun c84 => ?_) (fun c84 => ?_)
                · have n84 : 4 ≤ k82 := (nI_leI (a := 4) (b := k82) (by omega) (by omega)).mp c84
                  have hx82 : 4 = k82 := by omega
                  subst hx82
                  refine lv_iload_n hx hb dM_count_110 rfl (lv_at hl 1 rfl) ?_
                  have em : mr_M_count (F 2) (F 3) (F 4) (F 5) (F 21) (F 23) (F 24) (F 25) (G 17) w = (lf_M_count_82 (G 17) w 0 4, 0) := by rw [mr_M_count, if_neg c8_0, if_neg c8_1, if_neg c8_2, if_neg c8_3, if_pos c8_4]
                  exact hret _ _ _ _ _ _ (by simp only [em]) (by simp only [em]) hP hD hS dM_count_111
                · have n84 : ¬ 4 ≤ k82 := fun h9 => c84 ((nI_leI (a := 4) (b := k82) (by omega) (by omega)).mpr h9)
                  refine lv_iload_n hx hb dM_count_87 rfl (lv_at hl 1 rfl) ?_
                  refine lv_aload_n hx hb dM_count_88 rfl (lv_at hl 2 rfl) ?_
                  refine va_get (D := D) (ci := 0) (v := .ref (ba 17)) (C := RM) (T := TM) (N := 29) hx hb hts inM_ hown hK hP 0 rfl hcl 17 (by decide) f47 (fun _ h9 => h9) rfl dM_count_89 ?_
                  refine lv_iload_n hx hb dM_count_92 rfl (lv_at hl 0 rfl) ?_
                  have sd93 : k82 < 4 := by omega
                  refine wn_zald (f := G 17) hx hb hK hP 12 11 rfl rfl k82 rfl sd93 (by decide) dM_count_93 ?_
                  have j102 : ∀ (ls : Array Slot), lv_has ls 4 [(3, .int (nI k82)), (2, .int (lf_M_count_82 (G 17) w 0 k82)), (0, .ref a), (1, .int w)] → W p l e ({ frames := 0, cells := 0, slots := 0, locals := 0 } : Room) s m args below meth c H locs 0 0 Q (F0 m 102 ls [.int ((if (G 17 k82) = 0 then 0 else 1) : Int32), .int (lf_M_count_82 (G 17) w 0 k82)]) := by
                    intro ls hl
                    refine lv_iadd hx hb dM_count_102 ?_
                    refine lv_istore_n (lv' := [(2, .int ((lf_M_count_82 (G 17) w 0 k82) + ((if (G 17 k82) = 0 then 0 else 1) : Int32))), (3, .int (nI k82)), (0, .ref a), (1, .int w)]) hx hb dM_count_103 rfl hl (by decide) rfl (fun ls hl => ?_)
                    refine lv_iinc (v := nI (k82 + 1)) (lv' := [(3, .int (nI (k82 + 1))), (2, .int ((lf_M_count_82 (G 17) w 0 k82) + ((if (G 17 k82) = 0 then 0 else 1) : Int32))), (0, .ref a), (1, .int w)]) hx hb dM_count_104 hl (k := 1) rfl (by exact ii_1 k82) (by decide) rfl (fun ls hl => ?_)
                    refine lv_goto (tgt := 82) hx hb dM_count_107 (by decide) ?_
                    have eb82 : lf_M_count_82 (G 17) w 0 (k82 + 1) = (lf_M_count_82 (G 17) w 0 k82) + ((if (G 17 k82) = 0 then 0 else 1) : Int32) := by rw [lf_M_count_82]
                    exact ih82 (k82 + 1) (by omega) (by omega)  H locs (by exact hP) (by exact hD) hS ls (by rw [eb82]; exact lv_sub hl [0, 1, 2, 3] rfl)
                  refine lv_if_eq (tgt := 101) hx hb dM_count_94 (by decide) (fun c94 => ?_) (fun c94 => ?_)
                  · refine lv_iconst (v := 0) hx hb dM_count_101 (by decide) ?_
                    exact wt_i (by rw [if_pos c94]) (j102 ls hl)
                  · refine lv_iconst (v := 1) hx hb dM_count_97 (by decide) ?_
                    refine lv_goto (tgt := 102) hx hb dM_count_98 (by decide) ?_
                    exact wt_i (by rw [if_neg c94]) (j102 ls hl)
            exact loop82 _ 0 (Nat.zero_le _) (Nat.lt_succ_self _)  H locs hP hD hS ls (lv_sub hl [0, 1, 2, 3] rfl)
          · by_cases c8_5 : w = 5
            · refine wt_i c8_5 ?_
              refine lv_tableIn (tgt := 112) hx hb dM_count_8 (by decide) (by decide) rfl (by decide) ?_
              refine lv_aload_n hx hb dM_count_112 rfl (lv_at hl 1 rfl) ?_
              refine va_get (D := D) (ci := 0) (v := .int (F 21)) (C := RM) (T := TM) (N := 29) hx hb hts inM_ hown hK hP 0 rfl hcl 21 (by decide) f153 (fun _ h9 => h9) rfl dM_count_113 ?_
              have em : mr_M_count (F 2) (F 3) (F 4) (F 5) (F 21) (F 23) (F 24) (F 25) (G 17) w = (F 21, 0) := by rw [mr_M_count, if_neg c8_0, if_neg c8_1, if_neg c8_2, if_neg c8_3, if_neg c8_4, if_pos c8_5]
              exact hret _ _ _ _ _ _ (by simp only [em]) (by simp only [em]) hP hD hS dM_count_116
            · by_cases c8_6 : w = 6
              · refine wt_i c8_6 ?_
                refine lv_tableIn (tgt := 117) hx hb dM_count_8 (by decide) (by decide) rfl (by decide) ?_
                refine lv_aload_n hx hb dM_count_117 rfl (lv_at hl 1 rfl) ?_
                refine va_get (D := D) (ci := 0) (v := .int (F 24)) (C := RM) (T := TM) (N := 29) hx hb hts inM_ hown hK hP 0 rfl hcl 24 (by decide) f84 (fun _ h9 => h9) rfl dM_count_118 ?_
                refine lv_aload_n hx hb dM_count_121 rfl (lv_at hl 1 rfl) ?_
                refine va_get (D := D) (ci := 0) (v := .int (F 5)) (C := RM) (T := TM) (N := 29) hx hb hts inM_ hown hK hP 0 rfl hcl 5 (by decide) f7 (fun _ h9 => h9) rfl dM_count_122 ?_
                have j136 : ∀ (ls : Array Slot), lv_has ls 4 [(2, .int 0), (0, .ref a), (1, .int w)] → W p l e ({ frames := 0, cells := 0, slots := 0, locals := 0 } : Room) s m args below meth c H locs 0 0 Q (F0 m 136 ls [.int ((if (F 24) = (F 5) then (-1) else F 24) : Int32)]) := by
                  intro ls hl
                  have em : mr_M_count (F 2) (F 3) (F 4) (F 5) (F 21) (F 23) (F 24) (F 25) (G 17) w = (((if (F 24) = (F 5) then (-1) else F 24) : Int32), 0) := by rw [mr_M_count, if_neg c8_0, if_neg c8_1, if_neg c8_2, if_neg c8_3, if_neg c8_4, if_neg c8_5, if_pos c8_6]
                  exact hret _ _ _ _ _ _ (by simp only [em]) (by simp only [em]) hP hD hS dM_count_136
                refine lv_icmp_ne (tgt := 132) hx hb dM_count_125 (by decide) (fun c125 => ?_) (fun c125 => ?_)
                · refine lv_aload_n hx hb dM_count_132 rfl (lv_at hl 1 rfl) ?_
                  refine va_get (D := D) (ci := 0) (v := .int (F 24)) (C := RM) (T := TM) (N := 29) hx hb hts inM_ hown hK hP 0 rfl hcl 24 (by decide) f84 (fun _ h9 => h9) rfl dM_count_133 ?_
                  exact wt_i (by rw [if_neg c125]) (j136 ls hl)
                · refine lv_iconst (v := (-1)) hx hb dM_count_128 (by decide) ?_
                  refine lv_goto (tgt := 136) hx hb dM_count_129 (by decide) ?_
                  exact wt_i (by rw [if_pos c125]) (j136 ls hl)
              · by_cases c8_7 : w = 7
                · refine wt_i c8_7 ?_
                  refine lv_tableIn (tgt := 137) hx hb dM_count_8 (by decide) (by decide) rfl (by decide) ?_
                  refine lv_aload_n hx hb dM_count_137 rfl (lv_at hl 1 rfl) ?_
                  refine va_get (D := D) (ci := 0) (v := .int (F 25)) (C := RM) (T := TM) (N := 29) hx hb hts inM_ hown hK hP 0 rfl hcl 25 (by decide) f87 (fun _ h9 => h9) rfl dM_count_138 ?_
                  have em : mr_M_count (F 2) (F 3) (F 4) (F 5) (F 21) (F 23) (F 24) (F 25) (G 17) w = (F 25, 0) := by rw [mr_M_count, if_neg c8_0, if_neg c8_1, if_neg c8_2, if_neg c8_3, if_neg c8_4, if_neg c8_5, if_neg c8_6, if_pos c8_7]
                  exact hret _ _ _ _ _ _ (by simp only [em]) (by simp only [em]) hP hD hS dM_count_141
                · by_cases c8_8 : w = 8
                  · refine wt_i c8_8 ?_
                    refine lv_tableIn (tgt := 142) hx hb dM_count_8 (by decide) (by decide) rfl (by decide) ?_
                    refine lv_aload_n hx hb dM_count_142 rfl (lv_at hl 1 rfl) ?_
                    refine va_get (D := D) (ci := 0) (v := .int (F 23)) (C := RM) (T := TM) (N := 29) hx hb hts inM_ hown hK hP 0 rfl hcl 23 (by decide) f156 (fun _ h9 => h9) rfl dM_count_143 ?_
                    have em : mr_M_count (F 2) (F 3) (F 4) (F 5) (F 21) (F 23) (F 24) (F 25) (G 17) w = (F 23, 0) := by rw [mr_M_count, if_neg c8_0, if_neg c8_1, if_neg c8_2, if_neg c8_3, if_neg c8_4, if_neg c8_5, if_neg c8_6, if_neg c8_7, if_pos c8_8]
                    exact hret _ _ _ _ _ _ (by simp only [em]) (by simp only [em]) hP hD hS dM_count_146
                  · refine lv_tableOut (tgt := 147) hx hb dM_count_8 (by exact sw_out c8_0 c8_1 c8_2 c8_3 c8_4 c8_5 c8_6 c8_7 c8_8) (by decide) ?_
                    refine lv_iconst (v := (-1)) hx hb dM_count_147 (by decide) ?_
                    have em : mr_M_count (F 2) (F 3) (F 4) (F 5) (F 21) (F 23) (F 24) (F 25) (G 17) w = ((-1), 0) := by rw [mr_M_count, if_neg c8_0, if_neg c8_1, if_neg c8_2, if_neg c8_3, if_neg c8_4, if_neg c8_5, if_neg c8_6, if_neg c8_7, if_neg c8_8]
                    exact hret _ _ _ _ _ _ (by simp only [em]) (by simp only [em]) hP hD hS dM_count_148
end
section
def mr_M_choice (f2 : Int32) (f5 : Int32) (f24 : Int32) (f25 : Int32) (f26 : Int32) (g6 : Nat → Int32) (nC : Nat) (n : Int32) : Int32 × Int32 × Int32 × Int32 × Int32 × Int32 × Int32 × (Nat → Int32) := (if (mr_M_within n 2 6) = 0 then ((mr_M_fail 1).1, (mr_M_fail 1).2, f2, f5, f24, f25, f26, g6) else (if (nI nC) = 8 then ((mr_M_fail 2).1, (mr_M_fail 2).2, f2, f5, f24, f25, f26, g6) else (if (f5 * n) ≤ 4096 then ((nI (nC + 1)) - 1, 0, nI (nC + 1), f5 * n, 0, 0, 0, upd g6 nC n) else ((mr_M_fail 2).1, (mr_M_fail 2).2, f2, f5, f24, f25, f26, g6))))
set_option maxHeartbeats 4000000 in
set_option maxRecDepth 100000 in
theorem c_M_choice (l : Launch) (D : va_G) (cl : List vw_C) (hcl : cl[0]? = some (RM, TM, 29)) (a : Nat) (ba : Nat → Nat) (ka : Nat → ClassId) (F : Nat → Int32) (G : Nat → Nat → Int32) {H0 : Heap} (hP : va_P D cl (mW a ba ka F G) H0) (hD : va_D (fun _ => True) (mW a ba ka F G)) (nC : Nat) (n : Int32) (h2 : F 2 = nI nC) (hC : nC ≤ 8) : ww_Met l yM_choice wsM_choice ({ frames := 1, cells := 0, slots := 0, locals := 22 } : Room) D cl (mT ka) H0 [.ref a, .int n] (mW a ba ka F G) (some (.int ((mr_M_choice (F 2) (F 5) (F 24) (F 25) (F 26) (G 6) nC n).1))) (mW a ba ka (upd (upd (upd (upd (upd (upd F 0 ((mr_M_choice (F 2) (F 5) (F 24) (F 25) (F 26) (G 6) nC n).2.1)) 2 ((mr_M_choice (F 2) (F 5) (F 24) (F 25) (F 26) (G 6) nC n).2.2.1)) 5 ((mr_M_choice (F 2) (F 5) (F 24) (F 25) (F 26) (G 6) nC n).2.2.2.1)) 24 ((mr_M_choice (F 2) (F 5) (F 24) (F 25) (F 26) (G 6) nC n).2.2.2.2.1)) 25 ((mr_M_choice (F 2) (F 5) (F 24) (F 25) (F 26) (G 6) nC n).2.2.2.2.2.1)) 26 ((mr_M_choice (F 2) (F 5) (F 24) (F 25) (F 26) (G 6) nC n).2.2.2.2.2.2.1)) (va_up G 6 ((mr_M_choice (F 2) (F 5) (F 24) (F 25) (F 26) (G 6) nC n).2.2.2.2.2.2.2))) := by
  refine ww_metI (by decide) rfl (Nat.le_of_ble_eq_true rfl) hP hD ?_
  intro p e s m args below meth c Q A Sx hK hP hD hS hA ls hl hret
  obtain ⟨hx, hb, hml, hown, hts⟩ := id Sx
  have hl : lv_has ls 2 [(0, .ref a), (1, .int n)] := hl
  obtain ⟨H, eH⟩ : ∃ H : Heap, H = H0 := ⟨_, rfl⟩
  obtain ⟨locs, eL⟩ : ∃ L : List Loc, L = [] := ⟨_, rfl⟩
  have hP : va_P D cl (mW a ba ka F G) H := by rw [eH]; exact hP
  have hS : va_S A H0 H locs := by rw [eH, eL]; exact hS
  rw [show W p l e ({ frames := 1, cells := 0, slots := 0, locals := 22 } : Room) s m args below meth c H0 [] 0 0 Q (F0 m 0 ls []) = W p l e ({ frames := 1, cells := 0, slots := 0, locals := 22 } : Room) s m args below meth c H locs 0 0 Q (F0 m 0 ls []) by rw [eH, eL]]
  clear eH eL
  have f70 := hts _ (List.mem_cons_of_mem _ mfM_70)
  have inM_ : ∀ w ∈ wsM0, w ∈ wsM_choice := fun w h => List.mem_cons_of_mem _ (inM_all w h)
  have f81 := hts _ (List.mem_cons_of_mem _ mfM_81)
  have f7 := hts _ (List.mem_cons_of_mem _ mfM_7)
  have f13 := hts _ (List.mem_cons_of_mem _ mfM_13)
  have f84 := hts _ (List.mem_cons_of_mem _ mfM_84)
  have f87 := hts _ (List.mem_cons_of_mem _ mfM_87)
  have f90 := hts _ (List.mem_cons_of_mem _ mfM_90)
  refine lv_aload_n hx hb dM_choice_0 rfl (lv_at hl 0 rfl) ?_
  refine lv_iconst (v := 0) hx hb dM_choice_1 (by decide) ?_
  refine va_put (D := D) (ci := 0) (fs := mWl0 ba F) (v := .int 0) (ty := .int) (C := RM) (T := TM) (N := 29) hx hb hts inM_ tyM tyM_ok nmM hown hK hP hD hS 0 rfl hcl 0 (by decide) f70 (fun _ h9 => h9) rfl (by decide +kernel) rfl rfl (Nat.le_of_ble_eq_true rfl) dM_choice_2 (fun H locs hP hD hS => ?_)
  rw [mW_f0] at hP hD
  refine lv_iload_n hx hb dM_choice_5 rfl (lv_at hl 1 rfl) ?_
  refine lv_iconst (v := 2) hx hb dM_choice_6 (by decide) ?_
  refine lv_bipush (v := 6) hx hb dM_choice_7 (by decide) ?_
  refine ro_callS (r := (.int (mr_M_within n 2 6))) (As := [.int n, .int 2, .int 6]) (rest := []) Sx (c_M_within l D cl hcl a ba ka (upd F 0 0) G hP n 2 6) (va_cwS 3 hts gM_choice_M_within rfl rfl rfl (by decide +kernel) ⟨Nat.le_of_ble_eq_true rfl, Nat.le_of_ble_eq_true rfl⟩) hK rfl hl.1 rfl (Nat.le_of_ble_eq_true rfl) dM_choice_9 ⟨Nat.zero_le _, Nat.zero_le _⟩ ?_
  refine lv_if_ne (tgt := 21) hx hb dM_choice_12 (by decide) (fun c12 => ?_) (fun c12 => ?_)
  · refine lv_aload_n hx hb dM_choice_21 rfl (lv_at hl 0 rfl) ?_
    refine va_get (D := D) (ci := 0) (v := .int (F 2)) (C := RM) (T := TM) (N := 29) hx hb hts inM_ hown hK hP 0 rfl hcl 2 (by decide) f81 (fun _ h9 => h9) rfl dM_choice_22 ?_
    refine wt_i h2 ?_
    refine lv_bipush (v := 8) hx hb dM_choice_25 (by decide) ?_
    refine lv_icmp_eq (tgt := 42) hx hb dM_choice_27 (by decide) (fun c27 => ?_) (fun c27 => ?_)
    · have n27 : nC = 8 := (nI_eq (a := nC) (b := 8) (by omega) (by omega)).mp c27
      refine lv_aload_n hx hb dM_choice_42 rfl (lv_at hl 0 rfl) ?_
      refine lv_iconst (v := 2) hx hb dM_choice_43 (by decide) ?_
      refine ww_callV (r := (some (.int ((mr_M_fail 2).1)))) (w' := mW a ba ka (upd (upd F 0 0) 0 ((mr_M_fail 2).2)) G) (As := [.int 2]) (rest := []) Sx (c_M_fail l D cl hcl a ba ka (upd F 0 0) G hP (hD.weaken (fun _ _ _ _ => trivial)) 2) (cwV 1 hts gM_choice_M_fail rfl rfl rfl (by decide +kernel) ⟨Nat.le_of_ble_eq_true rfl, Nat.le_of_ble_eq_true rfl⟩) hK (va_recv hK hP (ci := 0) (q0 := 0) hcl rfl) rfl hl.1 rfl (Nat.le_of_ble_eq_true rfl) dM_choice_44 ⟨Nat.zero_le _, Nat.zero_le _⟩ hD hS hA (fun H locs hP hD hS => ?_)
      rw [upd_ow] at hP hD
      have em : mr_M_choice (F 2) (F 5) (F 24) (F 25) (F 26) (G 6) nC n = ((mr_M_fail 2).1, (mr_M_fail 2).2, F 2, F 5, F 24, F 25, F 26, G 6) := by rw [mr_M_choice, if_neg c12, if_pos c27]
      exact hret _ _ _ _ _ _ (by simp only [em]) (by simp only [em]; rw [upd_keep (f := upd F 0 ((mr_M_fail 2).2)) (j := 2) (x := F 2) rfl, upd_keep (f := upd F 0 ((mr_M_fail 2).2)) (j := 5) (x := F 5) rfl, upd_keep (f := upd F 0 ((mr_M_fail 2).2)) (j := 24) (x := F 24) rfl, upd_keep (f := upd F 0 ((mr_M_fail 2).2)) (j := 25) (x := F 25) rfl, upd_keep (f := upd F 0 ((mr_M_fail 2).2)) (j := 26) (x := F 26) rfl, vup_keep (f := G) (j := 6) (x := G 6) rfl]) hP hD hS dM_choice_47
    · have n27 : ¬ nC = 8 := fun h9 => c27 ((nI_eq (a := nC) (b := 8) (by omega) (by omega)).mpr h9)
      have hC7 : nC < 8 := by omega
      refine lv_aload_n hx hb dM_choice_30 rfl (lv_at hl 0 rfl) ?_
      refine va_get (D := D) (ci := 0) (v := .int (F 5)) (C := RM) (T := TM) (N := 29) hx hb hts inM_ hown hK hP 0 rfl hcl 5 (by decide) f7 (fun _ h9 => h9) rfl dM_choice_31 ?_
      refine lv_iload_n hx hb dM_choice_34 rfl (lv_at hl 1 rfl) ?_
      refine lv_imul hx hb dM_choice_35 ?_
      refine lv_sipush (v := 4096) hx hb dM_choice_36 (by decide) ?_
      refine lv_icmp_le (tgt := 48) hx hb dM_choice_39 (by decide) (fun c39 => ?_) (fun c39 => ?_)
      · refine lv_aload_n hx hb dM_choice_48 rfl (lv_at hl 0 rfl) ?_
        refine va_get (D := D) (ci := 0) (v := .ref (ba 6)) (C := RM) (T := TM) (N := 29) hx hb hts inM_ hown hK hP 0 rfl hcl 6 (by decide) f13 (fun _ h9 => h9) rfl dM_choice_49 ?_
        refine lv_aload_n hx hb dM_choice_52 rfl (lv_at hl 0 rfl) ?_
        refine va_get (D := D) (ci := 0) (v := .int (F 2)) (C := RM) (T := TM) (N := 29) hx hb hts inM_ hown hK hP 0 rfl hcl 2 (by decide) f81 (fun _ h9 => h9) rfl dM_choice_53 ?_
        refine wt_i h2 ?_
        refine lv_iload_n hx hb dM_choice_56 rfl (lv_at hl 1 rfl) ?_
        have sd57 : nC < 8 := by omega
        refine wn_iast (f := G 6) hx hb hK hP hD hS 1 0 rfl rfl nC rfl sd57 (by decide) dM_choice_57 (fun H locs hP hD hS => ?_)
        rw [mW_g6] at hP hD
        refine lv_aload_n hx hb dM_choice_58 rfl (lv_at hl 0 rfl) ?_
        refine lv_dup hx hb dM_choice_59 rfl ?_
        refine va_get (D := D) (ci := 0) (v := .int (F 2)) (C := RM) (T := TM) (N := 29) hx hb hts inM_ hown hK hP 0 rfl hcl 2 (by decide) f81 (fun _ h9 => h9) rfl dM_choice_60 ?_
        refine wt_i h2 ?_
        refine lv_iconst (v := 1) hx hb dM_choice_63 (by decide) ?_
        refine lv_iadd hx hb dM_choice_64 ?_
        refine wt_i (r := nI (nC + 1)) (by exact nI_add nC 1) ?_
        refine va_put (D := D) (ci := 0) (fs := mWl0 ba (upd F 0 0)) (v := .int (nI (nC + 1))) (ty := .int) (C := RM) (T := TM) (N := 29) hx hb hts inM_ tyM tyM_ok nmM hown hK hP hD hS 0 rfl hcl 2 (by decide) f81 (fun _ h9 => h9) rfl (by decide +kernel) rfl rfl (Nat.le_of_ble_eq_true rfl) dM_choice_65 (fun H locs hP hD hS => ?_)
        rw [mW_f2] at hP hD
        refine lv_aload_n hx hb dM_choice_68 rfl (lv_at hl 0 rfl) ?_
        refine lv_dup hx hb dM_choice_69 rfl ?_
        refine va_get (D := D) (ci := 0) (v := .int (F 5)) (C := RM) (T := TM) (N := 29) hx hb hts inM_ hown hK hP 0 rfl hcl 5 (by decide) f7 (fun _ h9 => h9) rfl dM_choice_70 ?_
        refine lv_iload_n hx hb dM_choice_73 rfl (lv_at hl 1 rfl) ?_
        refine lv_imul hx hb dM_choice_74 ?_
        refine va_put (D := D) (ci := 0) (fs := mWl0 ba (upd (upd F 0 0) 2 (nI (nC + 1)))) (v := .int ((F 5) * n)) (ty := .int) (C := RM) (T := TM) (N := 29) hx hb hts inM_ tyM tyM_ok nmM hown hK hP hD hS 0 rfl hcl 5 (by decide) f7 (fun _ h9 => h9) rfl (by decide +kernel) rfl rfl (Nat.le_of_ble_eq_true rfl) dM_choice_75 (fun H locs hP hD hS => ?_)
        rw [mW_f5] at hP hD
        refine lv_aload_n hx hb dM_choice_78 rfl (lv_at hl 0 rfl) ?_
        refine lv_iconst (v := 0) hx hb dM_choice_79 (by decide) ?_
        refine va_put (D := D) (ci := 0) (fs := mWl0 ba (upd (upd (upd F 0 0) 2 (nI (nC + 1))) 5 ((F 5) * n))) (v := .int 0) (ty := .int) (C := RM) (T := TM) (N := 29) hx hb hts inM_ tyM tyM_ok nmM hown hK hP hD hS 0 rfl hcl 24 (by decide) f84 (fun _ h9 => h9) rfl (by decide +kernel) rfl rfl (Nat.le_of_ble_eq_true rfl) dM_choice_80 (fun H locs hP hD hS => ?_)
        rw [mW_f24] at hP hD
        refine lv_aload_n hx hb dM_choice_83 rfl (lv_at hl 0 rfl) ?_
        refine lv_iconst (v := 0) hx hb dM_choice_84 (by decide) ?_
        refine va_put (D := D) (ci := 0) (fs := mWl0 ba (upd (upd (upd (upd F 0 0) 2 (nI (nC + 1))) 5 ((F 5) * n)) 24 0)) (v := .int 0) (ty := .int) (C := RM) (T := TM) (N := 29) hx hb hts inM_ tyM tyM_ok nmM hown hK hP hD hS 0 rfl hcl 25 (by decide) f87 (fun _ h9 => h9) rfl (by decide +kernel) rfl rfl (Nat.le_of_ble_eq_true rfl) dM_choice_85 (fun H locs hP hD hS => ?_)
        rw [mW_f25] at hP hD
        refine lv_aload_n hx hb dM_choice_88 rfl (lv_at hl 0 rfl) ?_
        refine lv_iconst (v := 0) hx hb dM_choice_89 (by decide) ?_
        refine va_put (D := D) (ci := 0) (fs := mWl0 ba (upd (upd (upd (upd (upd F 0 0) 2 (nI (nC + 1))) 5 ((F 5) * n)) 24 0) 25 0)) (v := .int 0) (ty := .boolean) (C := RM) (T := TM) (N := 29) hx hb hts inM_ tyM tyM_ok nmM hown hK hP hD hS 0 rfl hcl 26 (by decide) f90 (fun _ h9 => h9) rfl (by decide +kernel) (by first | rfl | assumption) rfl (Nat.le_of_ble_eq_true rfl) dM_choice_90 (fun H locs hP hD hS => ?_)
        rw [mW_f26] at hP hD
        refine lv_aload_n hx hb dM_choice_93 rfl (lv_at hl 0 rfl) ?_
        have ef94 : (upd (upd (upd (upd (upd (upd F 0 0) 2 (nI (nC + 1))) 5 ((F 5) * n)) 24 0) 25 0) 26 0) 2 = nI (nC + 1) := by rw [pk_un (k := 26) (j := 2) (by decide), pk_un (k := 25) (j := 2) (by decide), pk_un (k := 24) (j := 2) (by decide), pk_un (k := 5) (j := 2) (by decide), pk_us]
        refine va_get (D := D) (ci := 0) (v := .int (nI (nC + 1))) (C := RM) (T := TM) (N := 29) hx hb hts inM_ hown hK hP 0 rfl hcl 2 (by decide) f81 (fun _ h9 => h9) (congrArg (fun z => some (Value.int z)) ef94) dM_choice_94 ?_
        refine lv_iconst (v := 1) hx hb dM_choice_97 (by decide) ?_
        refine lv_isub hx hb dM_choice_98 ?_
        have em : mr_M_choice (F 2) (F 5) (F 24) (F 25) (F 26) (G 6) nC n = ((nI (nC + 1)) - 1, 0, nI (nC + 1), (F 5) * n, 0, 0, 0, upd (G 6) nC n) := by rw [mr_M_choice, if_neg c12, if_neg c27, if_pos c39]
        exact hret _ _ _ _ _ _ (by simp only [em]) (by simp only [em]) hP hD hS dM_choice_99
      · refine lv_aload_n hx hb dM_choice_42 rfl (lv_at hl 0 rfl) ?_
        refine lv_iconst (v := 2) hx hb dM_choice_43 (by decide) ?_
        refine ww_callV (r := (some (.int ((mr_M_fail 2).1)))) (w' := mW a ba ka (upd (upd F 0 0) 0 ((mr_M_fail 2).2)) G) (As := [.int 2]) (rest := []) Sx (c_M_fail l D cl hcl a ba ka (upd F 0 0) G hP (hD.weaken (fun _ _ _ _ => trivial)) 2) (cwV 1 hts gM_choice_M_fail rfl rfl rfl (by decide +kernel) ⟨Nat.le_of_ble_eq_true rfl, Nat.le_of_ble_eq_true rfl⟩) hK (va_recv hK hP (ci := 0) (q0 := 0) hcl rfl) rfl hl.1 rfl (Nat.le_of_ble_eq_true rfl) dM_choice_44 ⟨Nat.zero_le _, Nat.zero_le _⟩ hD hS hA (fun H locs hP hD hS => ?_)
        rw [upd_ow] at hP hD
        have em : mr_M_choice (F 2) (F 5) (F 24) (F 25) (F 26) (G 6) nC n = ((mr_M_fail 2).1, (mr_M_fail 2).2, F 2, F 5, F 24, F 25, F 26, G 6) := by rw [mr_M_choice, if_neg c12, if_neg c27, if_neg c39]
        exact hret _ _ _ _ _ _ (by simp only [em]) (by simp only [em]; rw [upd_keep (f := upd F 0 ((mr_M_fail 2).2)) (j := 2) (x := F 2) rfl, upd_keep (f := upd F 0 ((mr_M_fail 2).2)) (j := 5) (x := F 5) rfl, upd_keep (f := upd F 0 ((mr_M_fail 2).2)) (j := 24) (x := F 24) rfl, upd_keep (f := upd F 0 ((mr_M_fail 2).2)) (j := 25) (x := F 25) rfl, upd_keep (f := upd F 0 ((mr_M_fail 2).2)) (j := 26) (x := F 26) rfl, vup_keep (f := G) (j := 6) (x := G 6) rfl]) hP hD hS dM_choice_47
  · refine lv_aload_n hx hb dM_choice_15 rfl (lv_at hl 0 rfl) ?_
    refine lv_iconst (v := 1) hx hb dM_choice_16 (by decide) ?_
    refine ww_callV (r := (some (.int ((mr_M_fail 1).1)))) (w' := mW a ba ka (upd (upd F 0 0) 0 ((mr_M_fail 1).2)) G) (As := [.int 1]) (rest := []) Sx (c_M_fail l D cl hcl a ba ka (upd F 0 0) G hP (hD.weaken (fun _ _ _ _ => trivial)) 1) (cwV 1 hts gM_choice_M_fail rfl rfl rfl (by decide +kernel) ⟨Nat.le_of_ble_eq_true rfl, Nat.le_of_ble_eq_true rfl⟩) hK (va_recv hK hP (ci := 0) (q0 := 0) hcl rfl) rfl hl.1 rfl (Nat.le_of_ble_eq_true rfl) dM_choice_17 ⟨Nat.zero_le _, Nat.zero_le _⟩ hD hS hA (fun H locs hP hD hS => ?_)
    rw [upd_ow] at hP hD
    have em : mr_M_choice (F 2) (F 5) (F 24) (F 25) (F 26) (G 6) nC n = ((mr_M_fail 1).1, (mr_M_fail 1).2, F 2, F 5, F 24, F 25, F 26, G 6) := by rw [mr_M_choice, if_pos c12]
    exact hret _ _ _ _ _ _ (by simp only [em]) (by simp only [em]; rw [upd_keep (f := upd F 0 ((mr_M_fail 1).2)) (j := 2) (x := F 2) rfl, upd_keep (f := upd F 0 ((mr_M_fail 1).2)) (j := 5) (x := F 5) rfl, upd_keep (f := upd F 0 ((mr_M_fail 1).2)) (j := 24) (x := F 24) rfl, upd_keep (f := upd F 0 ((mr_M_fail 1).2)) (j := 25) (x := F 25) rfl, upd_keep (f := upd F 0 ((mr_M_fail 1).2)) (j := 26) (x := F 26) rfl, vup_keep (f := G) (j := 6) (x := G 6) rfl]) hP hD hS dM_choice_20
def mr_M_term (f3 : Int32) (f26 : Int32) (g6 : Nat → Int32) (g7 : Nat → Int32) (g8 : Nat → Int32) (g9 : Nat → Int32) (g10 : Nat → Int32) (g11 : Nat → Int32) (g12 : Nat → Int32) (nC : Nat) (nT : Nat) (nu : Int32) (ta : Int32) (va : Int32) (tb : Int32) (vb : Int32) (w : Int32) : Int32 × Int32 × Int32 × Int32 × (Nat → Int32) × (Nat → Int32) × (Nat → Int32) × (Nat → Int32) × (Nat → Int32) × (Nat → Int32) := (if (mr_M_within nu 0 3) = 0 then ((mr_M_fail 1).1, (mr_M_fail 1).2, f3, f26, g7, g8, g9, g10, g11, g12) else (if (mr_M_isValue g6 nC ta va) = 0 then ((mr_M_fail 1).1, (mr_M_fail 1).2, f3, f26, g7, g8, g9, g10, g11, g12) else (if tb = (-1) then (if ta = tb then ((mr_M_fail 2).1, (mr_M_fail 2).2, f3, f26, g7, g8, g9, g10, g11, g12) else (if (mr_M_within w (-1000000) 1000000) = 0 then ((mr_M_fail 2).1, (mr_M_fail 2).2, f3, f26, g7, g8, g9, g10, g11, g12) else (if (nI nT) = 100 then ((mr_M_fail 3).1, (mr_M_fail 3).2, f3, f26, g7, g8, g9, g10, g11, g12) else (nI (nT + 1), 0, nI (nT + 1), 0, upd g7 nT nu, upd g8 nT ta, upd g9 nT va, upd g10 nT tb, upd g11 nT vb, upd g12 nT w)))) else (if (mr_M_isValue g6 nC tb vb) = 0 then ((mr_M_fail 1).1, (mr_M_fail 1).2, f3, f26, g7, g8, g9, g10, g11, g12) else (if ta = tb then ((mr_M_fail 2).1, (mr_M_fail 2).2, f3, f26, g7, g8, g9, g10, g11, g12) else (if (mr_M_within w (-1000000) 1000000) = 0 then ((mr_M_fail 2).1, (mr_M_fail 2).2, f3, f26, g7, g8, g9, g10, g11, g12) else (if (nI nT) = 100 then ((mr_M_fail 3).1, (mr_M_fail 3).2, f3, f26, g7, g8, g9, g10, g11, g12) else (nI (nT + 1), 0, nI (nT + 1), 0, upd g7 nT nu, upd g8 nT ta, upd g9 nT va, upd g10 nT tb, upd g11 nT vb, upd g12 nT w))))))))
set_option maxHeartbeats 4000000 in
set_option maxRecDepth 100000 in
theorem c_M_term (l : Launch) (D : va_G) (cl : List vw_C) (hcl : cl[0]? = some (RM, TM, 29)) (a : Nat) (ba : Nat → Nat) (ka : Nat → ClassId) (F : Nat → Int32) (G : Nat → Nat → Int32) {H0 : Heap} (hP : va_P D cl (mW a ba ka F G) H0) (hD : va_D (fun _ => True) (mW a ba ka F G)) (nC : Nat) (nT : Nat) (nu : Int32) (ta : Int32) (va : Int32) (tb : Int32) (vb : Int32) (w : Int32) (h2 : F 2 = nI nC) (hC : nC ≤ 8) (h3 : F 3 = nI nT) (hT : nT ≤ 100) : ww_Met l yM_term wsM_term ({ frames := 2, cells := 0, slots := 0, locals := 44 } : Room) D cl (mT ka) H0 [.ref a, .int nu, .int ta, .int va, .int tb, .int vb, .int w] (mW a ba ka F G) (some (.int ((mr_M_term (F 3) (F 26) (G 6) (G 7) (G 8) (G 9) (G 10) (G 11) (G 12) nC nT nu ta va tb vb w).1))) (mW a ba ka (upd (upd (upd F 0 ((mr_M_term (F 3) (F 26) (G 6) (G 7) (G 8) (G 9) (G 10) (G 11) (G 12) nC nT nu ta va tb vb w).2.1)) 3 ((mr_M_term (F 3) (F 26) (G 6) (G 7) (G 8) (G 9) (G 10) (G 11) (G 12) nC nT nu ta va tb vb w).2.2.1)) 26 ((mr_M_term (F 3) (F 26) (G 6) (G 7) (G 8) (G 9) (G 10) (G 11) (G 12) nC nT nu ta va tb vb w).2.2.2.1)) (va_up (va_up (va_up (va_up (va_up (va_up G 7 ((mr_M_term (F 3) (F 26) (G 6) (G 7) (G 8) (G 9) (G 10) (G 11) (G 12) nC nT nu ta va tb vb w).2.2.2.2.1)) 8 ((mr_M_term (F 3) (F 26) (G 6) (G 7) (G 8) (G 9) (G 10) (G 11) (G 12) nC nT nu ta va tb vb w).2.2.2.2.2.1)) 9 ((mr_M_term (F 3) (F 26) (G 6) (G 7) (G 8) (G 9) (G 10) (G 11) (G 12) nC nT nu ta va tb vb w).2.2.2.2.2.2.1)) 10 ((mr_M_term (F 3) (F 26) (G 6) (G 7) (G 8) (G 9) (G 10) (G 11) (G 12) nC nT nu ta va tb vb w).2.2.2.2.2.2.2.1)) 11 ((mr_M_term (F 3) (F 26) (G 6) (G 7) (G 8) (G 9) (G 10) (G 11) (G 12) nC nT nu ta va tb vb w).2.2.2.2.2.2.2.2.1)) 12 ((mr_M_term (F 3) (F 26) (G 6) (G 7) (G 8) (G 9) (G 10) (G 11) (G 12) nC nT nu ta va tb vb w).2.2.2.2.2.2.2.2.2))) := by
  refine ww_metI (by decide) rfl (Nat.le_of_ble_eq_true rfl) hP hD ?_
  intro p e s m args below meth c Q A Sx hK hP hD hS hA ls hl hret
  obtain ⟨hx, hb, hml, hown, hts⟩ := id Sx
  have hl : lv_has ls 7 [(0, .ref a), (1, .int nu), (2, .int ta), (3, .int va), (4, .int tb), (5, .int vb), (6, .int w)] := hl
  obtain ⟨H, eH⟩ : ∃ H : Heap, H = H0 := ⟨_, rfl⟩
  obtain ⟨locs, eL⟩ : ∃ L : List Loc, L = [] := ⟨_, rfl⟩
  have hP : va_P D cl (mW a ba ka F G) H := by rw [eH]; exact hP
  have hS : va_S A H0 H locs := by rw [eH, eL]; exact hS
  rw [show W p l e ({ frames := 2, cells := 0, slots := 0, locals := 44 } : Room) s m args below meth c H0 [] 0 0 Q (F0 m 0 ls []) = W p l e ({ frames := 2, cells := 0, slots := 0, locals := 44 } : Room) s m args below meth c H locs 0 0 Q (F0 m 0 ls []) by rw [eH, eL]]
  clear eH eL
  have f70 := hts _ (List.mem_cons_of_mem _ mfM_70)
  have inM_ : ∀ w ∈ wsM0, w ∈ wsM_term := fun w h => List.mem_cons_of_mem _ (inM_all w h)
  have k98 := hts _ (List.mem_cons_of_mem _ mkM_98)
  have k99 := hts _ (List.mem_cons_of_mem _ mkM_99)
  have f100 := hts _ (List.mem_cons_of_mem _ mfM_100)
  have f17 := hts _ (List.mem_cons_of_mem _ mfM_17)
  have f20 := hts _ (List.mem_cons_of_mem _ mfM_20)
  have f23 := hts _ (List.mem_cons_of_mem _ mfM_23)
  have f26 := hts _ (List.mem_cons_of_mem _ mfM_26)
  have f29 := hts _ (List.mem_cons_of_mem _ mfM_29)
  have f32 := hts _ (List.mem_cons_of_mem _ mfM_32)
  have f90 := hts _ (List.mem_cons_of_mem _ mfM_90)
  refine lv_aload_n hx hb dM_term_0 rfl (lv_at hl 0 rfl) ?_
  refine lv_iconst (v := 0) hx hb dM_term_1 (by decide) ?_
  refine va_put (D := D) (ci := 0) (fs := mWl0 ba F) (v := .int 0) (ty := .int) (C := RM) (T := TM) (N := 29) hx hb hts inM_ tyM tyM_ok nmM hown hK hP hD hS 0 rfl hcl 0 (by decide) f70 (fun _ h9 => h9) rfl (by decide +kernel) rfl rfl (Nat.le_of_ble_eq_true rfl) dM_term_2 (fun H locs hP hD hS => ?_)
  rw [mW_f0] at hP hD
  refine lv_iload_n hx hb dM_term_5 rfl (lv_at hl 1 rfl) ?_
  refine lv_iconst (v := 0) hx hb dM_term_6 (by decide) ?_
  refine lv_iconst (v := 3) hx hb dM_term_7 (by decide) ?_
  refine ro_callS (r := (.int (mr_M_within nu 0 3))) (As := [.int nu, .int 0, .int 3]) (rest := []) Sx (c_M_within l D cl hcl a ba ka (upd F 0 0) G hP nu 0 3) (va_cwS 3 hts gM_term_M_within rfl rfl rfl (by decide +kernel) ⟨Nat.le_of_ble_eq_true rfl, Nat.le_of_ble_eq_true rfl⟩) hK rfl hl.1 rfl (Nat.le_of_ble_eq_true rfl) dM_term_8 ⟨Nat.zero_le _, Nat.zero_le _⟩ ?_
  refine lv_if_eq (tgt := 40) hx hb dM_term_11 (by decide) (fun c11 => ?_) (fun c11 => ?_)
  · refine lv_aload_n hx hb dM_term_40 rfl (lv_at hl 0 rfl) ?_
    refine lv_iconst (v := 1) hx hb dM_term_41 (by decide) ?_
    refine ww_callV (r := (some (.int ((mr_M_fail 1).1)))) (w' := mW a ba ka (upd (upd F 0 0) 0 ((mr_M_fail 1).2)) G) (As := [.int 1]) (rest := []) Sx (c_M_fail l D cl hcl a ba ka (upd F 0 0) G hP (hD.weaken (fun _ _ _ _ => trivial)) 1) (cwV 1 hts gM_term_M_fail rfl rfl rfl (by decide +kernel) ⟨Nat.le_of_ble_eq_true rfl, Nat.le_of_ble_eq_true rfl⟩) hK (va_recv hK hP (ci := 0) (q0 := 0) hcl rfl) rfl hl.1 rfl (Nat.le_of_ble_eq_true rfl) dM_term_42 ⟨Nat.zero_le _, Nat.zero_le _⟩ hD hS hA (fun H locs hP hD hS => ?_)
    rw [upd_ow] at hP hD
    have em : mr_M_term (F 3) (F 26) (G 6) (G 7) (G 8) (G 9) (G 10) (G 11) (G 12) nC nT nu ta va tb vb w = ((mr_M_fail 1).1, (mr_M_fail 1).2, F 3, F 26, G 7, G 8, G 9, G 10, G 11, G 12) := by rw [mr_M_term, if_pos c11]
    exact hret _ _ _ _ _ _ (by simp only [em]) (by simp only [em]; rw [upd_keep (f := upd F 0 ((mr_M_fail 1).2)) (j := 3) (x := F 3) rfl, upd_keep (f := upd F 0 ((mr_M_fail 1).2)) (j := 26) (x := F 26) rfl, vup_keep (f := G) (j := 7) (x := G 7) rfl, vup_keep (f := G) (j := 8) (x := G 8) rfl, vup_keep (f := G) (j := 9) (x := G 9) rfl, vup_keep (f := G) (j := 10) (x := G 10) rfl, vup_keep (f := G) (j := 11) (x := G 11) rfl, vup_keep (f := G) (j := 12) (x := G 12) rfl]) hP hD hS dM_term_45
  · refine lv_aload_n hx hb dM_term_14 rfl (lv_at hl 0 rfl) ?_
    refine lv_iload_n hx hb dM_term_15 rfl (lv_at hl 2 rfl) ?_
    refine lv_iload_n hx hb dM_term_16 rfl (lv_at hl 3 rfl) ?_
    refine ro_callV (r := (.int (mr_M_isValue (G 6) nC ta va))) (As := [.int ta, .int va]) (rest := []) Sx (c_M_isValue l D cl hcl a ba ka (upd F 0 0) G hP nC ta va h2 hC) (cwV 2 hts gM_term_M_isValue rfl rfl rfl (by decide +kernel) ⟨Nat.le_of_ble_eq_true rfl, Nat.le_of_ble_eq_true rfl⟩) hK (va_recv hK hP (ci := 0) (q0 := 0) hcl rfl) rfl hl.1 rfl (Nat.le_of_ble_eq_true rfl) dM_term_17 ⟨Nat.zero_le _, Nat.zero_le _⟩ ?_
    refine lv_if_eq (tgt := 40) hx hb dM_term_20 (by decide) (fun c20 => ?_) (fun c20 => ?_)
    · refine lv_aload_n hx hb dM_term_40 rfl (lv_at hl 0 rfl) ?_
      refine lv_iconst (v := 1) hx hb dM_term_41 (by decide) ?_
      refine ww_callV (r := (some (.int ((mr_M_fail 1).1)))) (w' := mW a ba ka (upd (upd F 0 0) 0 ((mr_M_fail 1).2)) G) (As := [.int 1]) (rest := []) Sx (c_M_fail l D cl hcl a ba ka (upd F 0 0) G hP (hD.weaken (fun _ _ _ _ => trivial)) 1) (cwV 1 hts gM_term_M_fail rfl rfl rfl (by decide +kernel) ⟨Nat.le_of_ble_eq_true rfl, Nat.le_of_ble_eq_true rfl⟩) hK (va_recv hK hP (ci := 0) (q0 := 0) hcl rfl) rfl hl.1 rfl (Nat.le_of_ble_eq_true rfl) dM_term_42 ⟨Nat.zero_le _, Nat.zero_le _⟩ hD hS hA (fun H locs hP hD hS => ?_)
      rw [upd_ow] at hP hD
      have em : mr_M_term (F 3) (F 26) (G 6) (G 7) (G 8) (G 9) (G 10) (G 11) (G 12) nC nT nu ta va tb vb w = ((mr_M_fail 1).1, (mr_M_fail 1).2, F 3, F 26, G 7, G 8, G 9, G 10, G 11, G 12) := by rw [mr_M_term, if_neg c11, if_pos c20]
      exact hret _ _ _ _ _ _ (by simp only [em]) (by simp only [em]; rw [upd_keep (f := upd F 0 ((mr_M_fail 1).2)) (j := 3) (x := F 3) rfl, upd_keep (f := upd F 0 ((mr_M_fail 1).2)) (j := 26) (x := F 26) rfl, vup_keep (f := G) (j := 7) (x := G 7) rfl, vup_keep (f := G) (j := 8) (x := G 8) rfl, vup_keep (f := G) (j := 9) (x := G 9) rfl, vup_keep (f := G) (j := 10) (x := G 10) rfl, vup_keep (f := G) (j := 11) (x := G 11) rfl, vup_keep (f := G) (j := 12) (x := G 12) rfl]) hP hD hS dM_term_45
    · refine lv_iload hx hb dM_term_23 (lv_at hl 4 rfl) ?_
      refine lv_iconst (v := (-1)) hx hb dM_term_25 (by decide) ?_
      refine lv_icmp_eq (tgt := 46) hx hb dM_term_26 (by decide) (fun c26 => ?_) (fun c26 => ?_)
      · refine lv_iload_n hx hb dM_term_46 rfl (lv_at hl 2 rfl) ?_
        refine lv_iload hx hb dM_term_47 (lv_at hl 4 rfl) ?_
        refine lv_icmp_eq (tgt := 64) hx hb dM_term_49 (by decide) (fun c49 => ?_) (fun c49 => ?_)
        · refine lv_aload_n hx hb dM_term_64 rfl (lv_at hl 0 rfl) ?_
          refine lv_iconst (v := 2) hx hb dM_term_65 (by decide) ?_
          refine ww_callV (r := (some (.int ((mr_M_fail 2).1)))) (w' := mW a ba ka (upd (upd F 0 0) 0 ((mr_M_fail 2).2)) G) (As := [.int 2]) (rest := []) Sx (c_M_fail l D cl hcl a ba ka (upd F 0 0) G hP (hD.weaken (fun _ _ _ _ => trivial)) 2) (cwV 1 hts gM_term_M_fail rfl rfl rfl (by decide +kernel) ⟨Nat.le_of_ble_eq_true rfl, Nat.le_of_ble_eq_true rfl⟩) hK (va_recv hK hP (ci := 0) (q0 := 0) hcl rfl) rfl hl.1 rfl (Nat.le_of_ble_eq_true rfl) dM_term_66 ⟨Nat.zero_le _, Nat.zero_le _⟩ hD hS hA (fun H locs hP hD hS => ?_)
          rw [upd_ow] at hP hD
          have em : mr_M_term (F 3) (F 26) (G 6) (G 7) (G 8) (G 9) (G 10) (G 11) (G 12) nC nT nu ta va tb vb w = ((mr_M_fail 2).1, (mr_M_fail 2).2, F 3, F 26, G 7, G 8, G 9, G 10, G 11, G 12) := by rw [mr_M_term, if_neg c11, if_neg c20, if_pos c26, if_pos c49]
          exact hret _ _ _ _ _ _ (by simp only [em]) (by simp only [em]; rw [upd_keep (f := upd F 0 ((mr_M_fail 2).2)) (j := 3) (x := F 3) rfl, upd_keep (f := upd F 0 ((mr_M_fail 2).2)) (j := 26) (x := F 26) rfl, vup_keep (f := G) (j := 7) (x := G 7) rfl, vup_keep (f := G) (j := 8) (x := G 8) rfl, vup_keep (f := G) (j := 9) (x := G 9) rfl, vup_keep (f := G) (j := 10) (x := G 10) rfl, vup_keep (f := G) (j := 11) (x := G 11) rfl, vup_keep (f := G) (j := 12) (x := G 12) rfl]) hP hD hS dM_term_69
        · refine lv_iload hx hb dM_term_52 (lv_at hl 6 rfl) ?_
          refine lv_ldc hx hb hown k98 dM_term_54 ?_
          refine lv_ldc hx hb hown k99 dM_term_56 ?_
          refine ro_callS (r := (.int (mr_M_within w (-1000000) 1000000))) (As := [.int w, .int (-1000000), .int 1000000]) (rest := []) Sx (c_M_within l D cl hcl a ba ka (upd F 0 0) G hP w (-1000000) 1000000) (va_cwS 3 hts gM_term_M_within rfl rfl rfl (by decide +kernel) ⟨Nat.le_of_ble_eq_true rfl, Nat.le_of_ble_eq_true rfl⟩) hK rfl hl.1 rfl (Nat.le_of_ble_eq_true rfl) dM_term_58 ⟨Nat.zero_le _, Nat.zero_le _⟩ ?_
          refine lv_if_ne (tgt := 70) hx hb dM_term_61 (by decide) (fun c61 => ?_) (fun c61 => ?_)
          · refine lv_aload_n hx hb dM_term_70 rfl (lv_at hl 0 rfl) ?_
            refine va_get (D := D) (ci := 0) (v := .int (F 3)) (C := RM) (T := TM) (N := 29) hx hb hts inM_ hown hK hP 0 rfl hcl 3 (by decide) f100 (fun _ h9 => h9) rfl dM_term_71 ?_
            refine wt_i h3 ?_
            refine lv_bipush (v := 100) hx hb dM_term_74 (by decide) ?_
            refine lv_icmp_ne (tgt := 85) hx hb dM_term_76 (by decide) (fun c76 => ?_) (fun c76 => ?_)
            · have n76 : ¬ nT = 100 := fun h9 => c76 ((nI_eq (a := nT) (b := 100) (by omega) (by omega)).mpr h9)
              refine lv_aload_n hx hb dM_term_85 rfl (lv_at hl 0 rfl) ?_
              refine va_get (D := D) (ci := 0) (v := .ref (ba 7)) (C := RM) (T := TM) (N := 29) hx hb hts inM_ hown hK hP 0 rfl hcl 7 (by decide) f17 (fun _ h9 => h9) rfl dM_term_86 ?_
              refine lv_aload_n hx hb dM_term_89 rfl (lv_at hl 0 rfl) ?_
              refine va_get (D := D) (ci := 0) (v := .int (F 3)) (C := RM) (T := TM) (N := 29) hx hb hts inM_ hown hK hP 0 rfl hcl 3 (by decide) f100 (fun _ h9 => h9) rfl dM_term_90 ?_
              refine wt_i h3 ?_
              refine lv_iload_n hx hb dM_term_93 rfl (lv_at hl 1 rfl) ?_
              have sd94 : nT < 100 := by omega
              refine wn_iast (f := G 7) hx hb hK hP hD hS 2 1 rfl rfl nT rfl sd94 (by decide) dM_term_94 (fun H locs hP hD hS => ?_)
              rw [mW_g7] at hP hD
              refine lv_aload_n hx hb dM_term_95 rfl (lv_at hl 0 rfl) ?_
              refine va_get (D := D) (ci := 0) (v := .ref (ba 8)) (C := RM) (T := TM) (N := 29) hx hb hts inM_ hown hK hP 0 rfl hcl 8 (by decide) f20 (fun _ h9 => h9) rfl dM_term_96 ?_
              refine lv_aload_n hx hb dM_term_99 rfl (lv_at hl 0 rfl) ?_
              refine va_get (D := D) (ci := 0) (v := .int (F 3)) (C := RM) (T := TM) (N := 29) hx hb hts inM_ hown hK hP 0 rfl hcl 3 (by decide) f100 (fun _ h9 => h9) rfl dM_term_100 ?_
              refine wt_i h3 ?_
              refine lv_iload_n hx hb dM_term_103 rfl (lv_at hl 2 rfl) ?_
              have sd104 : nT < 100 := by omega
              refine wn_iast (f := G 8) hx hb hK hP hD hS 3 2 rfl rfl nT rfl sd104 (by decide) dM_term_104 (fun H locs hP hD hS => ?_)
              rw [mW_g8] at hP hD
              refine lv_aload_n hx hb dM_term_105 rfl (lv_at hl 0 rfl) ?_
              refine va_get (D := D) (ci := 0) (v := .ref (ba 9)) (C := RM) (T := TM) (N := 29) hx hb hts inM_ hown hK hP 0 rfl hcl 9 (by decide) f23 (fun _ h9 => h9) rfl dM_term_106 ?_
              refine lv_aload_n hx hb dM_term_109 rfl (lv_at hl 0 rfl) ?_
              refine va_get (D := D) (ci := 0) (v := .int (F 3)) (C := RM) (T := TM) (N := 29) hx hb hts inM_ hown hK hP 0 rfl hcl 3 (by decide) f100 (fun _ h9 => h9) rfl dM_term_110 ?_
              refine wt_i h3 ?_
              refine lv_iload_n hx hb dM_term_113 rfl (lv_at hl 3 rfl) ?_
              have sd114 : nT < 100 := by omega
              refine wn_iast (f := G 9) hx hb hK hP hD hS 4 3 rfl rfl nT rfl sd114 (by decide) dM_term_114 (fun H locs hP hD hS => ?_)
              rw [mW_g9] at hP hD
              refine lv_aload_n hx hb dM_term_115 rfl (lv_at hl 0 rfl) ?_
              refine va_get (D := D) (ci := 0) (v := .ref (ba 10)) (C := RM) (T := TM) (N := 29) hx hb hts inM_ hown hK hP 0 rfl hcl 10 (by decide) f26 (fun _ h9 => h9) rfl dM_term_116 ?_
              refine lv_aload_n hx hb dM_term_119 rfl (lv_at hl 0 rfl) ?_
              refine va_get (D := D) (ci := 0) (v := .int (F 3)) (C := RM) (T := TM) (N := 29) hx hb hts inM_ hown hK hP 0 rfl hcl 3 (by decide) f100 (fun _ h9 => h9) rfl dM_term_120 ?_
              refine wt_i h3 ?_
              refine lv_iload hx hb dM_term_123 (lv_at hl 4 rfl) ?_
              have sd125 : nT < 100 := by omega
              refine wn_iast (f := G 10) hx hb hK hP hD hS 5 4 rfl rfl nT rfl sd125 (by decide) dM_term_125 (fun H locs hP hD hS => ?_)
              rw [mW_g10] at hP hD
              refine lv_aload_n hx hb dM_term_126 rfl (lv_at hl 0 rfl) ?_
              refine va_get (D := D) (ci := 0) (v := .ref (ba 11)) (C := RM) (T := TM) (N := 29) hx hb hts inM_ hown hK hP 0 rfl hcl 11 (by decide) f29 (fun _ h9 => h9) rfl dM_term_127 ?_
              refine lv_aload_n hx hb dM_term_130 rfl (lv_at hl 0 rfl) ?_
              refine va_get (D := D) (ci := 0) (v := .int (F 3)) (C := RM) (T := TM) (N := 29) hx hb hts inM_ hown hK hP 0 rfl hcl 3 (by decide) f100 (fun _ h9 => h9) rfl dM_term_131 ?_
              refine wt_i h3 ?_
              refine lv_iload hx hb dM_term_134 (lv_at hl 5 rfl) ?_
              have sd136 : nT < 100 := by omega
              refine wn_iast (f := G 11) hx hb hK hP hD hS 6 5 rfl rfl nT rfl sd136 (by decide) dM_term_136 (fun H locs hP hD hS => ?_)
              rw [mW_g11] at hP hD
              refine lv_aload_n hx hb dM_term_137 rfl (lv_at hl 0 rfl) ?_
              refine va_get (D := D) (ci := 0) (v := .ref (ba 12)) (C := RM) (T := TM) (N := 29) hx hb hts inM_ hown hK hP 0 rfl hcl 12 (by decide) f32 (fun _ h9 => h9) rfl dM_term_138 ?_
              refine lv_aload_n hx hb dM_term_141 rfl (lv_at hl 0 rfl) ?_
              refine va_get (D := D) (ci := 0) (v := .int (F 3)) (C := RM) (T := TM) (N := 29) hx hb hts inM_ hown hK hP 0 rfl hcl 3 (by decide) f100 (fun _ h9 => h9) rfl dM_term_142 ?_
              refine wt_i h3 ?_
              refine lv_iload hx hb dM_term_145 (lv_at hl 6 rfl) ?_
              have sd147 : nT < 100 := by omega
              refine wn_iast (f := G 12) hx hb hK hP hD hS 7 6 rfl rfl nT rfl sd147 (by decide) dM_term_147 (fun H locs hP hD hS => ?_)
              rw [mW_g12] at hP hD
              refine lv_aload_n hx hb dM_term_148 rfl (lv_at hl 0 rfl) ?_
              refine lv_dup hx hb dM_term_149 rfl ?_
              refine va_get (D := D) (ci := 0) (v := .int (F 3)) (C := RM) (T := TM) (N := 29) hx hb hts inM_ hown hK hP 0 rfl hcl 3 (by decide) f100 (fun _ h9 => h9) rfl dM_term_150 ?_
              refine wt_i h3 ?_
              refine lv_iconst (v := 1) hx hb dM_term_153 (by decide) ?_
              refine lv_iadd hx hb dM_term_154 ?_
              refine wt_i (r := nI (nT + 1)) (by exact nI_add nT 1) ?_
              refine va_put (D := D) (ci := 0) (fs := mWl0 ba (upd F 0 0)) (v := .int (nI (nT + 1))) (ty := .int) (C := RM) (T := TM) (N := 29) hx hb hts inM_ tyM tyM_ok nmM hown hK hP hD hS 0 rfl hcl 3 (by decide) f100 (fun _ h9 => h9) rfl (by decide +kernel) rfl rfl (Nat.le_of_ble_eq_true rfl) dM_term_155 (fun H locs hP hD hS => ?_)
              rw [mW_f3] at hP hD
              refine lv_aload_n hx hb dM_term_158 rfl (lv_at hl 0 rfl) ?_
              refine lv_iconst (v := 0) hx hb dM_term_159 (by decide) ?_
              refine va_put (D := D) (ci := 0) (fs := mWl0 ba (upd (upd F 0 0) 3 (nI (nT + 1)))) (v := .int 0) (ty := .boolean) (C := RM) (T := TM) (N := 29) hx hb hts inM_ tyM tyM_ok nmM hown hK hP hD hS 0 rfl hcl 26 (by decide) f90 (fun _ h9 => h9) rfl (by decide +kernel) (by first | rfl | assumption) rfl (Nat.le_of_ble_eq_true rfl) dM_term_160 (fun H locs hP hD hS => ?_)
              rw [mW_f26] at hP hD
              refine lv_aload_n hx hb dM_term_163 rfl (lv_at hl 0 rfl) ?_
              have ef164 : (upd (upd (upd F 0 0) 3 (nI (nT + 1))) 26 0) 3 = nI (nT + 1) := by rw [pk_un (k := 26) (j := 3) (by decide), pk_us]
              refine va_get (D := D) (ci := 0) (v := .int (nI (nT + 1))) (C := RM) (T := TM) (N := 29) hx hb hts inM_ hown hK hP 0 rfl hcl 3 (by decide) f100 (fun _ h9 => h9) (congrArg (fun z => some (Value.int z)) ef164) dM_term_164 ?_
              have em : mr_M_term (F 3) (F 26) (G 6) (G 7) (G 8) (G 9) (G 10) (G 11) (G 12) nC nT nu ta va tb vb w = (nI (nT + 1), 0, nI (nT + 1), 0, upd (G 7) nT nu, upd (G 8) nT ta, upd (G 9) nT va, upd (G 10) nT tb, upd (G 11) nT vb, upd (G 12) nT w) := by rw [mr_M_term, if_neg c11, if_neg c20, if_pos c26, if_neg c49, if_neg c61, if_neg c76]
              exact hret _ _ _ _ _ _ (by simp only [em]) (by simp only [em]) hP hD hS dM_term_167
            · have n76 : nT = 100 := (nI_eq (a := nT) (b := 100) (by omega) (by omega)).mp c76
              refine lv_aload_n hx hb dM_term_79 rfl (lv_at hl 0 rfl) ?_
              refine lv_iconst (v := 3) hx hb dM_term_80 (by decide) ?_
              refine ww_callV (r := (some (.int ((mr_M_fail 3).1)))) (w' := mW a ba ka (upd (upd F 0 0) 0 ((mr_M_fail 3).2)) G) (As := [.int 3]) (rest := []) Sx (c_M_fail l D cl hcl a ba ka (upd F 0 0) G hP (hD.weaken (fun _ _ _ _ => trivial)) 3) (cwV 1 hts gM_term_M_fail rfl rfl rfl (by decide +kernel) ⟨Nat.le_of_ble_eq_true rfl, Nat.le_of_ble_eq_true rfl⟩) hK (va_recv hK hP (ci := 0) (q0 := 0) hcl rfl) rfl hl.1 rfl (Nat.le_of_ble_eq_true rfl) dM_term_81 ⟨Nat.zero_le _, Nat.zero_le _⟩ hD hS hA (fun H locs hP hD hS => ?_)
              rw [upd_ow] at hP hD
              have em : mr_M_term (F 3) (F 26) (G 6) (G 7) (G 8) (G 9) (G 10) (G 11) (G 12) nC nT nu ta va tb vb w = ((mr_M_fail 3).1, (mr_M_fail 3).2, F 3, F 26, G 7, G 8, G 9, G 10, G 11, G 12) := by rw [mr_M_term, if_neg c11, if_neg c20, if_pos c26, if_neg c49, if_neg c61, if_pos c76]
              exact hret _ _ _ _ _ _ (by simp only [em]) (by simp only [em]; rw [upd_keep (f := upd F 0 ((mr_M_fail 3).2)) (j := 3) (x := F 3) rfl, upd_keep (f := upd F 0 ((mr_M_fail 3).2)) (j := 26) (x := F 26) rfl, vup_keep (f := G) (j := 7) (x := G 7) rfl, vup_keep (f := G) (j := 8) (x := G 8) rfl, vup_keep (f := G) (j := 9) (x := G 9) rfl, vup_keep (f := G) (j := 10) (x := G 10) rfl, vup_keep (f := G) (j := 11) (x := G 11) rfl, vup_keep (f := G) (j := 12) (x := G 12) rfl]) hP hD hS dM_term_84
          · refine lv_aload_n hx hb dM_term_64 rfl (lv_at hl 0 rfl) ?_
            refine lv_iconst (v := 2) hx hb dM_term_65 (by decide) ?_
            refine ww_callV (r := (some (.int ((mr_M_fail 2).1)))) (w' := mW a ba ka (upd (upd F 0 0) 0 ((mr_M_fail 2).2)) G) (As := [.int 2]) (rest := []) Sx (c_M_fail l D cl hcl a ba ka (upd F 0 0) G hP (hD.weaken (fun _ _ _ _ => trivial)) 2) (cwV 1 hts gM_term_M_fail rfl rfl rfl (by decide +kernel) ⟨Nat.le_of_ble_eq_true rfl, Nat.le_of_ble_eq_true rfl⟩) hK (va_recv hK hP (ci := 0) (q0 := 0) hcl rfl) rfl hl.1 rfl (Nat.le_of_ble_eq_true rfl) dM_term_66 ⟨Nat.zero_le _, Nat.zero_le _⟩ hD hS hA (fun H locs hP hD hS => ?_)
            rw [upd_ow] at hP hD
            have em : mr_M_term (F 3) (F 26) (G 6) (G 7) (G 8) (G 9) (G 10) (G 11) (G 12) nC nT nu ta va tb vb w = ((mr_M_fail 2).1, (mr_M_fail 2).2, F 3, F 26, G 7, G 8, G 9, G 10, G 11, G 12) := by rw [mr_M_term, if_neg c11, if_neg c20, if_pos c26, if_neg c49, if_pos c61]
            exact hret _ _ _ _ _ _ (by simp only [em]) (by simp only [em]; rw [upd_keep (f := upd F 0 ((mr_M_fail 2).2)) (j := 3) (x := F 3) rfl, upd_keep (f := upd F 0 ((mr_M_fail 2).2)) (j := 26) (x := F 26) rfl, vup_keep (f := G) (j := 7) (x := G 7) rfl, vup_keep (f := G) (j := 8) (x := G 8) rfl, vup_keep (f := G) (j := 9) (x := G 9) rfl, vup_keep (f := G) (j := 10) (x := G 10) rfl, vup_keep (f := G) (j := 11) (x := G 11) rfl, vup_keep (f := G) (j := 12) (x := G 12) rfl]) hP hD hS dM_term_69
      · refine lv_aload_n hx hb dM_term_29 rfl (lv_at hl 0 rfl) ?_
        refine lv_iload hx hb dM_term_30 (lv_at hl 4 rfl) ?_
        refine lv_iload hx hb dM_term_32 (lv_at hl 5 rfl) ?_
        refine ro_callV (r := (.int (mr_M_isValue (G 6) nC tb vb))) (As := [.int tb, .int vb]) (rest := []) Sx (c_M_isValue l D cl hcl a ba ka (upd F 0 0) G hP nC tb vb h2 hC) (cwV 2 hts gM_term_M_isValue rfl rfl rfl (by decide +kernel) ⟨Nat.le_of_ble_eq_true rfl, Nat.le_of_ble_eq_true rfl⟩) hK (va_recv hK hP (ci := 0) (q0 := 0) hcl rfl) rfl hl.1 rfl (Nat.le_of_ble_eq_true rfl) dM_term_34 ⟨Nat.zero_le _, Nat.zero_le _⟩ ?_
        refine lv_if_ne (tgt := 46) hx hb dM_term_37 (by decide) (fun c37 => ?_) (fun c37 => ?_)
        · refine lv_iload_n hx hb dM_term_46 rfl (lv_at hl 2 rfl) ?_
          refine lv_iload hx hb dM_term_47 (lv_at hl 4 rfl) ?_
          refine lv_icmp_eq (tgt := 64) hx hb dM_term_49 (by decide) (fun c49 => ?_) (fun c49 => ?_)
          · refine lv_aload_n hx hb dM_term_64 rfl (lv_at hl 0 rfl) ?_
            refine lv_iconst (v := 2) hx hb dM_term_65 (by decide) ?_
            refine ww_callV (r := (some (.int ((mr_M_fail 2).1)))) (w' := mW a ba ka (upd (upd F 0 0) 0 ((mr_M_fail 2).2)) G) (As := [.int 2]) (rest := []) Sx (c_M_fail l D cl hcl a ba ka (upd F 0 0) G hP (hD.weaken (fun _ _ _ _ => trivial)) 2) (cwV 1 hts gM_term_M_fail rfl rfl rfl (by decide +kernel) ⟨Nat.le_of_ble_eq_true rfl, Nat.le_of_ble_eq_true rfl⟩) hK (va_recv hK hP (ci := 0) (q0 := 0) hcl rfl) rfl hl.1 rfl (Nat.le_of_ble_eq_true rfl) dM_term_66 ⟨Nat.zero_le _, Nat.zero_le _⟩ hD hS hA (fun H locs hP hD hS => ?_)
            rw [upd_ow] at hP hD
            have em : mr_M_term (F 3) (F 26) (G 6) (G 7) (G 8) (G 9) (G 10) (G 11) (G 12) nC nT nu ta va tb vb w = ((mr_M_fail 2).1, (mr_M_fail 2).2, F 3, F 26, G 7, G 8, G 9, G 10, G 11, G 12) := by rw [mr_M_term, if_neg c11, if_neg c20, if_neg c26, if_neg c37, if_pos c49]
            exact hret _ _ _ _ _ _ (by simp only [em]) (by simp only [em]; rw [upd_keep (f := upd F 0 ((mr_M_fail 2).2)) (j := 3) (x := F 3) rfl, upd_keep (f := upd F 0 ((mr_M_fail 2).2)) (j := 26) (x := F 26) rfl, vup_keep (f := G) (j := 7) (x := G 7) rfl, vup_keep (f := G) (j := 8) (x := G 8) rfl, vup_keep (f := G) (j := 9) (x := G 9) rfl, vup_keep (f := G) (j := 10) (x := G 10) rfl, vup_keep (f := G) (j := 11) (x := G 11) rfl, vup_keep (f := G) (j := 12) (x := G 12) rfl]) hP hD hS dM_term_69
          · refine lv_iload hx hb dM_term_52 (lv_at hl 6 rfl) ?_
            refine lv_ldc hx hb hown k98 dM_term_54 ?_
            refine lv_ldc hx hb hown k99 dM_term_56 ?_
            refine ro_callS (r := (.int (mr_M_within w (-1000000) 1000000))) (As := [.int w, .int (-1000000), .int 1000000]) (rest := []) Sx (c_M_within l D cl hcl a ba ka (upd F 0 0) G hP w (-1000000) 1000000) (va_cwS 3 hts gM_term_M_within rfl rfl rfl (by decide +kernel) ⟨Nat.le_of_ble_eq_true rfl, Nat.le_of_ble_eq_true rfl⟩) hK rfl hl.1 rfl (Nat.le_of_ble_eq_true rfl) dM_term_58 ⟨Nat.zero_le _, Nat.zero_le _⟩ ?_
            refine lv_if_ne (tgt := 70) hx hb dM_term_61 (by decide) (fun c61 => ?_) (fun c61 => ?_)
            · refine lv_aload_n hx hb dM_term_70 rfl (lv_at hl 0 rfl) ?_
              refine va_get (D := D) (ci := 0) (v := .int (F 3)) (C := RM) (T := TM) (N := 29) hx hb hts inM_ hown hK hP 0 rfl hcl 3 (by decide) f100 (fun _ h9 => h9) rfl dM_term_71 ?_
              refine wt_i h3 ?_
              refine lv_bipush (v := 100) hx hb dM_term_74 (by decide) ?_
              refine lv_icmp_ne (tgt := 85) hx hb dM_term_76 (by decide) (fun c76 => ?_) (fun c76 => ?_)
              · have n76 : ¬ nT = 100 := fun h9 => c76 ((nI_eq (a := nT) (b := 100) (by omega) (by omega)).mpr h9)
                refine lv_aload_n hx hb dM_term_85 rfl (lv_at hl 0 rfl) ?_
                refine va_get (D := D) (ci := 0) (v := .ref (ba 7)) (C := RM) (T := TM) (N := 29) hx hb hts inM_ hown hK hP 0 rfl hcl 7 (by decide) f17 (fun _ h9 => h9) rfl dM_term_86 ?_
                refine lv_aload_n hx hb dM_term_89 rfl (lv_at hl 0 rfl) ?_
                refine va_get (D := D) (ci := 0) (v := .int (F 3)) (C := RM) (T := TM) (N := 29) hx hb hts inM_ hown hK hP 0 rfl hcl 3 (by decide) f100 (fun _ h9 => h9) rfl dM_term_90 ?_
                refine wt_i h3 ?_
                refine lv_iload_n hx hb dM_term_93 rfl (lv_at hl 1 rfl) ?_
                have sd94 : nT < 100 := by omega
                refine wn_iast (f := G 7) hx hb hK hP hD hS 2 1 rfl rfl nT rfl sd94 (by decide) dM_term_94 (fun H locs hP hD hS => ?_)
                rw [mW_g7] at hP hD
                refine lv_aload_n hx hb dM_term_95 rfl (lv_at hl 0 rfl) ?_
                refine va_get (D := D) (ci := 0) (v := .ref (ba 8)) (C := RM) (T := TM) (N := 29) hx hb hts inM_ hown hK hP 0 rfl hcl 8 (by decide) f20 (fun _ h9 => h9) rfl dM_term_96 ?_
                refine lv_aload_n hx hb dM_term_99 rfl (lv_at hl 0 rfl) ?_
                refine va_get (D := D) (ci := 0) (v := .int (F 3)) (C := RM) (T := TM) (N := 29) hx hb hts inM_ hown hK hP 0 rfl hcl 3 (by decide) f100 (fun _ h9 => h9) rfl dM_term_100 ?_
                refine wt_i h3 ?_
                refine lv_iload_n hx hb dM_term_103 rfl (lv_at hl 2 rfl) ?_
                have sd104 : nT < 100 := by omega
                refine wn_iast (f := G 8) hx hb hK hP hD hS 3 2 rfl rfl nT rfl sd104 (by decide) dM_term_104 (fun H locs hP hD hS => ?_)
                rw [mW_g8] at hP hD
                refine lv_aload_n hx hb dM_term_105 rfl (lv_at hl 0 rfl) ?_
                refine va_get (D := D) (ci := 0) (v := .ref (ba 9)) (C := RM) (T := TM) (N := 29) hx hb hts inM_ hown hK hP 0 rfl hcl 9 (by decide) f23 (fun _ h9 => h9) rfl dM_term_106 ?_
                refine lv_aload_n hx hb dM_term_109 rfl (lv_at hl 0 rfl) ?_
                refine va_get (D := D) (ci := 0) (v := .int (F 3)) (C := RM) (T := TM) (N := 29) hx hb hts inM_ hown hK hP 0 rfl hcl 3 (by decide) f100 (fun _ h9 => h9) rfl dM_term_110 ?_
                refine wt_i h3 ?_
                refine lv_iload_n hx hb dM_term_113 rfl (lv_at hl 3 rfl) ?_
                have sd114 : nT < 100 := by omega
                refine wn_iast (f := G 9) hx hb hK hP hD hS 4 3 rfl rfl nT rfl sd114 (by decide) dM_term_114 (fun H locs hP hD hS => ?_)
                rw [mW_g9] at hP hD
                refine lv_aload_n hx hb dM_term_115 rfl (lv_at hl 0 rfl) ?_
                refine va_get (D := D) (ci := 0) (v := .ref (ba 10)) (C := RM) (T := TM) (N := 29) hx hb hts inM_ hown hK hP 0 rfl hcl 10 (by decide) f26 (fun _ h9 => h9) rfl dM_term_116 ?_
                refine lv_aload_n hx hb dM_term_119 rfl (lv_at hl 0 rfl) ?_
                refine va_get (D := D) (ci := 0) (v := .int (F 3)) (C := RM) (T := TM) (N := 29) hx hb hts inM_ hown hK hP 0 rfl hcl 3 (by decide) f100 (fun _ h9 => h9) rfl dM_term_120 ?_
                refine wt_i h3 ?_
                refine lv_iload hx hb dM_term_123 (lv_at hl 4 rfl) ?_
                have sd125 : nT < 100 := by omega
                refine wn_iast (f := G 10) hx hb hK hP hD hS 5 4 rfl rfl nT rfl sd125 (by decide) dM_term_125 (fun H locs hP hD hS => ?_)
                rw [mW_g10] at hP hD
                refine lv_aload_n hx hb dM_term_126 rfl (lv_at hl 0 rfl) ?_
                refine va_get (D := D) (ci := 0) (v := .ref (ba 11)) (C := RM) (T := TM) (N := 29) hx hb hts inM_ hown hK hP 0 rfl hcl 11 (by decide) f29 (fun _ h9 => h9) rfl dM_term_127 ?_
                refine lv_aload_n hx hb dM_term_130 rfl (lv_at hl 0 rfl) ?_
                refine va_get (D := D) (ci := 0) (v := .int (F 3)) (C := RM) (T := TM) (N := 29) hx hb hts inM_ hown hK hP 0 rfl hcl 3 (by decide) f100 (fun _ h9 => h9) rfl dM_term_131 ?_
                refine wt_i h3 ?_
                refine lv_iload hx hb dM_term_134 (lv_at hl 5 rfl) ?_
                have sd136 : nT < 100 := by omega
                refine wn_iast (f := G 11) hx hb hK hP hD hS 6 5 rfl rfl nT rfl sd136 (by decide) dM_term_136 (fun H locs hP hD hS => ?_)
                rw [mW_g11] at hP hD
                refine lv_aload_n hx hb dM_term_137 rfl (lv_at hl 0 rfl) ?_
                refine va_get (D := D) (ci := 0) (v := .ref (ba 12)) (C := RM) (T := TM) (N := 29) hx hb hts inM_ hown hK hP 0 rfl hcl 12 (by decide) f32 (fun _ h9 => h9) rfl dM_term_138 ?_
                refine lv_aload_n hx hb dM_term_141 rfl (lv_at hl 0 rfl) ?_
                refine va_get (D := D) (ci := 0) (v := .int (F 3)) (C := RM) (T := TM) (N := 29) hx hb hts inM_ hown hK hP 0 rfl hcl 3 (by decide) f100 (fun _ h9 => h9) rfl dM_term_142 ?_
                refine wt_i h3 ?_
                refine lv_iload hx hb dM_term_145 (lv_at hl 6 rfl) ?_
                have sd147 : nT < 100 := by omega
                refine wn_iast (f := G 12) hx hb hK hP hD hS 7 6 rfl rfl nT rfl sd147 (by decide) dM_term_147 (fun H locs hP hD hS => ?_)
                rw [mW_g12] at hP hD
                refine lv_aload_n hx hb dM_term_148 rfl (lv_at hl 0 rfl) ?_
                refine lv_dup hx hb dM_term_149 rfl ?_
                refine va_get (D := D) (ci := 0) (v := .int (F 3)) (C := RM) (T := TM) (N := 29) hx hb hts inM_ hown hK hP 0 rfl hcl 3 (by decide) f100 (fun _ h9 => h9) rfl dM_term_150 ?_
                refine wt_i h3 ?_
                refine lv_iconst (v := 1) hx hb dM_term_153 (by decide) ?_
                refine lv_iadd hx hb dM_term_154 ?_
                refine wt_i (r := nI (nT + 1)) (by exact nI_add nT 1) ?_
                refine va_put (D := D) (ci := 0) (fs := mWl0 ba (upd F 0 0)) (v := .int (nI (nT + 1))) (ty := .int) (C := RM) (T := TM) (N := 29) hx hb hts inM_ tyM tyM_ok nmM hown hK hP hD hS 0 rfl hcl 3 (by decide) f100 (fun _ h9 => h9) rfl (by decide +kernel) rfl rfl (Nat.le_of_ble_eq_true rfl) dM_term_155 (fun H locs hP hD hS => ?_)
                rw [mW_f3] at hP hD
                refine lv_aload_n hx hb dM_term_158 rfl (lv_at hl 0 rfl) ?_
                refine lv_iconst (v := 0) hx hb dM_term_159 (by decide) ?_
                refine va_put (D := D) (ci := 0) (fs := mWl0 ba (upd (upd F 0 0) 3 (nI (nT + 1)))) (v := .int 0) (ty := .boolean) (C := RM) (T := TM) (N := 29) hx hb hts inM_ tyM tyM_ok nmM hown hK hP hD hS 0 rfl hcl 26 (by decide) f90 (fun _ h9 => h9) rfl (by decide +kernel) (by first | rfl | assumption) rfl (Nat.le_of_ble_eq_true rfl) dM_term_160 (fun H locs hP hD hS => ?_)
                rw [mW_f26] at hP hD
                refine lv_aload_n hx hb dM_term_163 rfl (lv_at hl 0 rfl) ?_
                have ef164 : (upd (upd (upd F 0 0) 3 (nI (nT + 1))) 26 0) 3 = nI (nT + 1) := by rw [pk_un (k := 26) (j := 3) (by decide), pk_us]
                refine va_get (D := D) (ci := 0) (v := .int (nI (nT + 1))) (C := RM) (T := TM) (N := 29) hx hb hts inM_ hown hK hP 0 rfl hcl 3 (by decide) f100 (fun _ h9 => h9) (congrArg (fun z => some (Value.int z)) ef164) dM_term_164 ?_
                have em : mr_M_term (F 3) (F 26) (G 6) (G 7) (G 8) (G 9) (G 10) (G 11) (G 12) nC nT nu ta va tb vb w = (nI (nT + 1), 0, nI (nT + 1), 0, upd (G 7) nT nu, upd (G 8) nT ta, upd (G 9) nT va, upd (G 10) nT tb, upd (G 11) nT vb, upd (G 12) nT w) := by rw [mr_M_term, if_neg c11, if_neg c20, if_neg c26, if_neg c37, if_neg c49, if_neg c61, if_neg c76]
                exact hret _ _ _ _ _ _ (by simp only [em]) (by simp only [em]) hP hD hS dM_term_167
              · have n76 : nT = 100 := (nI_eq (a := nT) (b := 100) (by omega) (by omega)).mp c76
                refine lv_aload_n hx hb dM_term_79 rfl (lv_at hl 0 rfl) ?_
                refine lv_iconst (v := 3) hx hb dM_term_80 (by decide) ?_
                refine ww_callV (r := (some (.int ((mr_M_fail 3).1)))) (w' := mW a ba ka (upd (upd F 0 0) 0 ((mr_M_fail 3).2)) G) (As := [.int 3]) (rest := []) Sx (c_M_fail l D cl hcl a ba ka (upd F 0 0) G hP (hD.weaken (fun _ _ _ _ => trivial)) 3) (cwV 1 hts gM_term_M_fail rfl rfl rfl (by decide +kernel) ⟨Nat.le_of_ble_eq_true rfl, Nat.le_of_ble_eq_true rfl⟩) hK (va_recv hK hP (ci := 0) (q0 := 0) hcl rfl) rfl hl.1 rfl (Nat.le_of_ble_eq_true rfl) dM_term_81 ⟨Nat.zero_le _, Nat.zero_le _⟩ hD hS hA (fun H locs hP hD hS => ?_)
                rw [upd_ow] at hP hD
                have em : mr_M_term (F 3) (F 26) (G 6) (G 7) (G 8) (G 9) (G 10) (G 11) (G 12) nC nT nu ta va tb vb w = ((mr_M_fail 3).1, (mr_M_fail 3).2, F 3, F 26, G 7, G 8, G 9, G 10, G 11, G 12) := by rw [mr_M_term, if_neg c11, if_neg c20, if_neg c26, if_neg c37, if_neg c49, if_neg c61, if_pos c76]
                exact hret _ _ _ _ _ _ (by simp only [em]) (by simp only [em]; rw [upd_keep (f := upd F 0 ((mr_M_fail 3).2)) (j := 3) (x := F 3) rfl, upd_keep (f := upd F 0 ((mr_M_fail 3).2)) (j := 26) (x := F 26) rfl, vup_keep (f := G) (j := 7) (x := G 7) rfl, vup_keep (f := G) (j := 8) (x := G 8) rfl, vup_keep (f := G) (j := 9) (x := G 9) rfl, vup_keep (f := G) (j := 10) (x := G 10) rfl, vup_keep (f := G) (j := 11) (x := G 11) rfl, vup_keep (f := G) (j := 12) (x := G 12) rfl]) hP hD hS dM_term_84
            · refine lv_aload_n hx hb dM_term_64 rfl (lv_at hl 0 rfl) ?_
              refine lv_iconst (v := 2) hx hb dM_term_65 (by decide) ?_
              refine ww_callV (r := (some (.int ((mr_M_fail 2).1)))) (w' := mW a ba ka (upd (upd F 0 0) 0 ((mr_M_fail 2).2)) G) (As := [.int 2]) (rest := []) Sx (c_M_fail l D cl hcl a ba ka (upd F 0 0) G hP (hD.weaken (fun _ _ _ _ => trivial)) 2) (cwV 1 hts gM_term_M_fail rfl rfl rfl (by decide +kernel) ⟨Nat.le_of_ble_eq_true rfl, Nat.le_of_ble_eq_true rfl⟩) hK (va_recv hK hP (ci := 0) (q0 := 0) hcl rfl) rfl hl.1 rfl (Nat.le_of_ble_eq_true rfl) dM_term_66 ⟨Nat.zero_le _, Nat.zero_le _⟩ hD hS hA (fun H locs hP hD hS => ?_)
              rw [upd_ow] at hP hD
              have em : mr_M_term (F 3) (F 26) (G 6) (G 7) (G 8) (G 9) (G 10) (G 11) (G 12) nC nT nu ta va tb vb w = ((mr_M_fail 2).1, (mr_M_fail 2).2, F 3, F 26, G 7, G 8, G 9, G 10, G 11, G 12) := by rw [mr_M_term, if_neg c11, if_neg c20, if_neg c26, if_neg c37, if_neg c49, if_pos c61]
              exact hret _ _ _ _ _ _ (by simp only [em]) (by simp only [em]; rw [upd_keep (f := upd F 0 ((mr_M_fail 2).2)) (j := 3) (x := F 3) rfl, upd_keep (f := upd F 0 ((mr_M_fail 2).2)) (j := 26) (x := F 26) rfl, vup_keep (f := G) (j := 7) (x := G 7) rfl, vup_keep (f := G) (j := 8) (x := G 8) rfl, vup_keep (f := G) (j := 9) (x := G 9) rfl, vup_keep (f := G) (j := 10) (x := G 10) rfl, vup_keep (f := G) (j := 11) (x := G 11) rfl, vup_keep (f := G) (j := 12) (x := G 12) rfl]) hP hD hS dM_term_69
        · refine lv_aload_n hx hb dM_term_40 rfl (lv_at hl 0 rfl) ?_
          refine lv_iconst (v := 1) hx hb dM_term_41 (by decide) ?_
          refine ww_callV (r := (some (.int ((mr_M_fail 1).1)))) (w' := mW a ba ka (upd (upd F 0 0) 0 ((mr_M_fail 1).2)) G) (As := [.int 1]) (rest := []) Sx (c_M_fail l D cl hcl a ba ka (upd F 0 0) G hP (hD.weaken (fun _ _ _ _ => trivial)) 1) (cwV 1 hts gM_term_M_fail rfl rfl rfl (by decide +kernel) ⟨Nat.le_of_ble_eq_true rfl, Nat.le_of_ble_eq_true rfl⟩) hK (va_recv hK hP (ci := 0) (q0 := 0) hcl rfl) rfl hl.1 rfl (Nat.le_of_ble_eq_true rfl) dM_term_42 ⟨Nat.zero_le _, Nat.zero_le _⟩ hD hS hA (fun H locs hP hD hS => ?_)
          rw [upd_ow] at hP hD
          have em : mr_M_term (F 3) (F 26) (G 6) (G 7) (G 8) (G 9) (G 10) (G 11) (G 12) nC nT nu ta va tb vb w = ((mr_M_fail 1).1, (mr_M_fail 1).2, F 3, F 26, G 7, G 8, G 9, G 10, G 11, G 12) := by rw [mr_M_term, if_neg c11, if_neg c20, if_neg c26, if_pos c37]
          exact hret _ _ _ _ _ _ (by simp only [em]) (by simp only [em]; rw [upd_keep (f := upd F 0 ((mr_M_fail 1).2)) (j := 3) (x := F 3) rfl, upd_keep (f := upd F 0 ((mr_M_fail 1).2)) (j := 26) (x := F 26) rfl, vup_keep (f := G) (j := 7) (x := G 7) rfl, vup_keep (f := G) (j := 8) (x := G 8) rfl, vup_keep (f := G) (j := 9) (x := G 9) rfl, vup_keep (f := G) (j := 10) (x := G 10) rfl, vup_keep (f := G) (j := 11) (x := G 11) rfl, vup_keep (f := G) (j := 12) (x := G 12) rfl]) hP hD hS dM_term_45
def mr_M_rule (f4 : Int32) (f26 : Int32) (g6 : Nat → Int32) (g13 : Nat → Int32) (g14 : Nat → Int32) (g15 : Nat → Int32) (g16 : Nat → Int32) (nC : Nat) (nR : Nat) (ra : Int32) (va : Int32) (rb : Int32) (vb : Int32) : Int32 × Int32 × Int32 × Int32 × (Nat → Int32) × (Nat → Int32) × (Nat → Int32) × (Nat → Int32) := (if (mr_M_isValue g6 nC ra va) = 0 then ((mr_M_fail 1).1, (mr_M_fail 1).2, f4, f26, g13, g14, g15, g16) else (if (mr_M_isValue g6 nC rb vb) = 0 then ((mr_M_fail 1).1, (mr_M_fail 1).2, f4, f26, g13, g14, g15, g16) else (if ra = rb then ((mr_M_fail 2).1, (mr_M_fail 2).2, f4, f26, g13, g14, g15, g16) else (if (nI nR) = 40 then ((mr_M_fail 3).1, (mr_M_fail 3).2, f4, f26, g13, g14, g15, g16) else (nI (nR + 1), 0, nI (nR + 1), 0, upd g13 nR ra, upd g14 nR va, upd g15 nR rb, upd g16 nR vb)))))
set_option maxHeartbeats 4000000 in
set_option maxRecDepth 100000 in
theorem c_M_rule (l : Launch) (D : va_G) (cl : List vw_C) (hcl : cl[0]? = some (RM, TM, 29)) (a : Nat) (ba : Nat → Nat) (ka : Nat → ClassId) (F : Nat → Int32) (G : Nat → Nat → Int32) {H0 : Heap} (hP : va_P D cl (mW a ba ka F G) H0) (hD : va_D (fun _ => True) (mW a ba ka F G)) (nC : Nat) (nR : Nat) (ra : Int32) (va : Int32) (rb : Int32) (vb : Int32) (h2 : F 2 = nI nC) (hC : nC ≤ 8) (h4 : F 4 = nI nR) (hR : nR ≤ 40) : ww_Met l yM_rule wsM_rule ({ frames := 2, cells := 0, slots := 0, locals := 44 } : Room) D cl (mT ka) H0 [.ref a, .int ra, .int va, .int rb, .int vb] (mW a ba ka F G) (some (.int ((mr_M_rule (F 4) (F 26) (G 6) (G 13) (G 14) (G 15) (G 16) nC nR ra va rb vb).1))) (mW a ba ka (upd (upd (upd F 0 ((mr_M_rule (F 4) (F 26) (G 6) (G 13) (G 14) (G 15) (G 16) nC nR ra va rb vb).2.1)) 4 ((mr_M_rule (F 4) (F 26) (G 6) (G 13) (G 14) (G 15) (G 16) nC nR ra va rb vb).2.2.1)) 26 ((mr_M_rule (F 4) (F 26) (G 6) (G 13) (G 14) (G 15) (G 16) nC nR ra va rb vb).2.2.2.1)) (va_up (va_up (va_up (va_up G 13 ((mr_M_rule (F 4) (F 26) (G 6) (G 13) (G 14) (G 15) (G 16) nC nR ra va rb vb).2.2.2.2.1)) 14 ((mr_M_rule (F 4) (F 26) (G 6) (G 13) (G 14) (G 15) (G 16) nC nR ra va rb vb).2.2.2.2.2.1)) 15 ((mr_M_rule (F 4) (F 26) (G 6) (G 13) (G 14) (G 15) (G 16) nC nR ra va rb vb).2.2.2.2.2.2.1)) 16 ((mr_M_rule (F 4) (F 26) (G 6) (G 13) (G 14) (G 15) (G 16) nC nR ra va rb vb).2.2.2.2.2.2.2))) := by
  refine ww_metI (by decide) rfl (Nat.le_of_ble_eq_true rfl) hP hD ?_
  intro p e s m args below meth c Q A Sx hK hP hD hS hA ls hl hret
  obtain ⟨hx, hb, hml, hown, hts⟩ := id Sx
  have hl : lv_has ls 5 [(0, .ref a), (1, .int ra), (2, .int va), (3, .int rb), (4, .int vb)] := hl
  obtain ⟨H, eH⟩ : ∃ H : Heap, H = H0 := ⟨_, rfl⟩
  obtain ⟨locs, eL⟩ : ∃ L : List Loc, L = [] := ⟨_, rfl⟩
  have hP : va_P D cl (mW a ba ka F G) H := by rw [eH]; exact hP
  have hS : va_S A H0 H locs := by rw [eH, eL]; exact hS
  rw [show W p l e ({ frames := 2, cells := 0, slots := 0, locals := 44 } : Room) s m args below meth c H0 [] 0 0 Q (F0 m 0 ls []) = W p l e ({ frames := 2, cells := 0, slots := 0, locals := 44 } : Room) s m args below meth c H locs 0 0 Q (F0 m 0 ls []) by rw [eH, eL]]
  clear eH eL
  have f70 := hts _ (List.mem_cons_of_mem _ mfM_70)
  have inM_ : ∀ w ∈ wsM0, w ∈ wsM_rule := fun w h => List.mem_cons_of_mem _ (inM_all w h)
  have f103 := hts _ (List.mem_cons_of_mem _ mfM_103)
  have f35 := hts _ (List.mem_cons_of_mem _ mfM_35)
  have f38 := hts _ (List.mem_cons_of_mem _ mfM_38)
  have f41 := hts _ (List.mem_cons_of_mem _ mfM_41)
  have f44 := hts _ (List.mem_cons_of_mem _ mfM_44)
  have f90 := hts _ (List.mem_cons_of_mem _ mfM_90)
  refine lv_aload_n hx hb dM_rule_0 rfl (lv_at hl 0 rfl) ?_
  refine lv_iconst (v := 0) hx hb dM_rule_1 (by decide) ?_
  refine va_put (D := D) (ci := 0) (fs := mWl0 ba F) (v := .int 0) (ty := .int) (C := RM) (T := TM) (N := 29) hx hb hts inM_ tyM tyM_ok nmM hown hK hP hD hS 0 rfl hcl 0 (by decide) f70 (fun _ h9 => h9) rfl (by decide +kernel) rfl rfl (Nat.le_of_ble_eq_true rfl) dM_rule_2 (fun H locs hP hD hS => ?_)
  rw [mW_f0] at hP hD
  refine lv_aload_n hx hb dM_rule_5 rfl (lv_at hl 0 rfl) ?_
  refine lv_iload_n hx hb dM_rule_6 rfl (lv_at hl 1 rfl) ?_
  refine lv_iload_n hx hb dM_rule_7 rfl (lv_at hl 2 rfl) ?_
  refine ro_callV (r := (.int (mr_M_isValue (G 6) nC ra va))) (As := [.int ra, .int va]) (rest := []) Sx (c_M_isValue l D cl hcl a ba ka (upd F 0 0) G hP nC ra va h2 hC) (cwV 2 hts gM_rule_M_isValue rfl rfl rfl (by decide +kernel) ⟨Nat.le_of_ble_eq_true rfl, Nat.le_of_ble_eq_true rfl⟩) hK (va_recv hK hP (ci := 0) (q0 := 0) hcl rfl) rfl hl.1 rfl (Nat.le_of_ble_eq_true rfl) dM_rule_8 ⟨Nat.zero_le _, Nat.zero_le _⟩ ?_
  refine lv_if_eq (tgt := 24) hx hb dM_rule_11 (by decide) (fun c11 => ?_) (fun c11 => ?_)
  · refine lv_aload_n hx hb dM_rule_24 rfl (lv_at hl 0 rfl) ?_
    refine lv_iconst (v := 1) hx hb dM_rule_25 (by decide) ?_
    refine ww_callV (r := (some (.int ((mr_M_fail 1).1)))) (w' := mW a ba ka (upd (upd F 0 0) 0 ((mr_M_fail 1).2)) G) (As := [.int 1]) (rest := []) Sx (c_M_fail l D cl hcl a ba ka (upd F 0 0) G hP (hD.weaken (fun _ _ _ _ => trivial)) 1) (cwV 1 hts gM_rule_M_fail rfl rfl rfl (by decide +kernel) ⟨Nat.le_of_ble_eq_true rfl, Nat.le_of_ble_eq_true rfl⟩) hK (va_recv hK hP (ci := 0) (q0 := 0) hcl rfl) rfl hl.1 rfl (Nat.le_of_ble_eq_true rfl) dM_rule_26 ⟨Nat.zero_le _, Nat.zero_le _⟩ hD hS hA (fun H locs hP hD hS => ?_)
    rw [upd_ow] at hP hD
    have em : mr_M_rule (F 4) (F 26) (G 6) (G 13) (G 14) (G 15) (G 16) nC nR ra va rb vb = ((mr_M_fail 1).1, (mr_M_fail 1).2, F 4, F 26, G 13, G 14, G 15, G 16) := by rw [mr_M_rule, if_pos c11]
    exact hret _ _ _ _ _ _ (by simp only [em]) (by simp only [em]; rw [upd_keep (f := upd F 0 ((mr_M_fail 1).2)) (j := 4) (x := F 4) rfl, upd_keep (f := upd F 0 ((mr_M_fail 1).2)) (j := 26) (x := F 26) rfl, vup_keep (f := G) (j := 13) (x := G 13) rfl, vup_keep (f := G) (j := 14) (x := G 14) rfl, vup_keep (f := G) (j := 15) (x := G 15) rfl, vup_keep (f := G) (j := 16) (x := G 16) rfl]) hP hD hS dM_rule_29
  · refine lv_aload_n hx hb dM_rule_14 rfl (lv_at hl 0 rfl) ?_
    refine lv_iload_n hx hb dM_rule_15 rfl (lv_at hl 3 rfl) ?_
    refine lv_iload hx hb dM_rule_16 (lv_at hl 4 rfl) ?_
    refine ro_callV (r := (.int (mr_M_isValue (G 6) nC rb vb))) (As := [.int rb, .int vb]) (rest := []) Sx (c_M_isValue l D cl hcl a ba ka (upd F 0 0) G hP nC rb vb h2 hC) (cwV 2 hts gM_rule_M_isValue rfl rfl rfl (by decide +kernel) ⟨Nat.le_of_ble_eq_true rfl, Nat.le_of_ble_eq_true rfl⟩) hK (va_recv hK hP (ci := 0) (q0 := 0) hcl rfl) rfl hl.1 rfl (Nat.le_of_ble_eq_true rfl) dM_rule_18 ⟨Nat.zero_le _, Nat.zero_le _⟩ ?_
    refine lv_if_ne (tgt := 30) hx hb dM_rule_21 (by decide) (fun c21 => ?_) (fun c21 => ?_)
    · refine lv_iload_n hx hb dM_rule_30 rfl (lv_at hl 1 rfl) ?_
      refine lv_iload_n hx hb dM_rule_31 rfl (lv_at hl 3 rfl) ?_
      refine lv_icmp_ne (tgt := 41) hx hb dM_rule_32 (by decide) (fun c32 => ?_) (fun c32 => ?_)
      · refine lv_aload_n hx hb dM_rule_41 rfl (lv_at hl 0 rfl) ?_
        refine va_get (D := D) (ci := 0) (v := .int (F 4)) (C := RM) (T := TM) (N := 29) hx hb hts inM_ hown hK hP 0 rfl hcl 4 (by decide) f103 (fun _ h9 => h9) rfl dM_rule_42 ?_
        refine wt_i h4 ?_
        refine lv_bipush (v := 40) hx hb dM_rule_45 (by decide) ?_
        refine lv_icmp_ne (tgt := 56) hx hb dM_rule_47 (by decide) (fun c47 => ?_) (fun c47 => ?_)
        · have n47 : ¬ nR = 40 := fun h9 => c47 ((nI_eq (a := nR) (b := 40) (by omega) (by omega)).mpr h9)
          refine lv_aload_n hx hb dM_rule_56 rfl (lv_at hl 0 rfl) ?_
          refine va_get (D := D) (ci := 0) (v := .ref (ba 13)) (C := RM) (T := TM) (N := 29) hx hb hts inM_ hown hK hP 0 rfl hcl 13 (by decide) f35 (fun _ h9 => h9) rfl dM_rule_57 ?_
          refine lv_aload_n hx hb dM_rule_60 rfl (lv_at hl 0 rfl) ?_
          refine va_get (D := D) (ci := 0) (v := .int (F 4)) (C := RM) (T := TM) (N := 29) hx hb hts inM_ hown hK hP 0 rfl hcl 4 (by decide) f103 (fun _ h9 => h9) rfl dM_rule_61 ?_
          refine wt_i h4 ?_
          refine lv_iload_n hx hb dM_rule_64 rfl (lv_at hl 1 rfl) ?_
          have sd65 : nR < 40 := by omega
          refine wn_iast (f := G 13) hx hb hK hP hD hS 8 7 rfl rfl nR rfl sd65 (by decide) dM_rule_65 (fun H locs hP hD hS => ?_)
          rw [mW_g13] at hP hD
          refine lv_aload_n hx hb dM_rule_66 rfl (lv_at hl 0 rfl) ?_
          refine va_get (D := D) (ci := 0) (v := .ref (ba 14)) (C := RM) (T := TM) (N := 29) hx hb hts inM_ hown hK hP 0 rfl hcl 14 (by decide) f38 (fun _ h9 => h9) rfl dM_rule_67 ?_
          refine lv_aload_n hx hb dM_rule_70 rfl (lv_at hl 0 rfl) ?_
          refine va_get (D := D) (ci := 0) (v := .int (F 4)) (C := RM) (T := TM) (N := 29) hx hb hts inM_ hown hK hP 0 rfl hcl 4 (by decide) f103 (fun _ h9 => h9) rfl dM_rule_71 ?_
          refine wt_i h4 ?_
          refine lv_iload_n hx hb dM_rule_74 rfl (lv_at hl 2 rfl) ?_
          have sd75 : nR < 40 := by omega
          refine wn_iast (f := G 14) hx hb hK hP hD hS 9 8 rfl rfl nR rfl sd75 (by decide) dM_rule_75 (fun H locs hP hD hS => ?_)
          rw [mW_g14] at hP hD
          refine lv_aload_n hx hb dM_rule_76 rfl (lv_at hl 0 rfl) ?_
          refine va_get (D := D) (ci := 0) (v := .ref (ba 15)) (C := RM) (T := TM) (N := 29) hx hb hts inM_ hown hK hP 0 rfl hcl 15 (by decide) f41 (fun _ h9 => h9) rfl dM_rule_77 ?_
          refine lv_aload_n hx hb dM_rule_80 rfl (lv_at hl 0 rfl) ?_
          refine va_get (D := D) (ci := 0) (v := .int (F 4)) (C := RM) (T := TM) (N := 29) hx hb hts inM_ hown hK hP 0 rfl hcl 4 (by decide) f103 (fun _ h9 => h9) rfl dM_rule_81 ?_
          refine wt_i h4 ?_
          refine lv_iload_n hx hb dM_rule_84 rfl (lv_at hl 3 rfl) ?_
          have sd85 : nR < 40 := by omega
          refine wn_iast (f := G 15) hx hb hK hP hD hS 10 9 rfl rfl nR rfl sd85 (by decide) dM_rule_85 (fun H locs hP hD hS => ?_)
          rw [mW_g15] at hP hD
          refine lv_aload_n hx hb dM_rule_86 rfl (lv_at hl 0 rfl) ?_
          refine va_get (D := D) (ci := 0) (v := .ref (ba 16)) (C := RM) (T := TM) (N := 29) hx hb hts inM_ hown hK hP 0 rfl hcl 16 (by decide) f44 (fun _ h9 => h9) rfl dM_rule_87 ?_
          refine lv_aload_n hx hb dM_rule_90 rfl (lv_at hl 0 rfl) ?_
          refine va_get (D := D) (ci := 0) (v := .int (F 4)) (C := RM) (T := TM) (N := 29) hx hb hts inM_ hown hK hP 0 rfl hcl 4 (by decide) f103 (fun _ h9 => h9) rfl dM_rule_91 ?_
          refine wt_i h4 ?_
          refine lv_iload hx hb dM_rule_94 (lv_at hl 4 rfl) ?_
          have sd96 : nR < 40 := by omega
          refine wn_iast (f := G 16) hx hb hK hP hD hS 11 10 rfl rfl nR rfl sd96 (by decide) dM_rule_96 (fun H locs hP hD hS => ?_)
          rw [mW_g16] at hP hD
          refine lv_aload_n hx hb dM_rule_97 rfl (lv_at hl 0 rfl) ?_
          refine lv_dup hx hb dM_rule_98 rfl ?_
          refine va_get (D := D) (ci := 0) (v := .int (F 4)) (C := RM) (T := TM) (N := 29) hx hb hts inM_ hown hK hP 0 rfl hcl 4 (by decide) f103 (fun _ h9 => h9) rfl dM_rule_99 ?_
          refine wt_i h4 ?_
          refine lv_iconst (v := 1) hx hb dM_rule_102 (by decide) ?_
          refine lv_iadd hx hb dM_rule_103 ?_
          refine wt_i (r := nI (nR + 1)) (by exact nI_add nR 1) ?_
          refine va_put (D := D) (ci := 0) (fs := mWl0 ba (upd F 0 0)) (v := .int (nI (nR + 1))) (ty := .int) (C := RM) (T := TM) (N := 29) hx hb hts inM_ tyM tyM_ok nmM hown hK hP hD hS 0 rfl hcl 4 (by decide) f103 (fun _ h9 => h9) rfl (by decide +kernel) rfl rfl (Nat.le_of_ble_eq_true rfl) dM_rule_104 (fun H locs hP hD hS => ?_)
          rw [mW_f4] at hP hD
          refine lv_aload_n hx hb dM_rule_107 rfl (lv_at hl 0 rfl) ?_
          refine lv_iconst (v := 0) hx hb dM_rule_108 (by decide) ?_
          refine va_put (D := D) (ci := 0) (fs := mWl0 ba (upd (upd F 0 0) 4 (nI (nR + 1)))) (v := .int 0) (ty := .boolean) (C := RM) (T := TM) (N := 29) hx hb hts inM_ tyM tyM_ok nmM hown hK hP hD hS 0 rfl hcl 26 (by decide) f90 (fun _ h9 => h9) rfl (by decide +kernel) (by first | rfl | assumption) rfl (Nat.le_of_ble_eq_true rfl) dM_rule_109 (fun H locs hP hD hS => ?_)
          rw [mW_f26] at hP hD
          refine lv_aload_n hx hb dM_rule_112 rfl (lv_at hl 0 rfl) ?_
          have ef113 : (upd (upd (upd F 0 0) 4 (nI (nR + 1))) 26 0) 4 = nI (nR + 1) := by rw [pk_un (k := 26) (j := 4) (by decide), pk_us]
          refine va_get (D := D) (ci := 0) (v := .int (nI (nR + 1))) (C := RM) (T := TM) (N := 29) hx hb hts inM_ hown hK hP 0 rfl hcl 4 (by decide) f103 (fun _ h9 => h9) (congrArg (fun z => some (Value.int z)) ef113) dM_rule_113 ?_
          have em : mr_M_rule (F 4) (F 26) (G 6) (G 13) (G 14) (G 15) (G 16) nC nR ra va rb vb = (nI (nR + 1), 0, nI (nR + 1), 0, upd (G 13) nR ra, upd (G 14) nR va, upd (G 15) nR rb, upd (G 16) nR vb) := by rw [mr_M_rule, if_neg c11, if_neg c21, if_neg c32, if_neg c47]
          exact hret _ _ _ _ _ _ (by simp only [em]) (by simp only [em]) hP hD hS dM_rule_116
        · have n47 : nR = 40 := (nI_eq (a := nR) (b := 40) (by omega) (by omega)).mp c47
          refine lv_aload_n hx hb dM_rule_50 rfl (lv_at hl 0 rfl) ?_
          refine lv_iconst (v := 3) hx hb dM_rule_51 (by decide) ?_
          refine ww_callV (r := (some (.int ((mr_M_fail 3).1)))) (w' := mW a ba ka (upd (upd F 0 0) 0 ((mr_M_fail 3).2)) G) (As := [.int 3]) (rest := []) Sx (c_M_fail l D cl hcl a ba ka (upd F 0 0) G hP (hD.weaken (fun _ _ _ _ => trivial)) 3) (cwV 1 hts gM_rule_M_fail rfl rfl rfl (by decide +kernel) ⟨Nat.le_of_ble_eq_true rfl, Nat.le_of_ble_eq_true rfl⟩) hK (va_recv hK hP (ci := 0) (q0 := 0) hcl rfl) rfl hl.1 rfl (Nat.le_of_ble_eq_true rfl) dM_rule_52 ⟨Nat.zero_le _, Nat.zero_le _⟩ hD hS hA (fun H locs hP hD hS => ?_)
          rw [upd_ow] at hP hD
          have em : mr_M_rule (F 4) (F 26) (G 6) (G 13) (G 14) (G 15) (G 16) nC nR ra va rb vb = ((mr_M_fail 3).1, (mr_M_fail 3).2, F 4, F 26, G 13, G 14, G 15, G 16) := by rw [mr_M_rule, if_neg c11, if_neg c21, if_neg c32, if_pos c47]
          exact hret _ _ _ _ _ _ (by simp only [em]) (by simp only [em]; rw [upd_keep (f := upd F 0 ((mr_M_fail 3).2)) (j := 4) (x := F 4) rfl, upd_keep (f := upd F 0 ((mr_M_fail 3).2)) (j := 26) (x := F 26) rfl, vup_keep (f := G) (j := 13) (x := G 13) rfl, vup_keep (f := G) (j := 14) (x := G 14) rfl, vup_keep (f := G) (j := 15) (x := G 15) rfl, vup_keep (f := G) (j := 16) (x := G 16) rfl]) hP hD hS dM_rule_55
      · refine lv_aload_n hx hb dM_rule_35 rfl (lv_at hl 0 rfl) ?_
        refine lv_iconst (v := 2) hx hb dM_rule_36 (by decide) ?_
        refine ww_callV (r := (some (.int ((mr_M_fail 2).1)))) (w' := mW a ba ka (upd (upd F 0 0) 0 ((mr_M_fail 2).2)) G) (As := [.int 2]) (rest := []) Sx (c_M_fail l D cl hcl a ba ka (upd F 0 0) G hP (hD.weaken (fun _ _ _ _ => trivial)) 2) (cwV 1 hts gM_rule_M_fail rfl rfl rfl (by decide +kernel) ⟨Nat.le_of_ble_eq_true rfl, Nat.le_of_ble_eq_true rfl⟩) hK (va_recv hK hP (ci := 0) (q0 := 0) hcl rfl) rfl hl.1 rfl (Nat.le_of_ble_eq_true rfl) dM_rule_37 ⟨Nat.zero_le _, Nat.zero_le _⟩ hD hS hA (fun H locs hP hD hS => ?_)
        rw [upd_ow] at hP hD
        have em : mr_M_rule (F 4) (F 26) (G 6) (G 13) (G 14) (G 15) (G 16) nC nR ra va rb vb = ((mr_M_fail 2).1, (mr_M_fail 2).2, F 4, F 26, G 13, G 14, G 15, G 16) := by rw [mr_M_rule, if_neg c11, if_neg c21, if_pos c32]
        exact hret _ _ _ _ _ _ (by simp only [em]) (by simp only [em]; rw [upd_keep (f := upd F 0 ((mr_M_fail 2).2)) (j := 4) (x := F 4) rfl, upd_keep (f := upd F 0 ((mr_M_fail 2).2)) (j := 26) (x := F 26) rfl, vup_keep (f := G) (j := 13) (x := G 13) rfl, vup_keep (f := G) (j := 14) (x := G 14) rfl, vup_keep (f := G) (j := 15) (x := G 15) rfl, vup_keep (f := G) (j := 16) (x := G 16) rfl]) hP hD hS dM_rule_40
    · refine lv_aload_n hx hb dM_rule_24 rfl (lv_at hl 0 rfl) ?_
      refine lv_iconst (v := 1) hx hb dM_rule_25 (by decide) ?_
      refine ww_callV (r := (some (.int ((mr_M_fail 1).1)))) (w' := mW a ba ka (upd (upd F 0 0) 0 ((mr_M_fail 1).2)) G) (As := [.int 1]) (rest := []) Sx (c_M_fail l D cl hcl a ba ka (upd F 0 0) G hP (hD.weaken (fun _ _ _ _ => trivial)) 1) (cwV 1 hts gM_rule_M_fail rfl rfl rfl (by decide +kernel) ⟨Nat.le_of_ble_eq_true rfl, Nat.le_of_ble_eq_true rfl⟩) hK (va_recv hK hP (ci := 0) (q0 := 0) hcl rfl) rfl hl.1 rfl (Nat.le_of_ble_eq_true rfl) dM_rule_26 ⟨Nat.zero_le _, Nat.zero_le _⟩ hD hS hA (fun H locs hP hD hS => ?_)
      rw [upd_ow] at hP hD
      have em : mr_M_rule (F 4) (F 26) (G 6) (G 13) (G 14) (G 15) (G 16) nC nR ra va rb vb = ((mr_M_fail 1).1, (mr_M_fail 1).2, F 4, F 26, G 13, G 14, G 15, G 16) := by rw [mr_M_rule, if_neg c11, if_pos c21]
      exact hret _ _ _ _ _ _ (by simp only [em]) (by simp only [em]; rw [upd_keep (f := upd F 0 ((mr_M_fail 1).2)) (j := 4) (x := F 4) rfl, upd_keep (f := upd F 0 ((mr_M_fail 1).2)) (j := 26) (x := F 26) rfl, vup_keep (f := G) (j := 13) (x := G 13) rfl, vup_keep (f := G) (j := 14) (x := G 14) rfl, vup_keep (f := G) (j := 15) (x := G 15) rfl, vup_keep (f := G) (j := 16) (x := G 16) rfl]) hP hD hS dM_rule_29
def mr_M_number (f26 : Int32) (g6 : Nat → Int32) (g7 : Nat → Int32) (g8 : Nat → Int32) (g9 : Nat → Int32) (g10 : Nat → Int32) (g11 : Nat → Int32) (g12 : Nat → Int32) (g13 : Nat → Int32) (g14 : Nat → Int32) (g15 : Nat → Int32) (g16 : Nat → Int32) (g17 : Nat → Int32) (g18 : Nat → Int32) (g19 : Nat → Int32) (g27 : Nat → Int32) (g28 : Nat → Int32) (nC : Nat) (nT : Nat) (nR : Nat) (nD : Nat) (d : Int32) (nu : Int32) : Int32 × Int32 × Int32 × (Nat → Int32) × (Nat → Int32) × (Nat → Int32) := (if (mr_M_isDesign nD d) = 0 then ((mr_M_fail 1).1, (mr_M_fail 1).2, f26, g19, g27, g28) else (if (mr_M_within nu 0 3) = 0 then ((mr_M_fail 1).1, (mr_M_fail 1).2, f26, g19, g27, g28) else (((mr_M_know f26 g6 g7 g8 g9 g10 g11 g12 g13 g14 g15 g16 g17 g18 g19 g27 g28 nC nT nR nD).2.2.2) ((4 * d.toNatClampNeg) + nu.toNatClampNeg), 0, (mr_M_know f26 g6 g7 g8 g9 g10 g11 g12 g13 g14 g15 g16 g17 g18 g19 g27 g28 nC nT nR nD).1, (mr_M_know f26 g6 g7 g8 g9 g10 g11 g12 g13 g14 g15 g16 g17 g18 g19 g27 g28 nC nT nR nD).2.1, (mr_M_know f26 g6 g7 g8 g9 g10 g11 g12 g13 g14 g15 g16 g17 g18 g19 g27 g28 nC nT nR nD).2.2.1, (mr_M_know f26 g6 g7 g8 g9 g10 g11 g12 g13 g14 g15 g16 g17 g18 g19 g27 g28 nC nT nR nD).2.2.2)))
set_option maxHeartbeats 4000000 in
set_option maxRecDepth 100000 in
theorem c_M_number (l : Launch) (D : va_G) (cl : List vw_C) (hcl : cl[0]? = some (RM, TM, 29)) (a : Nat) (ba : Nat → Nat) (ka : Nat → ClassId) (F : Nat → Int32) (G : Nat → Nat → Int32) {H0 : Heap} (hP : va_P D cl (mW a ba ka F G) H0) (hD : va_D (fun _ => True) (mW a ba ka F G)) (nC : Nat) (nT : Nat) (nR : Nat) (nD : Nat) (d : Int32) (nu : Int32) (h2 : F 2 = nI nC) (hC : nC ≤ 8) (h3 : F 3 = nI nT) (hT : nT ≤ 100) (h4 : F 4 = nI nR) (hR : nR ≤ 40) (h5 : F 5 = nI nD) (hN : nD ≤ 4096) (h6 : ∀ c, c < nC → ∃ z : Nat, G 6 c = nI z ∧ 2 ≤ z ∧ z ≤ 6) (h8 : ∀ t, t < nT → ∃ x : Nat, x < nC ∧ G 8 t = nI x) (h10 : ∀ t, t < nT → G 10 t = -1 ∨ ∃ x : Nat, x < nC ∧ G 10 t = nI x) (h13 : ∀ j, j < nR → ∃ x : Nat, x < nC ∧ G 13 j = nI x) (h15 : ∀ j, j < nR → ∃ x : Nat, x < nC ∧ G 15 j = nI x) : ww_Met l yM_number wsM_number ({ frames := 4, cells := 0, slots := 0, locals := 92 } : Room) D cl (mT ka) H0 [.ref a, .int d, .int nu] (mW a ba ka F G) (some (.int ((mr_M_number (F 26) (G 6) (G 7) (G 8) (G 9) (G 10) (G 11) (G 12) (G 13) (G 14) (G 15) (G 16) (G 17) (G 18) (G 19) (G 27) (G 28) nC nT nR nD d nu).1))) (mW a ba ka (upd (upd F 0 ((mr_M_number (F 26) (G 6) (G 7) (G 8) (G 9) (G 10) (G 11) (G 12) (G 13) (G 14) (G 15) (G 16) (G 17) (G 18) (G 19) (G 27) (G 28) nC nT nR nD d nu).2.1)) 26 ((mr_M_number (F 26) (G 6) (G 7) (G 8) (G 9) (G 10) (G 11) (G 12) (G 13) (G 14) (G 15) (G 16) (G 17) (G 18) (G 19) (G 27) (G 28) nC nT nR nD d nu).2.2.1)) (va_up (va_up (va_up G 19 ((mr_M_number (F 26) (G 6) (G 7) (G 8) (G 9) (G 10) (G 11) (G 12) (G 13) (G 14) (G 15) (G 16) (G 17) (G 18) (G 19) (G 27) (G 28) nC nT nR nD d nu).2.2.2.1)) 27 ((mr_M_number (F 26) (G 6) (G 7) (G 8) (G 9) (G 10) (G 11) (G 12) (G 13) (G 14) (G 15) (G 16) (G 17) (G 18) (G 19) (G 27) (G 28) nC nT nR nD d nu).2.2.2.2.1)) 28 ((mr_M_number (F 26) (G 6) (G 7) (G 8) (G 9) (G 10) (G 11) (G 12) (G 13) (G 14) (G 15) (G 16) (G 17) (G 18) (G 19) (G 27) (G 28) nC nT nR nD d nu).2.2.2.2.2))) := by
  refine ww_metI (by decide) rfl (Nat.le_of_ble_eq_true rfl) hP hD ?_
  intro p e s m args below meth c Q A Sx hK hP hD hS hA ls hl hret
  obtain ⟨hx, hb, hml, hown, hts⟩ := id Sx
  have hl : lv_has ls 3 [(0, .ref a), (1, .int d), (2, .int nu)] := hl
  obtain ⟨H, eH⟩ : ∃ H : Heap, H = H0 := ⟨_, rfl⟩
  obtain ⟨locs, eL⟩ : ∃ L : List Loc, L = [] := ⟨_, rfl⟩
  have hP : va_P D cl (mW a ba ka F G) H := by rw [eH]; exact hP
  have hS : va_S A H0 H locs := by rw [eH, eL]; exact hS
  rw [show W p l e ({ frames := 4, cells := 0, slots := 0, locals := 92 } : Room) s m args below meth c H0 [] 0 0 Q (F0 m 0 ls []) = W p l e ({ frames := 4, cells := 0, slots := 0, locals := 92 } : Room) s m args below meth c H locs 0 0 Q (F0 m 0 ls []) by rw [eH, eL]]
  clear eH eL
  have f70 := hts _ (List.mem_cons_of_mem _ mfM_70)
  have inM_ : ∀ w ∈ wsM0, w ∈ wsM_number := fun w h => List.mem_cons_of_mem _ (inM_all w h)
  have f63 := hts _ (List.mem_cons_of_mem _ mfM_63)
  refine lv_aload_n hx hb dM_number_0 rfl (lv_at hl 0 rfl) ?_
  refine lv_iconst (v := 0) hx hb dM_number_1 (by decide) ?_
  refine va_put (D := D) (ci := 0) (fs := mWl0 ba F) (v := .int 0) (ty := .int) (C := RM) (T := TM) (N := 29) hx hb hts inM_ tyM tyM_ok nmM hown hK hP hD hS 0 rfl hcl 0 (by decide) f70 (fun _ h9 => h9) rfl (by decide +kernel) rfl rfl (Nat.le_of_ble_eq_true rfl) dM_number_2 (fun H locs hP hD hS => ?_)
  rw [mW_f0] at hP hD
  refine lv_aload_n hx hb dM_number_5 rfl (lv_at hl 0 rfl) ?_
  refine lv_iload_n hx hb dM_number_6 rfl (lv_at hl 1 rfl) ?_
  refine ro_callV (r := (.int (mr_M_isDesign nD d))) (As := [.int d]) (rest := []) Sx (c_M_isDesign l D cl hcl a ba ka (upd F 0 0) G hP nD d h5) (cwV 1 hts gM_number_M_isDesign rfl rfl rfl (by decide +kernel) ⟨Nat.le_of_ble_eq_true rfl, Nat.le_of_ble_eq_true rfl⟩) hK (va_recv hK hP (ci := 0) (q0 := 0) hcl rfl) rfl hl.1 rfl (Nat.le_of_ble_eq_true rfl) dM_number_7 ⟨Nat.zero_le _, Nat.zero_le _⟩ ?_
  refine lv_if_eq (tgt := 22) hx hb dM_number_10 (by decide) (fun c10 => ?_) (fun c10 => ?_)
  · refine lv_aload_n hx hb dM_number_22 rfl (lv_at hl 0 rfl) ?_
    refine lv_iconst (v := 1) hx hb dM_number_23 (by decide) ?_
    refine ww_callV (r := (some (.int ((mr_M_fail 1).1)))) (w' := mW a ba ka (upd (upd F 0 0) 0 ((mr_M_fail 1).2)) G) (As := [.int 1]) (rest := []) Sx (c_M_fail l D cl hcl a ba ka (upd F 0 0) G hP (hD.weaken (fun _ _ _ _ => trivial)) 1) (cwV 1 hts gM_number_M_fail rfl rfl rfl (by decide +kernel) ⟨Nat.le_of_ble_eq_true rfl, Nat.le_of_ble_eq_true rfl⟩) hK (va_recv hK hP (ci := 0) (q0 := 0) hcl rfl) rfl hl.1 rfl (Nat.le_of_ble_eq_true rfl) dM_number_24 ⟨Nat.zero_le _, Nat.zero_le _⟩ hD hS hA (fun H locs hP hD hS => ?_)
    rw [upd_ow] at hP hD
    have em : mr_M_number (F 26) (G 6) (G 7) (G 8) (G 9) (G 10) (G 11) (G 12) (G 13) (G 14) (G 15) (G 16) (G 17) (G 18) (G 19) (G 27) (G 28) nC nT nR nD d nu = ((mr_M_fail 1).1, (mr_M_fail 1).2, F 26, G 19, G 27, G 28) := by rw [mr_M_number, if_pos c10]
    exact hret _ _ _ _ _ _ (by simp only [em]) (by simp only [em]; rw [upd_keep (f := upd F 0 ((mr_M_fail 1).2)) (j := 26) (x := F 26) rfl, vup_keep (f := G) (j := 19) (x := G 19) rfl, vup_keep (f := G) (j := 27) (x := G 27) rfl, vup_keep (f := G) (j := 28) (x := G 28) rfl]) hP hD hS dM_number_27
  · have xd := ix_cl (wd_ix c10 hN) (by omega)
    refine lv_iload_n hx hb dM_number_13 rfl (lv_at hl 2 rfl) ?_
    refine lv_iconst (v := 0) hx hb dM_number_14 (by decide) ?_
    refine lv_iconst (v := 3) hx hb dM_number_15 (by decide) ?_
    refine ro_callS (r := (.int (mr_M_within nu 0 3))) (As := [.int nu, .int 0, .int 3]) (rest := []) Sx (c_M_within l D cl hcl a ba ka (upd F 0 0) G hP nu 0 3) (va_cwS 3 hts gM_number_M_within rfl rfl rfl (by decide +kernel) ⟨Nat.le_of_ble_eq_true rfl, Nat.le_of_ble_eq_true rfl⟩) hK rfl hl.1 rfl (Nat.le_of_ble_eq_true rfl) dM_number_16 ⟨Nat.zero_le _, Nat.zero_le _⟩ ?_
    refine lv_if_ne (tgt := 28) hx hb dM_number_19 (by decide) (fun c19 => ?_) (fun c19 => ?_)
    · have xn := ix_cl (wi_nx (n := 3) c19 (by decide)) (by omega)
      refine lv_aload_n hx hb dM_number_28 rfl (lv_at hl 0 rfl) ?_
      refine ww_callV (r := none) (w' := mW a ba ka (upd (upd F 0 0) 26 ((mr_M_know (F 26) (G 6) (G 7) (G 8) (G 9) (G 10) (G 11) (G 12) (G 13) (G 14) (G 15) (G 16) (G 17) (G 18) (G 19) (G 27) (G 28) nC nT nR nD).1)) (va_up (va_up (va_up G 19 ((mr_M_know (F 26) (G 6) (G 7) (G 8) (G 9) (G 10) (G 11) (G 12) (G 13) (G 14) (G 15) (G 16) (G 17) (G 18) (G 19) (G 27) (G 28) nC nT nR nD).2.1)) 27 ((mr_M_know (F 26) (G 6) (G 7) (G 8) (G 9) (G 10) (G 11) (G 12) (G 13) (G 14) (G 15) (G 16) (G 17) (G 18) (G 19) (G 27) (G 28) nC nT nR nD).2.2.1)) 28 ((mr_M_know (F 26) (G 6) (G 7) (G 8) (G 9) (G 10) (G 11) (G 12) (G 13) (G 14) (G 15) (G 16) (G 17) (G 18) (G 19) (G 27) (G 28) nC nT nR nD).2.2.2))) (As := []) (rest := []) Sx (c_M_know l D cl hcl a ba ka (upd F 0 0) G hP (hD.weaken (fun _ _ _ _ => trivial)) nC nT nR nD h2 hC h3 hT h4 hR h5 hN h6 h8 h10 h13 h15) (cwV 0 hts gM_number_M_know rfl rfl rfl (by decide +kernel) ⟨Nat.le_of_ble_eq_true rfl, Nat.le_of_ble_eq_true rfl⟩) hK (va_recv hK hP (ci := 0) (q0 := 0) hcl rfl) rfl hl.1 rfl (Nat.le_of_ble_eq_true rfl) dM_number_29 ⟨Nat.zero_le _, Nat.zero_le _⟩ hD hS hA (fun H locs hP hD hS => ?_)
      refine lv_aload_n hx hb dM_number_32 rfl (lv_at hl 0 rfl) ?_
      refine va_get (D := D) (ci := 0) (v := .ref (ba 28)) (C := RM) (T := TM) (N := 29) hx hb hts inM_ hown hK hP 0 rfl hcl 28 (by decide) f63 (fun _ h9 => h9) rfl dM_number_33 ?_
      refine lv_iconst (v := 4) hx hb dM_number_36 (by decide) ?_
      refine lv_iload_n hx hb dM_number_37 rfl (lv_at hl 1 rfl) ?_
      refine wt_i (r := nI d.toNatClampNeg) (by exact xd.1) ?_
      refine lv_imul hx hb dM_number_38 ?_
      refine wt_i (r := nI (4 * d.toNatClampNeg)) (by exact pk_mul 4 d.toNatClampNeg) ?_
      refine lv_iload_n hx hb dM_number_39 rfl (lv_at hl 2 rfl) ?_
      refine wt_i (r := nI nu.toNatClampNeg) (by exact xn.1) ?_
      refine lv_iadd hx hb dM_number_40 ?_
      refine wt_i (r := nI ((4 * d.toNatClampNeg) + nu.toNatClampNeg)) (by exact nI_add (4 * d.toNatClampNeg) nu.toNatClampNeg) ?_
      have sd41 : ((4 * d.toNatClampNeg) + nu.toNatClampNeg) < 16384 := by omega
      have eg41 : (va_up (va_up (va_up G 19 ((mr_M_know (F 26) (G 6) (G 7) (G 8) (G 9) (G 10) (G 11) (G 12) (G 13) (G 14) (G 15) (G 16) (G 17) (G 18) (G 19) (G 27) (G 28) nC nT nR nD).2.1)) 27 ((mr_M_know (F 26) (G 6) (G 7) (G 8) (G 9) (G 10) (G 11) (G 12) (G 13) (G 14) (G 15) (G 16) (G 17) (G 18) (G 19) (G 27) (G 28) nC nT nR nD).2.2.1)) 28 ((mr_M_know (F 26) (G 6) (G 7) (G 8) (G 9) (G 10) (G 11) (G 12) (G 13) (G 14) (G 15) (G 16) (G 17) (G 18) (G 19) (G 27) (G 28) nC nT nR nD).2.2.2)) 28 = (mr_M_know (F 26) (G 6) (G 7) (G 8) (G 9) (G 10) (G 11) (G 12) (G 13) (G 14) (G 15) (G 16) (G 17) (G 18) (G 19) (G 27) (G 28) nC nT nR nD).2.2.2 := by rw [vup_us]
      refine wn_iald (f := (mr_M_know (F 26) (G 6) (G 7) (G 8) (G 9) (G 10) (G 11) (G 12) (G 13) (G 14) (G 15) (G 16) (G 17) (G 18) (G 19) (G 27) (G 28) nC nT nR nD).2.2.2) hx hb hK hP 16 15 (congrArg (fun z : Nat → Int32 => (some ((ba 28), (.inl ((ka 28), 16384, .inl z) : va_E)) : Option (Nat × va_E))) eg41) rfl ((4 * d.toNatClampNeg) + nu.toNatClampNeg) rfl sd41 (by decide) dM_number_41 ?_
      have em : mr_M_number (F 26) (G 6) (G 7) (G 8) (G 9) (G 10) (G 11) (G 12) (G 13) (G 14) (G 15) (G 16) (G 17) (G 18) (G 19) (G 27) (G 28) nC nT nR nD d nu = (((mr_M_know (F 26) (G 6) (G 7) (G 8) (G 9) (G 10) (G 11) (G 12) (G 13) (G 14) (G 15) (G 16) (G 17) (G 18) (G 19) (G 27) (G 28) nC nT nR nD).2.2.2) ((4 * d.toNatClampNeg) + nu.toNatClampNeg), 0, (mr_M_know (F 26) (G 6) (G 7) (G 8) (G 9) (G 10) (G 11) (G 12) (G 13) (G 14) (G 15) (G 16) (G 17) (G 18) (G 19) (G 27) (G 28) nC nT nR nD).1, (mr_M_know (F 26) (G 6) (G 7) (G 8) (G 9) (G 10) (G 11) (G 12) (G 13) (G 14) (G 15) (G 16) (G 17) (G 18) (G 19) (G 27) (G 28) nC nT nR nD).2.1, (mr_M_know (F 26) (G 6) (G 7) (G 8) (G 9) (G 10) (G 11) (G 12) (G 13) (G 14) (G 15) (G 16) (G 17) (G 18) (G 19) (G 27) (G 28) nC nT nR nD).2.2.1, (mr_M_know (F 26) (G 6) (G 7) (G 8) (G 9) (G 10) (G 11) (G 12) (G 13) (G 14) (G 15) (G 16) (G 17) (G 18) (G 19) (G 27) (G 28) nC nT nR nD).2.2.2) := by rw [mr_M_number, if_neg c10, if_neg c19]
      exact hret _ _ _ _ _ _ (by simp only [em]) (by simp only [em]) hP hD hS dM_number_42
    · refine lv_aload_n hx hb dM_number_22 rfl (lv_at hl 0 rfl) ?_
      refine lv_iconst (v := 1) hx hb dM_number_23 (by decide) ?_
      refine ww_callV (r := (some (.int ((mr_M_fail 1).1)))) (w' := mW a ba ka (upd (upd F 0 0) 0 ((mr_M_fail 1).2)) G) (As := [.int 1]) (rest := []) Sx (c_M_fail l D cl hcl a ba ka (upd F 0 0) G hP (hD.weaken (fun _ _ _ _ => trivial)) 1) (cwV 1 hts gM_number_M_fail rfl rfl rfl (by decide +kernel) ⟨Nat.le_of_ble_eq_true rfl, Nat.le_of_ble_eq_true rfl⟩) hK (va_recv hK hP (ci := 0) (q0 := 0) hcl rfl) rfl hl.1 rfl (Nat.le_of_ble_eq_true rfl) dM_number_24 ⟨Nat.zero_le _, Nat.zero_le _⟩ hD hS hA (fun H locs hP hD hS => ?_)
      rw [upd_ow] at hP hD
      have em : mr_M_number (F 26) (G 6) (G 7) (G 8) (G 9) (G 10) (G 11) (G 12) (G 13) (G 14) (G 15) (G 16) (G 17) (G 18) (G 19) (G 27) (G 28) nC nT nR nD d nu = ((mr_M_fail 1).1, (mr_M_fail 1).2, F 26, G 19, G 27, G 28) := by rw [mr_M_number, if_neg c10, if_pos c19]
      exact hret _ _ _ _ _ _ (by simp only [em]) (by simp only [em]; rw [upd_keep (f := upd F 0 ((mr_M_fail 1).2)) (j := 26) (x := F 26) rfl, vup_keep (f := G) (j := 19) (x := G 19) rfl, vup_keep (f := G) (j := 27) (x := G 27) rfl, vup_keep (f := G) (j := 28) (x := G 28) rfl]) hP hD hS dM_number_27
def mr_M_value (g6 : Nat → Int32) (g19 : Nat → Int32) (nC : Nat) (nD : Nat) (d : Int32) (ch : Int32) : Int32 × Int32 × (Nat → Int32) := (if (mr_M_isDesign nD d) = 0 then ((mr_M_fail 1).1, (mr_M_fail 1).2, g19) else (if (mr_M_within ch 0 ((nI nC) - 1)) = 0 then ((mr_M_fail 1).1, (mr_M_fail 1).2, g19) else ((mr_M_open g6 g19 nC d.toNatClampNeg nC) ch.toNatClampNeg, 0, mr_M_open g6 g19 nC d.toNatClampNeg nC)))
set_option maxHeartbeats 4000000 in
set_option maxRecDepth 100000 in
theorem c_M_value (l : Launch) (D : va_G) (cl : List vw_C) (hcl : cl[0]? = some (RM, TM, 29)) (a : Nat) (ba : Nat → Nat) (ka : Nat → ClassId) (F : Nat → Int32) (G : Nat → Nat → Int32) {H0 : Heap} (hP : va_P D cl (mW a ba ka F G) H0) (hD : va_D (fun _ => True) (mW a ba ka F G)) (nC : Nat) (nD : Nat) (d : Int32) (ch : Int32) (h2 : F 2 = nI nC) (hC : nC ≤ 8) (h5 : F 5 = nI nD) (hN : nD ≤ 4096) (h6 : ∀ c, c < nC → ∃ z : Nat, G 6 c = nI z ∧ 2 ≤ z ∧ z ≤ 6) : ww_Met l yM_value wsM_value ({ frames := 2, cells := 0, slots := 0, locals := 43 } : Room) D cl (mT ka) H0 [.ref a, .int d, .int ch] (mW a ba ka F G) (some (.int ((mr_M_value (G 6) (G 19) nC nD d ch).1))) (mW a ba ka (upd F 0 ((mr_M_value (G 6) (G 19) nC nD d ch).2.1)) (va_up G 19 ((mr_M_value (G 6) (G 19) nC nD d ch).2.2))) := by
  refine ww_metI (by decide) rfl (Nat.le_of_ble_eq_true rfl) hP hD ?_
  intro p e s m args below meth c Q A Sx hK hP hD hS hA ls hl hret
  obtain ⟨hx, hb, hml, hown, hts⟩ := id Sx
  have hl : lv_has ls 3 [(0, .ref a), (1, .int d), (2, .int ch)] := hl
  obtain ⟨H, eH⟩ : ∃ H : Heap, H = H0 := ⟨_, rfl⟩
  obtain ⟨locs, eL⟩ : ∃ L : List Loc, L = [] := ⟨_, rfl⟩
  have hP : va_P D cl (mW a ba ka F G) H := by rw [eH]; exact hP
  have hS : va_S A H0 H locs := by rw [eH, eL]; exact hS
  rw [show W p l e ({ frames := 2, cells := 0, slots := 0, locals := 43 } : Room) s m args below meth c H0 [] 0 0 Q (F0 m 0 ls []) = W p l e ({ frames := 2, cells := 0, slots := 0, locals := 43 } : Room) s m args below meth c H locs 0 0 Q (F0 m 0 ls []) by rw [eH, eL]]
  clear eH eL
  have f70 := hts _ (List.mem_cons_of_mem _ mfM_70)
  have inM_ : ∀ w ∈ wsM0, w ∈ wsM_value := fun w h => List.mem_cons_of_mem _ (inM_all w h)
  have f81 := hts _ (List.mem_cons_of_mem _ mfM_81)
  have f54 := hts _ (List.mem_cons_of_mem _ mfM_54)
  refine lv_aload_n hx hb dM_value_0 rfl (lv_at hl 0 rfl) ?_
  refine lv_iconst (v := 0) hx hb dM_value_1 (by decide) ?_
  refine va_put (D := D) (ci := 0) (fs := mWl0 ba F) (v := .int 0) (ty := .int) (C := RM) (T := TM) (N := 29) hx hb hts inM_ tyM tyM_ok nmM hown hK hP hD hS 0 rfl hcl 0 (by decide) f70 (fun _ h9 => h9) rfl (by decide +kernel) rfl rfl (Nat.le_of_ble_eq_true rfl) dM_value_2 (fun H locs hP hD hS => ?_)
  rw [mW_f0] at hP hD
  refine lv_aload_n hx hb dM_value_5 rfl (lv_at hl 0 rfl) ?_
  refine lv_iload_n hx hb dM_value_6 rfl (lv_at hl 1 rfl) ?_
  refine ro_callV (r := (.int (mr_M_isDesign nD d))) (As := [.int d]) (rest := []) Sx (c_M_isDesign l D cl hcl a ba ka (upd F 0 0) G hP nD d h5) (cwV 1 hts gM_value_M_isDesign rfl rfl rfl (by decide +kernel) ⟨Nat.le_of_ble_eq_true rfl, Nat.le_of_ble_eq_true rfl⟩) hK (va_recv hK hP (ci := 0) (q0 := 0) hcl rfl) rfl hl.1 rfl (Nat.le_of_ble_eq_true rfl) dM_value_7 ⟨Nat.zero_le _, Nat.zero_le _⟩ ?_
  refine lv_if_eq (tgt := 27) hx hb dM_value_10 (by decide) (fun c10 => ?_) (fun c10 => ?_)
  · refine lv_aload_n hx hb dM_value_27 rfl (lv_at hl 0 rfl) ?_
    refine lv_iconst (v := 1) hx hb dM_value_28 (by decide) ?_
    refine ww_callV (r := (some (.int ((mr_M_fail 1).1)))) (w' := mW a ba ka (upd (upd F 0 0) 0 ((mr_M_fail 1).2)) G) (As := [.int 1]) (rest := []) Sx (c_M_fail l D cl hcl a ba ka (upd F 0 0) G hP (hD.weaken (fun _ _ _ _ => trivial)) 1) (cwV 1 hts gM_value_M_fail rfl rfl rfl (by decide +kernel) ⟨Nat.le_of_ble_eq_true rfl, Nat.le_of_ble_eq_true rfl⟩) hK (va_recv hK hP (ci := 0) (q0 := 0) hcl rfl) rfl hl.1 rfl (Nat.le_of_ble_eq_true rfl) dM_value_29 ⟨Nat.zero_le _, Nat.zero_le _⟩ hD hS hA (fun H locs hP hD hS => ?_)
    rw [upd_ow] at hP hD
    have em : mr_M_value (G 6) (G 19) nC nD d ch = ((mr_M_fail 1).1, (mr_M_fail 1).2, G 19) := by rw [mr_M_value, if_pos c10]
    exact hret _ _ _ _ _ _ (by simp only [em]) (by simp only [em]; rw [vup_keep (f := G) (j := 19) (x := G 19) rfl]) hP hD hS dM_value_32
  · have xd := ix_cl (wd_ix c10 hN) (by omega)
    refine lv_iload_n hx hb dM_value_13 rfl (lv_at hl 2 rfl) ?_
    refine lv_iconst (v := 0) hx hb dM_value_14 (by decide) ?_
    refine lv_aload_n hx hb dM_value_15 rfl (lv_at hl 0 rfl) ?_
    refine va_get (D := D) (ci := 0) (v := .int (F 2)) (C := RM) (T := TM) (N := 29) hx hb hts inM_ hown hK hP 0 rfl hcl 2 (by decide) f81 (fun _ h9 => h9) rfl dM_value_16 ?_
    refine wt_i h2 ?_
    refine lv_iconst (v := 1) hx hb dM_value_19 (by decide) ?_
    refine lv_isub hx hb dM_value_20 ?_
    refine ro_callS (r := (.int (mr_M_within ch 0 ((nI nC) - 1)))) (As := [.int ch, .int 0, .int ((nI nC) - 1)]) (rest := []) Sx (c_M_within l D cl hcl a ba ka (upd F 0 0) G hP ch 0 ((nI nC) - 1)) (va_cwS 3 hts gM_value_M_within rfl rfl rfl (by decide +kernel) ⟨Nat.le_of_ble_eq_true rfl, Nat.le_of_ble_eq_true rfl⟩) hK rfl hl.1 rfl (Nat.le_of_ble_eq_true rfl) dM_value_21 ⟨Nat.zero_le _, Nat.zero_le _⟩ ?_
    refine lv_if_ne (tgt := 33) hx hb dM_value_24 (by decide) (fun c24 => ?_) (fun c24 => ?_)
    · have xc := ix_cl (wi_ix c24 (by omega)) (by omega)
      refine lv_aload_n hx hb dM_value_33 rfl (lv_at hl 0 rfl) ?_
      refine lv_iload_n hx hb dM_value_34 rfl (lv_at hl 1 rfl) ?_
      refine wt_i (r := nI d.toNatClampNeg) (by exact xd.1) ?_
      refine lv_aload_n hx hb dM_value_35 rfl (lv_at hl 0 rfl) ?_
      refine va_get (D := D) (ci := 0) (v := .int (F 2)) (C := RM) (T := TM) (N := 29) hx hb hts inM_ hown hK hP 0 rfl hcl 2 (by decide) f81 (fun _ h9 => h9) rfl dM_value_36 ?_
      refine wt_i h2 ?_
      refine ww_callV (r := none) (w' := mW a ba ka (upd F 0 0) (va_up G 19 (mr_M_open (G 6) (G 19) nC d.toNatClampNeg nC))) (As := [.int (nI d.toNatClampNeg), .int (nI nC)]) (rest := []) Sx (c_M_open l D cl hcl a ba ka (upd F 0 0) G hP (hD.weaken (fun _ _ _ _ => trivial)) nC d.toNatClampNeg nC h2 hC h6 hC) (cwV 2 hts gM_value_M_open rfl rfl rfl (by decide +kernel) ⟨Nat.le_of_ble_eq_true rfl, Nat.le_of_ble_eq_true rfl⟩) hK (va_recv hK hP (ci := 0) (q0 := 0) hcl rfl) rfl hl.1 rfl (Nat.le_of_ble_eq_true rfl) dM_value_39 ⟨Nat.zero_le _, Nat.zero_le _⟩ hD hS hA (fun H locs hP hD hS => ?_)
      refine lv_aload_n hx hb dM_value_42 rfl (lv_at hl 0 rfl) ?_
      refine va_get (D := D) (ci := 0) (v := .ref (ba 19)) (C := RM) (T := TM) (N := 29) hx hb hts inM_ hown hK hP 0 rfl hcl 19 (by decide) f54 (fun _ h9 => h9) rfl dM_value_43 ?_
      refine lv_iload_n hx hb dM_value_46 rfl (lv_at hl 2 rfl) ?_
      refine wt_i (r := nI ch.toNatClampNeg) (by exact xc.1) ?_
      have sd47 : ch.toNatClampNeg < 8 := by omega
      have eg47 : (va_up G 19 (mr_M_open (G 6) (G 19) nC d.toNatClampNeg nC)) 19 = mr_M_open (G 6) (G 19) nC d.toNatClampNeg nC := by rw [vup_us]
      refine wn_iald (f := mr_M_open (G 6) (G 19) nC d.toNatClampNeg nC) hx hb hK hP 14 13 (congrArg (fun z : Nat → Int32 => (some ((ba 19), (.inl ((ka 19), 8, .inl z) : va_E)) : Option (Nat × va_E))) eg47) rfl ch.toNatClampNeg rfl sd47 (by decide) dM_value_47 ?_
      have em : mr_M_value (G 6) (G 19) nC nD d ch = ((mr_M_open (G 6) (G 19) nC d.toNatClampNeg nC) ch.toNatClampNeg, 0, mr_M_open (G 6) (G 19) nC d.toNatClampNeg nC) := by rw [mr_M_value, if_neg c10, if_neg c24]
      exact hret _ _ _ _ _ _ (by simp only [em]) (by simp only [em]) hP hD hS dM_value_48
    · refine lv_aload_n hx hb dM_value_27 rfl (lv_at hl 0 rfl) ?_
      refine lv_iconst (v := 1) hx hb dM_value_28 (by decide) ?_
      refine ww_callV (r := (some (.int ((mr_M_fail 1).1)))) (w' := mW a ba ka (upd (upd F 0 0) 0 ((mr_M_fail 1).2)) G) (As := [.int 1]) (rest := []) Sx (c_M_fail l D cl hcl a ba ka (upd F 0 0) G hP (hD.weaken (fun _ _ _ _ => trivial)) 1) (cwV 1 hts gM_value_M_fail rfl rfl rfl (by decide +kernel) ⟨Nat.le_of_ble_eq_true rfl, Nat.le_of_ble_eq_true rfl⟩) hK (va_recv hK hP (ci := 0) (q0 := 0) hcl rfl) rfl hl.1 rfl (Nat.le_of_ble_eq_true rfl) dM_value_29 ⟨Nat.zero_le _, Nat.zero_le _⟩ hD hS hA (fun H locs hP hD hS => ?_)
      rw [upd_ow] at hP hD
      have em : mr_M_value (G 6) (G 19) nC nD d ch = ((mr_M_fail 1).1, (mr_M_fail 1).2, G 19) := by rw [mr_M_value, if_neg c10, if_pos c24]
      exact hret _ _ _ _ _ _ (by simp only [em]) (by simp only [em]; rw [vup_keep (f := G) (j := 19) (x := G 19) rfl]) hP hD hS dM_value_32
def lf_M_undominated_13 (nC : Nat) (nT : Nat) (nR : Nat) (nD : Nat) (qg27_13 : Nat → Int32) (qg28_13 : Nat → Int32) (i0 : Int32) : Nat → Int32
  | 0 => i0
  | k13 + 1 => ((lf_M_undominated_13 nC nT nR nD qg27_13 qg28_13 i0 k13) + ((if (mr_M_isUndominated qg27_13 qg28_13 nD k13) = 0 then 0 else 1) : Int32))
def mr_M_undominated (f26 : Int32) (g6 : Nat → Int32) (g7 : Nat → Int32) (g8 : Nat → Int32) (g9 : Nat → Int32) (g10 : Nat → Int32) (g11 : Nat → Int32) (g12 : Nat → Int32) (g13 : Nat → Int32) (g14 : Nat → Int32) (g15 : Nat → Int32) (g16 : Nat → Int32) (g17 : Nat → Int32) (g18 : Nat → Int32) (g19 : Nat → Int32) (g27 : Nat → Int32) (g28 : Nat → Int32) (nC : Nat) (nT : Nat) (nR : Nat) (nD : Nat) : Int32 × Int32 × Int32 × (Nat → Int32) × (Nat → Int32) × (Nat → Int32) := (lf_M_undominated_13 nC nT nR nD ((mr_M_know f26 g6 g7 g8 g9 g10 g11 g12 g13 g14 g15 g16 g17 g18 g19 g27 g28 nC nT nR nD).2.2.1) ((mr_M_know f26 g6 g7 g8 g9 g10 g11 g12 g13 g14 g15 g16 g17 g18 g19 g27 g28 nC nT nR nD).2.2.2) 0 nD, 0, (mr_M_know f26 g6 g7 g8 g9 g10 g11 g12 g13 g14 g15 g16 g17 g18 g19 g27 g28 nC nT nR nD).1, (mr_M_know f26 g6 g7 g8 g9 g10 g11 g12 g13 g14 g15 g16 g17 g18 g19 g27 g28 nC nT nR nD).2.1, (mr_M_know f26 g6 g7 g8 g9 g10 g11 g12 g13 g14 g15 g16 g17 g18 g19 g27 g28 nC nT nR nD).2.2.1, (mr_M_know f26 g6 g7 g8 g9 g10 g11 g12 g13 g14 g15 g16 g17 g18 g19 g27 g28 nC nT nR nD).2.2.2)
set_option maxHeartbeats 4000000 in
set_option maxRecDepth 100000 in
theorem c_M_undominated (l : Launch) (D : va_G) (cl : List vw_C) (hcl : cl[0]? = some (RM, TM, 29)) (a : Nat) (ba : Nat → Nat) (ka : Nat → ClassId) (F : Nat → Int32) (G : Nat → Nat → Int32) {H0 : Heap} (hP : va_P D cl (mW a ba ka F G) H0) (hD : va_D (fun _ => True) (mW a ba ka F G)) (nC : Nat) (nT : Nat) (nR : Nat) (nD : Nat) (h2 : F 2 = nI nC) (hC : nC ≤ 8) (h3 : F 3 = nI nT) (hT : nT ≤ 100) (h4 : F 4 = nI nR) (hR : nR ≤ 40) (h5 : F 5 = nI nD) (hN : nD ≤ 4096) (h6 : ∀ c, c < nC → ∃ z : Nat, G 6 c = nI z ∧ 2 ≤ z ∧ z ≤ 6) (h8 : ∀ t, t < nT → ∃ x : Nat, x < nC ∧ G 8 t = nI x) (h10 : ∀ t, t < nT → G 10 t = -1 ∨ ∃ x : Nat, x < nC ∧ G 10 t = nI x) (h13 : ∀ j, j < nR → ∃ x : Nat, x < nC ∧ G 13 j = nI x) (h15 : ∀ j, j < nR → ∃ x : Nat, x < nC ∧ G 15 j = nI x) : ww_Met l yM_undominated wsM_undominated ({ frames := 4, cells := 0, slots := 0, locals := 92 } : Room) D cl (mT ka) H0 [.ref a] (mW a ba ka F G) (some (.int ((mr_M_undominated (F 26) (G 6) (G 7) (G 8) (G 9) (G 10) (G 11) (G 12) (G 13) (G 14) (G 15) (G 16) (G 17) (G 18) (G 19) (G 27) (G 28) nC nT nR nD).1))) (mW a ba ka (upd (upd F 0 ((mr_M_undominated (F 26) (G 6) (G 7) (G 8) (G 9) (G 10) (G 11) (G 12) (G 13) (G 14) (G 15) (G 16) (G 17) (G 18) (G 19) (G 27) (G 28) nC nT nR nD).2.1)) 26 ((mr_M_undominated (F 26) (G 6) (G 7) (G 8) (G 9) (G 10) (G 11) (G 12) (G 13) (G 14) (G 15) (G 16) (G 17) (G 18) (G 19) (G 27) (G 28) nC nT nR nD).2.2.1)) (va_up (va_up (va_up G 19 ((mr_M_undominated (F 26) (G 6) (G 7) (G 8) (G 9) (G 10) (G 11) (G 12) (G 13) (G 14) (G 15) (G 16) (G 17) (G 18) (G 19) (G 27) (G 28) nC nT nR nD).2.2.2.1)) 27 ((mr_M_undominated (F 26) (G 6) (G 7) (G 8) (G 9) (G 10) (G 11) (G 12) (G 13) (G 14) (G 15) (G 16) (G 17) (G 18) (G 19) (G 27) (G 28) nC nT nR nD).2.2.2.2.1)) 28 ((mr_M_undominated (F 26) (G 6) (G 7) (G 8) (G 9) (G 10) (G 11) (G 12) (G 13) (G 14) (G 15) (G 16) (G 17) (G 18) (G 19) (G 27) (G 28) nC nT nR nD).2.2.2.2.2))) := by
  refine ww_metI (by decide) rfl (Nat.le_of_ble_eq_true rfl) hP hD ?_
  intro p e s m args below meth c Q A Sx hK hP hD hS hA ls hl hret
  obtain ⟨hx, hb, hml, hown, hts⟩ := id Sx
  have hl : lv_has ls 3 [(0, .ref a)] := hl
  obtain ⟨H, eH⟩ : ∃ H : Heap, H = H0 := ⟨_, rfl⟩
  obtain ⟨locs, eL⟩ : ∃ L : List Loc, L = [] := ⟨_, rfl⟩
  have hP : va_P D cl (mW a ba ka F G) H := by rw [eH]; exact hP
  have hS : va_S A H0 H locs := by rw [eH, eL]; exact hS
  rw [show W p l e ({ frames := 4, cells := 0, slots := 0, locals := 92 } : Room) s m args below meth c H0 [] 0 0 Q (F0 m 0 ls []) = W p l e ({ frames := 4, cells := 0, slots := 0, locals := 92 } : Room) s m args below meth c H locs 0 0 Q (F0 m 0 ls []) by rw [eH, eL]]
  clear eH eL
  have f70 := hts _ (List.mem_cons_of_mem _ mfM_70)
  have inM_ : ∀ w ∈ wsM0, w ∈ wsM_undominated := fun w h => List.mem_cons_of_mem _ (inM_all w h)
  have f7 := hts _ (List.mem_cons_of_mem _ mfM_7)
  refine lv_aload_n hx hb dM_undominated_0 rfl (lv_at hl 0 rfl) ?_
  refine lv_iconst (v := 0) hx hb dM_undominated_1 (by decide) ?_
  refine va_put (D := D) (ci := 0) (fs := mWl0 ba F) (v := .int 0) (ty := .int) (C := RM) (T := TM) (N := 29) hx hb hts inM_ tyM tyM_ok nmM hown hK hP hD hS 0 rfl hcl 0 (by decide) f70 (fun _ h9 => h9) rfl (by decide +kernel) rfl rfl (Nat.le_of_ble_eq_true rfl) dM_undominated_2 (fun H locs hP hD hS => ?_)
  rw [mW_f0] at hP hD
  refine lv_aload_n hx hb dM_undominated_5 rfl (lv_at hl 0 rfl) ?_
  refine ww_callV (r := none) (w' := mW a ba ka (upd (upd F 0 0) 26 ((mr_M_know (F 26) (G 6) (G 7) (G 8) (G 9) (G 10) (G 11) (G 12) (G 13) (G 14) (G 15) (G 16) (G 17) (G 18) (G 19) (G 27) (G 28) nC nT nR nD).1)) (va_up (va_up (va_up G 19 ((mr_M_know (F 26) (G 6) (G 7) (G 8) (G 9) (G 10) (G 11) (G 12) (G 13) (G 14) (G 15) (G 16) (G 17) (G 18) (G 19) (G 27) (G 28) nC nT nR nD).2.1)) 27 ((mr_M_know (F 26) (G 6) (G 7) (G 8) (G 9) (G 10) (G 11) (G 12) (G 13) (G 14) (G 15) (G 16) (G 17) (G 18) (G 19) (G 27) (G 28) nC nT nR nD).2.2.1)) 28 ((mr_M_know (F 26) (G 6) (G 7) (G 8) (G 9) (G 10) (G 11) (G 12) (G 13) (G 14) (G 15) (G 16) (G 17) (G 18) (G 19) (G 27) (G 28) nC nT nR nD).2.2.2))) (As := []) (rest := []) Sx (c_M_know l D cl hcl a ba ka (upd F 0 0) G hP (hD.weaken (fun _ _ _ _ => trivial)) nC nT nR nD h2 hC h3 hT h4 hR h5 hN h6 h8 h10 h13 h15) (cwV 0 hts gM_undominated_M_know rfl rfl rfl (by decide +kernel) ⟨Nat.le_of_ble_eq_true rfl, Nat.le_of_ble_eq_true rfl⟩) hK (va_recv hK hP (ci := 0) (q0 := 0) hcl rfl) rfl hl.1 rfl (Nat.le_of_ble_eq_true rfl) dM_undominated_6 ⟨Nat.zero_le _, Nat.zero_le _⟩ hD hS hA (fun H locs hP hD hS => ?_)
  refine lv_iconst (v := 0) hx hb dM_undominated_9 (by decide) ?_
  refine lv_istore_n (lv' := [(1, .int 0), (0, .ref a)]) hx hb dM_undominated_10 rfl hl (by decide) rfl (fun ls hl => ?_)
  refine lv_iconst (v := 0) hx hb dM_undominated_11 (by decide) ?_
  refine lv_istore_n (lv' := [(2, .int 0), (1, .int 0), (0, .ref a)]) hx hb dM_undominated_12 rfl hl (by decide) rfl (fun ls hl => ?_)
  have loop13 : ∀ (N13 k13 : Nat), k13 ≤ nD → nD - k13 < N13 → ∀ (H : Heap) (locs : List Loc), va_P D cl (mW a ba ka (upd (upd F 0 0) 26 ((mr_M_know (F 26) (G 6) (G 7) (G 8) (G 9) (G 10) (G 11) (G 12) (G 13) (G 14) (G 15) (G 16) (G 17) (G 18) (G 19) (G 27) (G 28) nC nT nR nD).1)) (va_up (va_up (va_up G 19 ((mr_M_know (F 26) (G 6) (G 7) (G 8) (G 9) (G 10) (G 11) (G 12) (G 13) (G 14) (G 15) (G 16) (G 17) (G 18) (G 19) (G 27) (G 28) nC nT nR nD).2.1)) 27 ((mr_M_know (F 26) (G 6) (G 7) (G 8) (G 9) (G 10) (G 11) (G 12) (G 13) (G 14) (G 15) (G 16) (G 17) (G 18) (G 19) (G 27) (G 28) nC nT nR nD).2.2.1)) 28 ((mr_M_know (F 26) (G 6) (G 7) (G 8) (G 9) (G 10) (G 11) (G 12) (G 13) (G 14) (G 15) (G 16) (G 17) (G 18) (G 19) (G 27) (G 28) nC nT nR nD).2.2.2))) H → va_D A (mW a ba ka (upd (upd F 0 0) 26 ((mr_M_know (F 26) (G 6) (G 7) (G 8) (G 9) (G 10) (G 11) (G 12) (G 13) (G 14) (G 15) (G 16) (G 17) (G 18) (G 19) (G 27) (G 28) nC nT nR nD).1)) (va_up (va_up (va_up G 19 ((mr_M_know (F 26) (G 6) (G 7) (G 8) (G 9) (G 10) (G 11) (G 12) (G 13) (G 14) (G 15) (G 16) (G 17) (G 18) (G 19) (G 27) (G 28) nC nT nR nD).2.1)) 27 ((mr_M_know (F 26) (G 6) (G 7) (G 8) (G 9) (G 10) (G 11) (G 12) (G 13) (G 14) (G 15) (G 16) (G 17) (G 18) (G 19) (G 27) (G 28) nC nT nR nD).2.2.1)) 28 ((mr_M_know (F 26) (G 6) (G 7) (G 8) (G 9) (G 10) (G 11) (G 12) (G 13) (G 14) (G 15) (G 16) (G 17) (G 18) (G 19) (G 27) (G 28) nC nT nR nD).2.2.2))) → va_S A H0 H locs → ∀ (ls : Array Slot), lv_has ls 3 [(2, .int (nI k13)), (1, .int (lf_M_undominated_13 nC nT nR nD ((mr_M_know (F 26) (G 6) (G 7) (G 8) (G 9) (G 10) (G 11) (G 12) (G 13) (G 14) (G 15) (G 16) (G 17) (G 18) (G 19) (G 27) (G 28) nC nT nR nD).2.2.1) ((mr_M_know (F 26) (G 6) (G 7) (G 8) (G 9) (G 10) (G 11) (G 12) (G 13) (G 14) (G 15) (G 16) (G 17) (G 18) (G 19) (G 27) (G 28) nC nT nR nD).2.2.2) 0 k13)), (0, .ref a)] → W p l e ({ frames := 4, cells := 0, slots := 0, locals := 92 } : Room) s m args below meth c H locs 0 0 Q (F0 m 13 ls []) := by
    intro N13
    induction N13 with
    | zero => intro k13 hk13 hm13; exact absurd hm13 (Nat.not_lt_zero _)
    | succ N13 ih13 =>
      intro k13 hk13 hm13  H locs hP hD hS ls hl
      refine lv_iload_n hx hb dM_undominated_13 rfl (lv_at hl 0 rfl) ?_
      refine lv_aload_n hx hb dM_undominated_14 rfl (lv_at hl 2 rfl) ?_
      refine va_get (D := D) (ci := 0) (v := .int (F 5)) (C := RM) (T := TM) (N := 29) hx hb hts inM_ hown hK hP 0 rfl hcl 5 (by decide) f7 (fun _ h9 => h9) rfl dM_undominated_15 ?_
      refine wt_i h5 ?_
      refine lv_icmp_ge (tgt := 43) hx hb dM_undominated_18 (by decide) (fun c18 => ?_) (fun c18 => ?_)
      · have n18 : nD ≤ k13 := (nI_leI (a := nD) (b := k13) (by omega) (by omega)).mp c18
        have hx13 : nD = k13 := by omega
        subst hx13
        refine lv_iload_n hx hb dM_undominated_43 rfl (lv_at hl 1 rfl) ?_
        have em : mr_M_undominated (F 26) (G 6) (G 7) (G 8) (G 9) (G 10) (G 11) (G 12) (G 13) (G 14) (G 15) (G 16) (G 17) (G 18) (G 19) (G 27) (G 28) nC nT nR nD = (lf_M_undominated_13 nC nT nR nD ((mr_M_know (F 26) (G 6) (G 7) (G 8) (G 9) (G 10) (G 11) (G 12) (G 13) (G 14) (G 15) (G 16) (G 17) (G 18) (G 19) (G 27) (G 28) nC nT nR nD).2.2.1) ((mr_M_know (F 26) (G 6) (G 7) (G 8) (G 9) (G 10) (G 11) (G 12) (G 13) (G 14) (G 15) (G 16) (G 17) (G 18) (G 19) (G 27) (G 28) nC nT nR nD).2.2.2) 0 nD, 0, (mr_M_know (F 26) (G 6) (G 7) (G 8) (G 9) (G 10) (G 11) (G 12) (G 13) (G 14) (G 15) (G 16) (G 17) (G 18) (G 19) (G 27) (G 28) nC nT nR nD).1, (mr_M_know (F 26) (G 6) (G 7) (G 8) (G 9) (G 10) (G 11) (G 12) (G 13) (G 14) (G 15) (G 16) (G 17) (G 18) (G 19) (G 27) (G 28) nC nT nR nD).2.1, (mr_M_know (F 26) (G 6) (G 7) (G 8) (G 9) (G 10) (G 11) (G 12) (G 13) (G 14) (G 15) (G 16) (G 17) (G 18) (G 19) (G 27) (G 28) nC nT nR nD).2.2.1, (mr_M_know (F 26) (G 6) (G 7) (G 8) (G 9) (G 10) (G 11) (G 12) (G 13) (G 14) (G 15) (G 16) (G 17) (G 18) (G 19) (G 27) (G 28) nC nT nR nD).2.2.2) := by rw [mr_M_undominated]
        exact hret _ _ _ _ _ _ (by simp only [em]) (by simp only [em]) hP hD hS dM_undominated_44
      · have n18 : ¬ nD ≤ k13 := fun h9 => c18 ((nI_leI (a := nD) (b := k13) (by omega) (by omega)).mpr h9)
        refine lv_iload_n hx hb dM_undominated_21 rfl (lv_at hl 1 rfl) ?_
        refine lv_aload_n hx hb dM_undominated_22 rfl (lv_at hl 2 rfl) ?_
        refine lv_iload_n hx hb dM_undominated_23 rfl (lv_at hl 0 rfl) ?_
        refine ro_callV (r := (.int (mr_M_isUndominated ((mr_M_know (F 26) (G 6) (G 7) (G 8) (G 9) (G 10) (G 11) (G 12) (G 13) (G 14) (G 15) (G 16) (G 17) (G 18) (G 19) (G 27) (G 28) nC nT nR nD).2.2.1) ((mr_M_know (F 26) (G 6) (G 7) (G 8) (G 9) (G 10) (G 11) (G 12) (G 13) (G 14) (G 15) (G 16) (G 17) (G 18) (G 19) (G 27) (G 28) nC nT nR nD).2.2.2) nD k13))) (As := [.int (nI k13)]) (rest := [.int (lf_M_undominated_13 nC nT nR nD ((mr_M_know (F 26) (G 6) (G 7) (G 8) (G 9) (G 10) (G 11) (G 12) (G 13) (G 14) (G 15) (G 16) (G 17) (G 18) (G 19) (G 27) (G 28) nC nT nR nD).2.2.1) ((mr_M_know (F 26) (G 6) (G 7) (G 8) (G 9) (G 10) (G 11) (G 12) (G 13) (G 14) (G 15) (G 16) (G 17) (G 18) (G 19) (G 27) (G 28) nC nT nR nD).2.2.2) 0 k13)]) Sx (c_M_isUndominated l D cl hcl a ba ka (upd (upd F 0 0) 26 ((mr_M_know (F 26) (G 6) (G 7) (G 8) (G 9) (G 10) (G 11) (G 12) (G 13) (G 14) (G 15) (G 16) (G 17) (G 18) (G 19) (G 27) (G 28) nC nT nR nD).1)) (va_up (va_up (va_up G 19 ((mr_M_know (F 26) (G 6) (G 7) (G 8) (G 9) (G 10) (G 11) (G 12) (G 13) (G 14) (G 15) (G 16) (G 17) (G 18) (G 19) (G 27) (G 28) nC nT nR nD).2.1)) 27 ((mr_M_know (F 26) (G 6) (G 7) (G 8) (G 9) (G 10) (G 11) (G 12) (G 13) (G 14) (G 15) (G 16) (G 17) (G 18) (G 19) (G 27) (G 28) nC nT nR nD).2.2.1)) 28 ((mr_M_know (F 26) (G 6) (G 7) (G 8) (G 9) (G 10) (G 11) (G 12) (G 13) (G 14) (G 15) (G 16) (G 17) (G 18) (G 19) (G 27) (G 28) nC nT nR nD).2.2.2)) hP nD k13 h5 hN (by omega)) (cwV 1 hts gM_undominated_M_isUndominated rfl rfl rfl (by decide +kernel) ⟨Nat.le_of_ble_eq_true rfl, Nat.le_of_ble_eq_true rfl⟩) hK (va_recv hK hP (ci := 0) (q0 := 0) hcl rfl) rfl hl.1 rfl (Nat.le_of_ble_eq_true rfl) dM_undominated_24 ⟨Nat.zero_le _, Nat.zero_le _⟩ ?_
        have j35 : ∀ (ls : Array Slot), lv_has ls 3 [(2, .int (nI k13)), (1, .int (lf_M_undominated_13 nC nT nR nD ((mr_M_know (F 26) (G 6) (G 7) (G 8) (G 9) (G 10) (G 11) (G 12) (G 13) (G 14) (G 15) (G 16) (G 17) (G 18) (G 19) (G 27) (G 28) nC nT nR nD).2.2.1) ((mr_M_know (F 26) (G 6) (G 7) (G 8) (G 9) (G 10) (G 11) (G 12) (G 13) (G 14) (G 15) (G 16) (G 17) (G 18) (G 19) (G 27) (G 28) nC nT nR nD).2.2.2) 0 k13)), (0, .ref a)] → W p l e ({ frames := 4, cells := 0, slots := 0, locals := 92 } : Room) s m args below meth c H locs 0 0 Q (F0 m 35 ls [.int ((if (mr_M_isUndominated ((mr_M_know (F 26) (G 6) (G 7) (G 8) (G 9) (G 10) (G 11) (G 12) (G 13) (G 14) (G 15) (G 16) (G 17) (G 18) (G 19) (G 27) (G 28) nC nT nR nD).2.2.1) ((mr_M_know (F 26) (G 6) (G 7) (G 8) (G 9) (G 10) (G 11) (G 12) (G 13) (G 14) (G 15) (G 16) (G 17) (G 18) (G 19) (G 27) (G 28) nC nT nR nD).2.2.2) nD k13) = 0 then 0 else 1) : Int32), .int (lf_M_undominated_13 nC nT nR nD ((mr_M_know (F 26) (G 6) (G 7) (G 8) (G 9) (G 10) (G 11) (G 12) (G 13) (G 14) (G 15) (G 16) (G 17) (G 18) (G 19) (G 27) (G 28) nC nT nR nD).2.2.1) ((mr_M_know (F 26) (G 6) (G 7) (G 8) (G 9) (G 10) (G 11) (G 12) (G 13) (G 14) (G 15) (G 16) (G 17) (G 18) (G 19) (G 27) (G 28) nC nT nR nD).2.2.2) 0 k13)]) := by
          intro ls hl
          refine lv_iadd hx hb dM_undominated_35 ?_
          refine lv_istore_n (lv' := [(1, .int ((lf_M_undominated_13 nC nT nR nD ((mr_M_know (F 26) (G 6) (G 7) (G 8) (G 9) (G 10) (G 11) (G 12) (G 13) (G 14) (G 15) (G 16) (G 17) (G 18) (G 19) (G 27) (G 28) nC nT nR nD).2.2.1) ((mr_M_know (F 26) (G 6) (G 7) (G 8) (G 9) (G 10) (G 11) (G 12) (G 13) (G 14) (G 15) (G 16) (G 17) (G 18) (G 19) (G 27) (G 28) nC nT nR nD).2.2.2) 0 k13) + ((if (mr_M_isUndominated ((mr_M_know (F 26) (G 6) (G 7) (G 8) (G 9) (G 10) (G 11) (G 12) (G 13) (G 14) (G 15) (G 16) (G 17) (G 18) (G 19) (G 27) (G 28) nC nT nR nD).2.2.1) ((mr_M_know (F 26) (G 6) (G 7) (G 8) (G 9) (G 10) (G 11) (G 12) (G 13) (G 14) (G 15) (G 16) (G 17) (G 18) (G 19) (G 27) (G 28) nC nT nR nD).2.2.2) nD k13) = 0 then 0 else 1) : Int32))), (2, .int (nI k13)), (0, .ref a)]) hx hb dM_undominated_36 rfl hl (by decide) rfl (fun ls hl => ?_)
          refine lv_iinc (v := nI (k13 + 1)) (lv' := [(2, .int (nI (k13 + 1))), (1, .int ((lf_M_undominated_13 nC nT nR nD ((mr_M_know (F 26) (G 6) (G 7) (G 8) (G 9) (G 10) (G 11) (G 12) (G 13) (G 14) (G 15) (G 16) (G 17) (G 18) (G 19) (G 27) (G 28) nC nT nR nD).2.2.1) ((mr_M_know (F 26) (G 6) (G 7) (G 8) (G 9) (G 10) (G 11) (G 12) (G 13) (G 14) (G 15) (G 16) (G 17) (G 18) (G 19) (G 27) (G 28) nC nT nR nD).2.2.2) 0 k13) + ((if (mr_M_isUndominated ((mr_M_know (F 26) (G 6) (G 7) (G 8) (G 9) (G 10) (G 11) (G 12) (G 13) (G 14) (G 15) (G 16) (G 17) (G 18) (G 19) (G 27) (G 28) nC nT nR nD).2.2.1) ((mr_M_know (F 26) (G 6) (G 7) (G 8) (G 9) (G 10) (G 11) (G 12) (G 13) (G 14) (G 15) (G 16) (G 17) (G 18) (G 19) (G 27) (G 28) nC nT nR nD).2.2.2) nD k13) = 0 then 0 else 1) : Int32))), (0, .ref a)]) hx hb dM_undominated_37 hl (k := 1) rfl (by exact ii_1 k13) (by decide) rfl (fun ls hl => ?_)
          refine lv_goto (tgt := 13) hx hb dM_undominated_40 (by decide) ?_
          have eb13 : lf_M_undominated_13 nC nT nR nD ((mr_M_know (F 26) (G 6) (G 7) (G 8) (G 9) (G 10) (G 11) (G 12) (G 13) (G 14) (G 15) (G 16) (G 17) (G 18) (G 19) (G 27) (G 28) nC nT nR nD).2.2.1) ((mr_M_know (F 26) (G 6) (G 7) (G 8) (G 9) (G 10) (G 11) (G 12) (G 13) (G 14) (G 15) (G 16) (G 17) (G 18) (G 19) (G 27) (G 28) nC nT nR nD).2.2.2) 0 (k13 + 1) = (lf_M_undominated_13 nC nT nR nD ((mr_M_know (F 26) (G 6) (G 7) (G 8) (G 9) (G 10) (G 11) (G 12) (G 13) (G 14) (G 15) (G 16) (G 17) (G 18) (G 19) (G 27) (G 28) nC nT nR nD).2.2.1) ((mr_M_know (F 26) (G 6) (G 7) (G 8) (G 9) (G 10) (G 11) (G 12) (G 13) (G 14) (G 15) (G 16) (G 17) (G 18) (G 19) (G 27) (G 28) nC nT nR nD).2.2.2) 0 k13) + ((if (mr_M_isUndominated ((mr_M_know (F 26) (G 6) (G 7) (G 8) (G 9) (G 10) (G 11) (G 12) (G 13) (G 14) (G 15) (G 16) (G 17) (G 18) (G 19) (G 27) (G 28) nC nT nR nD).2.2.1) ((mr_M_know (F 26) (G 6) (G 7) (G 8) (G 9) (G 10) (G 11) (G 12) (G 13) (G 14) (G 15) (G 16) (G 17) (G 18) (G 19) (G 27) (G 28) nC nT nR nD).2.2.2) nD k13) = 0 then 0 else 1) : Int32) := by rw [lf_M_undominated_13]
          exact ih13 (k13 + 1) (by omega) (by omega)  H locs (by exact hP) (by exact hD) hS ls (by rw [eb13]; exact lv_sub hl [0, 1, 2] rfl)
        refine lv_if_eq (tgt := 34) hx hb dM_undominated_27 (by decide) (fun c27 => ?_) (fun c27 => ?_)
        · refine lv_iconst (v := 0) hx hb dM_undominated_34 (by decide) ?_
          exact wt_i (by rw [if_pos c27]) (j35 ls hl)
        · refine lv_iconst (v := 1) hx hb dM_undominated_30 (by decide) ?_
          refine lv_goto (tgt := 35) hx hb dM_undominated_31 (by decide) ?_
          exact wt_i (by rw [if_neg c27]) (j35 ls hl)
  exact loop13 _ 0 (Nat.zero_le _) (Nat.lt_succ_self _)  H locs hP hD hS ls (lv_sub hl [0, 1, 2] rfl)
def lf_M_at_13 (f0 : Int32) (f26 : Int32) (g19 : Nat → Int32) (g27 : Nat → Int32) (g28 : Nat → Int32) (nC : Nat) (nT : Nat) (nR : Nat) (nD : Nat) (kk : Int32) (qf26_13 : Int32) (qg19_13 : Nat → Int32) (qg27_13 : Nat → Int32) (qg28_13 : Nat → Int32) : Nat → Int32 → Nat → (Int32 × Int32 × Int32 × (Nat → Int32) × (Nat → Int32) × (Nat → Int32))
  | 0, q, y => (0, f0, f26, g19, g27, g28)
  | N + 1, q, y => (if (nI nD) ≤ (nI y) then ((mr_M_fail 1).1, (mr_M_fail 1).2, qf26_13, qg19_13, qg27_13, qg28_13) else (if kk < 0 then ((mr_M_fail 1).1, (mr_M_fail 1).2, qf26_13, qg19_13, qg27_13, qg28_13) else (if (mr_M_isUndominated qg27_13 qg28_13 nD y) = 0 then lf_M_at_13 f0 f26 g19 g27 g28 nC nT nR nD kk qf26_13 qg19_13 qg27_13 qg28_13 N q (y + 1) else (if q = kk then (nI y, 0, qf26_13, qg19_13, qg27_13, qg28_13) else lf_M_at_13 f0 f26 g19 g27 g28 nC nT nR nD kk qf26_13 qg19_13 qg27_13 qg28_13 N (q + 1) (y + 1)))))
def mr_M_at (f0 : Int32) (f26 : Int32) (g6 : Nat → Int32) (g7 : Nat → Int32) (g8 : Nat → Int32) (g9 : Nat → Int32) (g10 : Nat → Int32) (g11 : Nat → Int32) (g12 : Nat → Int32) (g13 : Nat → Int32) (g14 : Nat → Int32) (g15 : Nat → Int32) (g16 : Nat → Int32) (g17 : Nat → Int32) (g18 : Nat → Int32) (g19 : Nat → Int32) (g27 : Nat → Int32) (g28 : Nat → Int32) (nC : Nat) (nT : Nat) (nR : Nat) (nD : Nat) (kk : Int32) : Int32 × Int32 × Int32 × (Nat → Int32) × (Nat → Int32) × (Nat → Int32) := lf_M_at_13 f0 f26 g19 g27 g28 nC nT nR nD kk ((mr_M_know f26 g6 g7 g8 g9 g10 g11 g12 g13 g14 g15 g16 g17 g18 g19 g27 g28 nC nT nR nD).1) ((mr_M_know f26 g6 g7 g8 g9 g10 g11 g12 g13 g14 g15 g16 g17 g18 g19 g27 g28 nC nT nR nD).2.1) ((mr_M_know f26 g6 g7 g8 g9 g10 g11 g12 g13 g14 g15 g16 g17 g18 g19 g27 g28 nC nT nR nD).2.2.1) ((mr_M_know f26 g6 g7 g8 g9 g10 g11 g12 g13 g14 g15 g16 g17 g18 g19 g27 g28 nC nT nR nD).2.2.2) (nD + 1) 0 0
set_option maxHeartbeats 4000000 in
set_option maxRecDepth 100000 in
theorem c_M_at (l : Launch) (D : va_G) (cl : List vw_C) (hcl : cl[0]? = some (RM, TM, 29)) (a : Nat) (ba : Nat → Nat) (ka : Nat → ClassId) (F : Nat → Int32) (G : Nat → Nat → Int32) {H0 : Heap} (hP : va_P D cl (mW a ba ka F G) H0) (hD : va_D (fun _ => True) (mW a ba ka F G)) (nC : Nat) (nT : Nat) (nR : Nat) (nD : Nat) (kk : Int32) (h2 : F 2 = nI nC) (hC : nC ≤ 8) (h3 : F 3 = nI nT) (hT : nT ≤ 100) (h4 : F 4 = nI nR) (hR : nR ≤ 40) (h5 : F 5 = nI nD) (hN : nD ≤ 4096) (h6 : ∀ c, c < nC → ∃ z : Nat, G 6 c = nI z ∧ 2 ≤ z ∧ z ≤ 6) (h8 : ∀ t, t < nT → ∃ x : Nat, x < nC ∧ G 8 t = nI x) (h10 : ∀ t, t < nT → G 10 t = -1 ∨ ∃ x : Nat, x < nC ∧ G 10 t = nI x) (h13 : ∀ j, j < nR → ∃ x : Nat, x < nC ∧ G 13 j = nI x) (h15 : ∀ j, j < nR → ∃ x : Nat, x < nC ∧ G 15 j = nI x) : ww_Met l yM_at wsM_at ({ frames := 4, cells := 0, slots := 0, locals := 92 } : Room) D cl (mT ka) H0 [.ref a, .int kk] (mW a ba ka F G) (some (.int ((mr_M_at (F 0) (F 26) (G 6) (G 7) (G 8) (G 9) (G 10) (G 11) (G 12) (G 13) (G 14) (G 15) (G 16) (G 17) (G 18) (G 19) (G 27) (G 28) nC nT nR nD kk).1))) (mW a ba ka (upd (upd F 0 ((mr_M_at (F 0) (F 26) (G 6) (G 7) (G 8) (G 9) (G 10) (G 11) (G 12) (G 13) (G 14) (G 15) (G 16) (G 17) (G 18) (G 19) (G 27) (G 28) nC nT nR nD kk).2.1)) 26 ((mr_M_at (F 0) (F 26) (G 6) (G 7) (G 8) (G 9) (G 10) (G 11) (G 12) (G 13) (G 14) (G 15) (G 16) (G 17) (G 18) (G 19) (G 27) (G 28) nC nT nR nD kk).2.2.1)) (va_up (va_up (va_up G 19 ((mr_M_at (F 0) (F 26) (G 6) (G 7) (G 8) (G 9) (G 10) (G 11) (G 12) (G 13) (G 14) (G 15) (G 16) (G 17) (G 18) (G 19) (G 27) (G 28) nC nT nR nD kk).2.2.2.1)) 27 ((mr_M_at (F 0) (F 26) (G 6) (G 7) (G 8) (G 9) (G 10) (G 11) (G 12) (G 13) (G 14) (G 15) (G 16) (G 17) (G 18) (G 19) (G 27) (G 28) nC nT nR nD kk).2.2.2.2.1)) 28 ((mr_M_at (F 0) (F 26) (G 6) (G 7) (G 8) (G 9) (G 10) (G 11) (G 12) (G 13) (G 14) (G 15) (G 16) (G 17) (G 18) (G 19) (G 27) (G 28) nC nT nR nD kk).2.2.2.2.2))) := by
  refine ww_metI (by decide) rfl (Nat.le_of_ble_eq_true rfl) hP hD ?_
  intro p e s m args below meth c Q A Sx hK hP hD hS hA ls hl hret
  obtain ⟨hx, hb, hml, hown, hts⟩ := id Sx
  have hl : lv_has ls 4 [(0, .ref a), (1, .int kk)] := hl
  obtain ⟨H, eH⟩ : ∃ H : Heap, H = H0 := ⟨_, rfl⟩
  obtain ⟨locs, eL⟩ : ∃ L : List Loc, L = [] := ⟨_, rfl⟩
  have hP : va_P D cl (mW a ba ka F G) H := by rw [eH]; exact hP
  have hS : va_S A H0 H locs := by rw [eH, eL]; exact hS
  rw [show W p l e ({ frames := 4, cells := 0, slots := 0, locals := 92 } : Room) s m args below meth c H0 [] 0 0 Q (F0 m 0 ls []) = W p l e ({ frames := 4, cells := 0, slots := 0, locals := 92 } : Room) s m args below meth c H locs 0 0 Q (F0 m 0 ls []) by rw [eH, eL]]
  clear eH eL
  have f70 := hts _ (List.mem_cons_of_mem _ mfM_70)
  have inM_ : ∀ w ∈ wsM0, w ∈ wsM_at := fun w h => List.mem_cons_of_mem _ (inM_all w h)
  have f7 := hts _ (List.mem_cons_of_mem _ mfM_7)
  refine lv_aload_n hx hb dM_at_0 rfl (lv_at hl 0 rfl) ?_
  refine lv_iconst (v := 0) hx hb dM_at_1 (by decide) ?_
  refine va_put (D := D) (ci := 0) (fs := mWl0 ba F) (v := .int 0) (ty := .int) (C := RM) (T := TM) (N := 29) hx hb hts inM_ tyM tyM_ok nmM hown hK hP hD hS 0 rfl hcl 0 (by decide) f70 (fun _ h9 => h9) rfl (by decide +kernel) rfl rfl (Nat.le_of_ble_eq_true rfl) dM_at_2 (fun H locs hP hD hS => ?_)
  rw [mW_f0] at hP hD
  refine lv_aload_n hx hb dM_at_5 rfl (lv_at hl 0 rfl) ?_
  refine ww_callV (r := none) (w' := mW a ba ka (upd (upd F 0 0) 26 ((mr_M_know (F 26) (G 6) (G 7) (G 8) (G 9) (G 10) (G 11) (G 12) (G 13) (G 14) (G 15) (G 16) (G 17) (G 18) (G 19) (G 27) (G 28) nC nT nR nD).1)) (va_up (va_up (va_up G 19 ((mr_M_know (F 26) (G 6) (G 7) (G 8) (G 9) (G 10) (G 11) (G 12) (G 13) (G 14) (G 15) (G 16) (G 17) (G 18) (G 19) (G 27) (G 28) nC nT nR nD).2.1)) 27 ((mr_M_know (F 26) (G 6) (G 7) (G 8) (G 9) (G 10) (G 11) (G 12) (G 13) (G 14) (G 15) (G 16) (G 17) (G 18) (G 19) (G 27) (G 28) nC nT nR nD).2.2.1)) 28 ((mr_M_know (F 26) (G 6) (G 7) (G 8) (G 9) (G 10) (G 11) (G 12) (G 13) (G 14) (G 15) (G 16) (G 17) (G 18) (G 19) (G 27) (G 28) nC nT nR nD).2.2.2))) (As := []) (rest := []) Sx (c_M_know l D cl hcl a ba ka (upd F 0 0) G hP (hD.weaken (fun _ _ _ _ => trivial)) nC nT nR nD h2 hC h3 hT h4 hR h5 hN h6 h8 h10 h13 h15) (cwV 0 hts gM_at_M_know rfl rfl rfl (by decide +kernel) ⟨Nat.le_of_ble_eq_true rfl, Nat.le_of_ble_eq_true rfl⟩) hK (va_recv hK hP (ci := 0) (q0 := 0) hcl rfl) rfl hl.1 rfl (Nat.le_of_ble_eq_true rfl) dM_at_6 ⟨Nat.zero_le _, Nat.zero_le _⟩ hD hS hA (fun H locs hP hD hS => ?_)
  refine lv_iconst (v := 0) hx hb dM_at_9 (by decide) ?_
  refine lv_istore_n (lv' := [(2, .int 0), (0, .ref a), (1, .int kk)]) hx hb dM_at_10 rfl hl (by decide) rfl (fun ls hl => ?_)
  refine lv_iconst (v := 0) hx hb dM_at_11 (by decide) ?_
  refine lv_istore_n (lv' := [(3, .int 0), (2, .int 0), (0, .ref a), (1, .int kk)]) hx hb dM_at_12 rfl hl (by decide) rfl (fun ls hl => ?_)
  have loop13 : ∀ (N13 : Nat) (q : Int32) (y : Nat), y ≤ nD → nD - y < N13 → lf_M_at_13 (F 0) (F 26) (G 19) (G 27) (G 28) nC nT nR nD kk ((mr_M_know (F 26) (G 6) (G 7) (G 8) (G 9) (G 10) (G 11) (G 12) (G 13) (G 14) (G 15) (G 16) (G 17) (G 18) (G 19) (G 27) (G 28) nC nT nR nD).1) ((mr_M_know (F 26) (G 6) (G 7) (G 8) (G 9) (G 10) (G 11) (G 12) (G 13) (G 14) (G 15) (G 16) (G 17) (G 18) (G 19) (G 27) (G 28) nC nT nR nD).2.1) ((mr_M_know (F 26) (G 6) (G 7) (G 8) (G 9) (G 10) (G 11) (G 12) (G 13) (G 14) (G 15) (G 16) (G 17) (G 18) (G 19) (G 27) (G 28) nC nT nR nD).2.2.1) ((mr_M_know (F 26) (G 6) (G 7) (G 8) (G 9) (G 10) (G 11) (G 12) (G 13) (G 14) (G 15) (G 16) (G 17) (G 18) (G 19) (G 27) (G 28) nC nT nR nD).2.2.2) (nD + 1) 0 0 = lf_M_at_13 (F 0) (F 26) (G 19) (G 27) (G 28) nC nT nR nD kk ((mr_M_know (F 26) (G 6) (G 7) (G 8) (G 9) (G 10) (G 11) (G 12) (G 13) (G 14) (G 15) (G 16) (G 17) (G 18) (G 19) (G 27) (G 28) nC nT nR nD).1) ((mr_M_know (F 26) (G 6) (G 7) (G 8) (G 9) (G 10) (G 11) (G 12) (G 13) (G 14) (G 15) (G 16) (G 17) (G 18) (G 19) (G 27) (G 28) nC nT nR nD).2.1) ((mr_M_know (F 26) (G 6) (G 7) (G 8) (G 9) (G 10) (G 11) (G 12) (G 13) (G 14) (G 15) (G 16) (G 17) (G 18) (G 19) (G 27) (G 28) nC nT nR nD).2.2.1) ((mr_M_know (F 26) (G 6) (G 7) (G 8) (G 9) (G 10) (G 11) (G 12) (G 13) (G 14) (G 15) (G 16) (G 17) (G 18) (G 19) (G 27) (G 28) nC nT nR nD).2.2.2) N13 q y → ∀ (H : Heap) (locs : List Loc), va_P D cl (mW a ba ka (upd (upd F 0 0) 26 ((mr_M_know (F 26) (G 6) (G 7) (G 8) (G 9) (G 10) (G 11) (G 12) (G 13) (G 14) (G 15) (G 16) (G 17) (G 18) (G 19) (G 27) (G 28) nC nT nR nD).1)) (va_up (va_up (va_up G 19 ((mr_M_know (F 26) (G 6) (G 7) (G 8) (G 9) (G 10) (G 11) (G 12) (G 13) (G 14) (G 15) (G 16) (G 17) (G 18) (G 19) (G 27) (G 28) nC nT nR nD).2.1)) 27 ((mr_M_know (F 26) (G 6) (G 7) (G 8) (G 9) (G 10) (G 11) (G 12) (G 13) (G 14) (G 15) (G 16) (G 17) (G 18) (G 19) (G 27) (G 28) nC nT nR nD).2.2.1)) 28 ((mr_M_know (F 26) (G 6) (G 7) (G 8) (G 9) (G 10) (G 11) (G 12) (G 13) (G 14) (G 15) (G 16) (G 17) (G 18) (G 19) (G 27) (G 28) nC nT nR nD).2.2.2))) H → va_D A (mW a ba ka (upd (upd F 0 0) 26 ((mr_M_know (F 26) (G 6) (G 7) (G 8) (G 9) (G 10) (G 11) (G 12) (G 13) (G 14) (G 15) (G 16) (G 17) (G 18) (G 19) (G 27) (G 28) nC nT nR nD).1)) (va_up (va_up (va_up G 19 ((mr_M_know (F 26) (G 6) (G 7) (G 8) (G 9) (G 10) (G 11) (G 12) (G 13) (G 14) (G 15) (G 16) (G 17) (G 18) (G 19) (G 27) (G 28) nC nT nR nD).2.1)) 27 ((mr_M_know (F 26) (G 6) (G 7) (G 8) (G 9) (G 10) (G 11) (G 12) (G 13) (G 14) (G 15) (G 16) (G 17) (G 18) (G 19) (G 27) (G 28) nC nT nR nD).2.2.1)) 28 ((mr_M_know (F 26) (G 6) (G 7) (G 8) (G 9) (G 10) (G 11) (G 12) (G 13) (G 14) (G 15) (G 16) (G 17) (G 18) (G 19) (G 27) (G 28) nC nT nR nD).2.2.2))) → va_S A H0 H locs → ∀ (ls : Array Slot), lv_has ls 4 [(3, .int (nI y)), (2, .int q), (0, .ref a), (1, .int kk)] → W p l e ({ frames := 4, cells := 0, slots := 0, locals := 92 } : Room) s m args below meth c H locs 0 0 Q (F0 m 13 ls []) := by
    intro N13
    induction N13 with
    | zero => intro q y hy hm13; exact absurd hm13 (Nat.not_lt_zero _)
    | succ N13 ih13 =>
      intro q y hy hm13 hR13 H locs hP hD hS ls hl
      refine lv_iload_n hx hb dM_at_13 rfl (lv_at hl 0 rfl) ?_
      refine lv_aload_n hx hb dM_at_14 rfl (lv_at hl 2 rfl) ?_
      refine va_get (D := D) (ci := 0) (v := .int (F 5)) (C := RM) (T := TM) (N := 29) hx hb hts inM_ hown hK hP 0 rfl hcl 5 (by decide) f7 (fun _ h9 => h9) rfl dM_at_15 ?_
      refine wt_i h5 ?_
      refine lv_icmp_ge (tgt := 49) hx hb dM_at_18 (by decide) (fun c18 => ?_) (fun c18 => ?_)
      · have n18 : nD ≤ y := (nI_leI (a := nD) (b := y) (by omega) (by omega)).mp c18
        refine lv_aload_n hx hb dM_at_49 rfl (lv_at hl 2 rfl) ?_
        refine lv_iconst (v := 1) hx hb dM_at_50 (by decide) ?_
        refine ww_callV (r := (some (.int ((mr_M_fail 1).1)))) (w' := mW a ba ka (upd (upd (upd F 0 0) 26 ((mr_M_know (F 26) (G 6) (G 7) (G 8) (G 9) (G 10) (G 11) (G 12) (G 13) (G 14) (G 15) (G 16) (G 17) (G 18) (G 19) (G 27) (G 28) nC nT nR nD).1)) 0 ((mr_M_fail 1).2)) (va_up (va_up (va_up G 19 ((mr_M_know (F 26) (G 6) (G 7) (G 8) (G 9) (G 10) (G 11) (G 12) (G 13) (G 14) (G 15) (G 16) (G 17) (G 18) (G 19) (G 27) (G 28) nC nT nR nD).2.1)) 27 ((mr_M_know (F 26) (G 6) (G 7) (G 8) (G 9) (G 10) (G 11) (G 12) (G 13) (G 14) (G 15) (G 16) (G 17) (G 18) (G 19) (G 27) (G 28) nC nT nR nD).2.2.1)) 28 ((mr_M_know (F 26) (G 6) (G 7) (G 8) (G 9) (G 10) (G 11) (G 12) (G 13) (G 14) (G 15) (G 16) (G 17) (G 18) (G 19) (G 27) (G 28) nC nT nR nD).2.2.2))) (As := [.int 1]) (rest := []) Sx (c_M_fail l D cl hcl a ba ka (upd (upd F 0 0) 26 ((mr_M_know (F 26) (G 6) (G 7) (G 8) (G 9) (G 10) (G 11) (G 12) (G 13) (G 14) (G 15) (G 16) (G 17) (G 18) (G 19) (G 27) (G 28) nC nT nR nD).1)) (va_up (va_up (va_up G 19 ((mr_M_know (F 26) (G 6) (G 7) (G 8) (G 9) (G 10) (G 11) (G 12) (G 13) (G 14) (G 15) (G 16) (G 17) (G 18) (G 19) (G 27) (G 28) nC nT nR nD).2.1)) 27 ((mr_M_know (F 26) (G 6) (G 7) (G 8) (G 9) (G 10) (G 11) (G 12) (G 13) (G 14) (G 15) (G 16) (G 17) (G 18) (G 19) (G 27) (G 28) nC nT nR nD).2.2.1)) 28 ((mr_M_know (F 26) (G 6) (G 7) (G 8) (G 9) (G 10) (G 11) (G 12) (G 13) (G 14) (G 15) (G 16) (G 17) (G 18) (G 19) (G 27) (G 28) nC nT nR nD).2.2.2)) hP (hD.weaken (fun _ _ _ _ => trivial)) 1) (cwV 1 hts gM_at_M_fail rfl rfl rfl (by decide +kernel) ⟨Nat.le_of_ble_eq_true rfl, Nat.le_of_ble_eq_true rfl⟩) hK (va_recv hK hP (ci := 0) (q0 := 0) hcl rfl) rfl hl.1 rfl (Nat.le_of_ble_eq_true rfl) dM_at_51 ⟨Nat.zero_le _, Nat.zero_le _⟩ hD hS hA (fun H locs hP hD hS => ?_)
        rw [upd_sw (i := 26) (j := 0) (by decide), upd_ow] at hP hD
        have em : mr_M_at (F 0) (F 26) (G 6) (G 7) (G 8) (G 9) (G 10) (G 11) (G 12) (G 13) (G 14) (G 15) (G 16) (G 17) (G 18) (G 19) (G 27) (G 28) nC nT nR nD kk = ((mr_M_fail 1).1, (mr_M_fail 1).2, (mr_M_know (F 26) (G 6) (G 7) (G 8) (G 9) (G 10) (G 11) (G 12) (G 13) (G 14) (G 15) (G 16) (G 17) (G 18) (G 19) (G 27) (G 28) nC nT nR nD).1, (mr_M_know (F 26) (G 6) (G 7) (G 8) (G 9) (G 10) (G 11) (G 12) (G 13) (G 14) (G 15) (G 16) (G 17) (G 18) (G 19) (G 27) (G 28) nC nT nR nD).2.1, (mr_M_know (F 26) (G 6) (G 7) (G 8) (G 9) (G 10) (G 11) (G 12) (G 13) (G 14) (G 15) (G 16) (G 17) (G 18) (G 19) (G 27) (G 28) nC nT nR nD).2.2.1, (mr_M_know (F 26) (G 6) (G 7) (G 8) (G 9) (G 10) (G 11) (G 12) (G 13) (G 14) (G 15) (G 16) (G 17) (G 18) (G 19) (G 27) (G 28) nC nT nR nD).2.2.2) := by rw [mr_M_at, hR13, lf_M_at_13, if_pos c18]
        exact hret _ _ _ _ _ _ (by simp only [em]) (by simp only [em]) hP hD hS dM_at_54
      · have n18 : ¬ nD ≤ y := fun h9 => c18 ((nI_leI (a := nD) (b := y) (by omega) (by omega)).mpr h9)
        refine lv_iload_n hx hb dM_at_21 rfl (lv_at hl 3 rfl) ?_
        refine lv_if_lt (tgt := 49) hx hb dM_at_22 (by decide) (fun c22 => ?_) (fun c22 => ?_)
        · refine lv_aload_n hx hb dM_at_49 rfl (lv_at hl 2 rfl) ?_
          refine lv_iconst (v := 1) hx hb dM_at_50 (by decide) ?_
          refine ww_callV (r := (some (.int ((mr_M_fail 1).1)))) (w' := mW a ba ka (upd (upd (upd F 0 0) 26 ((mr_M_know (F 26) (G 6) (G 7) (G 8) (G 9) (G 10) (G 11) (G 12) (G 13) (G 14) (G 15) (G 16) (G 17) (G 18) (G 19) (G 27) (G 28) nC nT nR nD).1)) 0 ((mr_M_fail 1).2)) (va_up (va_up (va_up G 19 ((mr_M_know (F 26) (G 6) (G 7) (G 8) (G 9) (G 10) (G 11) (G 12) (G 13) (G 14) (G 15) (G 16) (G 17) (G 18) (G 19) (G 27) (G 28) nC nT nR nD).2.1)) 27 ((mr_M_know (F 26) (G 6) (G 7) (G 8) (G 9) (G 10) (G 11) (G 12) (G 13) (G 14) (G 15) (G 16) (G 17) (G 18) (G 19) (G 27) (G 28) nC nT nR nD).2.2.1)) 28 ((mr_M_know (F 26) (G 6) (G 7) (G 8) (G 9) (G 10) (G 11) (G 12) (G 13) (G 14) (G 15) (G 16) (G 17) (G 18) (G 19) (G 27) (G 28) nC nT nR nD).2.2.2))) (As := [.int 1]) (rest := []) Sx (c_M_fail l D cl hcl a ba ka (upd (upd F 0 0) 26 ((mr_M_know (F 26) (G 6) (G 7) (G 8) (G 9) (G 10) (G 11) (G 12) (G 13) (G 14) (G 15) (G 16) (G 17) (G 18) (G 19) (G 27) (G 28) nC nT nR nD).1)) (va_up (va_up (va_up G 19 ((mr_M_know (F 26) (G 6) (G 7) (G 8) (G 9) (G 10) (G 11) (G 12) (G 13) (G 14) (G 15) (G 16) (G 17) (G 18) (G 19) (G 27) (G 28) nC nT nR nD).2.1)) 27 ((mr_M_know (F 26) (G 6) (G 7) (G 8) (G 9) (G 10) (G 11) (G 12) (G 13) (G 14) (G 15) (G 16) (G 17) (G 18) (G 19) (G 27) (G 28) nC nT nR nD).2.2.1)) 28 ((mr_M_know (F 26) (G 6) (G 7) (G 8) (G 9) (G 10) (G 11) (G 12) (G 13) (G 14) (G 15) (G 16) (G 17) (G 18) (G 19) (G 27) (G 28) nC nT nR nD).2.2.2)) hP (hD.weaken (fun _ _ _ _ => trivial)) 1) (cwV 1 hts gM_at_M_fail rfl rfl rfl (by decide +kernel) ⟨Nat.le_of_ble_eq_true rfl, Nat.le_of_ble_eq_true rfl⟩) hK (va_recv hK hP (ci := 0) (q0 := 0) hcl rfl) rfl hl.1 rfl (Nat.le_of_ble_eq_true rfl) dM_at_51 ⟨Nat.zero_le _, Nat.zero_le _⟩ hD hS hA (fun H locs hP hD hS => ?_)
          rw [upd_sw (i := 26) (j := 0) (by decide), upd_ow] at hP hD
          have em : mr_M_at (F 0) (F 26) (G 6) (G 7) (G 8) (G 9) (G 10) (G 11) (G 12) (G 13) (G 14) (G 15) (G 16) (G 17) (G 18) (G 19) (G 27) (G 28) nC nT nR nD kk = ((mr_M_fail 1).1, (mr_M_fail 1).2, (mr_M_know (F 26) (G 6) (G 7) (G 8) (G 9) (G 10) (G 11) (G 12) (G 13) (G 14) (G 15) (G 16) (G 17) (G 18) (G 19) (G 27) (G 28) nC nT nR nD).1, (mr_M_know (F 26) (G 6) (G 7) (G 8) (G 9) (G 10) (G 11) (G 12) (G 13) (G 14) (G 15) (G 16) (G 17) (G 18) (G 19) (G 27) (G 28) nC nT nR nD).2.1, (mr_M_know (F 26) (G 6) (G 7) (G 8) (G 9) (G 10) (G 11) (G 12) (G 13) (G 14) (G 15) (G 16) (G 17) (G 18) (G 19) (G 27) (G 28) nC nT nR nD).2.2.1, (mr_M_know (F 26) (G 6) (G 7) (G 8) (G 9) (G 10) (G 11) (G 12) (G 13) (G 14) (G 15) (G 16) (G 17) (G 18) (G 19) (G 27) (G 28) nC nT nR nD).2.2.2) := by rw [mr_M_at, hR13, lf_M_at_13, if_neg c18, if_pos c22]
          exact hret _ _ _ _ _ _ (by simp only [em]) (by simp only [em]) hP hD hS dM_at_54
        · refine lv_aload_n hx hb dM_at_25 rfl (lv_at hl 2 rfl) ?_
          refine lv_iload_n hx hb dM_at_26 rfl (lv_at hl 0 rfl) ?_
          refine ro_callV (r := (.int (mr_M_isUndominated ((mr_M_know (F 26) (G 6) (G 7) (G 8) (G 9) (G 10) (G 11) (G 12) (G 13) (G 14) (G 15) (G 16) (G 17) (G 18) (G 19) (G 27) (G 28) nC nT nR nD).2.2.1) ((mr_M_know (F 26) (G 6) (G 7) (G 8) (G 9) (G 10) (G 11) (G 12) (G 13) (G 14) (G 15) (G 16) (G 17) (G 18) (G 19) (G 27) (G 28) nC nT nR nD).2.2.2) nD y))) (As := [.int (nI y)]) (rest := []) Sx (c_M_isUndominated l D cl hcl a ba ka (upd (upd F 0 0) 26 ((mr_M_know (F 26) (G 6) (G 7) (G 8) (G 9) (G 10) (G 11) (G 12) (G 13) (G 14) (G 15) (G 16) (G 17) (G 18) (G 19) (G 27) (G 28) nC nT nR nD).1)) (va_up (va_up (va_up G 19 ((mr_M_know (F 26) (G 6) (G 7) (G 8) (G 9) (G 10) (G 11) (G 12) (G 13) (G 14) (G 15) (G 16) (G 17) (G 18) (G 19) (G 27) (G 28) nC nT nR nD).2.1)) 27 ((mr_M_know (F 26) (G 6) (G 7) (G 8) (G 9) (G 10) (G 11) (G 12) (G 13) (G 14) (G 15) (G 16) (G 17) (G 18) (G 19) (G 27) (G 28) nC nT nR nD).2.2.1)) 28 ((mr_M_know (F 26) (G 6) (G 7) (G 8) (G 9) (G 10) (G 11) (G 12) (G 13) (G 14) (G 15) (G 16) (G 17) (G 18) (G 19) (G 27) (G 28) nC nT nR nD).2.2.2)) hP nD y h5 hN (by omega)) (cwV 1 hts gM_at_M_isUndominated rfl rfl rfl (by decide +kernel) ⟨Nat.le_of_ble_eq_true rfl, Nat.le_of_ble_eq_true rfl⟩) hK (va_recv hK hP (ci := 0) (q0 := 0) hcl rfl) rfl hl.1 rfl (Nat.le_of_ble_eq_true rfl) dM_at_27 ⟨Nat.zero_le _, Nat.zero_le _⟩ ?_
          refine lv_if_eq (tgt := 43) hx hb dM_at_30 (by decide) (fun c30 => ?_) (fun c30 => ?_)
          · refine lv_iinc (v := nI (y + 1)) (lv' := [(3, .int (nI (y + 1))), (2, .int q), (0, .ref a), (1, .int kk)]) hx hb dM_at_43 hl (k := 0) rfl (by exact ii_1 y) (by decide) rfl (fun ls hl => ?_)
            refine lv_goto (tgt := 13) hx hb dM_at_46 (by decide) ?_
            have er13 : lf_M_at_13 (F 0) (F 26) (G 19) (G 27) (G 28) nC nT nR nD kk ((mr_M_know (F 26) (G 6) (G 7) (G 8) (G 9) (G 10) (G 11) (G 12) (G 13) (G 14) (G 15) (G 16) (G 17) (G 18) (G 19) (G 27) (G 28) nC nT nR nD).1) ((mr_M_know (F 26) (G 6) (G 7) (G 8) (G 9) (G 10) (G 11) (G 12) (G 13) (G 14) (G 15) (G 16) (G 17) (G 18) (G 19) (G 27) (G 28) nC nT nR nD).2.1) ((mr_M_know (F 26) (G 6) (G 7) (G 8) (G 9) (G 10) (G 11) (G 12) (G 13) (G 14) (G 15) (G 16) (G 17) (G 18) (G 19) (G 27) (G 28) nC nT nR nD).2.2.1) ((mr_M_know (F 26) (G 6) (G 7) (G 8) (G 9) (G 10) (G 11) (G 12) (G 13) (G 14) (G 15) (G 16) (G 17) (G 18) (G 19) (G 27) (G 28) nC nT nR nD).2.2.2) (N13 + 1) q y = lf_M_at_13 (F 0) (F 26) (G 19) (G 27) (G 28) nC nT nR nD kk ((mr_M_know (F 26) (G 6) (G 7) (G 8) (G 9) (G 10) (G 11) (G 12) (G 13) (G 14) (G 15) (G 16) (G 17) (G 18) (G 19) (G 27) (G 28) nC nT nR nD).1) ((mr_M_know (F 26) (G 6) (G 7) (G 8) (G 9) (G 10) (G 11) (G 12) (G 13) (G 14) (G 15) (G 16) (G 17) (G 18) (G 19) (G 27) (G 28) nC nT nR nD).2.1) ((mr_M_know (F 26) (G 6) (G 7) (G 8) (G 9) (G 10) (G 11) (G 12) (G 13) (G 14) (G 15) (G 16) (G 17) (G 18) (G 19) (G 27) (G 28) nC nT nR nD).2.2.1) ((mr_M_know (F 26) (G 6) (G 7) (G 8) (G 9) (G 10) (G 11) (G 12) (G 13) (G 14) (G 15) (G 16) (G 17) (G 18) (G 19) (G 27) (G 28) nC nT nR nD).2.2.2) N13 q (y + 1) := by rw [lf_M_at_13, if_neg c18, if_neg c22, if_pos c30]
            exact ih13 q (y + 1) (by omega) (by omega) (hR13.trans er13) H locs hP hD hS ls (lv_sub hl [0, 1, 2, 3] rfl)
          · refine lv_iload_n hx hb dM_at_33 rfl (lv_at hl 1 rfl) ?_
            refine lv_iload_n hx hb dM_at_34 rfl (lv_at hl 3 rfl) ?_
            refine lv_icmp_ne (tgt := 40) hx hb dM_at_35 (by decide) (fun c35 => ?_) (fun c35 => ?_)
            · refine lv_iinc (v := q + 1) (lv' := [(2, .int (q + 1)), (3, .int (nI y)), (0, .ref a), (1, .int kk)]) hx hb dM_at_40 hl (k := 1) rfl (by exact rfl) (by decide) rfl (fun ls hl => ?_)
              refine lv_iinc (v := nI (y + 1)) (lv' := [(3, .int (nI (y + 1))), (2, .int (q + 1)), (0, .ref a), (1, .int kk)]) hx hb dM_at_43 hl (k := 1) rfl (by exact ii_1 y) (by decide) rfl (fun ls hl => ?_)
              refine lv_goto (tgt := 13) hx hb dM_at_46 (by decide) ?_
              have er13 : lf_M_at_13 (F 0) (F 26) (G 19) (G 27) (G 28) nC nT nR nD kk ((mr_M_know (F 26) (G 6) (G 7) (G 8) (G 9) (G 10) (G 11) (G 12) (G 13) (G 14) (G 15) (G 16) (G 17) (G 18) (G 19) (G 27) (G 28) nC nT nR nD).1) ((mr_M_know (F 26) (G 6) (G 7) (G 8) (G 9) (G 10) (G 11) (G 12) (G 13) (G 14) (G 15) (G 16) (G 17) (G 18) (G 19) (G 27) (G 28) nC nT nR nD).2.1) ((mr_M_know (F 26) (G 6) (G 7) (G 8) (G 9) (G 10) (G 11) (G 12) (G 13) (G 14) (G 15) (G 16) (G 17) (G 18) (G 19) (G 27) (G 28) nC nT nR nD).2.2.1) ((mr_M_know (F 26) (G 6) (G 7) (G 8) (G 9) (G 10) (G 11) (G 12) (G 13) (G 14) (G 15) (G 16) (G 17) (G 18) (G 19) (G 27) (G 28) nC nT nR nD).2.2.2) (N13 + 1) q y = lf_M_at_13 (F 0) (F 26) (G 19) (G 27) (G 28) nC nT nR nD kk ((mr_M_know (F 26) (G 6) (G 7) (G 8) (G 9) (G 10) (G 11) (G 12) (G 13) (G 14) (G 15) (G 16) (G 17) (G 18) (G 19) (G 27) (G 28) nC nT nR nD).1) ((mr_M_know (F 26) (G 6) (G 7) (G 8) (G 9) (G 10) (G 11) (G 12) (G 13) (G 14) (G 15) (G 16) (G 17) (G 18) (G 19) (G 27) (G 28) nC nT nR nD).2.1) ((mr_M_know (F 26) (G 6) (G 7) (G 8) (G 9) (G 10) (G 11) (G 12) (G 13) (G 14) (G 15) (G 16) (G 17) (G 18) (G 19) (G 27) (G 28) nC nT nR nD).2.2.1) ((mr_M_know (F 26) (G 6) (G 7) (G 8) (G 9) (G 10) (G 11) (G 12) (G 13) (G 14) (G 15) (G 16) (G 17) (G 18) (G 19) (G 27) (G 28) nC nT nR nD).2.2.2) N13 (q + 1) (y + 1) := by rw [lf_M_at_13, if_neg c18, if_neg c22, if_neg c30, if_neg c35]
              exact ih13 (q + 1) (y + 1) (by omega) (by omega) (hR13.trans er13) H locs hP hD hS ls (lv_sub hl [0, 1, 2, 3] rfl)
            · refine lv_iload_n hx hb dM_at_38 rfl (lv_at hl 0 rfl) ?_
              have em : mr_M_at (F 0) (F 26) (G 6) (G 7) (G 8) (G 9) (G 10) (G 11) (G 12) (G 13) (G 14) (G 15) (G 16) (G 17) (G 18) (G 19) (G 27) (G 28) nC nT nR nD kk = (nI y, 0, (mr_M_know (F 26) (G 6) (G 7) (G 8) (G 9) (G 10) (G 11) (G 12) (G 13) (G 14) (G 15) (G 16) (G 17) (G 18) (G 19) (G 27) (G 28) nC nT nR nD).1, (mr_M_know (F 26) (G 6) (G 7) (G 8) (G 9) (G 10) (G 11) (G 12) (G 13) (G 14) (G 15) (G 16) (G 17) (G 18) (G 19) (G 27) (G 28) nC nT nR nD).2.1, (mr_M_know (F 26) (G 6) (G 7) (G 8) (G 9) (G 10) (G 11) (G 12) (G 13) (G 14) (G 15) (G 16) (G 17) (G 18) (G 19) (G 27) (G 28) nC nT nR nD).2.2.1, (mr_M_know (F 26) (G 6) (G 7) (G 8) (G 9) (G 10) (G 11) (G 12) (G 13) (G 14) (G 15) (G 16) (G 17) (G 18) (G 19) (G 27) (G 28) nC nT nR nD).2.2.2) := by rw [mr_M_at, hR13, lf_M_at_13, if_neg c18, if_neg c22, if_neg c30, if_pos c35]
              exact hret _ _ _ _ _ _ (by simp only [em]) (by simp only [em]) hP hD hS dM_at_39
  exact loop13 (nD + 1) 0 0 (by omega) (by omega) rfl H locs hP hD hS ls (lv_sub hl [0, 1, 2, 3] rfl)
def mr_M_bound (g6 : Nat → Int32) (g7 : Nat → Int32) (g8 : Nat → Int32) (g9 : Nat → Int32) (g10 : Nat → Int32) (g11 : Nat → Int32) (g12 : Nat → Int32) (g19 : Nat → Int32) (nC : Nat) (nT : Nat) (nR : Nat) (nD : Nat) (nu : Int32) (d : Int32) (sx : Int32) : Int32 × Int32 × (Nat → Int32) := (if (mr_M_within nu 0 3) = 0 then ((mr_M_fail 1).1, (mr_M_fail 1).2, g19) else (if (mr_M_isDesign nD d) = 0 then ((mr_M_fail 1).1, (mr_M_fail 1).2, g19) else (if (mr_M_within sx 0 (nI nC)) = 0 then ((mr_M_fail 1).1, (mr_M_fail 1).2, g19) else (mr_M_boundOf g7 g8 g9 g10 g11 g12 (mr_M_open g6 g19 nC d.toNatClampNeg sx.toNatClampNeg) nC nT nu, 0, mr_M_open g6 g19 nC d.toNatClampNeg sx.toNatClampNeg))))
set_option maxHeartbeats 4000000 in
set_option maxRecDepth 100000 in
theorem c_M_bound (l : Launch) (D : va_G) (cl : List vw_C) (hcl : cl[0]? = some (RM, TM, 29)) (a : Nat) (ba : Nat → Nat) (ka : Nat → ClassId) (F : Nat → Int32) (G : Nat → Nat → Int32) {H0 : Heap} (hP : va_P D cl (mW a ba ka F G) H0) (hD : va_D (fun _ => True) (mW a ba ka F G)) (nC : Nat) (nT : Nat) (nR : Nat) (nD : Nat) (nu : Int32) (d : Int32) (sx : Int32) (h2 : F 2 = nI nC) (hC : nC ≤ 8) (h3 : F 3 = nI nT) (hT : nT ≤ 100) (h4 : F 4 = nI nR) (hR : nR ≤ 40) (h5 : F 5 = nI nD) (hN : nD ≤ 4096) (h6 : ∀ c, c < nC → ∃ z : Nat, G 6 c = nI z ∧ 2 ≤ z ∧ z ≤ 6) (h8 : ∀ t, t < nT → ∃ x : Nat, x < nC ∧ G 8 t = nI x) (h10 : ∀ t, t < nT → G 10 t = -1 ∨ ∃ x : Nat, x < nC ∧ G 10 t = nI x) (h13 : ∀ j, j < nR → ∃ x : Nat, x < nC ∧ G 13 j = nI x) (h15 : ∀ j, j < nR → ∃ x : Nat, x < nC ∧ G 15 j = nI x) : ww_Met l yM_bound wsM_bound ({ frames := 2, cells := 0, slots := 0, locals := 48 } : Room) D cl (mT ka) H0 [.ref a, .int nu, .int d, .int sx] (mW a ba ka F G) (some (.int ((mr_M_bound (G 6) (G 7) (G 8) (G 9) (G 10) (G 11) (G 12) (G 19) nC nT nR nD nu d sx).1))) (mW a ba ka (upd F 0 ((mr_M_bound (G 6) (G 7) (G 8) (G 9) (G 10) (G 11) (G 12) (G 19) nC nT nR nD nu d sx).2.1)) (va_up G 19 ((mr_M_bound (G 6) (G 7) (G 8) (G 9) (G 10) (G 11) (G 12) (G 19) nC nT nR nD nu d sx).2.2))) := by
  refine ww_metI (by decide) rfl (Nat.le_of_ble_eq_true rfl) hP hD ?_
  intro p e s m args below meth c Q A Sx hK hP hD hS hA ls hl hret
  obtain ⟨hx, hb, hml, hown, hts⟩ := id Sx
  have hl : lv_has ls 4 [(0, .ref a), (1, .int nu), (2, .int d), (3, .int sx)] := hl
  obtain ⟨H, eH⟩ : ∃ H : Heap, H = H0 := ⟨_, rfl⟩
  obtain ⟨locs, eL⟩ : ∃ L : List Loc, L = [] := ⟨_, rfl⟩
  have hP : va_P D cl (mW a ba ka F G) H := by rw [eH]; exact hP
  have hS : va_S A H0 H locs := by rw [eH, eL]; exact hS
  rw [show W p l e ({ frames := 2, cells := 0, slots := 0, locals := 48 } : Room) s m args below meth c H0 [] 0 0 Q (F0 m 0 ls []) = W p l e ({ frames := 2, cells := 0, slots := 0, locals := 48 } : Room) s m args below meth c H locs 0 0 Q (F0 m 0 ls []) by rw [eH, eL]]
  clear eH eL
  have f70 := hts _ (List.mem_cons_of_mem _ mfM_70)
  have inM_ : ∀ w ∈ wsM0, w ∈ wsM_bound := fun w h => List.mem_cons_of_mem _ (inM_all w h)
  have f81 := hts _ (List.mem_cons_of_mem _ mfM_81)
  refine lv_aload_n hx hb dM_bound_0 rfl (lv_at hl 0 rfl) ?_
  refine lv_iconst (v := 0) hx hb dM_bound_1 (by decide) ?_
  refine va_put (D := D) (ci := 0) (fs := mWl0 ba F) (v := .int 0) (ty := .int) (C := RM) (T := TM) (N := 29) hx hb hts inM_ tyM tyM_ok nmM hown hK hP hD hS 0 rfl hcl 0 (by decide) f70 (fun _ h9 => h9) rfl (by decide +kernel) rfl rfl (Nat.le_of_ble_eq_true rfl) dM_bound_2 (fun H locs hP hD hS => ?_)
  rw [mW_f0] at hP hD
  refine lv_iload_n hx hb dM_bound_5 rfl (lv_at hl 1 rfl) ?_
  refine lv_iconst (v := 0) hx hb dM_bound_6 (by decide) ?_
  refine lv_iconst (v := 3) hx hb dM_bound_7 (by decide) ?_
  refine ro_callS (r := (.int (mr_M_within nu 0 3))) (As := [.int nu, .int 0, .int 3]) (rest := []) Sx (c_M_within l D cl hcl a ba ka (upd F 0 0) G hP nu 0 3) (va_cwS 3 hts gM_bound_M_within rfl rfl rfl (by decide +kernel) ⟨Nat.le_of_ble_eq_true rfl, Nat.le_of_ble_eq_true rfl⟩) hK rfl hl.1 rfl (Nat.le_of_ble_eq_true rfl) dM_bound_8 ⟨Nat.zero_le _, Nat.zero_le _⟩ ?_
  refine lv_if_eq (tgt := 34) hx hb dM_bound_11 (by decide) (fun c11 => ?_) (fun c11 => ?_)
  · refine lv_aload_n hx hb dM_bound_34 rfl (lv_at hl 0 rfl) ?_
    refine lv_iconst (v := 1) hx hb dM_bound_35 (by decide) ?_
    refine ww_callV (r := (some (.int ((mr_M_fail 1).1)))) (w' := mW a ba ka (upd (upd F 0 0) 0 ((mr_M_fail 1).2)) G) (As := [.int 1]) (rest := []) Sx (c_M_fail l D cl hcl a ba ka (upd F 0 0) G hP (hD.weaken (fun _ _ _ _ => trivial)) 1) (cwV 1 hts gM_bound_M_fail rfl rfl rfl (by decide +kernel) ⟨Nat.le_of_ble_eq_true rfl, Nat.le_of_ble_eq_true rfl⟩) hK (va_recv hK hP (ci := 0) (q0 := 0) hcl rfl) rfl hl.1 rfl (Nat.le_of_ble_eq_true rfl) dM_bound_36 ⟨Nat.zero_le _, Nat.zero_le _⟩ hD hS hA (fun H locs hP hD hS => ?_)
    rw [upd_ow] at hP hD
    have em : mr_M_bound (G 6) (G 7) (G 8) (G 9) (G 10) (G 11) (G 12) (G 19) nC nT nR nD nu d sx = ((mr_M_fail 1).1, (mr_M_fail 1).2, G 19) := by rw [mr_M_bound, if_pos c11]
    exact hret _ _ _ _ _ _ (by simp only [em]) (by simp only [em]; rw [vup_keep (f := G) (j := 19) (x := G 19) rfl]) hP hD hS dM_bound_39
  · refine lv_aload_n hx hb dM_bound_14 rfl (lv_at hl 0 rfl) ?_
    refine lv_iload_n hx hb dM_bound_15 rfl (lv_at hl 2 rfl) ?_
    refine ro_callV (r := (.int (mr_M_isDesign nD d))) (As := [.int d]) (rest := []) Sx (c_M_isDesign l D cl hcl a ba ka (upd F 0 0) G hP nD d h5) (cwV 1 hts gM_bound_M_isDesign rfl rfl rfl (by decide +kernel) ⟨Nat.le_of_ble_eq_true rfl, Nat.le_of_ble_eq_true rfl⟩) hK (va_recv hK hP (ci := 0) (q0 := 0) hcl rfl) rfl hl.1 rfl (Nat.le_of_ble_eq_true rfl) dM_bound_16 ⟨Nat.zero_le _, Nat.zero_le _⟩ ?_
    refine lv_if_eq (tgt := 34) hx hb dM_bound_19 (by decide) (fun c19 => ?_) (fun c19 => ?_)
    · refine lv_aload_n hx hb dM_bound_34 rfl (lv_at hl 0 rfl) ?_
      refine lv_iconst (v := 1) hx hb dM_bound_35 (by decide) ?_
      refine ww_callV (r := (some (.int ((mr_M_fail 1).1)))) (w' := mW a ba ka (upd (upd F 0 0) 0 ((mr_M_fail 1).2)) G) (As := [.int 1]) (rest := []) Sx (c_M_fail l D cl hcl a ba ka (upd F 0 0) G hP (hD.weaken (fun _ _ _ _ => trivial)) 1) (cwV 1 hts gM_bound_M_fail rfl rfl rfl (by decide +kernel) ⟨Nat.le_of_ble_eq_true rfl, Nat.le_of_ble_eq_true rfl⟩) hK (va_recv hK hP (ci := 0) (q0 := 0) hcl rfl) rfl hl.1 rfl (Nat.le_of_ble_eq_true rfl) dM_bound_36 ⟨Nat.zero_le _, Nat.zero_le _⟩ hD hS hA (fun H locs hP hD hS => ?_)
      rw [upd_ow] at hP hD
      have em : mr_M_bound (G 6) (G 7) (G 8) (G 9) (G 10) (G 11) (G 12) (G 19) nC nT nR nD nu d sx = ((mr_M_fail 1).1, (mr_M_fail 1).2, G 19) := by rw [mr_M_bound, if_neg c11, if_pos c19]
      exact hret _ _ _ _ _ _ (by simp only [em]) (by simp only [em]; rw [vup_keep (f := G) (j := 19) (x := G 19) rfl]) hP hD hS dM_bound_39
    · have xd := ix_cl (wd_ix c19 hN) (by omega)
      refine lv_iload_n hx hb dM_bound_22 rfl (lv_at hl 3 rfl) ?_
      refine lv_iconst (v := 0) hx hb dM_bound_23 (by decide) ?_
      refine lv_aload_n hx hb dM_bound_24 rfl (lv_at hl 0 rfl) ?_
      refine va_get (D := D) (ci := 0) (v := .int (F 2)) (C := RM) (T := TM) (N := 29) hx hb hts inM_ hown hK hP 0 rfl hcl 2 (by decide) f81 (fun _ h9 => h9) rfl dM_bound_25 ?_
      refine wt_i h2 ?_
      refine ro_callS (r := (.int (mr_M_within sx 0 (nI nC)))) (As := [.int sx, .int 0, .int (nI nC)]) (rest := []) Sx (c_M_within l D cl hcl a ba ka (upd F 0 0) G hP sx 0 (nI nC)) (va_cwS 3 hts gM_bound_M_within rfl rfl rfl (by decide +kernel) ⟨Nat.le_of_ble_eq_true rfl, Nat.le_of_ble_eq_true rfl⟩) hK rfl hl.1 rfl (Nat.le_of_ble_eq_true rfl) dM_bound_28 ⟨Nat.zero_le _, Nat.zero_le _⟩ ?_
      refine lv_if_ne (tgt := 40) hx hb dM_bound_31 (by decide) (fun c31 => ?_) (fun c31 => ?_)
      · have xs := ix_cl (wi_nx c31 (by omega)) (by omega)
        refine lv_aload_n hx hb dM_bound_40 rfl (lv_at hl 0 rfl) ?_
        refine lv_iload_n hx hb dM_bound_41 rfl (lv_at hl 2 rfl) ?_
        refine wt_i (r := nI d.toNatClampNeg) (by exact xd.1) ?_
        refine lv_iload_n hx hb dM_bound_42 rfl (lv_at hl 3 rfl) ?_
        refine wt_i (r := nI sx.toNatClampNeg) (by exact xs.1) ?_
        refine ww_callV (r := none) (w' := mW a ba ka (upd F 0 0) (va_up G 19 (mr_M_open (G 6) (G 19) nC d.toNatClampNeg sx.toNatClampNeg))) (As := [.int (nI d.toNatClampNeg), .int (nI sx.toNatClampNeg)]) (rest := []) Sx (c_M_open l D cl hcl a ba ka (upd F 0 0) G hP (hD.weaken (fun _ _ _ _ => trivial)) nC d.toNatClampNeg sx.toNatClampNeg h2 hC h6 (by have := xs.2; omega)) (cwV 2 hts gM_bound_M_open rfl rfl rfl (by decide +kernel) ⟨Nat.le_of_ble_eq_true rfl, Nat.le_of_ble_eq_true rfl⟩) hK (va_recv hK hP (ci := 0) (q0 := 0) hcl rfl) rfl hl.1 rfl (Nat.le_of_ble_eq_true rfl) dM_bound_43 ⟨Nat.zero_le _, Nat.zero_le _⟩ hD hS hA (fun H locs hP hD hS => ?_)
        refine lv_aload_n hx hb dM_bound_46 rfl (lv_at hl 0 rfl) ?_
        refine lv_iload_n hx hb dM_bound_47 rfl (lv_at hl 1 rfl) ?_
        refine ro_callV (r := (.int (mr_M_boundOf (G 7) (G 8) (G 9) (G 10) (G 11) (G 12) (mr_M_open (G 6) (G 19) nC d.toNatClampNeg sx.toNatClampNeg) nC nT nu))) (As := [.int nu]) (rest := []) Sx (c_M_boundOf l D cl hcl a ba ka (upd F 0 0) (va_up G 19 (mr_M_open (G 6) (G 19) nC d.toNatClampNeg sx.toNatClampNeg)) hP nC nT nu hC h3 hT h8 h10) (cwV 1 hts gM_bound_M_boundOf rfl rfl rfl (by decide +kernel) ⟨Nat.le_of_ble_eq_true rfl, Nat.le_of_ble_eq_true rfl⟩) hK (va_recv hK hP (ci := 0) (q0 := 0) hcl rfl) rfl hl.1 rfl (Nat.le_of_ble_eq_true rfl) dM_bound_48 ⟨Nat.zero_le _, Nat.zero_le _⟩ ?_
        have em : mr_M_bound (G 6) (G 7) (G 8) (G 9) (G 10) (G 11) (G 12) (G 19) nC nT nR nD nu d sx = (mr_M_boundOf (G 7) (G 8) (G 9) (G 10) (G 11) (G 12) (mr_M_open (G 6) (G 19) nC d.toNatClampNeg sx.toNatClampNeg) nC nT nu, 0, mr_M_open (G 6) (G 19) nC d.toNatClampNeg sx.toNatClampNeg) := by rw [mr_M_bound, if_neg c11, if_neg c19, if_neg c31]
        exact hret _ _ _ _ _ _ (by simp only [em]) (by simp only [em]) hP hD hS dM_bound_51
      · refine lv_aload_n hx hb dM_bound_34 rfl (lv_at hl 0 rfl) ?_
        refine lv_iconst (v := 1) hx hb dM_bound_35 (by decide) ?_
        refine ww_callV (r := (some (.int ((mr_M_fail 1).1)))) (w' := mW a ba ka (upd (upd F 0 0) 0 ((mr_M_fail 1).2)) G) (As := [.int 1]) (rest := []) Sx (c_M_fail l D cl hcl a ba ka (upd F 0 0) G hP (hD.weaken (fun _ _ _ _ => trivial)) 1) (cwV 1 hts gM_bound_M_fail rfl rfl rfl (by decide +kernel) ⟨Nat.le_of_ble_eq_true rfl, Nat.le_of_ble_eq_true rfl⟩) hK (va_recv hK hP (ci := 0) (q0 := 0) hcl rfl) rfl hl.1 rfl (Nat.le_of_ble_eq_true rfl) dM_bound_36 ⟨Nat.zero_le _, Nat.zero_le _⟩ hD hS hA (fun H locs hP hD hS => ?_)
        rw [upd_ow] at hP hD
        have em : mr_M_bound (G 6) (G 7) (G 8) (G 9) (G 10) (G 11) (G 12) (G 19) nC nT nR nD nu d sx = ((mr_M_fail 1).1, (mr_M_fail 1).2, G 19) := by rw [mr_M_bound, if_neg c11, if_neg c19, if_pos c31]
        exact hret _ _ _ _ _ _ (by simp only [em]) (by simp only [em]; rw [vup_keep (f := G) (j := 19) (x := G 19) rfl]) hP hD hS dM_bound_39
end
section
def mr_M_beats (f26 : Int32) (g6 : Nat → Int32) (g7 : Nat → Int32) (g8 : Nat → Int32) (g9 : Nat → Int32) (g10 : Nat → Int32) (g11 : Nat → Int32) (g12 : Nat → Int32) (g13 : Nat → Int32) (g14 : Nat → Int32) (g15 : Nat → Int32) (g16 : Nat → Int32) (g17 : Nat → Int32) (g18 : Nat → Int32) (g19 : Nat → Int32) (g27 : Nat → Int32) (g28 : Nat → Int32) (nC : Nat) (nT : Nat) (nR : Nat) (nD : Nat) (d : Int32) (o : Int32) : Int32 × Int32 × Int32 × (Nat → Int32) × (Nat → Int32) × (Nat → Int32) := (if ((if (mr_M_isDesign nD d) = 0 then 1 else (if (mr_M_isDesign nD o) = 0 then 1 else 0)) : Int32) ≤ 0 then (((if ((if (((mr_M_know f26 g6 g7 g8 g9 g10 g11 g12 g13 g14 g15 g16 g17 g18 g19 g27 g28 nC nT nR nD).2.2.1) d.toNatClampNeg) = 0 then 2 else (if (((mr_M_know f26 g6 g7 g8 g9 g10 g11 g12 g13 g14 g15 g16 g17 g18 g19 g27 g28 nC nT nR nD).2.2.1) o.toNatClampNeg) = 0 then 2 else 0)) : Int32) = 0 then (if (mr_M_isBeaten ((mr_M_know f26 g6 g7 g8 g9 g10 g11 g12 g13 g14 g15 g16 g17 g18 g19 g27 g28 nC nT nR nD).2.2.2) o.toNatClampNeg d.toNatClampNeg) = 0 then 0 else 1) else 0) : Int32), ((if (((mr_M_know f26 g6 g7 g8 g9 g10 g11 g12 g13 g14 g15 g16 g17 g18 g19 g27 g28 nC nT nR nD).2.2.1) d.toNatClampNeg) = 0 then 2 else (if (((mr_M_know f26 g6 g7 g8 g9 g10 g11 g12 g13 g14 g15 g16 g17 g18 g19 g27 g28 nC nT nR nD).2.2.1) o.toNatClampNeg) = 0 then 2 else 0)) : Int32), (mr_M_know f26 g6 g7 g8 g9 g10 g11 g12 g13 g14 g15 g16 g17 g18 g19 g27 g28 nC nT nR nD).1, (mr_M_know f26 g6 g7 g8 g9 g10 g11 g12 g13 g14 g15 g16 g17 g18 g19 g27 g28 nC nT nR nD).2.1, (mr_M_know f26 g6 g7 g8 g9 g10 g11 g12 g13 g14 g15 g16 g17 g18 g19 g27 g28 nC nT nR nD).2.2.1, (mr_M_know f26 g6 g7 g8 g9 g10 g11 g12 g13 g14 g15 g16 g17 g18 g19 g27 g28 nC nT nR nD).2.2.2) else (0, ((if (mr_M_isDesign nD d) = 0 then 1 else (if (mr_M_isDesign nD o) = 0 then 1 else 0)) : Int32), f26, g19, g27, g28))
set_option maxHeartbeats 4000000 in
set_option maxRecDepth 100000 in
theorem c_M_beats (l : Launch) (D : va_G) (cl : List vw_C) (hcl : cl[0]? = some (RM, TM, 29)) (a : Nat) (ba : Nat → Nat) (ka : Nat → ClassId) (F : Nat → Int32) (G : Nat → Nat → Int32) {H0 : Heap} (hP : va_P D cl (mW a ba ka F G) H0) (hD : va_D (fun _ => True) (mW a ba ka F G)) (nC : Nat) (nT : Nat) (nR : Nat) (nD : Nat) (d : Int32) (o : Int32) (h2 : F 2 = nI nC) (hC : nC ≤ 8) (h3 : F 3 = nI nT) (hT : nT ≤ 100) (h4 : F 4 = nI nR) (hR : nR ≤ 40) (h5 : F 5 = nI nD) (hN : nD ≤ 4096) (h6 : ∀ c, c < nC → ∃ z : Nat, G 6 c = nI z ∧ 2 ≤ z ∧ z ≤ 6) (h8 : ∀ t, t < nT → ∃ x : Nat, x < nC ∧ G 8 t = nI x) (h10 : ∀ t, t < nT → G 10 t = -1 ∨ ∃ x : Nat, x < nC ∧ G 10 t = nI x) (h13 : ∀ j, j < nR → ∃ x : Nat, x < nC ∧ G 13 j = nI x) (h15 : ∀ j, j < nR → ∃ x : Nat, x < nC ∧ G 15 j = nI x) : ww_Met l yM_beats wsM_beats ({ frames := 4, cells := 0, slots := 0, locals := 92 } : Room) D cl (mT ka) H0 [.ref a, .int d, .int o] (mW a ba ka F G) (some (.int ((mr_M_beats (F 26) (G 6) (G 7) (G 8) (G 9) (G 10) (G 11) (G 12) (G 13) (G 14) (G 15) (G 16) (G 17) (G 18) (G 19) (G 27) (G 28) nC nT nR nD d o).1))) (mW a ba ka (upd (upd F 0 ((mr_M_beats (F 26) (G 6) (G 7) (G 8) (G 9) (G 10) (G 11) (G 12) (G 13) (G 14) (G 15) (G 16) (G 17) (G 18) (G 19) (G 27) (G 28) nC nT nR nD d o).2.1)) 26 ((mr_M_beats (F 26) (G 6) (G 7) (G 8) (G 9) (G 10) (G 11) (G 12) (G 13) (G 14) (G 15) (G 16) (G 17) (G 18) (G 19) (G 27) (G 28) nC nT nR nD d o).2.2.1)) (va_up (va_up (va_up G 19 ((mr_M_beats (F 26) (G 6) (G 7) (G 8) (G 9) (G 10) (G 11) (G 12) (G 13) (G 14) (G 15) (G 16) (G 17) (G 18) (G 19) (G 27) (G 28) nC nT nR nD d o).2.2.2.1)) 27 ((mr_M_beats (F 26) (G 6) (G 7) (G 8) (G 9) (G 10) (G 11) (G 12) (G 13) (G 14) (G 15) (G 16) (G 17) (G 18) (G 19) (G 27) (G 28) nC nT nR nD d o).2.2.2.2.1)) 28 ((mr_M_beats (F 26) (G 6) (G 7) (G 8) (G 9) (G 10) (G 11) (G 12) (G 13) (G 14) (G 15) (G 16) (G 17) (G 18) (G 19) (G 27) (G 28) nC nT nR nD d o).2.2.2.2.2))) := by
  refine ww_metZ (by unfold mr_M_beats; exact zb_f (zb_i (zb_i zb_0 zb_1) zb_0) zb_0) (by decide) rfl (Nat.le_of_ble_eq_true rfl) hP hD ?_
  intro p e s m args below meth c Q A Sx hK hP hD hS hA ls hl hret
  obtain ⟨hx, hb, hml, hown, hts⟩ := id Sx
  have hl : lv_has ls 3 [(0, .ref a), (1, .int d), (2, .int o)] := hl
  obtain ⟨H, eH⟩ : ∃ H : Heap, H = H0 := ⟨_, rfl⟩
  obtain ⟨locs, eL⟩ : ∃ L : List Loc, L = [] := ⟨_, rfl⟩
  have hP : va_P D cl (mW a ba ka F G) H := by rw [eH]; exact hP
  have hS : va_S A H0 H locs := by rw [eH, eL]; exact hS
  rw [show W p l e ({ frames := 4, cells := 0, slots := 0, locals := 92 } : Room) s m args below meth c H0 [] 0 0 Q (F0 m 0 ls []) = W p l e ({ frames := 4, cells := 0, slots := 0, locals := 92 } : Room) s m args below meth c H locs 0 0 Q (F0 m 0 ls []) by rw [eH, eL]]
  clear eH eL
  have f70 := hts _ (List.mem_cons_of_mem _ mfM_70)
  have inM_ : ∀ w ∈ wsM0, w ∈ wsM_beats := fun w h => List.mem_cons_of_mem _ (inM_all w h)
  have f60 := hts _ (List.mem_cons_of_mem _ mfM_60)
  refine lv_aload_n hx hb dM_beats_0 rfl (lv_at hl 0 rfl) ?_
  refine lv_aload_n hx hb dM_beats_1 rfl (lv_at hl 0 rfl) ?_
  refine lv_iload_n hx hb dM_beats_2 rfl (lv_at hl 1 rfl) ?_
  refine ro_callV (r := (.int (mr_M_isDesign nD d))) (As := [.int d]) (rest := [.ref a]) Sx (c_M_isDesign l D cl hcl a ba ka F G hP nD d h5) (cwV 1 hts gM_beats_M_isDesign rfl rfl rfl (by decide +kernel) ⟨Nat.le_of_ble_eq_true rfl, Nat.le_of_ble_eq_true rfl⟩) hK (va_recv hK hP (ci := 0) (q0 := 0) hcl rfl) rfl hl.1 rfl (Nat.le_of_ble_eq_true rfl) dM_beats_3 ⟨Nat.zero_le _, Nat.zero_le _⟩ ?_
  have j22 : ∀ (ls : Array Slot), lv_has ls 3 [(0, .ref a), (1, .int d), (2, .int o)] → W p l e ({ frames := 4, cells := 0, slots := 0, locals := 92 } : Room) s m args below meth c H locs 0 0 Q (F0 m 22 ls [.int ((if (mr_M_isDesign nD d) = 0 then 1 else (if (mr_M_isDesign nD o) = 0 then 1 else 0)) : Int32), .ref a]) := by
    intro ls hl
    refine va_put (D := D) (ci := 0) (fs := mWl0 ba F) (v := .int ((if (mr_M_isDesign nD d) = 0 then 1 else (if (mr_M_isDesign nD o) = 0 then 1 else 0)) : Int32)) (ty := .int) (C := RM) (T := TM) (N := 29) hx hb hts inM_ tyM tyM_ok nmM hown hK hP hD hS 0 rfl hcl 0 (by decide) f70 (fun _ h9 => h9) rfl (by decide +kernel) rfl rfl (Nat.le_of_ble_eq_true rfl) dM_beats_22 (fun H locs hP hD hS => ?_)
    rw [mW_f0] at hP hD
    refine lv_aload_n hx hb dM_beats_25 rfl (lv_at hl 0 rfl) ?_
    have ef26 : (upd F 0 ((if (mr_M_isDesign nD d) = 0 then 1 else (if (mr_M_isDesign nD o) = 0 then 1 else 0)) : Int32)) 0 = ((if (mr_M_isDesign nD d) = 0 then 1 else (if (mr_M_isDesign nD o) = 0 then 1 else 0)) : Int32) := by rw [pk_us]
    refine va_get (D := D) (ci := 0) (v := .int ((if (mr_M_isDesign nD d) = 0 then 1 else (if (mr_M_isDesign nD o) = 0 then 1 else 0)) : Int32)) (C := RM) (T := TM) (N := 29) hx hb hts inM_ hown hK hP 0 rfl hcl 0 (by decide) f70 (fun _ h9 => h9) (congrArg (fun z => some (Value.int z)) ef26) dM_beats_26 ?_
    refine lv_if_le (tgt := 34) hx hb dM_beats_29 (by decide) (fun c29 => ?_) (fun c29 => ?_)
    · have xd := ix_cl (wd_ix (bq_c1 c29) hN) (by omega)
      have xo := ix_cl (wd_ix (bq_c2 c29) hN) (by omega)
      refine lv_aload_n hx hb dM_beats_34 rfl (lv_at hl 0 rfl) ?_
      refine ww_callV (r := none) (w' := mW a ba ka (upd (upd F 0 ((if (mr_M_isDesign nD d) = 0 then 1 else (if (mr_M_isDesign nD o) = 0 then 1 else 0)) : Int32)) 26 ((mr_M_know (F 26) (G 6) (G 7) (G 8) (G 9) (G 10) (G 11) (G 12) (G 13) (G 14) (G 15) (G 16) (G 17) (G 18) (G 19) (G 27) (G 28) nC nT nR nD).1)) (va_up (va_up (va_up G 19 ((mr_M_know (F 26) (G 6) (G 7) (G 8) (G 9) (G 10) (G 11) (G 12) (G 13) (G 14) (G 15) (G 16) (G 17) (G 18) (G 19) (G 27) (G 28) nC nT nR nD).2.1)) 27 ((mr_M_know (F 26) (G 6) (G 7) (G 8) (G 9) (G 10) (G 11) (G 12) (G 13) (G 14) (G 15) (G 16) (G 17) (G 18) (G 19) (G 27) (G 28) nC nT nR nD).2.2.1)) 28 ((mr_M_know (F 26) (G 6) (G 7) (G 8) (G 9) (G 10) (G 11) (G 12) (G 13) (G 14) (G 15) (G 16) (G 17) (G 18) (G 19) (G 27) (G 28) nC nT nR nD).2.2.2))) (As := []) (rest := []) Sx (c_M_know l D cl hcl a ba ka (upd F 0 ((if (mr_M_isDesign nD d) = 0 then 1 else (if (mr_M_isDesign nD o) = 0 then 1 else 0)) : Int32)) G hP (hD.weaken (fun _ _ _ _ => trivial)) nC nT nR nD h2 hC h3 hT h4 hR h5 hN h6 h8 h10 h13 h15) (cwV 0 hts gM_beats_M_know rfl rfl rfl (by decide +kernel) ⟨Nat.le_of_ble_eq_true rfl, Nat.le_of_ble_eq_true rfl⟩) hK (va_recv hK hP (ci := 0) (q0 := 0) hcl rfl) rfl hl.1 rfl (Nat.le_of_ble_eq_true rfl) dM_beats_35 ⟨Nat.zero_le _, Nat.zero_le _⟩ hD hS hA (fun H locs hP hD hS => ?_)
      refine lv_aload_n hx hb dM_beats_38 rfl (lv_at hl 0 rfl) ?_
      refine lv_aload_n hx hb dM_beats_39 rfl (lv_at hl 0 rfl) ?_
      refine va_get (D := D) (ci := 0) (v := .ref (ba 27)) (C := RM) (T := TM) (N := 29) hx hb hts inM_ hown hK hP 0 rfl hcl 27 (by decide) f60 (fun _ h9 => h9) rfl dM_beats_40 ?_
      refine lv_iload_n hx hb dM_beats_43 rfl (lv_at hl 1 rfl) ?_
      refine wt_i (r := nI d.toNatClampNeg) (by exact xd.1) ?_
      have sd44 : d.toNatClampNeg < 4096 := by omega
      have eg44 : (va_up (va_up (va_up G 19 ((mr_M_know (F 26) (G 6) (G 7) (G 8) (G 9) (G 10) (G 11) (G 12) (G 13) (G 14) (G 15) (G 16) (G 17) (G 18) (G 19) (G 27) (G 28) nC nT nR nD).2.1)) 27 ((mr_M_know (F 26) (G 6) (G 7) (G 8) (G 9) (G 10) (G 11) (G 12) (G 13) (G 14) (G 15) (G 16) (G 17) (G 18) (G 19) (G 27) (G 28) nC nT nR nD).2.2.1)) 28 ((mr_M_know (F 26) (G 6) (G 7) (G 8) (G 9) (G 10) (G 11) (G 12) (G 13) (G 14) (G 15) (G 16) (G 17) (G 18) (G 19) (G 27) (G 28) nC nT nR nD).2.2.2)) 27 = (mr_M_know (F 26) (G 6) (G 7) (G 8) (G 9) (G 10) (G 11) (G 12) (G 13) (G 14) (G 15) (G 16) (G 17) (G 18) (G 19) (G 27) (G 28) nC nT nR nD).2.2.1 := by rw [vup_un (k := 28) (j := 27) (by decide), vup_us]
      refine wn_zald (f := (mr_M_know (F 26) (G 6) (G 7) (G 8) (G 9) (G 10) (G 11) (G 12) (G 13) (G 14) (G 15) (G 16) (G 17) (G 18) (G 19) (G 27) (G 28) nC nT nR nD).2.2.1) hx hb hK hP 15 14 (congrArg (fun z : Nat → Int32 => (some ((ba 27), (.inl ((ka 27), 4096, .inl z) : va_E)) : Option (Nat × va_E))) eg44) rfl d.toNatClampNeg rfl sd44 (by decide) dM_beats_44 ?_
      have j62 : ∀ (ls : Array Slot), lv_has ls 3 [(0, .ref a), (1, .int d), (2, .int o)] → W p l e ({ frames := 4, cells := 0, slots := 0, locals := 92 } : Room) s m args below meth c H locs 0 0 Q (F0 m 62 ls [.int ((if (((mr_M_know (F 26) (G 6) (G 7) (G 8) (G 9) (G 10) (G 11) (G 12) (G 13) (G 14) (G 15) (G 16) (G 17) (G 18) (G 19) (G 27) (G 28) nC nT nR nD).2.2.1) d.toNatClampNeg) = 0 then 2 else (if (((mr_M_know (F 26) (G 6) (G 7) (G 8) (G 9) (G 10) (G 11) (G 12) (G 13) (G 14) (G 15) (G 16) (G 17) (G 18) (G 19) (G 27) (G 28) nC nT nR nD).2.2.1) o.toNatClampNeg) = 0 then 2 else 0)) : Int32), .ref a]) := by
        intro ls hl
        refine va_put (D := D) (ci := 0) (fs := mWl0 ba (upd (upd F 0 ((if (mr_M_isDesign nD d) = 0 then 1 else (if (mr_M_isDesign nD o) = 0 then 1 else 0)) : Int32)) 26 ((mr_M_know (F 26) (G 6) (G 7) (G 8) (G 9) (G 10) (G 11) (G 12) (G 13) (G 14) (G 15) (G 16) (G 17) (G 18) (G 19) (G 27) (G 28) nC nT nR nD).1))) (v := .int ((if (((mr_M_know (F 26) (G 6) (G 7) (G 8) (G 9) (G 10) (G 11) (G 12) (G 13) (G 14) (G 15) (G 16) (G 17) (G 18) (G 19) (G 27) (G 28) nC nT nR nD).2.2.1) d.toNatClampNeg) = 0 then 2 else (if (((mr_M_know (F 26) (G 6) (G 7) (G 8) (G 9) (G 10) (G 11) (G 12) (G 13) (G 14) (G 15) (G 16) (G 17) (G 18) (G 19) (G 27) (G 28) nC nT nR nD).2.2.1) o.toNatClampNeg) = 0 then 2 else 0)) : Int32)) (ty := .int) (C := RM) (T := TM) (N := 29) hx hb hts inM_ tyM tyM_ok nmM hown hK hP hD hS 0 rfl hcl 0 (by decide) f70 (fun _ h9 => h9) rfl (by decide +kernel) rfl rfl (Nat.le_of_ble_eq_true rfl) dM_beats_62 (fun H locs hP hD hS => ?_)
        rw [mW_f0, upd_sw (i := 26) (j := 0) (by decide), upd_ow] at hP hD
        refine lv_aload_n hx hb dM_beats_65 rfl (lv_at hl 0 rfl) ?_
        have ef66 : (upd (upd F 0 ((if (((mr_M_know (F 26) (G 6) (G 7) (G 8) (G 9) (G 10) (G 11) (G 12) (G 13) (G 14) (G 15) (G 16) (G 17) (G 18) (G 19) (G 27) (G 28) nC nT nR nD).2.2.1) d.toNatClampNeg) = 0 then 2 else (if (((mr_M_know (F 26) (G 6) (G 7) (G 8) (G 9) (G 10) (G 11) (G 12) (G 13) (G 14) (G 15) (G 16) (G 17) (G 18) (G 19) (G 27) (G 28) nC nT nR nD).2.2.1) o.toNatClampNeg) = 0 then 2 else 0)) : Int32)) 26 ((mr_M_know (F 26) (G 6) (G 7) (G 8) (G 9) (G 10) (G 11) (G 12) (G 13) (G 14) (G 15) (G 16) (G 17) (G 18) (G 19) (G 27) (G 28) nC nT nR nD).1)) 0 = ((if (((mr_M_know (F 26) (G 6) (G 7) (G 8) (G 9) (G 10) (G 11) (G 12) (G 13) (G 14) (G 15) (G 16) (G 17) (G 18) (G 19) (G 27) (G 28) nC nT nR nD).2.2.1) d.toNatClampNeg) = 0 then 2 else (if (((mr_M_know (F 26) (G 6) (G 7) (G 8) (G 9) (G 10) (G 11) (G 12) (G 13) (G 14) (G 15) (G 16) (G 17) (G 18) (G 19) (G 27) (G 28) nC nT nR nD).2.2.1) o.toNatClampNeg) = 0 then 2 else 0)) : Int32) := by rw [pk_un (k := 26) (j := 0) (by decide), pk_us]
        refine va_get (D := D) (ci := 0) (v := .int ((if (((mr_M_know (F 26) (G 6) (G 7) (G 8) (G 9) (G 10) (G 11) (G 12) (G 13) (G 14) (G 15) (G 16) (G 17) (G 18) (G 19) (G 27) (G 28) nC nT nR nD).2.2.1) d.toNatClampNeg) = 0 then 2 else (if (((mr_M_know (F 26) (G 6) (G 7) (G 8) (G 9) (G 10) (G 11) (G 12) (G 13) (G 14) (G 15) (G 16) (G 17) (G 18) (G 19) (G 27) (G 28) nC nT nR nD).2.2.1) o.toNatClampNeg) = 0 then 2 else 0)) : Int32)) (C := RM) (T := TM) (N := 29) hx hb hts inM_ hown hK hP 0 rfl hcl 0 (by decide) f70 (fun _ h9 => h9) (congrArg (fun z => some (Value.int z)) ef66) dM_beats_66 ?_
        have j86 : ∀ (ls : Array Slot), lv_has ls 3 [(0, .ref a), (1, .int d), (2, .int o)] → W p l e ({ frames := 4, cells := 0, slots := 0, locals := 92 } : Room) s m args below meth c H locs 0 0 Q (F0 m 86 ls [.int ((if ((if (((mr_M_know (F 26) (G 6) (G 7) (G 8) (G 9) (G 10) (G 11) (G 12) (G 13) (G 14) (G 15) (G 16) (G 17) (G 18) (G 19) (G 27) (G 28) nC nT nR nD).2.2.1) d.toNatClampNeg) = 0 then 2 else (if (((mr_M_know (F 26) (G 6) (G 7) (G 8) (G 9) (G 10) (G 11) (G 12) (G 13) (G 14) (G 15) (G 16) (G 17) (G 18) (G 19) (G 27) (G 28) nC nT nR nD).2.2.1) o.toNatClampNeg) = 0 then 2 else 0)) : Int32) = 0 then (if (mr_M_isBeaten ((mr_M_know (F 26) (G 6) (G 7) (G 8) (G 9) (G 10) (G 11) (G 12) (G 13) (G 14) (G 15) (G 16) (G 17) (G 18) (G 19) (G 27) (G 28) nC nT nR nD).2.2.2) o.toNatClampNeg d.toNatClampNeg) = 0 then 0 else 1) else 0) : Int32)]) := by
          intro ls hl
          have em : mr_M_beats (F 26) (G 6) (G 7) (G 8) (G 9) (G 10) (G 11) (G 12) (G 13) (G 14) (G 15) (G 16) (G 17) (G 18) (G 19) (G 27) (G 28) nC nT nR nD d o = (((if ((if (((mr_M_know (F 26) (G 6) (G 7) (G 8) (G 9) (G 10) (G 11) (G 12) (G 13) (G 14) (G 15) (G 16) (G 17) (G 18) (G 19) (G 27) (G 28) nC nT nR nD).2.2.1) d.toNatClampNeg) = 0 then 2 else (if (((mr_M_know (F 26) (G 6) (G 7) (G 8) (G 9) (G 10) (G 11) (G 12) (G 13) (G 14) (G 15) (G 16) (G 17) (G 18) (G 19) (G 27) (G 28) nC nT nR nD).2.2.1) o.toNatClampNeg) = 0 then 2 else 0)) : Int32) = 0 then (if (mr_M_isBeaten ((mr_M_know (F 26) (G 6) (G 7) (G 8) (G 9) (G 10) (G 11) (G 12) (G 13) (G 14) (G 15) (G 16) (G 17) (G 18) (G 19) (G 27) (G 28) nC nT nR nD).2.2.2) o.toNatClampNeg d.toNatClampNeg) = 0 then 0 else 1) else 0) : Int32), ((if (((mr_M_know (F 26) (G 6) (G 7) (G 8) (G 9) (G 10) (G 11) (G 12) (G 13) (G 14) (G 15) (G 16) (G 17) (G 18) (G 19) (G 27) (G 28) nC nT nR nD).2.2.1) d.toNatClampNeg) = 0 then 2 else (if (((mr_M_know (F 26) (G 6) (G 7) (G 8) (G 9) (G 10) (G 11) (G 12) (G 13) (G 14) (G 15) (G 16) (G 17) (G 18) (G 19) (G 27) (G 28) nC nT nR nD).2.2.1) o.toNatClampNeg) = 0 then 2 else 0)) : Int32), (mr_M_know (F 26) (G 6) (G 7) (G 8) (G 9) (G 10) (G 11) (G 12) (G 13) (G 14) (G 15) (G 16) (G 17) (G 18) (G 19) (G 27) (G 28) nC nT nR nD).1, (mr_M_know (F 26) (G 6) (G 7) (G 8) (G 9) (G 10) (G 11) (G 12) (G 13) (G 14) (G 15) (G 16) (G 17) (G 18) (G 19) (G 27) (G 28) nC nT nR nD).2.1, (mr_M_know (F 26) (G 6) (G 7) (G 8) (G 9) (G 10) (G 11) (G 12) (G 13) (G 14) (G 15) (G 16) (G 17) (G 18) (G 19) (G 27) (G 28) nC nT nR nD).2.2.1, (mr_M_know (F 26) (G 6) (G 7) (G 8) (G 9) (G 10) (G 11) (G 12) (G 13) (G 14) (G 15) (G 16) (G 17) (G 18) (G 19) (G 27) (G 28) nC nT nR nD).2.2.2) := by rw [mr_M_beats, if_pos c29]
          exact hret _ _ _ _ _ _ (by simp only [em]) (by simp only [em]) hP hD hS dM_beats_86
        refine lv_if_ne (tgt := 85) hx hb dM_beats_69 (by decide) (fun c69 => ?_) (fun c69 => ?_)
        · refine lv_iconst (v := 0) hx hb dM_beats_85 (by decide) ?_
          exact wt_i (by rw [if_neg c69]) (j86 ls hl)
        · refine lv_aload_n hx hb dM_beats_72 rfl (lv_at hl 0 rfl) ?_
          refine lv_iload_n hx hb dM_beats_73 rfl (lv_at hl 2 rfl) ?_
          refine wt_i (r := nI o.toNatClampNeg) (by exact xo.1) ?_
          refine lv_iload_n hx hb dM_beats_74 rfl (lv_at hl 1 rfl) ?_
          refine wt_i (r := nI d.toNatClampNeg) (by exact xd.1) ?_
          refine ro_callV (r := (.int (mr_M_isBeaten ((mr_M_know (F 26) (G 6) (G 7) (G 8) (G 9) (G 10) (G 11) (G 12) (G 13) (G 14) (G 15) (G 16) (G 17) (G 18) (G 19) (G 27) (G 28) nC nT nR nD).2.2.2) o.toNatClampNeg d.toNatClampNeg))) (As := [.int (nI o.toNatClampNeg), .int (nI d.toNatClampNeg)]) (rest := []) Sx (c_M_isBeaten l D cl hcl a ba ka (upd (upd F 0 ((if (((mr_M_know (F 26) (G 6) (G 7) (G 8) (G 9) (G 10) (G 11) (G 12) (G 13) (G 14) (G 15) (G 16) (G 17) (G 18) (G 19) (G 27) (G 28) nC nT nR nD).2.2.1) d.toNatClampNeg) = 0 then 2 else (if (((mr_M_know (F 26) (G 6) (G 7) (G 8) (G 9) (G 10) (G 11) (G 12) (G 13) (G 14) (G 15) (G 16) (G 17) (G 18) (G 19) (G 27) (G 28) nC nT nR nD).2.2.1) o.toNatClampNeg) = 0 then 2 else 0)) : Int32)) 26 ((mr_M_know (F 26) (G 6) (G 7) (G 8) (G 9) (G 10) (G 11) (G 12) (G 13) (G 14) (G 15) (G 16) (G 17) (G 18) (G 19) (G 27) (G 28) nC nT nR nD).1)) (va_up (va_up (va_up G 19 ((mr_M_know (F 26) (G 6) (G 7) (G 8) (G 9) (G 10) (G 11) (G 12) (G 13) (G 14) (G 15) (G 16) (G 17) (G 18) (G 19) (G 27) (G 28) nC nT nR nD).2.1)) 27 ((mr_M_know (F 26) (G 6) (G 7) (G 8) (G 9) (G 10) (G 11) (G 12) (G 13) (G 14) (G 15) (G 16) (G 17) (G 18) (G 19) (G 27) (G 28) nC nT nR nD).2.2.1)) 28 ((mr_M_know (F 26) (G 6) (G 7) (G 8) (G 9) (G 10) (G 11) (G 12) (G 13) (G 14) (G 15) (G 16) (G 17) (G 18) (G 19) (G 27) (G 28) nC nT nR nD).2.2.2)) hP o.toNatClampNeg d.toNatClampNeg (by have := xo.2; omega) (by have := xd.2; omega)) (cwV 2 hts gM_beats_M_isBeaten rfl rfl rfl (by decide +kernel) ⟨Nat.le_of_ble_eq_true rfl, Nat.le_of_ble_eq_true rfl⟩) hK (va_recv hK hP (ci := 0) (q0 := 0) hcl rfl) rfl hl.1 rfl (Nat.le_of_ble_eq_true rfl) dM_beats_75 ⟨Nat.zero_le _, Nat.zero_le _⟩ ?_
          refine lv_if_eq (tgt := 85) hx hb dM_beats_78 (by decide) (fun c78 => ?_) (fun c78 => ?_)
          · refine lv_iconst (v := 0) hx hb dM_beats_85 (by decide) ?_
            exact wt_i (by rw [if_pos c69, if_pos c78]) (j86 ls hl)
          · refine lv_iconst (v := 1) hx hb dM_beats_81 (by decide) ?_
            refine lv_goto (tgt := 86) hx hb dM_beats_82 (by decide) ?_
            exact wt_i (by rw [if_pos c69, if_neg c78]) (j86 ls hl)
      refine lv_if_eq (tgt := 61) hx hb dM_beats_45 (by decide) (fun c45 => ?_) (fun c45 => ?_)
      · refine lv_iconst (v := 2) hx hb dM_beats_61 (by decide) ?_
        exact wt_i (by rw [if_pos c45]) (j62 ls hl)
      · refine lv_aload_n hx hb dM_beats_48 rfl (lv_at hl 0 rfl) ?_
        refine va_get (D := D) (ci := 0) (v := .ref (ba 27)) (C := RM) (T := TM) (N := 29) hx hb hts inM_ hown hK hP 0 rfl hcl 27 (by decide) f60 (fun _ h9 => h9) rfl dM_beats_49 ?_
        refine lv_iload_n hx hb dM_beats_52 rfl (lv_at hl 2 rfl) ?_
        refine wt_i (r := nI o.toNatClampNeg) (by exact xo.1) ?_
        have sd53 : o.toNatClampNeg < 4096 := by omega
        have eg53 : (va_up (va_up (va_up G 19 ((mr_M_know (F 26) (G 6) (G 7) (G 8) (G 9) (G 10) (G 11) (G 12) (G 13) (G 14) (G 15) (G 16) (G 17) (G 18) (G 19) (G 27) (G 28) nC nT nR nD).2.1)) 27 ((mr_M_know (F 26) (G 6) (G 7) (G 8) (G 9) (G 10) (G 11) (G 12) (G 13) (G 14) (G 15) (G 16) (G 17) (G 18) (G 19) (G 27) (G 28) nC nT nR nD).2.2.1)) 28 ((mr_M_know (F 26) (G 6) (G 7) (G 8) (G 9) (G 10) (G 11) (G 12) (G 13) (G 14) (G 15) (G 16) (G 17) (G 18) (G 19) (G 27) (G 28) nC nT nR nD).2.2.2)) 27 = (mr_M_know (F 26) (G 6) (G 7) (G 8) (G 9) (G 10) (G 11) (G 12) (G 13) (G 14) (G 15) (G 16) (G 17) (G 18) (G 19) (G 27) (G 28) nC nT nR nD).2.2.1 := by rw [vup_un (k := 28) (j := 27) (by decide), vup_us]
        refine wn_zald (f := (mr_M_know (F 26) (G 6) (G 7) (G 8) (G 9) (G 10) (G 11) (G 12) (G 13) (G 14) (G 15) (G 16) (G 17) (G 18) (G 19) (G 27) (G 28) nC nT nR nD).2.2.1) hx hb hK hP 15 14 (congrArg (fun z : Nat → Int32 => (some ((ba 27), (.inl ((ka 27), 4096, .inl z) : va_E)) : Option (Nat × va_E))) eg53) rfl o.toNatClampNeg rfl sd53 (by decide) dM_beats_53 ?_
        refine lv_if_eq (tgt := 61) hx hb dM_beats_54 (by decide) (fun c54 => ?_) (fun c54 => ?_)
        · refine lv_iconst (v := 2) hx hb dM_beats_61 (by decide) ?_
          exact wt_i (by rw [if_neg c45, if_pos c54]) (j62 ls hl)
        · refine lv_iconst (v := 0) hx hb dM_beats_57 (by decide) ?_
          refine lv_goto (tgt := 62) hx hb dM_beats_58 (by decide) ?_
          exact wt_i (by rw [if_neg c45, if_neg c54]) (j62 ls hl)
    · refine lv_iconst (v := 0) hx hb dM_beats_32 (by decide) ?_
      have em : mr_M_beats (F 26) (G 6) (G 7) (G 8) (G 9) (G 10) (G 11) (G 12) (G 13) (G 14) (G 15) (G 16) (G 17) (G 18) (G 19) (G 27) (G 28) nC nT nR nD d o = (0, ((if (mr_M_isDesign nD d) = 0 then 1 else (if (mr_M_isDesign nD o) = 0 then 1 else 0)) : Int32), F 26, G 19, G 27, G 28) := by rw [mr_M_beats, if_neg c29]
      exact hret _ _ _ _ _ _ (by simp only [em]) (by simp only [em]; rw [upd_keep (f := upd F 0 ((if (mr_M_isDesign nD d) = 0 then 1 else (if (mr_M_isDesign nD o) = 0 then 1 else 0)) : Int32)) (j := 26) (x := F 26) rfl, vup_keep (f := G) (j := 19) (x := G 19) rfl, vup_keep (f := G) (j := 27) (x := G 27) rfl, vup_keep (f := G) (j := 28) (x := G 28) rfl]) hP hD hS dM_beats_33
  refine lv_if_eq (tgt := 21) hx hb dM_beats_6 (by decide) (fun c6 => ?_) (fun c6 => ?_)
  · refine lv_iconst (v := 1) hx hb dM_beats_21 (by decide) ?_
    exact wt_i (by rw [if_pos c6]) (j22 ls hl)
  · refine lv_aload_n hx hb dM_beats_9 rfl (lv_at hl 0 rfl) ?_
    refine lv_iload_n hx hb dM_beats_10 rfl (lv_at hl 2 rfl) ?_
    refine ro_callV (r := (.int (mr_M_isDesign nD o))) (As := [.int o]) (rest := [.ref a]) Sx (c_M_isDesign l D cl hcl a ba ka F G hP nD o h5) (cwV 1 hts gM_beats_M_isDesign rfl rfl rfl (by decide +kernel) ⟨Nat.le_of_ble_eq_true rfl, Nat.le_of_ble_eq_true rfl⟩) hK (va_recv hK hP (ci := 0) (q0 := 0) hcl rfl) rfl hl.1 rfl (Nat.le_of_ble_eq_true rfl) dM_beats_11 ⟨Nat.zero_le _, Nat.zero_le _⟩ ?_
    refine lv_if_eq (tgt := 21) hx hb dM_beats_14 (by decide) (fun c14 => ?_) (fun c14 => ?_)
    · refine lv_iconst (v := 1) hx hb dM_beats_21 (by decide) ?_
      exact wt_i (by rw [if_neg c6, if_pos c14]) (j22 ls hl)
    · refine lv_iconst (v := 0) hx hb dM_beats_17 (by decide) ?_
      refine lv_goto (tgt := 22) hx hb dM_beats_18 (by decide) ?_
      exact wt_i (by rw [if_neg c6, if_neg c14]) (j22 ls hl)
end
section
def lf_M_best_58 (g6 : Nat → Int32) (g7 : Nat → Int32) (g8 : Nat → Int32) (g9 : Nat → Int32) (g10 : Nat → Int32) (g11 : Nat → Int32) (g12 : Nat → Int32) (g13 : Nat → Int32) (g14 : Nat → Int32) (g15 : Nat → Int32) (g16 : Nat → Int32) (g17 : Nat → Int32) (g18 : Nat → Int32) (nC : Nat) (nT : Nat) (nR : Nat) (nD : Nat) (nu : Int32) : Nat → Int32 → Int32 → Int32 → Int32 → (Nat → Int32) → Int32 × Int32 × Int32 × Int32 × (Nat → Int32)
  | 0, lk, be, le, sx, r => (lk, be, le, sx, r)
  | N + 1, lk, be, le, sx, r => (if sx < 0 then (lk, be, le, sx, r) else (if ((if (mr_M_isBarred g13 g14 g15 g16 r nC nR) = 0 then (if (mr_M_passesLimits g7 g8 g9 g10 g11 g12 g17 g18 r nC nT) = 0 then (if be < 0 then 0 else (if (mr_M_boundOf g7 g8 g9 g10 g11 g12 r nC nT nu) < le then 0 else 1)) else 1) else 1) : Int32) = 0 then (if sx = (nI nC) then (if (nI nC) ≤ sx then lf_M_best_58 g6 g7 g8 g9 g10 g11 g12 g13 g14 g15 g16 g17 g18 nC nT nR nD nu N (lk + 1) (mr_M_closed g6 r nC) (mr_M_boundOf g7 g8 g9 g10 g11 g12 r nC nT nu) ((mr_M_nextRow g6 r nC sx.toNatClampNeg).1) ((mr_M_nextRow g6 r nC sx.toNatClampNeg).2) else lf_M_best_58 g6 g7 g8 g9 g10 g11 g12 g13 g14 g15 g16 g17 g18 nC nT nR nD nu N (lk + 1) (mr_M_closed g6 r nC) (mr_M_boundOf g7 g8 g9 g10 g11 g12 r nC nT nu) (sx + 1) (upd r sx.toNatClampNeg 0)) else (if (nI nC) ≤ sx then lf_M_best_58 g6 g7 g8 g9 g10 g11 g12 g13 g14 g15 g16 g17 g18 nC nT nR nD nu N (lk + 1) be le ((mr_M_nextRow g6 r nC sx.toNatClampNeg).1) ((mr_M_nextRow g6 r nC sx.toNatClampNeg).2) else lf_M_best_58 g6 g7 g8 g9 g10 g11 g12 g13 g14 g15 g16 g17 g18 nC nT nR nD nu N (lk + 1) be le (sx + 1) (upd r sx.toNatClampNeg 0))) else lf_M_best_58 g6 g7 g8 g9 g10 g11 g12 g13 g14 g15 g16 g17 g18 nC nT nR nD nu N (lk + 1) be le ((mr_M_nextRow g6 r nC sx.toNatClampNeg).1) ((mr_M_nextRow g6 r nC sx.toNatClampNeg).2)))
def lf_M_best_32 (nC : Nat) (nT : Nat) (nR : Nat) (nD : Nat) (nu : Int32) (i0 : (Nat → Int32)) : Nat → (Nat → Int32)
  | 0 => i0
  | k32 + 1 => (upd (lf_M_best_32 nC nT nR nD nu i0 k32) k32 (-1))
def mr_M_best (f20 : Int32) (g6 : Nat → Int32) (g7 : Nat → Int32) (g8 : Nat → Int32) (g9 : Nat → Int32) (g10 : Nat → Int32) (g11 : Nat → Int32) (g12 : Nat → Int32) (g13 : Nat → Int32) (g14 : Nat → Int32) (g15 : Nat → Int32) (g16 : Nat → Int32) (g17 : Nat → Int32) (g18 : Nat → Int32) (g19 : Nat → Int32) (nC : Nat) (nT : Nat) (nR : Nat) (nD : Nat) (nu : Int32) : Int32 × Int32 × Int32 × (Nat → Int32) := (if (mr_M_within nu 0 3) = 0 then ((mr_M_fail 1).1, (mr_M_fail 1).2, f20, g19) else ((lf_M_best_58 g6 g7 g8 g9 g10 g11 g12 g13 g14 g15 g16 g17 g18 nC nT nR nD nu 8192 0 (-1) 0 0 (lf_M_best_32 nC nT nR nD nu g19 nC)).2.1, 0, (lf_M_best_58 g6 g7 g8 g9 g10 g11 g12 g13 g14 g15 g16 g17 g18 nC nT nR nD nu 8192 0 (-1) 0 0 (lf_M_best_32 nC nT nR nD nu g19 nC)).1, (lf_M_best_58 g6 g7 g8 g9 g10 g11 g12 g13 g14 g15 g16 g17 g18 nC nT nR nD nu 8192 0 (-1) 0 0 (lf_M_best_32 nC nT nR nD nu g19 nC)).2.2.2.2))
set_option maxHeartbeats 4000000 in
set_option maxRecDepth 100000 in
theorem c_M_best (l : Launch) (D : va_G) (cl : List vw_C) (hcl : cl[0]? = some (RM, TM, 29)) (a : Nat) (ba : Nat → Nat) (ka : Nat → ClassId) (F : Nat → Int32) (G : Nat → Nat → Int32) {H0 : Heap} (hP : va_P D cl (mW a ba ka F G) H0) (hD : va_D (fun _ => True) (mW a ba ka F G)) (nC : Nat) (nT : Nat) (nR : Nat) (nD : Nat) (nu : Int32) (h2 : F 2 = nI nC) (hC : nC ≤ 8) (h3 : F 3 = nI nT) (hT : nT ≤ 100) (h4 : F 4 = nI nR) (hR : nR ≤ 40) (h5 : F 5 = nI nD) (hN : nD ≤ 4096) (h6 : ∀ c, c < nC → ∃ z : Nat, G 6 c = nI z ∧ 2 ≤ z ∧ z ≤ 6) (h8 : ∀ t, t < nT → ∃ x : Nat, x < nC ∧ G 8 t = nI x) (h10 : ∀ t, t < nT → G 10 t = -1 ∨ ∃ x : Nat, x < nC ∧ G 10 t = nI x) (h13 : ∀ j, j < nR → ∃ x : Nat, x < nC ∧ G 13 j = nI x) (h15 : ∀ j, j < nR → ∃ x : Nat, x < nC ∧ G 15 j = nI x) (hmp : mp (zg (G 6)) 0 nC = nD) : ww_Met l yM_best wsM_best ({ frames := 3, cells := 0, slots := 0, locals := 70 } : Room) D cl (mT ka) H0 [.ref a, .int nu] (mW a ba ka F G) (some (.int ((mr_M_best (F 20) (G 6) (G 7) (G 8) (G 9) (G 10) (G 11) (G 12) (G 13) (G 14) (G 15) (G 16) (G 17) (G 18) (G 19) nC nT nR nD nu).1))) (mW a ba ka (upd (upd F 0 ((mr_M_best (F 20) (G 6) (G 7) (G 8) (G 9) (G 10) (G 11) (G 12) (G 13) (G 14) (G 15) (G 16) (G 17) (G 18) (G 19) nC nT nR nD nu).2.1)) 20 ((mr_M_best (F 20) (G 6) (G 7) (G 8) (G 9) (G 10) (G 11) (G 12) (G 13) (G 14) (G 15) (G 16) (G 17) (G 18) (G 19) nC nT nR nD nu).2.2.1)) (va_up G 19 ((mr_M_best (F 20) (G 6) (G 7) (G 8) (G 9) (G 10) (G 11) (G 12) (G 13) (G 14) (G 15) (G 16) (G 17) (G 18) (G 19) nC nT nR nD nu).2.2.2))) := by
  refine ww_metI (by decide) rfl (Nat.le_of_ble_eq_true rfl) hP hD ?_
  intro p e s m args below meth c Q A Sx hK hP hD hS hA ls hl hret
  obtain ⟨hx, hb, hml, hown, hts⟩ := id Sx
  have hl : lv_has ls 6 [(0, .ref a), (1, .int nu)] := hl
  obtain ⟨H, eH⟩ : ∃ H : Heap, H = H0 := ⟨_, rfl⟩
  obtain ⟨locs, eL⟩ : ∃ L : List Loc, L = [] := ⟨_, rfl⟩
  have hP : va_P D cl (mW a ba ka F G) H := by rw [eH]; exact hP
  have hS : va_S A H0 H locs := by rw [eH, eL]; exact hS
  rw [show W p l e ({ frames := 3, cells := 0, slots := 0, locals := 70 } : Room) s m args below meth c H0 [] 0 0 Q (F0 m 0 ls []) = W p l e ({ frames := 3, cells := 0, slots := 0, locals := 70 } : Room) s m args below meth c H locs 0 0 Q (F0 m 0 ls []) by rw [eH, eL]]
  clear eH eL
  have f70 := hts _ (List.mem_cons_of_mem _ mfM_70)
  have inM_ : ∀ w ∈ wsM0, w ∈ wsM_best := fun w h => List.mem_cons_of_mem _ (inM_all w h)
  have f136 := hts _ (List.mem_cons_of_mem _ mfM_136)
  have f81 := hts _ (List.mem_cons_of_mem _ mfM_81)
  have f54 := hts _ (List.mem_cons_of_mem _ mfM_54)
  refine lv_aload_n hx hb dM_best_0 rfl (lv_at hl 0 rfl) ?_
  refine lv_iconst (v := 0) hx hb dM_best_1 (by decide) ?_
  refine va_put (D := D) (ci := 0) (fs := mWl0 ba F) (v := .int 0) (ty := .int) (C := RM) (T := TM) (N := 29) hx hb hts inM_ tyM tyM_ok nmM hown hK hP hD hS 0 rfl hcl 0 (by decide) f70 (fun _ h9 => h9) rfl (by decide +kernel) rfl rfl (Nat.le_of_ble_eq_true rfl) dM_best_2 (fun H locs hP hD hS => ?_)
  rw [mW_f0] at hP hD
  refine lv_iload_n hx hb dM_best_5 rfl (lv_at hl 1 rfl) ?_
  refine lv_iconst (v := 0) hx hb dM_best_6 (by decide) ?_
  refine lv_iconst (v := 3) hx hb dM_best_7 (by decide) ?_
  refine ro_callS (r := (.int (mr_M_within nu 0 3))) (As := [.int nu, .int 0, .int 3]) (rest := []) Sx (c_M_within l D cl hcl a ba ka (upd F 0 0) G hP nu 0 3) (va_cwS 3 hts gM_best_M_within rfl rfl rfl (by decide +kernel) ⟨Nat.le_of_ble_eq_true rfl, Nat.le_of_ble_eq_true rfl⟩) hK rfl hl.1 rfl (Nat.le_of_ble_eq_true rfl) dM_best_8 ⟨Nat.zero_le _, Nat.zero_le _⟩ ?_
  refine lv_if_ne (tgt := 20) hx hb dM_best_11 (by decide) (fun c11 => ?_) (fun c11 => ?_)
  · refine lv_aload_n hx hb dM_best_20 rfl (lv_at hl 0 rfl) ?_
    refine lv_iconst (v := 0) hx hb dM_best_21 (by decide) ?_
    refine va_put (D := D) (ci := 0) (fs := mWl0 ba (upd F 0 0)) (v := .int 0) (ty := .int) (C := RM) (T := TM) (N := 29) hx hb hts inM_ tyM tyM_ok nmM hown hK hP hD hS 0 rfl hcl 20 (by decide) f136 (fun _ h9 => h9) rfl (by decide +kernel) rfl rfl (Nat.le_of_ble_eq_true rfl) dM_best_22 (fun H locs hP hD hS => ?_)
    rw [mW_f20] at hP hD
    refine lv_iconst (v := (-1)) hx hb dM_best_25 (by decide) ?_
    refine lv_istore_n (lv' := [(2, .int (-1)), (0, .ref a), (1, .int nu)]) hx hb dM_best_26 rfl hl (by decide) rfl (fun ls hl => ?_)
    refine lv_iconst (v := 0) hx hb dM_best_27 (by decide) ?_
    refine lv_istore_n (lv' := [(3, .int 0), (2, .int (-1)), (0, .ref a), (1, .int nu)]) hx hb dM_best_28 rfl hl (by decide) rfl (fun ls hl => ?_)
    refine lv_iconst (v := 0) hx hb dM_best_29 (by decide) ?_
    refine lv_istore (lv' := [(4, .int 0), (3, .int 0), (2, .int (-1)), (0, .ref a), (1, .int nu)]) hx hb dM_best_30 hl (by decide) rfl (fun ls hl => ?_)
    have loop32 : ∀ (N32 k32 : Nat), k32 ≤ nC → nC - k32 < N32 → ∀ (H : Heap) (locs : List Loc), va_P D cl (mW a ba ka (upd (upd F 0 0) 20 0) (va_up G 19 (lf_M_best_32 nC nT nR nD nu (G 19) k32))) H → va_D A (mW a ba ka (upd (upd F 0 0) 20 0) (va_up G 19 (lf_M_best_32 nC nT nR nD nu (G 19) k32))) → va_S A H0 H locs → ∀ (ls : Array Slot), lv_has ls 6 [(4, .int (nI k32)), (3, .int 0), (2, .int (-1)), (0, .ref a), (1, .int nu)] → W p l e ({ frames := 3, cells := 0, slots := 0, locals := 70 } : Room) s m args below meth c H locs 0 0 Q (F0 m 32 ls []) := by
      intro N32
      induction N32 with
      | zero => intro k32 hk32 hm32; exact absurd hm32 (Nat.not_lt_zero _)
      | succ N32 ih32 =>
        intro k32 hk32 hm32  H locs hP hD hS ls hl
        refine lv_iload hx hb dM_best_32 (lv_at hl 0 rfl) ?_
        refine lv_aload_n hx hb dM_best_34 rfl (lv_at hl 3 rfl) ?_
        refine va_get (D := D) (ci := 0) (v := .int (F 2)) (C := RM) (T := TM) (N := 29) hx hb hts inM_ hown hK hP 0 rfl hcl 2 (by decide) f81 (fun _ h9 => h9) rfl dM_best_35 ?_
        refine wt_i h2 ?_
        refine lv_icmp_ge (tgt := 55) hx hb dM_best_38 (by decide) (fun c38 => ?_) (fun c38 => ?_)
        · have n38 : nC ≤ k32 := (nI_leI (a := nC) (b := k32) (by omega) (by omega)).mp c38
          have hx32 : nC = k32 := by omega
          subst hx32
          refine lv_iconst (v := 0) hx hb dM_best_55 (by decide) ?_
          refine lv_istore (lv' := [(4, .int 0), (3, .int 0), (2, .int (-1)), (0, .ref a), (1, .int nu)]) hx hb dM_best_56 hl (by decide) rfl (fun ls hl => ?_)
          have ex58 : ∀ (H : Heap) (locs : List Loc), va_P D cl (mW a ba ka (upd (upd F 0 0) 20 ((lf_M_best_58 (G 6) (G 7) (G 8) (G 9) (G 10) (G 11) (G 12) (G 13) (G 14) (G 15) (G 16) (G 17) (G 18) nC nT nR nD nu 8192 0 (-1) 0 0 (lf_M_best_32 nC nT nR nD nu (G 19) nC)).1)) (va_up G 19 ((lf_M_best_58 (G 6) (G 7) (G 8) (G 9) (G 10) (G 11) (G 12) (G 13) (G 14) (G 15) (G 16) (G 17) (G 18) nC nT nR nD nu 8192 0 (-1) 0 0 (lf_M_best_32 nC nT nR nD nu (G 19) nC)).2.2.2.2))) H → va_D A (mW a ba ka (upd (upd F 0 0) 20 ((lf_M_best_58 (G 6) (G 7) (G 8) (G 9) (G 10) (G 11) (G 12) (G 13) (G 14) (G 15) (G 16) (G 17) (G 18) nC nT nR nD nu 8192 0 (-1) 0 0 (lf_M_best_32 nC nT nR nD nu (G 19) nC)).1)) (va_up G 19 ((lf_M_best_58 (G 6) (G 7) (G 8) (G 9) (G 10) (G 11) (G 12) (G 13) (G 14) (G 15) (G 16) (G 17) (G 18) nC nT nR nD nu 8192 0 (-1) 0 0 (lf_M_best_32 nC nT nR nD nu (G 19) nC)).2.2.2.2))) → va_S A H0 H locs → ∀ (ls : Array Slot), lv_has ls 6 [(4, .int ((lf_M_best_58 (G 6) (G 7) (G 8) (G 9) (G 10) (G 11) (G 12) (G 13) (G 14) (G 15) (G 16) (G 17) (G 18) nC nT nR nD nu 8192 0 (-1) 0 0 (lf_M_best_32 nC nT nR nD nu (G 19) nC)).2.2.2.1)), (3, .int ((lf_M_best_58 (G 6) (G 7) (G 8) (G 9) (G 10) (G 11) (G 12) (G 13) (G 14) (G 15) (G 16) (G 17) (G 18) nC nT nR nD nu 8192 0 (-1) 0 0 (lf_M_best_32 nC nT nR nD nu (G 19) nC)).2.2.1)), (2, .int ((lf_M_best_58 (G 6) (G 7) (G 8) (G 9) (G 10) (G 11) (G 12) (G 13) (G 14) (G 15) (G 16) (G 17) (G 18) nC nT nR nD nu 8192 0 (-1) 0 0 (lf_M_best_32 nC nT nR nD nu (G 19) nC)).2.1)), (0, .ref a), (1, .int nu)] → W p l e ({ frames := 3, cells := 0, slots := 0, locals := 70 } : Room) s m args below meth c H locs 0 0 Q (F0 m 171 ls []) := by
            intro H locs hP hD hS ls hl
            refine lv_iload_n hx hb dM_best_171 rfl (lv_at hl 2 rfl) ?_
            have em : mr_M_best (F 20) (G 6) (G 7) (G 8) (G 9) (G 10) (G 11) (G 12) (G 13) (G 14) (G 15) (G 16) (G 17) (G 18) (G 19) nC nT nR nD nu = ((lf_M_best_58 (G 6) (G 7) (G 8) (G 9) (G 10) (G 11) (G 12) (G 13) (G 14) (G 15) (G 16) (G 17) (G 18) nC nT nR nD nu 8192 0 (-1) 0 0 (lf_M_best_32 nC nT nR nD nu (G 19) nC)).2.1, 0, (lf_M_best_58 (G 6) (G 7) (G 8) (G 9) (G 10) (G 11) (G 12) (G 13) (G 14) (G 15) (G 16) (G 17) (G 18) nC nT nR nD nu 8192 0 (-1) 0 0 (lf_M_best_32 nC nT nR nD nu (G 19) nC)).1, (lf_M_best_58 (G 6) (G 7) (G 8) (G 9) (G 10) (G 11) (G 12) (G 13) (G 14) (G 15) (G 16) (G 17) (G 18) nC nT nR nD nu 8192 0 (-1) 0 0 (lf_M_best_32 nC nT nR nD nu (G 19) nC)).2.2.2.2) := by rw [mr_M_best, if_neg c11]
            exact hret _ _ _ _ _ _ (by simp only [em]) (by simp only [em]) hP hD hS dM_best_172
          have loop58 : ∀ (N58 : Nat) (lk : Int32) (be : Int32) (le : Int32) (sx : Int32) (r : Nat → Int32), bI (G 6) nC r sx → bm (G 6) nC r sx < N58 → lf_M_best_58 (G 6) (G 7) (G 8) (G 9) (G 10) (G 11) (G 12) (G 13) (G 14) (G 15) (G 16) (G 17) (G 18) nC nT nR nD nu 8192 0 (-1) 0 0 (lf_M_best_32 nC nT nR nD nu (G 19) nC) = lf_M_best_58 (G 6) (G 7) (G 8) (G 9) (G 10) (G 11) (G 12) (G 13) (G 14) (G 15) (G 16) (G 17) (G 18) nC nT nR nD nu N58 lk be le sx r → ∀ (H : Heap) (locs : List Loc), va_P D cl (mW a ba ka (upd (upd F 0 0) 20 lk) (va_up G 19 r)) H → va_D A (mW a ba ka (upd (upd F 0 0) 20 lk) (va_up G 19 r)) → va_S A H0 H locs → ∀ (ls : Array Slot), lv_has ls 6 [(4, .int sx), (3, .int le), (2, .int be), (0, .ref a), (1, .int nu)] → W p l e ({ frames := 3, cells := 0, slots := 0, locals := 70 } : Room) s m args below meth c H locs 0 0 Q (F0 m 58 ls []) := by
            intro N58
            induction N58 with
            | zero => intro lk be le sx r hI hm58; exact absurd hm58 (Nat.not_lt_zero _)
            | succ N58 ih58 =>
              intro lk be le sx r hI hm58 hR58 H locs hP hD hS ls hl
              refine lv_iload hx hb dM_best_58 (lv_at hl 0 rfl) ?_
              refine lv_if_lt (tgt := 171) hx hb dM_best_60 (by decide) (fun c60 => ?_) (fun c60 => ?_)
              · have er58 : lf_M_best_58 (G 6) (G 7) (G 8) (G 9) (G 10) (G 11) (G 12) (G 13) (G 14) (G 15) (G 16) (G 17) (G 18) nC nT nR nD nu (N58 + 1) lk be le sx r = (lk, be, le, sx, r) := by rw [lf_M_best_58, if_pos c60]
                rw [er58] at hR58
                exact ex58 H locs (by rw [hR58]; exact hP) (by rw [hR58]; exact hD) hS ls (by rw [hR58]; exact lv_sub hl [0, 1, 2, 3, 4] rfl)
              · obtain ⟨s0, hs0, es0, hr0⟩ := bI_nn hI c60
                have xs : sx = nI sx.toNatClampNeg ∧ sx.toNatClampNeg < nC + 1 := ix_cl ⟨s0, by omega, es0⟩ (by omega)
                have xt : s0 = sx.toNatClampNeg := by rw [es0]; exact (nI_clamp (by omega)).symm
                refine lv_aload_n hx hb dM_best_63 rfl (lv_at hl 3 rfl) ?_
                refine lv_dup hx hb dM_best_64 rfl ?_
                have ef65 : (upd (upd F 0 0) 20 lk) 20 = lk := by rw [pk_us]
                refine va_get (D := D) (ci := 0) (v := .int lk) (C := RM) (T := TM) (N := 29) hx hb hts inM_ hown hK hP 0 rfl hcl 20 (by decide) f136 (fun _ h9 => h9) (congrArg (fun z => some (Value.int z)) ef65) dM_best_65 ?_
                refine lv_iconst (v := 1) hx hb dM_best_68 (by decide) ?_
                refine lv_iadd hx hb dM_best_69 ?_
                refine va_put (D := D) (ci := 0) (fs := mWl0 ba (upd (upd F 0 0) 20 lk)) (v := .int (lk + 1)) (ty := .int) (C := RM) (T := TM) (N := 29) hx hb hts inM_ tyM tyM_ok nmM hown hK hP hD hS 0 rfl hcl 20 (by decide) f136 (fun _ h9 => h9) rfl (by decide +kernel) rfl rfl (Nat.le_of_ble_eq_true rfl) dM_best_70 (fun H locs hP hD hS => ?_)
                rw [mW_f20, upd_ow] at hP hD
                refine lv_aload_n hx hb dM_best_73 rfl (lv_at hl 3 rfl) ?_
                refine ro_callV (r := (.int (mr_M_isBarred (G 13) (G 14) (G 15) (G 16) r nC nR))) (As := []) (rest := []) Sx (c_M_isBarred l D cl hcl a ba ka (upd (upd F 0 0) 20 (lk + 1)) (va_up G 19 r) hP nC nR hC h4 hR h13 h15) (cwV 0 hts gM_best_M_isBarred rfl rfl rfl (by decide +kernel) ⟨Nat.le_of_ble_eq_true rfl, Nat.le_of_ble_eq_true rfl⟩) hK (va_recv hK hP (ci := 0) (q0 := 0) hcl rfl) rfl hl.1 rfl (Nat.le_of_ble_eq_true rfl) dM_best_74 ⟨Nat.zero_le _, Nat.zero_le _⟩ ?_
                have j105 : ∀ (ls : Array Slot), lv_has ls 6 [(4, .int sx), (3, .int le), (2, .int be), (0, .ref a), (1, .int nu)] → W p l e ({ frames := 3, cells := 0, slots := 0, locals := 70 } : Room) s m args below meth c H locs 0 0 Q (F0 m 105 ls [.int ((if (mr_M_isBarred (G 13) (G 14) (G 15) (G 16) r nC nR) = 0 then (if (mr_M_passesLimits (G 7) (G 8) (G 9) (G 10) (G 11) (G 12) (G 17) (G 18) r nC nT) = 0 then (if be < 0 then 0 else (if (mr_M_boundOf (G 7) (G 8) (G 9) (G 10) (G 11) (G 12) r nC nT nu) < le then 0 else 1)) else 1) else 1) : Int32)]) := by
                  intro ls hl
                  refine lv_istore (lv' := [(5, .int ((if (mr_M_isBarred (G 13) (G 14) (G 15) (G 16) r nC nR) = 0 then (if (mr_M_passesLimits (G 7) (G 8) (G 9) (G 10) (G 11) (G 12) (G 17) (G 18) r nC nT) = 0 then (if be < 0 then 0 else (if (mr_M_boundOf (G 7) (G 8) (G 9) (G 10) (G 11) (G 12) r nC nT nu) < le then 0 else 1)) else 1) else 1) : Int32)), (4, .int sx), (3, .int le), (2, .int be), (0, .ref a), (1, .int nu)]) hx hb dM_best_105 hl (by decide) rfl (fun ls hl => ?_)
                  refine lv_iload hx hb dM_best_107 (lv_at hl 0 rfl) ?_
                  refine lv_if_ne (tgt := 132) hx hb dM_best_109 (by decide) (fun c109 => ?_) (fun c109 => ?_)
                  · refine lv_iload hx hb dM_best_132 (lv_at hl 0 rfl) ?_
                    refine lv_if_ne (tgt := 160) hx hb dM_best_134 (by decide) (fun _ => ?_) (fun h9 => absurd h9 c109)
                    refine lv_aload_n hx hb dM_best_160 rfl (lv_at hl 4 rfl) ?_
                    refine lv_iload hx hb dM_best_161 (lv_at hl 1 rfl) ?_
                    refine wt_i (r := nI sx.toNatClampNeg) (by exact xs.1) ?_
                    refine ww_callV (r := (some (.int ((mr_M_nextRow (G 6) r nC sx.toNatClampNeg).1)))) (w' := mW a ba ka (upd (upd F 0 0) 20 (lk + 1)) (va_up (va_up G 19 r) 19 ((mr_M_nextRow (G 6) r nC sx.toNatClampNeg).2))) (As := [.int (nI sx.toNatClampNeg)]) (rest := []) Sx (c_M_nextRow l D cl hcl a ba ka (upd (upd F 0 0) 20 (lk + 1)) (va_up G 19 r) hP (hD.weaken (fun _ _ _ _ => trivial)) nC sx.toNatClampNeg hC (by have := xs.2; omega)) (cwV 1 hts gM_best_M_nextRow rfl rfl rfl (by decide +kernel) ⟨Nat.le_of_ble_eq_true rfl, Nat.le_of_ble_eq_true rfl⟩) hK (va_recv hK hP (ci := 0) (q0 := 0) hcl rfl) rfl hl.1 rfl (Nat.le_of_ble_eq_true rfl) dM_best_163 ⟨Nat.zero_le _, Nat.zero_le _⟩ hD hS hA (fun H locs hP hD hS => ?_)
                    rw [vup_ow] at hP hD
                    have xn : bI (G 6) nC (mr_M_nextRow (G 6) r nC sx.toNatClampNeg).2 (mr_M_nextRow (G 6) r nC sx.toNatClampNeg).1 ∧ bm (G 6) nC (mr_M_nextRow (G 6) r nC sx.toNatClampNeg).2 (mr_M_nextRow (G 6) r nC sx.toNatClampNeg).1 < bm (G 6) nC r sx := by have q := b_next hC h6 (s := s0) hs0 hr0; rw [← es0, xt] at q; exact q
                    refine lv_istore (lv' := [(4, .int ((mr_M_nextRow (G 6) r nC sx.toNatClampNeg).1)), (5, .int ((if (mr_M_isBarred (G 13) (G 14) (G 15) (G 16) r nC nR) = 0 then (if (mr_M_passesLimits (G 7) (G 8) (G 9) (G 10) (G 11) (G 12) (G 17) (G 18) r nC nT) = 0 then (if be < 0 then 0 else (if (mr_M_boundOf (G 7) (G 8) (G 9) (G 10) (G 11) (G 12) r nC nT nu) < le then 0 else 1)) else 1) else 1) : Int32)), (3, .int le), (2, .int be), (0, .ref a), (1, .int nu)]) hx hb dM_best_166 hl (by decide) rfl (fun ls hl => ?_)
                    refine lv_goto (tgt := 58) hx hb dM_best_168 (by decide) ?_
                    have er58 : lf_M_best_58 (G 6) (G 7) (G 8) (G 9) (G 10) (G 11) (G 12) (G 13) (G 14) (G 15) (G 16) (G 17) (G 18) nC nT nR nD nu (N58 + 1) lk be le sx r = lf_M_best_58 (G 6) (G 7) (G 8) (G 9) (G 10) (G 11) (G 12) (G 13) (G 14) (G 15) (G 16) (G 17) (G 18) nC nT nR nD nu N58 (lk + 1) be le ((mr_M_nextRow (G 6) r nC sx.toNatClampNeg).1) ((mr_M_nextRow (G 6) r nC sx.toNatClampNeg).2) := by rw [lf_M_best_58, if_neg c60, if_neg c109]
                    exact ih58 (lk + 1) be le ((mr_M_nextRow (G 6) r nC sx.toNatClampNeg).1) ((mr_M_nextRow (G 6) r nC sx.toNatClampNeg).2) (by first | exact xn.1 | exact xd.1) (by first | (have := xn.2; omega) | (have := xd.2; omega)) (hR58.trans er58) H locs hP hD hS ls (lv_sub hl [0, 2, 3, 4, 5] rfl)
                  · refine lv_iload hx hb dM_best_112 (lv_at hl 1 rfl) ?_
                    refine lv_aload_n hx hb dM_best_114 rfl (lv_at hl 4 rfl) ?_
                    refine va_get (D := D) (ci := 0) (v := .int (F 2)) (C := RM) (T := TM) (N := 29) hx hb hts inM_ hown hK hP 0 rfl hcl 2 (by decide) f81 (fun _ h9 => h9) rfl dM_best_115 ?_
                    refine wt_i h2 ?_
                    refine lv_icmp_ne (tgt := 132) hx hb dM_best_118 (by decide) (fun c118 => ?_) (fun c118 => ?_)
                    · refine lv_iload hx hb dM_best_132 (lv_at hl 0 rfl) ?_
                      refine lv_if_ne (tgt := 160) hx hb dM_best_134 (by decide) (fun h9 => absurd c109 h9) (fun _ => ?_)
                      refine lv_iload hx hb dM_best_137 (lv_at hl 1 rfl) ?_
                      refine lv_aload_n hx hb dM_best_139 rfl (lv_at hl 4 rfl) ?_
                      refine va_get (D := D) (ci := 0) (v := .int (F 2)) (C := RM) (T := TM) (N := 29) hx hb hts inM_ hown hK hP 0 rfl hcl 2 (by decide) f81 (fun _ h9 => h9) rfl dM_best_140 ?_
                      refine wt_i h2 ?_
                      refine lv_icmp_ge (tgt := 160) hx hb dM_best_143 (by decide) (fun c143 => ?_) (fun c143 => ?_)
                      · refine lv_aload_n hx hb dM_best_160 rfl (lv_at hl 4 rfl) ?_
                        refine lv_iload hx hb dM_best_161 (lv_at hl 1 rfl) ?_
                        refine wt_i (r := nI sx.toNatClampNeg) (by exact xs.1) ?_
                        refine ww_callV (r := (some (.int ((mr_M_nextRow (G 6) r nC sx.toNatClampNeg).1)))) (w' := mW a ba ka (upd (upd F 0 0) 20 (lk + 1)) (va_up (va_up G 19 r) 19 ((mr_M_nextRow (G 6) r nC sx.toNatClampNeg).2))) (As := [.int (nI sx.toNatClampNeg)]) (rest := []) Sx (c_M_nextRow l D cl hcl a ba ka (upd (upd F 0 0) 20 (lk + 1)) (va_up G 19 r) hP (hD.weaken (fun _ _ _ _ => trivial)) nC sx.toNatClampNeg hC (by have := xs.2; omega)) (cwV 1 hts gM_best_M_nextRow rfl rfl rfl (by decide +kernel) ⟨Nat.le_of_ble_eq_true rfl, Nat.le_of_ble_eq_true rfl⟩) hK (va_recv hK hP (ci := 0) (q0 := 0) hcl rfl) rfl hl.1 rfl (Nat.le_of_ble_eq_true rfl) dM_best_163 ⟨Nat.zero_le _, Nat.zero_le _⟩ hD hS hA (fun H locs hP hD hS => ?_)
                        rw [vup_ow] at hP hD
                        have xn : bI (G 6) nC (mr_M_nextRow (G 6) r nC sx.toNatClampNeg).2 (mr_M_nextRow (G 6) r nC sx.toNatClampNeg).1 ∧ bm (G 6) nC (mr_M_nextRow (G 6) r nC sx.toNatClampNeg).2 (mr_M_nextRow (G 6) r nC sx.toNatClampNeg).1 < bm (G 6) nC r sx := by have q := b_next hC h6 (s := s0) hs0 hr0; rw [← es0, xt] at q; exact q
                        refine lv_istore (lv' := [(4, .int ((mr_M_nextRow (G 6) r nC sx.toNatClampNeg).1)), (5, .int ((if (mr_M_isBarred (G 13) (G 14) (G 15) (G 16) r nC nR) = 0 then (if (mr_M_passesLimits (G 7) (G 8) (G 9) (G 10) (G 11) (G 12) (G 17) (G 18) r nC nT) = 0 then (if be < 0 then 0 else (if (mr_M_boundOf (G 7) (G 8) (G 9) (G 10) (G 11) (G 12) r nC nT nu) < le then 0 else 1)) else 1) else 1) : Int32)), (3, .int le), (2, .int be), (0, .ref a), (1, .int nu)]) hx hb dM_best_166 hl (by decide) rfl (fun ls hl => ?_)
                        refine lv_goto (tgt := 58) hx hb dM_best_168 (by decide) ?_
                        have er58 : lf_M_best_58 (G 6) (G 7) (G 8) (G 9) (G 10) (G 11) (G 12) (G 13) (G 14) (G 15) (G 16) (G 17) (G 18) nC nT nR nD nu (N58 + 1) lk be le sx r = lf_M_best_58 (G 6) (G 7) (G 8) (G 9) (G 10) (G 11) (G 12) (G 13) (G 14) (G 15) (G 16) (G 17) (G 18) nC nT nR nD nu N58 (lk + 1) be le ((mr_M_nextRow (G 6) r nC sx.toNatClampNeg).1) ((mr_M_nextRow (G 6) r nC sx.toNatClampNeg).2) := by rw [lf_M_best_58, if_neg c60, if_pos c109, if_neg c118, if_pos c143]
                        exact ih58 (lk + 1) be le ((mr_M_nextRow (G 6) r nC sx.toNatClampNeg).1) ((mr_M_nextRow (G 6) r nC sx.toNatClampNeg).2) (by first | exact xn.1 | exact xd.1) (by first | (have := xn.2; omega) | (have := xd.2; omega)) (hR58.trans er58) H locs hP hD hS ls (lv_sub hl [0, 2, 3, 4, 5] rfl)
                      · have n143 : sx.toNatClampNeg < nC := by rw [← xt]; rcases Nat.lt_or_ge s0 nC with h | h; exact h; exact absurd (by rw [es0]; exact nI_le h (by omega)) c143
                        have xd : bI (G 6) nC (upd r sx.toNatClampNeg 0) (sx + 1) ∧ bm (G 6) nC (upd r sx.toNatClampNeg 0) (sx + 1) < bm (G 6) nC r sx := by have q := b_down hC h6 (s := s0) (by omega) hr0; rw [← es0, xt] at q; exact q
                        refine lv_aload_n hx hb dM_best_146 rfl (lv_at hl 4 rfl) ?_
                        refine va_get (D := D) (ci := 0) (v := .ref (ba 19)) (C := RM) (T := TM) (N := 29) hx hb hts inM_ hown hK hP 0 rfl hcl 19 (by decide) f54 (fun _ h9 => h9) rfl dM_best_147 ?_
                        refine lv_iload hx hb dM_best_150 (lv_at hl 1 rfl) ?_
                        refine lv_iconst (v := 0) hx hb dM_best_152 (by decide) ?_
                        have sd153 : sx.toNatClampNeg < 8 := by omega
                        have eg153 : (va_up G 19 r) 19 = r := by rw [vup_us]
                        refine wn_iast (f := r) hx hb hK hP hD hS 14 13 (congrArg (fun z : Nat → Int32 => (some ((ba 19), (.inl ((ka 19), 8, .inl z) : va_E)) : Option (Nat × va_E))) eg153) rfl sx.toNatClampNeg xs.1 sd153 (by decide) dM_best_153 (fun H locs hP hD hS => ?_)
                        rw [mW_g19, vup_ow] at hP hD
                        refine lv_iinc (v := sx + 1) (lv' := [(4, .int (sx + 1)), (5, .int ((if (mr_M_isBarred (G 13) (G 14) (G 15) (G 16) r nC nR) = 0 then (if (mr_M_passesLimits (G 7) (G 8) (G 9) (G 10) (G 11) (G 12) (G 17) (G 18) r nC nT) = 0 then (if be < 0 then 0 else (if (mr_M_boundOf (G 7) (G 8) (G 9) (G 10) (G 11) (G 12) r nC nT nu) < le then 0 else 1)) else 1) else 1) : Int32)), (3, .int le), (2, .int be), (0, .ref a), (1, .int nu)]) hx hb dM_best_154 hl (k := 1) rfl (by exact rfl) (by decide) rfl (fun ls hl => ?_)
                        refine lv_goto (tgt := 168) hx hb dM_best_157 (by decide) ?_
                        refine lv_goto (tgt := 58) hx hb dM_best_168 (by decide) ?_
                        have er58 : lf_M_best_58 (G 6) (G 7) (G 8) (G 9) (G 10) (G 11) (G 12) (G 13) (G 14) (G 15) (G 16) (G 17) (G 18) nC nT nR nD nu (N58 + 1) lk be le sx r = lf_M_best_58 (G 6) (G 7) (G 8) (G 9) (G 10) (G 11) (G 12) (G 13) (G 14) (G 15) (G 16) (G 17) (G 18) nC nT nR nD nu N58 (lk + 1) be le (sx + 1) (upd r sx.toNatClampNeg 0) := by rw [lf_M_best_58, if_neg c60, if_pos c109, if_neg c118, if_neg c143]
                        exact ih58 (lk + 1) be le (sx + 1) (upd r sx.toNatClampNeg 0) (by first | exact xn.1 | exact xd.1) (by first | (have := xn.2; omega) | (have := xd.2; omega)) (hR58.trans er58) H locs hP hD hS ls (lv_sub hl [0, 2, 3, 4, 5] rfl)
                    · refine lv_aload_n hx hb dM_best_121 rfl (lv_at hl 4 rfl) ?_
                      refine ro_callV (r := (.int (mr_M_closed (G 6) r nC))) (As := []) (rest := []) Sx (c_M_closed l D cl hcl a ba ka (upd (upd F 0 0) 20 (lk + 1)) (va_up G 19 r) hP nC h2 hC) (cwV 0 hts gM_best_M_closed rfl rfl rfl (by decide +kernel) ⟨Nat.le_of_ble_eq_true rfl, Nat.le_of_ble_eq_true rfl⟩) hK (va_recv hK hP (ci := 0) (q0 := 0) hcl rfl) rfl hl.1 rfl (Nat.le_of_ble_eq_true rfl) dM_best_122 ⟨Nat.zero_le _, Nat.zero_le _⟩ ?_
                      refine lv_istore_n (lv' := [(2, .int (mr_M_closed (G 6) r nC)), (5, .int ((if (mr_M_isBarred (G 13) (G 14) (G 15) (G 16) r nC nR) = 0 then (if (mr_M_passesLimits (G 7) (G 8) (G 9) (G 10) (G 11) (G 12) (G 17) (G 18) r nC nT) = 0 then (if be < 0 then 0 else (if (mr_M_boundOf (G 7) (G 8) (G 9) (G 10) (G 11) (G 12) r nC nT nu) < le then 0 else 1)) else 1) else 1) : Int32)), (4, .int sx), (3, .int le), (0, .ref a), (1, .int nu)]) hx hb dM_best_125 rfl hl (by decide) rfl (fun ls hl => ?_)
                      refine lv_aload_n hx hb dM_best_126 rfl (lv_at hl 4 rfl) ?_
                      refine lv_iload_n hx hb dM_best_127 rfl (lv_at hl 5 rfl) ?_
                      refine ro_callV (r := (.int (mr_M_boundOf (G 7) (G 8) (G 9) (G 10) (G 11) (G 12) r nC nT nu))) (As := [.int nu]) (rest := []) Sx (c_M_boundOf l D cl hcl a ba ka (upd (upd F 0 0) 20 (lk + 1)) (va_up G 19 r) hP nC nT nu hC h3 hT h8 h10) (cwV 1 hts gM_best_M_boundOf rfl rfl rfl (by decide +kernel) ⟨Nat.le_of_ble_eq_true rfl, Nat.le_of_ble_eq_true rfl⟩) hK (va_recv hK hP (ci := 0) (q0 := 0) hcl rfl) rfl hl.1 rfl (Nat.le_of_ble_eq_true rfl) dM_best_128 ⟨Nat.zero_le _, Nat.zero_le _⟩ ?_
                      refine lv_istore_n (lv' := [(3, .int (mr_M_boundOf (G 7) (G 8) (G 9) (G 10) (G 11) (G 12) r nC nT nu)), (2, .int (mr_M_closed (G 6) r nC)), (5, .int ((if (mr_M_isBarred (G 13) (G 14) (G 15) (G 16) r nC nR) = 0 then (if (mr_M_passesLimits (G 7) (G 8) (G 9) (G 10) (G 11) (G 12) (G 17) (G 18) r nC nT) = 0 then (if be < 0 then 0 else (if (mr_M_boundOf (G 7) (G 8) (G 9) (G 10) (G 11) (G 12) r nC nT nu) < le then 0 else 1)) else 1) else 1) : Int32)), (4, .int sx), (0, .ref a), (1, .int nu)]) hx hb dM_best_131 rfl hl (by decide) rfl (fun ls hl => ?_)
                      refine lv_iload hx hb dM_best_132 (lv_at hl 2 rfl) ?_
                      refine lv_if_ne (tgt := 160) hx hb dM_best_134 (by decide) (fun h9 => absurd c109 h9) (fun _ => ?_)
                      refine lv_iload hx hb dM_best_137 (lv_at hl 3 rfl) ?_
                      refine lv_aload_n hx hb dM_best_139 rfl (lv_at hl 4 rfl) ?_
                      refine va_get (D := D) (ci := 0) (v := .int (F 2)) (C := RM) (T := TM) (N := 29) hx hb hts inM_ hown hK hP 0 rfl hcl 2 (by decide) f81 (fun _ h9 => h9) rfl dM_best_140 ?_
                      refine wt_i h2 ?_
                      refine lv_icmp_ge (tgt := 160) hx hb dM_best_143 (by decide) (fun c143 => ?_) (fun c143 => ?_)
                      · refine lv_aload_n hx hb dM_best_160 rfl (lv_at hl 4 rfl) ?_
                        refine lv_iload hx hb dM_best_161 (lv_at hl 3 rfl) ?_
                        refine wt_i (r := nI sx.toNatClampNeg) (by exact xs.1) ?_
                        refine ww_callV (r := (some (.int ((mr_M_nextRow (G 6) r nC sx.toNatClampNeg).1)))) (w' := mW a ba ka (upd (upd F 0 0) 20 (lk + 1)) (va_up (va_up G 19 r) 19 ((mr_M_nextRow (G 6) r nC sx.toNatClampNeg).2))) (As := [.int (nI sx.toNatClampNeg)]) (rest := []) Sx (c_M_nextRow l D cl hcl a ba ka (upd (upd F 0 0) 20 (lk + 1)) (va_up G 19 r) hP (hD.weaken (fun _ _ _ _ => trivial)) nC sx.toNatClampNeg hC (by have := xs.2; omega)) (cwV 1 hts gM_best_M_nextRow rfl rfl rfl (by decide +kernel) ⟨Nat.le_of_ble_eq_true rfl, Nat.le_of_ble_eq_true rfl⟩) hK (va_recv hK hP (ci := 0) (q0 := 0) hcl rfl) rfl hl.1 rfl (Nat.le_of_ble_eq_true rfl) dM_best_163 ⟨Nat.zero_le _, Nat.zero_le _⟩ hD hS hA (fun H locs hP hD hS => ?_)
                        rw [vup_ow] at hP hD
                        have xn : bI (G 6) nC (mr_M_nextRow (G 6) r nC sx.toNatClampNeg).2 (mr_M_nextRow (G 6) r nC sx.toNatClampNeg).1 ∧ bm (G 6) nC (mr_M_nextRow (G 6) r nC sx.toNatClampNeg).2 (mr_M_nextRow (G 6) r nC sx.toNatClampNeg).1 < bm (G 6) nC r sx := by have q := b_next hC h6 (s := s0) hs0 hr0; rw [← es0, xt] at q; exact q
                        refine lv_istore (lv' := [(4, .int ((mr_M_nextRow (G 6) r nC sx.toNatClampNeg).1)), (3, .int (mr_M_boundOf (G 7) (G 8) (G 9) (G 10) (G 11) (G 12) r nC nT nu)), (2, .int (mr_M_closed (G 6) r nC)), (5, .int ((if (mr_M_isBarred (G 13) (G 14) (G 15) (G 16) r nC nR) = 0 then (if (mr_M_passesLimits (G 7) (G 8) (G 9) (G 10) (G 11) (G 12) (G 17) (G 18) r nC nT) = 0 then (if be < 0 then 0 else (if (mr_M_boundOf (G 7) (G 8) (G 9) (G 10) (G 11) (G 12) r nC nT nu) < le then 0 else 1)) else 1) else 1) : Int32)), (0, .ref a), (1, .int nu)]) hx hb dM_best_166 hl (by decide) rfl (fun ls hl => ?_)
                        refine lv_goto (tgt := 58) hx hb dM_best_168 (by decide) ?_
                        have er58 : lf_M_best_58 (G 6) (G 7) (G 8) (G 9) (G 10) (G 11) (G 12) (G 13) (G 14) (G 15) (G 16) (G 17) (G 18) nC nT nR nD nu (N58 + 1) lk be le sx r = lf_M_best_58 (G 6) (G 7) (G 8) (G 9) (G 10) (G 11) (G 12) (G 13) (G 14) (G 15) (G 16) (G 17) (G 18) nC nT nR nD nu N58 (lk + 1) (mr_M_closed (G 6) r nC) (mr_M_boundOf (G 7) (G 8) (G 9) (G 10) (G 11) (G 12) r nC nT nu) ((mr_M_nextRow (G 6) r nC sx.toNatClampNeg).1) ((mr_M_nextRow (G 6) r nC sx.toNatClampNeg).2) := by rw [lf_M_best_58, if_neg c60, if_pos c109, if_pos c118, if_pos c143]
                        exact ih58 (lk + 1) (mr_M_closed (G 6) r nC) (mr_M_boundOf (G 7) (G 8) (G 9) (G 10) (G 11) (G 12) r nC nT nu) ((mr_M_nextRow (G 6) r nC sx.toNatClampNeg).1) ((mr_M_nextRow (G 6) r nC sx.toNatClampNeg).2) (by first | exact xn.1 | exact xd.1) (by first | (have := xn.2; omega) | (have := xd.2; omega)) (hR58.trans er58) H locs hP hD hS ls (lv_sub hl [0, 1, 2, 4, 5] rfl)
                      · have n143 : sx.toNatClampNeg < nC := by rw [← xt]; rcases Nat.lt_or_ge s0 nC with h | h; exact h; exact absurd (by rw [es0]; exact nI_le h (by omega)) c143
                        have xd : bI (G 6) nC (upd r sx.toNatClampNeg 0) (sx + 1) ∧ bm (G 6) nC (upd r sx.toNatClampNeg 0) (sx + 1) < bm (G 6) nC r sx := by have q := b_down hC h6 (s := s0) (by omega) hr0; rw [← es0, xt] at q; exact q
                        refine lv_aload_n hx hb dM_best_146 rfl (lv_at hl 4 rfl) ?_
                        refine va_get (D := D) (ci := 0) (v := .ref (ba 19)) (C := RM) (T := TM) (N := 29) hx hb hts inM_ hown hK hP 0 rfl hcl 19 (by decide) f54 (fun _ h9 => h9) rfl dM_best_147 ?_
                        refine lv_iload hx hb dM_best_150 (lv_at hl 3 rfl) ?_
                        refine lv_iconst (v := 0) hx hb dM_best_152 (by decide) ?_
                        have sd153 : sx.toNatClampNeg < 8 := by omega
                        have eg153 : (va_up G 19 r) 19 = r := by rw [vup_us]
                        refine wn_iast (f := r) hx hb hK hP hD hS 14 13 (congrArg (fun z : Nat → Int32 => (some ((ba 19), (.inl ((ka 19), 8, .inl z) : va_E)) : Option (Nat × va_E))) eg153) rfl sx.toNatClampNeg xs.1 sd153 (by decide) dM_best_153 (fun H locs hP hD hS => ?_)
                        rw [mW_g19, vup_ow] at hP hD
                        refine lv_iinc (v := sx + 1) (lv' := [(4, .int (sx + 1)), (3, .int (mr_M_boundOf (G 7) (G 8) (G 9) (G 10) (G 11) (G 12) r nC nT nu)), (2, .int (mr_M_closed (G 6) r nC)), (5, .int ((if (mr_M_isBarred (G 13) (G 14) (G 15) (G 16) r nC nR) = 0 then (if (mr_M_passesLimits (G 7) (G 8) (G 9) (G 10) (G 11) (G 12) (G 17) (G 18) r nC nT) = 0 then (if be < 0 then 0 else (if (mr_M_boundOf (G 7) (G 8) (G 9) (G 10) (G 11) (G 12) r nC nT nu) < le then 0 else 1)) else 1) else 1) : Int32)), (0, .ref a), (1, .int nu)]) hx hb dM_best_154 hl (k := 3) rfl (by exact rfl) (by decide) rfl (fun ls hl => ?_)
                        refine lv_goto (tgt := 168) hx hb dM_best_157 (by decide) ?_
                        refine lv_goto (tgt := 58) hx hb dM_best_168 (by decide) ?_
                        have er58 : lf_M_best_58 (G 6) (G 7) (G 8) (G 9) (G 10) (G 11) (G 12) (G 13) (G 14) (G 15) (G 16) (G 17) (G 18) nC nT nR nD nu (N58 + 1) lk be le sx r = lf_M_best_58 (G 6) (G 7) (G 8) (G 9) (G 10) (G 11) (G 12) (G 13) (G 14) (G 15) (G 16) (G 17) (G 18) nC nT nR nD nu N58 (lk + 1) (mr_M_closed (G 6) r nC) (mr_M_boundOf (G 7) (G 8) (G 9) (G 10) (G 11) (G 12) r nC nT nu) (sx + 1) (upd r sx.toNatClampNeg 0) := by rw [lf_M_best_58, if_neg c60, if_pos c109, if_pos c118, if_neg c143]
                        exact ih58 (lk + 1) (mr_M_closed (G 6) r nC) (mr_M_boundOf (G 7) (G 8) (G 9) (G 10) (G 11) (G 12) r nC nT nu) (sx + 1) (upd r sx.toNatClampNeg 0) (by first | exact xn.1 | exact xd.1) (by first | (have := xn.2; omega) | (have := xd.2; omega)) (hR58.trans er58) H locs hP hD hS ls (lv_sub hl [0, 1, 2, 4, 5] rfl)
                refine lv_if_ne (tgt := 100) hx hb dM_best_77 (by decide) (fun c77 => ?_) (fun c77 => ?_)
                · refine lv_iconst (v := 1) hx hb dM_best_100 (by decide) ?_
                  refine lv_goto (tgt := 105) hx hb dM_best_101 (by decide) ?_
                  exact wt_i (by rw [if_neg c77]) (j105 ls hl)
                · refine lv_aload_n hx hb dM_best_80 rfl (lv_at hl 3 rfl) ?_
                  refine ro_callV (r := (.int (mr_M_passesLimits (G 7) (G 8) (G 9) (G 10) (G 11) (G 12) (G 17) (G 18) r nC nT))) (As := []) (rest := []) Sx (c_M_passesLimits l D cl hcl a ba ka (upd (upd F 0 0) 20 (lk + 1)) (va_up G 19 r) hP nC nT hC h3 hT h8 h10) (cwV 0 hts gM_best_M_passesLimits rfl rfl rfl (by decide +kernel) ⟨Nat.le_of_ble_eq_true rfl, Nat.le_of_ble_eq_true rfl⟩) hK (va_recv hK hP (ci := 0) (q0 := 0) hcl rfl) rfl hl.1 rfl (Nat.le_of_ble_eq_true rfl) dM_best_81 ⟨Nat.zero_le _, Nat.zero_le _⟩ ?_
                  refine lv_if_ne (tgt := 100) hx hb dM_best_84 (by decide) (fun c84 => ?_) (fun c84 => ?_)
                  · refine lv_iconst (v := 1) hx hb dM_best_100 (by decide) ?_
                    refine lv_goto (tgt := 105) hx hb dM_best_101 (by decide) ?_
                    exact wt_i (by rw [if_pos c77, if_neg c84]) (j105 ls hl)
                  · refine lv_iload_n hx hb dM_best_87 rfl (lv_at hl 2 rfl) ?_
                    refine lv_if_lt (tgt := 104) hx hb dM_best_88 (by decide) (fun c88 => ?_) (fun c88 => ?_)
                    · refine lv_iconst (v := 0) hx hb dM_best_104 (by decide) ?_
                      exact wt_i (by rw [if_pos c77, if_pos c84, if_pos c88]) (j105 ls hl)
                    · refine lv_aload_n hx hb dM_best_91 rfl (lv_at hl 3 rfl) ?_
                      refine lv_iload_n hx hb dM_best_92 rfl (lv_at hl 4 rfl) ?_
                      refine ro_callV (r := (.int (mr_M_boundOf (G 7) (G 8) (G 9) (G 10) (G 11) (G 12) r nC nT nu))) (As := [.int nu]) (rest := []) Sx (c_M_boundOf l D cl hcl a ba ka (upd (upd F 0 0) 20 (lk + 1)) (va_up G 19 r) hP nC nT nu hC h3 hT h8 h10) (cwV 1 hts gM_best_M_boundOf rfl rfl rfl (by decide +kernel) ⟨Nat.le_of_ble_eq_true rfl, Nat.le_of_ble_eq_true rfl⟩) hK (va_recv hK hP (ci := 0) (q0 := 0) hcl rfl) rfl hl.1 rfl (Nat.le_of_ble_eq_true rfl) dM_best_93 ⟨Nat.zero_le _, Nat.zero_le _⟩ ?_
                      refine lv_iload_n hx hb dM_best_96 rfl (lv_at hl 1 rfl) ?_
                      refine lv_icmp_lt (tgt := 104) hx hb dM_best_97 (by decide) (fun c97 => ?_) (fun c97 => ?_)
                      · refine lv_iconst (v := 0) hx hb dM_best_104 (by decide) ?_
                        exact wt_i (by rw [if_pos c77, if_pos c84, if_neg c88, if_pos c97]) (j105 ls hl)
                      · refine lv_iconst (v := 1) hx hb dM_best_100 (by decide) ?_
                        refine lv_goto (tgt := 105) hx hb dM_best_101 (by decide) ?_
                        exact wt_i (by rw [if_pos c77, if_pos c84, if_neg c88, if_neg c97]) (j105 ls hl)
          exact loop58 8192 0 (-1) 0 0 (lf_M_best_32 nC nT nR nD nu (G 19) nC) (by exact Or.inr ⟨0, Nat.zero_le _, rfl, fun c h => absurd h (Nat.not_lt_zero _)⟩) (by exact bm_0 h6 (by omega) _) rfl H locs hP hD hS ls (lv_sub hl [0, 1, 2, 3, 4] rfl)
        · have n38 : ¬ nC ≤ k32 := fun h9 => c38 ((nI_leI (a := nC) (b := k32) (by omega) (by omega)).mpr h9)
          refine lv_aload_n hx hb dM_best_41 rfl (lv_at hl 3 rfl) ?_
          refine va_get (D := D) (ci := 0) (v := .ref (ba 19)) (C := RM) (T := TM) (N := 29) hx hb hts inM_ hown hK hP 0 rfl hcl 19 (by decide) f54 (fun _ h9 => h9) rfl dM_best_42 ?_
          refine lv_iload hx hb dM_best_45 (lv_at hl 0 rfl) ?_
          refine lv_iconst (v := (-1)) hx hb dM_best_47 (by decide) ?_
          have sd48 : k32 < 8 := by omega
          have eg48 : (va_up G 19 (lf_M_best_32 nC nT nR nD nu (G 19) k32)) 19 = lf_M_best_32 nC nT nR nD nu (G 19) k32 := by rw [vup_us]
          refine wn_iast (f := lf_M_best_32 nC nT nR nD nu (G 19) k32) hx hb hK hP hD hS 14 13 (congrArg (fun z : Nat → Int32 => (some ((ba 19), (.inl ((ka 19), 8, .inl z) : va_E)) : Option (Nat × va_E))) eg48) rfl k32 rfl sd48 (by decide) dM_best_48 (fun H locs hP hD hS => ?_)
          rw [mW_g19, vup_ow] at hP hD
          refine lv_iinc (v := nI (k32 + 1)) (lv' := [(4, .int (nI (k32 + 1))), (3, .int 0), (2, .int (-1)), (0, .ref a), (1, .int nu)]) hx hb dM_best_49 hl (k := 0) rfl (by exact ii_1 k32) (by decide) rfl (fun ls hl => ?_)
          refine lv_goto (tgt := 32) hx hb dM_best_52 (by decide) ?_
          have eb32 : lf_M_best_32 nC nT nR nD nu (G 19) (k32 + 1) = upd (lf_M_best_32 nC nT nR nD nu (G 19) k32) k32 (-1) := by rw [lf_M_best_32]
          exact ih32 (k32 + 1) (by omega) (by omega)  H locs (by rw [eb32]; exact hP) (by rw [eb32]; exact hD) hS ls (by exact lv_sub hl [0, 1, 2, 3, 4] rfl)
    exact loop32 _ 0 (Nat.zero_le _) (Nat.lt_succ_self _)  H locs hP hD hS ls (lv_sub hl [0, 1, 2, 3, 4] rfl)
  · refine lv_aload_n hx hb dM_best_14 rfl (lv_at hl 0 rfl) ?_
    refine lv_iconst (v := 1) hx hb dM_best_15 (by decide) ?_
    refine ww_callV (r := (some (.int ((mr_M_fail 1).1)))) (w' := mW a ba ka (upd (upd F 0 0) 0 ((mr_M_fail 1).2)) G) (As := [.int 1]) (rest := []) Sx (c_M_fail l D cl hcl a ba ka (upd F 0 0) G hP (hD.weaken (fun _ _ _ _ => trivial)) 1) (cwV 1 hts gM_best_M_fail rfl rfl rfl (by decide +kernel) ⟨Nat.le_of_ble_eq_true rfl, Nat.le_of_ble_eq_true rfl⟩) hK (va_recv hK hP (ci := 0) (q0 := 0) hcl rfl) rfl hl.1 rfl (Nat.le_of_ble_eq_true rfl) dM_best_16 ⟨Nat.zero_le _, Nat.zero_le _⟩ hD hS hA (fun H locs hP hD hS => ?_)
    rw [upd_ow] at hP hD
    have em : mr_M_best (F 20) (G 6) (G 7) (G 8) (G 9) (G 10) (G 11) (G 12) (G 13) (G 14) (G 15) (G 16) (G 17) (G 18) (G 19) nC nT nR nD nu = ((mr_M_fail 1).1, (mr_M_fail 1).2, F 20, G 19) := by rw [mr_M_best, if_pos c11]
    exact hret _ _ _ _ _ _ (by simp only [em]) (by simp only [em]; rw [upd_keep (f := upd F 0 ((mr_M_fail 1).2)) (j := 20) (x := F 20) rfl, vup_keep (f := G) (j := 19) (x := G 19) rfl]) hP hD hS dM_best_19
end
section
def lf_M_matters_101 (g6 : Nat → Int32) (nC : Nat) (nT : Nat) (nR : Nat) (nD : Nat) (ch : Int32) (nu : Int32) (k85 : Nat) (qg27_101 : Nat → Int32) (qg28_101 : Nat → Int32) : Nat → Int64 → Nat → Int64 × Nat
  | 0, mo, y => (mo, y)
  | N + 1, mo, y => (if (qg27_101 k85) = 0 then (mo, y) else (if (nI nD) ≤ (nI y) then (mo, y) else (if (nI (y / (pc_ (zg g6) nC ch.toNatClampNeg * zg g6 ch.toNatClampNeg))) = (nI (k85 / (pc_ (zg g6) nC ch.toNatClampNeg * zg g6 ch.toNatClampNeg))) then (if (qg27_101 y) = 0 then lf_M_matters_101 g6 nC nT nR nD ch nu k85 qg27_101 qg28_101 N mo (y + (pc_ (zg g6) nC ch.toNatClampNeg)) else (if (lg_cmp (((qg28_101 ((4 * k85) + nu.toNatClampNeg)).toInt64) - ((qg28_101 ((4 * y) + nu.toNatClampNeg)).toInt64)) mo) ≤ 0 then (if (lg_cmp (-(((qg28_101 ((4 * k85) + nu.toNatClampNeg)).toInt64) - ((qg28_101 ((4 * y) + nu.toNatClampNeg)).toInt64))) mo) ≤ 0 then lf_M_matters_101 g6 nC nT nR nD ch nu k85 qg27_101 qg28_101 N mo (y + (pc_ (zg g6) nC ch.toNatClampNeg)) else lf_M_matters_101 g6 nC nT nR nD ch nu k85 qg27_101 qg28_101 N (-(((qg28_101 ((4 * k85) + nu.toNatClampNeg)).toInt64) - ((qg28_101 ((4 * y) + nu.toNatClampNeg)).toInt64))) (y + (pc_ (zg g6) nC ch.toNatClampNeg))) else (if (lg_cmp (-(((qg28_101 ((4 * k85) + nu.toNatClampNeg)).toInt64) - ((qg28_101 ((4 * y) + nu.toNatClampNeg)).toInt64))) (((qg28_101 ((4 * k85) + nu.toNatClampNeg)).toInt64) - ((qg28_101 ((4 * y) + nu.toNatClampNeg)).toInt64))) ≤ 0 then lf_M_matters_101 g6 nC nT nR nD ch nu k85 qg27_101 qg28_101 N (((qg28_101 ((4 * k85) + nu.toNatClampNeg)).toInt64) - ((qg28_101 ((4 * y) + nu.toNatClampNeg)).toInt64)) (y + (pc_ (zg g6) nC ch.toNatClampNeg)) else lf_M_matters_101 g6 nC nT nR nD ch nu k85 qg27_101 qg28_101 N (-(((qg28_101 ((4 * k85) + nu.toNatClampNeg)).toInt64) - ((qg28_101 ((4 * y) + nu.toNatClampNeg)).toInt64))) (y + (pc_ (zg g6) nC ch.toNatClampNeg))))) else (mo, y))))
def lf_M_matters_85 (g6 : Nat → Int32) (nC : Nat) (nT : Nat) (nR : Nat) (nD : Nat) (ch : Int32) (nu : Int32) (qg27_85 : Nat → Int32) (qg28_85 : Nat → Int32) (i0 : Int64) : Nat → Int64
  | 0 => i0
  | k85 + 1 => ((lf_M_matters_101 g6 nC nT nR nD ch nu k85 qg27_85 qg28_85 (nD + 1) (lf_M_matters_85 g6 nC nT nR nD ch nu qg27_85 qg28_85 i0 k85) (k85 + (pc_ (zg g6) nC ch.toNatClampNeg))).1)
def lf_M_matters_55 (g6 : Nat → Int32) (nC : Nat) (nT : Nat) (nR : Nat) (nD : Nat) (ch : Int32) (nu : Int32) (i0 : Int32) : Nat → Int32
  | 0 => i0
  | k55 + 1 => ((lf_M_matters_55 g6 nC nT nR nD ch nu i0 k55) * (g6 (ch.toNatClampNeg + 1 + k55)))
def mr_M_matters (f26 : Int32) (g6 : Nat → Int32) (g7 : Nat → Int32) (g8 : Nat → Int32) (g9 : Nat → Int32) (g10 : Nat → Int32) (g11 : Nat → Int32) (g12 : Nat → Int32) (g13 : Nat → Int32) (g14 : Nat → Int32) (g15 : Nat → Int32) (g16 : Nat → Int32) (g17 : Nat → Int32) (g18 : Nat → Int32) (g19 : Nat → Int32) (g27 : Nat → Int32) (g28 : Nat → Int32) (nC : Nat) (nT : Nat) (nR : Nat) (nD : Nat) (ch : Int32) (nu : Int32) : Int64 × Int32 × Int32 × (Nat → Int32) × (Nat → Int32) × (Nat → Int32) := (if ((if (mr_M_within ch 0 ((nI nC) - 1)) = 0 then 1 else (if (mr_M_within nu 0 3) = 0 then 1 else 0)) : Int32) ≤ 0 then (lf_M_matters_85 g6 nC nT nR nD ch nu ((mr_M_know f26 g6 g7 g8 g9 g10 g11 g12 g13 g14 g15 g16 g17 g18 g19 g27 g28 nC nT nR nD).2.2.1) ((mr_M_know f26 g6 g7 g8 g9 g10 g11 g12 g13 g14 g15 g16 g17 g18 g19 g27 g28 nC nT nR nD).2.2.2) 0 nD, ((if (mr_M_within ch 0 ((nI nC) - 1)) = 0 then 1 else (if (mr_M_within nu 0 3) = 0 then 1 else 0)) : Int32), (mr_M_know f26 g6 g7 g8 g9 g10 g11 g12 g13 g14 g15 g16 g17 g18 g19 g27 g28 nC nT nR nD).1, (mr_M_know f26 g6 g7 g8 g9 g10 g11 g12 g13 g14 g15 g16 g17 g18 g19 g27 g28 nC nT nR nD).2.1, (mr_M_know f26 g6 g7 g8 g9 g10 g11 g12 g13 g14 g15 g16 g17 g18 g19 g27 g28 nC nT nR nD).2.2.1, (mr_M_know f26 g6 g7 g8 g9 g10 g11 g12 g13 g14 g15 g16 g17 g18 g19 g27 g28 nC nT nR nD).2.2.2) else (0, ((if (mr_M_within ch 0 ((nI nC) - 1)) = 0 then 1 else (if (mr_M_within nu 0 3) = 0 then 1 else 0)) : Int32), f26, g19, g27, g28))
theorem un_sem_M {g6 : Nat → Int32} {nC nT nR nD : Nat} {c nu : Int32} (h6 : ∀ c, c < nC → ∃ z : Nat, g6 c = nI z ∧ 2 ≤ z ∧ z ≤ 6) : ∀ k, c.toNatClampNeg + 1 + k ≤ nC → lf_M_matters_55 g6 nC nT nR nD c nu 1 k = nI (mp (zg g6) (c.toNatClampNeg + 1) k) := by
  intro k
  induction k with
  | zero => intro _; rfl
  | succ k ih =>
    intro hk
    rw [lf_M_matters_55, ih (by omega), (zg_ok h6 (c := c.toNatClampNeg + 1 + k) (by omega)).1, pk_mul]
    rfl
theorem un_num {g6 : Nat → Int32} {nC nT nR nD : Nat} {c nu : Int32} (h6 : ∀ c, c < nC → ∃ z : Nat, g6 c = nI z ∧ 2 ≤ z ∧ z ≤ 6) (hc : c.toNatClampNeg < nC) : lf_M_matters_55 g6 nC nT nR nD c nu 1 (nC - (c.toNatClampNeg + 1)) = nI (pc_ (zg g6) nC c.toNatClampNeg) := un_sem_M h6 _ (by omega)
set_option maxHeartbeats 4000000 in
set_option maxRecDepth 100000 in
theorem c_M_matters (l : Launch) (D : va_G) (cl : List vw_C) (hcl : cl[0]? = some (RM, TM, 29)) (a : Nat) (ba : Nat → Nat) (ka : Nat → ClassId) (F : Nat → Int32) (G : Nat → Nat → Int32) {H0 : Heap} (hP : va_P D cl (mW a ba ka F G) H0) (hD : va_D (fun _ => True) (mW a ba ka F G)) (nC : Nat) (nT : Nat) (nR : Nat) (nD : Nat) (ch : Int32) (nu : Int32) (h2 : F 2 = nI nC) (hC : nC ≤ 8) (h3 : F 3 = nI nT) (hT : nT ≤ 100) (h4 : F 4 = nI nR) (hR : nR ≤ 40) (h5 : F 5 = nI nD) (hN : nD ≤ 4096) (h6 : ∀ c, c < nC → ∃ z : Nat, G 6 c = nI z ∧ 2 ≤ z ∧ z ≤ 6) (h8 : ∀ t, t < nT → ∃ x : Nat, x < nC ∧ G 8 t = nI x) (h10 : ∀ t, t < nT → G 10 t = -1 ∨ ∃ x : Nat, x < nC ∧ G 10 t = nI x) (h13 : ∀ j, j < nR → ∃ x : Nat, x < nC ∧ G 13 j = nI x) (h15 : ∀ j, j < nR → ∃ x : Nat, x < nC ∧ G 15 j = nI x) (hmp : mp (zg (G 6)) 0 nC = nD) : ww_Met l yM_matters wsM_matters ({ frames := 4, cells := 0, slots := 0, locals := 92 } : Room) D cl (mT ka) H0 [.ref a, .int ch, .int nu] (mW a ba ka F G) (some (.long ((mr_M_matters (F 26) (G 6) (G 7) (G 8) (G 9) (G 10) (G 11) (G 12) (G 13) (G 14) (G 15) (G 16) (G 17) (G 18) (G 19) (G 27) (G 28) nC nT nR nD ch nu).1))) (mW a ba ka (upd (upd F 0 ((mr_M_matters (F 26) (G 6) (G 7) (G 8) (G 9) (G 10) (G 11) (G 12) (G 13) (G 14) (G 15) (G 16) (G 17) (G 18) (G 19) (G 27) (G 28) nC nT nR nD ch nu).2.1)) 26 ((mr_M_matters (F 26) (G 6) (G 7) (G 8) (G 9) (G 10) (G 11) (G 12) (G 13) (G 14) (G 15) (G 16) (G 17) (G 18) (G 19) (G 27) (G 28) nC nT nR nD ch nu).2.2.1)) (va_up (va_up (va_up G 19 ((mr_M_matters (F 26) (G 6) (G 7) (G 8) (G 9) (G 10) (G 11) (G 12) (G 13) (G 14) (G 15) (G 16) (G 17) (G 18) (G 19) (G 27) (G 28) nC nT nR nD ch nu).2.2.2.1)) 27 ((mr_M_matters (F 26) (G 6) (G 7) (G 8) (G 9) (G 10) (G 11) (G 12) (G 13) (G 14) (G 15) (G 16) (G 17) (G 18) (G 19) (G 27) (G 28) nC nT nR nD ch nu).2.2.2.2.1)) 28 ((mr_M_matters (F 26) (G 6) (G 7) (G 8) (G 9) (G 10) (G 11) (G 12) (G 13) (G 14) (G 15) (G 16) (G 17) (G 18) (G 19) (G 27) (G 28) nC nT nR nD ch nu).2.2.2.2.2))) := by
  refine ww_metJ (by decide) rfl (Nat.le_of_ble_eq_true rfl) hP hD ?_
  intro p e s m args below meth c Q A Sx hK hP hD hS hA ls hl hret
  obtain ⟨hx, hb, hml, hown, hts⟩ := id Sx
  have hl : lv_has ls 10 [(0, .ref a), (1, .int ch), (2, .int nu)] := hl
  obtain ⟨H, eH⟩ : ∃ H : Heap, H = H0 := ⟨_, rfl⟩
  obtain ⟨locs, eL⟩ : ∃ L : List Loc, L = [] := ⟨_, rfl⟩
  have hP : va_P D cl (mW a ba ka F G) H := by rw [eH]; exact hP
  have hS : va_S A H0 H locs := by rw [eH, eL]; exact hS
  rw [show W p l e ({ frames := 4, cells := 0, slots := 0, locals := 92 } : Room) s m args below meth c H0 [] 0 0 Q (F0 m 0 ls []) = W p l e ({ frames := 4, cells := 0, slots := 0, locals := 92 } : Room) s m args below meth c H locs 0 0 Q (F0 m 0 ls []) by rw [eH, eL]]
  clear eH eL
  have f81 := hts _ (List.mem_cons_of_mem _ mfM_81)
  have inM_ : ∀ w ∈ wsM0, w ∈ wsM_matters := fun w h => List.mem_cons_of_mem _ (inM_all w h)
  have f70 := hts _ (List.mem_cons_of_mem _ mfM_70)
  have f7 := hts _ (List.mem_cons_of_mem _ mfM_7)
  have f60 := hts _ (List.mem_cons_of_mem _ mfM_60)
  have f13 := hts _ (List.mem_cons_of_mem _ mfM_13)
  have f63 := hts _ (List.mem_cons_of_mem _ mfM_63)
  refine lv_aload_n hx hb dM_matters_0 rfl (lv_at hl 0 rfl) ?_
  refine lv_iload_n hx hb dM_matters_1 rfl (lv_at hl 1 rfl) ?_
  refine lv_iconst (v := 0) hx hb dM_matters_2 (by decide) ?_
  refine lv_aload_n hx hb dM_matters_3 rfl (lv_at hl 0 rfl) ?_
  refine va_get (D := D) (ci := 0) (v := .int (F 2)) (C := RM) (T := TM) (N := 29) hx hb hts inM_ hown hK hP 0 rfl hcl 2 (by decide) f81 (fun _ h9 => h9) rfl dM_matters_4 ?_
  refine wt_i h2 ?_
  refine lv_iconst (v := 1) hx hb dM_matters_7 (by decide) ?_
  refine lv_isub hx hb dM_matters_8 ?_
  refine ro_callS (r := (.int (mr_M_within ch 0 ((nI nC) - 1)))) (As := [.int ch, .int 0, .int ((nI nC) - 1)]) (rest := [.ref a]) Sx (c_M_within l D cl hcl a ba ka F G hP ch 0 ((nI nC) - 1)) (va_cwS 3 hts gM_matters_M_within rfl rfl rfl (by decide +kernel) ⟨Nat.le_of_ble_eq_true rfl, Nat.le_of_ble_eq_true rfl⟩) hK rfl hl.1 rfl (Nat.le_of_ble_eq_true rfl) dM_matters_9 ⟨Nat.zero_le _, Nat.zero_le _⟩ ?_
  have j29 : ∀ (ls : Array Slot), lv_has ls 10 [(0, .ref a), (1, .int ch), (2, .int nu)] → W p l e ({ frames := 4, cells := 0, slots := 0, locals := 92 } : Room) s m args below meth c H locs 0 0 Q (F0 m 29 ls [.int ((if (mr_M_within ch 0 ((nI nC) - 1)) = 0 then 1 else (if (mr_M_within nu 0 3) = 0 then 1 else 0)) : Int32), .ref a]) := by
    intro ls hl
    refine va_put (D := D) (ci := 0) (fs := mWl0 ba F) (v := .int ((if (mr_M_within ch 0 ((nI nC) - 1)) = 0 then 1 else (if (mr_M_within nu 0 3) = 0 then 1 else 0)) : Int32)) (ty := .int) (C := RM) (T := TM) (N := 29) hx hb hts inM_ tyM tyM_ok nmM hown hK hP hD hS 0 rfl hcl 0 (by decide) f70 (fun _ h9 => h9) rfl (by decide +kernel) rfl rfl (Nat.le_of_ble_eq_true rfl) dM_matters_29 (fun H locs hP hD hS => ?_)
    rw [mW_f0] at hP hD
    refine lv_aload_n hx hb dM_matters_32 rfl (lv_at hl 0 rfl) ?_
    have ef33 : (upd F 0 ((if (mr_M_within ch 0 ((nI nC) - 1)) = 0 then 1 else (if (mr_M_within nu 0 3) = 0 then 1 else 0)) : Int32)) 0 = ((if (mr_M_within ch 0 ((nI nC) - 1)) = 0 then 1 else (if (mr_M_within nu 0 3) = 0 then 1 else 0)) : Int32) := by rw [pk_us]
    refine va_get (D := D) (ci := 0) (v := .int ((if (mr_M_within ch 0 ((nI nC) - 1)) = 0 then 1 else (if (mr_M_within nu 0 3) = 0 then 1 else 0)) : Int32)) (C := RM) (T := TM) (N := 29) hx hb hts inM_ hown hK hP 0 rfl hcl 0 (by decide) f70 (fun _ h9 => h9) (congrArg (fun z => some (Value.int z)) ef33) dM_matters_33 ?_
    refine lv_if_le (tgt := 41) hx hb dM_matters_36 (by decide) (fun c36 => ?_) (fun c36 => ?_)
    · have xc := ix_cl (wi_ix (bq_c1 c36) (by omega)) (by omega)
      have hc2 := xc.2
      have xn := ix_cl (wi_nx (n := 3) (bq_c2 c36) (by decide)) (by omega)
      have hn2 := xn.2
      obtain ⟨z1, z2, z3⟩ := zg_ok h6 hc2
      obtain ⟨hu1, hu2⟩ := un_ok h6 hc2 hmp
      have hu3 : pc_ (zg (G 6)) nC ch.toNatClampNeg ≤ 4096 := by have := Nat.le_mul_of_pos_right (pc_ (zg (G 6)) nC ch.toNatClampNeg) (show 0 < zg (G 6) ch.toNatClampNeg by omega); omega
      have hu4 : 0 < pc_ (zg (G 6)) nC ch.toNatClampNeg * zg (G 6) ch.toNatClampNeg := Nat.mul_pos hu1 (by omega)
      refine lv_aload_n hx hb dM_matters_41 rfl (lv_at hl 0 rfl) ?_
      refine ww_callV (r := none) (w' := mW a ba ka (upd (upd F 0 ((if (mr_M_within ch 0 ((nI nC) - 1)) = 0 then 1 else (if (mr_M_within nu 0 3) = 0 then 1 else 0)) : Int32)) 26 ((mr_M_know (F 26) (G 6) (G 7) (G 8) (G 9) (G 10) (G 11) (G 12) (G 13) (G 14) (G 15) (G 16) (G 17) (G 18) (G 19) (G 27) (G 28) nC nT nR nD).1)) (va_up (va_up (va_up G 19 ((mr_M_know (F 26) (G 6) (G 7) (G 8) (G 9) (G 10) (G 11) (G 12) (G 13) (G 14) (G 15) (G 16) (G 17) (G 18) (G 19) (G 27) (G 28) nC nT nR nD).2.1)) 27 ((mr_M_know (F 26) (G 6) (G 7) (G 8) (G 9) (G 10) (G 11) (G 12) (G 13) (G 14) (G 15) (G 16) (G 17) (G 18) (G 19) (G 27) (G 28) nC nT nR nD).2.2.1)) 28 ((mr_M_know (F 26) (G 6) (G 7) (G 8) (G 9) (G 10) (G 11) (G 12) (G 13) (G 14) (G 15) (G 16) (G 17) (G 18) (G 19) (G 27) (G 28) nC nT nR nD).2.2.2))) (As := []) (rest := []) Sx (c_M_know l D cl hcl a ba ka (upd F 0 ((if (mr_M_within ch 0 ((nI nC) - 1)) = 0 then 1 else (if (mr_M_within nu 0 3) = 0 then 1 else 0)) : Int32)) G hP (hD.weaken (fun _ _ _ _ => trivial)) nC nT nR nD h2 hC h3 hT h4 hR h5 hN h6 h8 h10 h13 h15) (cwV 0 hts gM_matters_M_know rfl rfl rfl (by decide +kernel) ⟨Nat.le_of_ble_eq_true rfl, Nat.le_of_ble_eq_true rfl⟩) hK (va_recv hK hP (ci := 0) (q0 := 0) hcl rfl) rfl hl.1 rfl (Nat.le_of_ble_eq_true rfl) dM_matters_42 ⟨Nat.zero_le _, Nat.zero_le _⟩ hD hS hA (fun H locs hP hD hS => ?_)
      refine lv_lconst (v := 0) hx hb dM_matters_45 (by decide) ?_
      refine lv_lstore_n (lv' := [(3, .long 0), (0, .ref a), (1, .int ch), (2, .int nu)]) hx hb dM_matters_46 rfl hl (by decide) rfl (fun ls hl => ?_)
      refine lv_iconst (v := 1) hx hb dM_matters_47 (by decide) ?_
      refine lv_istore (lv' := [(5, .int 1), (3, .long 0), (0, .ref a), (1, .int ch), (2, .int nu)]) hx hb dM_matters_48 hl (by decide) rfl (fun ls hl => ?_)
      refine lv_iload_n hx hb dM_matters_50 rfl (lv_at hl 3 rfl) ?_
      refine wt_i (r := nI ch.toNatClampNeg) (by exact xc.1) ?_
      refine lv_iconst (v := 1) hx hb dM_matters_51 (by decide) ?_
      refine lv_iadd hx hb dM_matters_52 ?_
      refine wt_i (r := nI (ch.toNatClampNeg + 1)) (by exact nI_add ch.toNatClampNeg 1) ?_
      refine lv_istore (lv' := [(6, .int (nI (ch.toNatClampNeg + 1))), (5, .int 1), (3, .long 0), (0, .ref a), (1, .int ch), (2, .int nu)]) hx hb dM_matters_53 hl (by decide) rfl (fun ls hl => ?_)
      have loop55 : ∀ (N55 k55 : Nat), k55 ≤ nC - (ch.toNatClampNeg + 1) → nC - (ch.toNatClampNeg + 1) - k55 < N55 → ∀ (H : Heap) (locs : List Loc), va_P D cl (mW a ba ka (upd (upd F 0 ((if (mr_M_within ch 0 ((nI nC) - 1)) = 0 then 1 else (if (mr_M_within nu 0 3) = 0 then 1 else 0)) : Int32)) 26 ((mr_M_know (F 26) (G 6) (G 7) (G 8) (G 9) (G 10) (G 11) (G 12) (G 13) (G 14) (G 15) (G 16) (G 17) (G 18) (G 19) (G 27) (G 28) nC nT nR nD).1)) (va_up (va_up (va_up G 19 ((mr_M_know (F 26) (G 6) (G 7) (G 8) (G 9) (G 10) (G 11) (G 12) (G 13) (G 14) (G 15) (G 16) (G 17) (G 18) (G 19) (G 27) (G 28) nC nT nR nD).2.1)) 27 ((mr_M_know (F 26) (G 6) (G 7) (G 8) (G 9) (G 10) (G 11) (G 12) (G 13) (G 14) (G 15) (G 16) (G 17) (G 18) (G 19) (G 27) (G 28) nC nT nR nD).2.2.1)) 28 ((mr_M_know (F 26) (G 6) (G 7) (G 8) (G 9) (G 10) (G 11) (G 12) (G 13) (G 14) (G 15) (G 16) (G 17) (G 18) (G 19) (G 27) (G 28) nC nT nR nD).2.2.2))) H → va_D A (mW a ba ka (upd (upd F 0 ((if (mr_M_within ch 0 ((nI nC) - 1)) = 0 then 1 else (if (mr_M_within nu 0 3) = 0 then 1 else 0)) : Int32)) 26 ((mr_M_know (F 26) (G 6) (G 7) (G 8) (G 9) (G 10) (G 11) (G 12) (G 13) (G 14) (G 15) (G 16) (G 17) (G 18) (G 19) (G 27) (G 28) nC nT nR nD).1)) (va_up (va_up (va_up G 19 ((mr_M_know (F 26) (G 6) (G 7) (G 8) (G 9) (G 10) (G 11) (G 12) (G 13) (G 14) (G 15) (G 16) (G 17) (G 18) (G 19) (G 27) (G 28) nC nT nR nD).2.1)) 27 ((mr_M_know (F 26) (G 6) (G 7) (G 8) (G 9) (G 10) (G 11) (G 12) (G 13) (G 14) (G 15) (G 16) (G 17) (G 18) (G 19) (G 27) (G 28) nC nT nR nD).2.2.1)) 28 ((mr_M_know (F 26) (G 6) (G 7) (G 8) (G 9) (G 10) (G 11) (G 12) (G 13) (G 14) (G 15) (G 16) (G 17) (G 18) (G 19) (G 27) (G 28) nC nT nR nD).2.2.2))) → va_S A H0 H locs → ∀ (ls : Array Slot), lv_has ls 10 [(6, .int (nI (ch.toNatClampNeg + 1 + k55))), (5, .int (lf_M_matters_55 (G 6) nC nT nR nD ch nu 1 k55)), (3, .long 0), (0, .ref a), (1, .int ch), (2, .int nu)] → W p l e ({ frames := 4, cells := 0, slots := 0, locals := 92 } : Room) s m args below meth c H locs 0 0 Q (F0 m 55 ls []) := by
        intro N55
        induction N55 with
        | zero => intro k55 hk55 hm55; exact absurd hm55 (Nat.not_lt_zero _)
        | succ N55 ih55 =>
          intro k55 hk55 hm55  H locs hP hD hS ls hl
          refine lv_iload hx hb dM_matters_55 (lv_at hl 0 rfl) ?_
          refine lv_aload_n hx hb dM_matters_57 rfl (lv_at hl 3 rfl) ?_
          refine va_get (D := D) (ci := 0) (v := .int (F 2)) (C := RM) (T := TM) (N := 29) hx hb hts inM_ hown hK hP 0 rfl hcl 2 (by decide) f81 (fun _ h9 => h9) rfl dM_matters_58 ?_
          refine wt_i h2 ?_
          refine lv_icmp_ge (tgt := 82) hx hb dM_matters_61 (by decide) (fun c61 => ?_) (fun c61 => ?_)
          · have n61 : nC ≤ (ch.toNatClampNeg + 1 + k55) := (nI_leI (a := nC) (b := (ch.toNatClampNeg + 1 + k55)) (by omega) (by omega)).mp c61
            have hx55 : nC - (ch.toNatClampNeg + 1) = k55 := by omega
            subst hx55
            refine lv_iconst (v := 0) hx hb dM_matters_82 (by decide) ?_
            refine lv_istore (lv' := [(6, .int 0), (5, .int (lf_M_matters_55 (G 6) nC nT nR nD ch nu 1 (nC - (ch.toNatClampNeg + 1)))), (3, .long 0), (0, .ref a), (1, .int ch), (2, .int nu)]) hx hb dM_matters_83 hl (by decide) rfl (fun ls hl => ?_)
            have loop85 : ∀ (N85 k85 : Nat), k85 ≤ nD → nD - k85 < N85 → ∀ (H : Heap) (locs : List Loc), va_P D cl (mW a ba ka (upd (upd F 0 ((if (mr_M_within ch 0 ((nI nC) - 1)) = 0 then 1 else (if (mr_M_within nu 0 3) = 0 then 1 else 0)) : Int32)) 26 ((mr_M_know (F 26) (G 6) (G 7) (G 8) (G 9) (G 10) (G 11) (G 12) (G 13) (G 14) (G 15) (G 16) (G 17) (G 18) (G 19) (G 27) (G 28) nC nT nR nD).1)) (va_up (va_up (va_up G 19 ((mr_M_know (F 26) (G 6) (G 7) (G 8) (G 9) (G 10) (G 11) (G 12) (G 13) (G 14) (G 15) (G 16) (G 17) (G 18) (G 19) (G 27) (G 28) nC nT nR nD).2.1)) 27 ((mr_M_know (F 26) (G 6) (G 7) (G 8) (G 9) (G 10) (G 11) (G 12) (G 13) (G 14) (G 15) (G 16) (G 17) (G 18) (G 19) (G 27) (G 28) nC nT nR nD).2.2.1)) 28 ((mr_M_know (F 26) (G 6) (G 7) (G 8) (G 9) (G 10) (G 11) (G 12) (G 13) (G 14) (G 15) (G 16) (G 17) (G 18) (G 19) (G 27) (G 28) nC nT nR nD).2.2.2))) H → va_D A (mW a ba ka (upd (upd F 0 ((if (mr_M_within ch 0 ((nI nC) - 1)) = 0 then 1 else (if (mr_M_within nu 0 3) = 0 then 1 else 0)) : Int32)) 26 ((mr_M_know (F 26) (G 6) (G 7) (G 8) (G 9) (G 10) (G 11) (G 12) (G 13) (G 14) (G 15) (G 16) (G 17) (G 18) (G 19) (G 27) (G 28) nC nT nR nD).1)) (va_up (va_up (va_up G 19 ((mr_M_know (F 26) (G 6) (G 7) (G 8) (G 9) (G 10) (G 11) (G 12) (G 13) (G 14) (G 15) (G 16) (G 17) (G 18) (G 19) (G 27) (G 28) nC nT nR nD).2.1)) 27 ((mr_M_know (F 26) (G 6) (G 7) (G 8) (G 9) (G 10) (G 11) (G 12) (G 13) (G 14) (G 15) (G 16) (G 17) (G 18) (G 19) (G 27) (G 28) nC nT nR nD).2.2.1)) 28 ((mr_M_know (F 26) (G 6) (G 7) (G 8) (G 9) (G 10) (G 11) (G 12) (G 13) (G 14) (G 15) (G 16) (G 17) (G 18) (G 19) (G 27) (G 28) nC nT nR nD).2.2.2))) → va_S A H0 H locs → ∀ (ls : Array Slot), lv_has ls 10 [(6, .int (nI k85)), (5, .int (lf_M_matters_55 (G 6) nC nT nR nD ch nu 1 (nC - (ch.toNatClampNeg + 1)))), (3, .long (lf_M_matters_85 (G 6) nC nT nR nD ch nu ((mr_M_know (F 26) (G 6) (G 7) (G 8) (G 9) (G 10) (G 11) (G 12) (G 13) (G 14) (G 15) (G 16) (G 17) (G 18) (G 19) (G 27) (G 28) nC nT nR nD).2.2.1) ((mr_M_know (F 26) (G 6) (G 7) (G 8) (G 9) (G 10) (G 11) (G 12) (G 13) (G 14) (G 15) (G 16) (G 17) (G 18) (G 19) (G 27) (G 28) nC nT nR nD).2.2.2) 0 k85)), (0, .ref a), (1, .int ch), (2, .int nu)] → W p l e ({ frames := 4, cells := 0, slots := 0, locals := 92 } : Room) s m args below meth c H locs 0 0 Q (F0 m 85 ls []) := by
              intro N85
              induction N85 with
              | zero => intro k85 hk85 hm85; exact absurd hm85 (Nat.not_lt_zero _)
              | succ N85 ih85 =>
                intro k85 hk85 hm85  H locs hP hD hS ls hl
                refine lv_iload hx hb dM_matters_85 (lv_at hl 0 rfl) ?_
                refine lv_aload_n hx hb dM_matters_87 rfl (lv_at hl 3 rfl) ?_
                refine va_get (D := D) (ci := 0) (v := .int (F 5)) (C := RM) (T := TM) (N := 29) hx hb hts inM_ hown hK hP 0 rfl hcl 5 (by decide) f7 (fun _ h9 => h9) rfl dM_matters_88 ?_
                refine wt_i h5 ?_
                refine lv_icmp_ge (tgt := 232) hx hb dM_matters_91 (by decide) (fun c91 => ?_) (fun c91 => ?_)
                · have n91 : nD ≤ k85 := (nI_leI (a := nD) (b := k85) (by omega) (by omega)).mp c91
                  have hx85 : nD = k85 := by omega
                  subst hx85
                  refine lv_lload_n hx hb dM_matters_232 rfl (lv_at hl 2 rfl) ?_
                  have em : mr_M_matters (F 26) (G 6) (G 7) (G 8) (G 9) (G 10) (G 11) (G 12) (G 13) (G 14) (G 15) (G 16) (G 17) (G 18) (G 19) (G 27) (G 28) nC nT nR nD ch nu = (lf_M_matters_85 (G 6) nC nT nR nD ch nu ((mr_M_know (F 26) (G 6) (G 7) (G 8) (G 9) (G 10) (G 11) (G 12) (G 13) (G 14) (G 15) (G 16) (G 17) (G 18) (G 19) (G 27) (G 28) nC nT nR nD).2.2.1) ((mr_M_know (F 26) (G 6) (G 7) (G 8) (G 9) (G 10) (G 11) (G 12) (G 13) (G 14) (G 15) (G 16) (G 17) (G 18) (G 19) (G 27) (G 28) nC nT nR nD).2.2.2) 0 nD, ((if (mr_M_within ch 0 ((nI nC) - 1)) = 0 then 1 else (if (mr_M_within nu 0 3) = 0 then 1 else 0)) : Int32), (mr_M_know (F 26) (G 6) (G 7) (G 8) (G 9) (G 10) (G 11) (G 12) (G 13) (G 14) (G 15) (G 16) (G 17) (G 18) (G 19) (G 27) (G 28) nC nT nR nD).1, (mr_M_know (F 26) (G 6) (G 7) (G 8) (G 9) (G 10) (G 11) (G 12) (G 13) (G 14) (G 15) (G 16) (G 17) (G 18) (G 19) (G 27) (G 28) nC nT nR nD).2.1, (mr_M_know (F 26) (G 6) (G 7) (G 8) (G 9) (G 10) (G 11) (G 12) (G 13) (G 14) (G 15) (G 16) (G 17) (G 18) (G 19) (G 27) (G 28) nC nT nR nD).2.2.1, (mr_M_know (F 26) (G 6) (G 7) (G 8) (G 9) (G 10) (G 11) (G 12) (G 13) (G 14) (G 15) (G 16) (G 17) (G 18) (G 19) (G 27) (G 28) nC nT nR nD).2.2.2) := by rw [mr_M_matters, if_pos c36]
                  exact hret _ _ _ _ _ _ (by simp only [em]) (by simp only [em]) hP hD hS dM_matters_233
                · have n91 : ¬ nD ≤ k85 := fun h9 => c91 ((nI_leI (a := nD) (b := k85) (by omega) (by omega)).mpr h9)
                  refine lv_iload hx hb dM_matters_94 (lv_at hl 0 rfl) ?_
                  refine lv_iload hx hb dM_matters_96 (lv_at hl 1 rfl) ?_
                  refine wt_i (r := nI (pc_ (zg (G 6)) nC ch.toNatClampNeg)) (by exact un_num h6 hc2) ?_
                  refine lv_iadd hx hb dM_matters_98 ?_
                  refine wt_i (r := nI (k85 + (pc_ (zg (G 6)) nC ch.toNatClampNeg))) (by exact nI_add k85 (pc_ (zg (G 6)) nC ch.toNatClampNeg)) ?_
                  refine lv_istore (lv' := [(7, .int (nI (k85 + (pc_ (zg (G 6)) nC ch.toNatClampNeg)))), (6, .int (nI k85)), (5, .int (lf_M_matters_55 (G 6) nC nT nR nD ch nu 1 (nC - (ch.toNatClampNeg + 1)))), (3, .long (lf_M_matters_85 (G 6) nC nT nR nD ch nu ((mr_M_know (F 26) (G 6) (G 7) (G 8) (G 9) (G 10) (G 11) (G 12) (G 13) (G 14) (G 15) (G 16) (G 17) (G 18) (G 19) (G 27) (G 28) nC nT nR nD).2.2.1) ((mr_M_know (F 26) (G 6) (G 7) (G 8) (G 9) (G 10) (G 11) (G 12) (G 13) (G 14) (G 15) (G 16) (G 17) (G 18) (G 19) (G 27) (G 28) nC nT nR nD).2.2.2) 0 k85)), (0, .ref a), (1, .int ch), (2, .int nu)]) hx hb dM_matters_99 hl (by decide) rfl (fun ls hl => ?_)
                  have ex101 : ∀ (H : Heap) (locs : List Loc), va_P D cl (mW a ba ka (upd (upd F 0 ((if (mr_M_within ch 0 ((nI nC) - 1)) = 0 then 1 else (if (mr_M_within nu 0 3) = 0 then 1 else 0)) : Int32)) 26 ((mr_M_know (F 26) (G 6) (G 7) (G 8) (G 9) (G 10) (G 11) (G 12) (G 13) (G 14) (G 15) (G 16) (G 17) (G 18) (G 19) (G 27) (G 28) nC nT nR nD).1)) (va_up (va_up (va_up G 19 ((mr_M_know (F 26) (G 6) (G 7) (G 8) (G 9) (G 10) (G 11) (G 12) (G 13) (G 14) (G 15) (G 16) (G 17) (G 18) (G 19) (G 27) (G 28) nC nT nR nD).2.1)) 27 ((mr_M_know (F 26) (G 6) (G 7) (G 8) (G 9) (G 10) (G 11) (G 12) (G 13) (G 14) (G 15) (G 16) (G 17) (G 18) (G 19) (G 27) (G 28) nC nT nR nD).2.2.1)) 28 ((mr_M_know (F 26) (G 6) (G 7) (G 8) (G 9) (G 10) (G 11) (G 12) (G 13) (G 14) (G 15) (G 16) (G 17) (G 18) (G 19) (G 27) (G 28) nC nT nR nD).2.2.2))) H → va_D A (mW a ba ka (upd (upd F 0 ((if (mr_M_within ch 0 ((nI nC) - 1)) = 0 then 1 else (if (mr_M_within nu 0 3) = 0 then 1 else 0)) : Int32)) 26 ((mr_M_know (F 26) (G 6) (G 7) (G 8) (G 9) (G 10) (G 11) (G 12) (G 13) (G 14) (G 15) (G 16) (G 17) (G 18) (G 19) (G 27) (G 28) nC nT nR nD).1)) (va_up (va_up (va_up G 19 ((mr_M_know (F 26) (G 6) (G 7) (G 8) (G 9) (G 10) (G 11) (G 12) (G 13) (G 14) (G 15) (G 16) (G 17) (G 18) (G 19) (G 27) (G 28) nC nT nR nD).2.1)) 27 ((mr_M_know (F 26) (G 6) (G 7) (G 8) (G 9) (G 10) (G 11) (G 12) (G 13) (G 14) (G 15) (G 16) (G 17) (G 18) (G 19) (G 27) (G 28) nC nT nR nD).2.2.1)) 28 ((mr_M_know (F 26) (G 6) (G 7) (G 8) (G 9) (G 10) (G 11) (G 12) (G 13) (G 14) (G 15) (G 16) (G 17) (G 18) (G 19) (G 27) (G 28) nC nT nR nD).2.2.2))) → va_S A H0 H locs → ∀ (ls : Array Slot), lv_has ls 10 [(7, .int (nI ((lf_M_matters_101 (G 6) nC nT nR nD ch nu k85 ((mr_M_know (F 26) (G 6) (G 7) (G 8) (G 9) (G 10) (G 11) (G 12) (G 13) (G 14) (G 15) (G 16) (G 17) (G 18) (G 19) (G 27) (G 28) nC nT nR nD).2.2.1) ((mr_M_know (F 26) (G 6) (G 7) (G 8) (G 9) (G 10) (G 11) (G 12) (G 13) (G 14) (G 15) (G 16) (G 17) (G 18) (G 19) (G 27) (G 28) nC nT nR nD).2.2.2) (nD + 1) (lf_M_matters_85 (G 6) nC nT nR nD ch nu ((mr_M_know (F 26) (G 6) (G 7) (G 8) (G 9) (G 10) (G 11) (G 12) (G 13) (G 14) (G 15) (G 16) (G 17) (G 18) (G 19) (G 27) (G 28) nC nT nR nD).2.2.1) ((mr_M_know (F 26) (G 6) (G 7) (G 8) (G 9) (G 10) (G 11) (G 12) (G 13) (G 14) (G 15) (G 16) (G 17) (G 18) (G 19) (G 27) (G 28) nC nT nR nD).2.2.2) 0 k85) (k85 + (pc_ (zg (G 6)) nC ch.toNatClampNeg))).2))), (6, .int (nI k85)), (5, .int (lf_M_matters_55 (G 6) nC nT nR nD ch nu 1 (nC - (ch.toNatClampNeg + 1)))), (3, .long ((lf_M_matters_101 (G 6) nC nT nR nD ch nu k85 ((mr_M_know (F 26) (G 6) (G 7) (G 8) (G 9) (G 10) (G 11) (G 12) (G 13) (G 14) (G 15) (G 16) (G 17) (G 18) (G 19) (G 27) (G 28) nC nT nR nD).2.2.1) ((mr_M_know (F 26) (G 6) (G 7) (G 8) (G 9) (G 10) (G 11) (G 12) (G 13) (G 14) (G 15) (G 16) (G 17) (G 18) (G 19) (G 27) (G 28) nC nT nR nD).2.2.2) (nD + 1) (lf_M_matters_85 (G 6) nC nT nR nD ch nu ((mr_M_know (F 26) (G 6) (G 7) (G 8) (G 9) (G 10) (G 11) (G 12) (G 13) (G 14) (G 15) (G 16) (G 17) (G 18) (G 19) (G 27) (G 28) nC nT nR nD).2.2.1) ((mr_M_know (F 26) (G 6) (G 7) (G 8) (G 9) (G 10) (G 11) (G 12) (G 13) (G 14) (G 15) (G 16) (G 17) (G 18) (G 19) (G 27) (G 28) nC nT nR nD).2.2.2) 0 k85) (k85 + (pc_ (zg (G 6)) nC ch.toNatClampNeg))).1)), (0, .ref a), (1, .int ch), (2, .int nu)] → W p l e ({ frames := 4, cells := 0, slots := 0, locals := 92 } : Room) s m args below meth c H locs 0 0 Q (F0 m 226 ls []) := by
                    intro H locs hP hD hS ls hl
                    refine lv_iinc (v := nI (k85 + 1)) (lv' := [(6, .int (nI (k85 + 1))), (7, .int (nI ((lf_M_matters_101 (G 6) nC nT nR nD ch nu k85 ((mr_M_know (F 26) (G 6) (G 7) (G 8) (G 9) (G 10) (G 11) (G 12) (G 13) (G 14) (G 15) (G 16) (G 17) (G 18) (G 19) (G 27) (G 28) nC nT nR nD).2.2.1) ((mr_M_know (F 26) (G 6) (G 7) (G 8) (G 9) (G 10) (G 11) (G 12) (G 13) (G 14) (G 15) (G 16) (G 17) (G 18) (G 19) (G 27) (G 28) nC nT nR nD).2.2.2) (nD + 1) (lf_M_matters_85 (G 6) nC nT nR nD ch nu ((mr_M_know (F 26) (G 6) (G 7) (G 8) (G 9) (G 10) (G 11) (G 12) (G 13) (G 14) (G 15) (G 16) (G 17) (G 18) (G 19) (G 27) (G 28) nC nT nR nD).2.2.1) ((mr_M_know (F 26) (G 6) (G 7) (G 8) (G 9) (G 10) (G 11) (G 12) (G 13) (G 14) (G 15) (G 16) (G 17) (G 18) (G 19) (G 27) (G 28) nC nT nR nD).2.2.2) 0 k85) (k85 + (pc_ (zg (G 6)) nC ch.toNatClampNeg))).2))), (5, .int (lf_M_matters_55 (G 6) nC nT nR nD ch nu 1 (nC - (ch.toNatClampNeg + 1)))), (3, .long ((lf_M_matters_101 (G 6) nC nT nR nD ch nu k85 ((mr_M_know (F 26) (G 6) (G 7) (G 8) (G 9) (G 10) (G 11) (G 12) (G 13) (G 14) (G 15) (G 16) (G 17) (G 18) (G 19) (G 27) (G 28) nC nT nR nD).2.2.1) ((mr_M_know (F 26) (G 6) (G 7) (G 8) (G 9) (G 10) (G 11) (G 12) (G 13) (G 14) (G 15) (G 16) (G 17) (G 18) (G 19) (G 27) (G 28) nC nT nR nD).2.2.2) (nD + 1) (lf_M_matters_85 (G 6) nC nT nR nD ch nu ((mr_M_know (F 26) (G 6) (G 7) (G 8) (G 9) (G 10) (G 11) (G 12) (G 13) (G 14) (G 15) (G 16) (G 17) (G 18) (G 19) (G 27) (G 28) nC nT nR nD).2.2.1) ((mr_M_know (F 26) (G 6) (G 7) (G 8) (G 9) (G 10) (G 11) (G 12) (G 13) (G 14) (G 15) (G 16) (G 17) (G 18) (G 19) (G 27) (G 28) nC nT nR nD).2.2.2) 0 k85) (k85 + (pc_ (zg (G 6)) nC ch.toNatClampNeg))).1)), (0, .ref a), (1, .int ch), (2, .int nu)]) hx hb dM_matters_226 hl (k := 1) rfl (by exact ii_1 k85) (by decide) rfl (fun ls hl => ?_)
                    refine lv_goto (tgt := 85) hx hb dM_matters_229 (by decide) ?_
                    have eb85 : lf_M_matters_85 (G 6) nC nT nR nD ch nu ((mr_M_know (F 26) (G 6) (G 7) (G 8) (G 9) (G 10) (G 11) (G 12) (G 13) (G 14) (G 15) (G 16) (G 17) (G 18) (G 19) (G 27) (G 28) nC nT nR nD).2.2.1) ((mr_M_know (F 26) (G 6) (G 7) (G 8) (G 9) (G 10) (G 11) (G 12) (G 13) (G 14) (G 15) (G 16) (G 17) (G 18) (G 19) (G 27) (G 28) nC nT nR nD).2.2.2) 0 (k85 + 1) = (lf_M_matters_101 (G 6) nC nT nR nD ch nu k85 ((mr_M_know (F 26) (G 6) (G 7) (G 8) (G 9) (G 10) (G 11) (G 12) (G 13) (G 14) (G 15) (G 16) (G 17) (G 18) (G 19) (G 27) (G 28) nC nT nR nD).2.2.1) ((mr_M_know (F 26) (G 6) (G 7) (G 8) (G 9) (G 10) (G 11) (G 12) (G 13) (G 14) (G 15) (G 16) (G 17) (G 18) (G 19) (G 27) (G 28) nC nT nR nD).2.2.2) (nD + 1) (lf_M_matters_85 (G 6) nC nT nR nD ch nu ((mr_M_know (F 26) (G 6) (G 7) (G 8) (G 9) (G 10) (G 11) (G 12) (G 13) (G 14) (G 15) (G 16) (G 17) (G 18) (G 19) (G 27) (G 28) nC nT nR nD).2.2.1) ((mr_M_know (F 26) (G 6) (G 7) (G 8) (G 9) (G 10) (G 11) (G 12) (G 13) (G 14) (G 15) (G 16) (G 17) (G 18) (G 19) (G 27) (G 28) nC nT nR nD).2.2.2) 0 k85) (k85 + (pc_ (zg (G 6)) nC ch.toNatClampNeg))).1 := by rw [lf_M_matters_85]
                    exact ih85 (k85 + 1) (by omega) (by omega)  H locs (by exact hP) (by exact hD) hS ls (by rw [eb85]; exact lv_sub hl [0, 2, 3, 4, 5, 6] rfl)
                  have loop101 : ∀ (N101 : Nat) (mo : Int64) (y : Nat), y ≤ 8192 → nD - y < N101 → lf_M_matters_101 (G 6) nC nT nR nD ch nu k85 ((mr_M_know (F 26) (G 6) (G 7) (G 8) (G 9) (G 10) (G 11) (G 12) (G 13) (G 14) (G 15) (G 16) (G 17) (G 18) (G 19) (G 27) (G 28) nC nT nR nD).2.2.1) ((mr_M_know (F 26) (G 6) (G 7) (G 8) (G 9) (G 10) (G 11) (G 12) (G 13) (G 14) (G 15) (G 16) (G 17) (G 18) (G 19) (G 27) (G 28) nC nT nR nD).2.2.2) (nD + 1) (lf_M_matters_85 (G 6) nC nT nR nD ch nu ((mr_M_know (F 26) (G 6) (G 7) (G 8) (G 9) (G 10) (G 11) (G 12) (G 13) (G 14) (G 15) (G 16) (G 17) (G 18) (G 19) (G 27) (G 28) nC nT nR nD).2.2.1) ((mr_M_know (F 26) (G 6) (G 7) (G 8) (G 9) (G 10) (G 11) (G 12) (G 13) (G 14) (G 15) (G 16) (G 17) (G 18) (G 19) (G 27) (G 28) nC nT nR nD).2.2.2) 0 k85) (k85 + (pc_ (zg (G 6)) nC ch.toNatClampNeg)) = lf_M_matters_101 (G 6) nC nT nR nD ch nu k85 ((mr_M_know (F 26) (G 6) (G 7) (G 8) (G 9) (G 10) (G 11) (G 12) (G 13) (G 14) (G 15) (G 16) (G 17) (G 18) (G 19) (G 27) (G 28) nC nT nR nD).2.2.1) ((mr_M_know (F 26) (G 6) (G 7) (G 8) (G 9) (G 10) (G 11) (G 12) (G 13) (G 14) (G 15) (G 16) (G 17) (G 18) (G 19) (G 27) (G 28) nC nT nR nD).2.2.2) N101 mo y → ∀ (H : Heap) (locs : List Loc), va_P D cl (mW a ba ka (upd (upd F 0 ((if (mr_M_within ch 0 ((nI nC) - 1)) = 0 then 1 else (if (mr_M_within nu 0 3) = 0 then 1 else 0)) : Int32)) 26 ((mr_M_know (F 26) (G 6) (G 7) (G 8) (G 9) (G 10) (G 11) (G 12) (G 13) (G 14) (G 15) (G 16) (G 17) (G 18) (G 19) (G 27) (G 28) nC nT nR nD).1)) (va_up (va_up (va_up G 19 ((mr_M_know (F 26) (G 6) (G 7) (G 8) (G 9) (G 10) (G 11) (G 12) (G 13) (G 14) (G 15) (G 16) (G 17) (G 18) (G 19) (G 27) (G 28) nC nT nR nD).2.1)) 27 ((mr_M_know (F 26) (G 6) (G 7) (G 8) (G 9) (G 10) (G 11) (G 12) (G 13) (G 14) (G 15) (G 16) (G 17) (G 18) (G 19) (G 27) (G 28) nC nT nR nD).2.2.1)) 28 ((mr_M_know (F 26) (G 6) (G 7) (G 8) (G 9) (G 10) (G 11) (G 12) (G 13) (G 14) (G 15) (G 16) (G 17) (G 18) (G 19) (G 27) (G 28) nC nT nR nD).2.2.2))) H → va_D A (mW a ba ka (upd (upd F 0 ((if (mr_M_within ch 0 ((nI nC) - 1)) = 0 then 1 else (if (mr_M_within nu 0 3) = 0 then 1 else 0)) : Int32)) 26 ((mr_M_know (F 26) (G 6) (G 7) (G 8) (G 9) (G 10) (G 11) (G 12) (G 13) (G 14) (G 15) (G 16) (G 17) (G 18) (G 19) (G 27) (G 28) nC nT nR nD).1)) (va_up (va_up (va_up G 19 ((mr_M_know (F 26) (G 6) (G 7) (G 8) (G 9) (G 10) (G 11) (G 12) (G 13) (G 14) (G 15) (G 16) (G 17) (G 18) (G 19) (G 27) (G 28) nC nT nR nD).2.1)) 27 ((mr_M_know (F 26) (G 6) (G 7) (G 8) (G 9) (G 10) (G 11) (G 12) (G 13) (G 14) (G 15) (G 16) (G 17) (G 18) (G 19) (G 27) (G 28) nC nT nR nD).2.2.1)) 28 ((mr_M_know (F 26) (G 6) (G 7) (G 8) (G 9) (G 10) (G 11) (G 12) (G 13) (G 14) (G 15) (G 16) (G 17) (G 18) (G 19) (G 27) (G 28) nC nT nR nD).2.2.2))) → va_S A H0 H locs → ∀ (ls : Array Slot), lv_has ls 10 [(7, .int (nI y)), (6, .int (nI k85)), (5, .int (lf_M_matters_55 (G 6) nC nT nR nD ch nu 1 (nC - (ch.toNatClampNeg + 1)))), (3, .long mo), (0, .ref a), (1, .int ch), (2, .int nu)] → W p l e ({ frames := 4, cells := 0, slots := 0, locals := 92 } : Room) s m args below meth c H locs 0 0 Q (F0 m 101 ls []) := by
                    intro N101
                    induction N101 with
                    | zero => intro mo y hy hm101; exact absurd hm101 (Nat.not_lt_zero _)
                    | succ N101 ih101 =>
                      intro mo y hy hm101 hR101 H locs hP hD hS ls hl
                      refine lv_aload_n hx hb dM_matters_101 rfl (lv_at hl 4 rfl) ?_
                      refine va_get (D := D) (ci := 0) (v := .ref (ba 27)) (C := RM) (T := TM) (N := 29) hx hb hts inM_ hown hK hP 0 rfl hcl 27 (by decide) f60 (fun _ h9 => h9) rfl dM_matters_102 ?_
                      refine lv_iload hx hb dM_matters_105 (lv_at hl 1 rfl) ?_
                      have sd107 : k85 < 4096 := by omega
                      have eg107 : (va_up (va_up (va_up G 19 ((mr_M_know (F 26) (G 6) (G 7) (G 8) (G 9) (G 10) (G 11) (G 12) (G 13) (G 14) (G 15) (G 16) (G 17) (G 18) (G 19) (G 27) (G 28) nC nT nR nD).2.1)) 27 ((mr_M_know (F 26) (G 6) (G 7) (G 8) (G 9) (G 10) (G 11) (G 12) (G 13) (G 14) (G 15) (G 16) (G 17) (G 18) (G 19) (G 27) (G 28) nC nT nR nD).2.2.1)) 28 ((mr_M_know (F 26) (G 6) (G 7) (G 8) (G 9) (G 10) (G 11) (G 12) (G 13) (G 14) (G 15) (G 16) (G 17) (G 18) (G 19) (G 27) (G 28) nC nT nR nD).2.2.2)) 27 = (mr_M_know (F 26) (G 6) (G 7) (G 8) (G 9) (G 10) (G 11) (G 12) (G 13) (G 14) (G 15) (G 16) (G 17) (G 18) (G 19) (G 27) (G 28) nC nT nR nD).2.2.1 := by rw [vup_un (k := 28) (j := 27) (by decide), vup_us]
                      refine wn_zald (f := (mr_M_know (F 26) (G 6) (G 7) (G 8) (G 9) (G 10) (G 11) (G 12) (G 13) (G 14) (G 15) (G 16) (G 17) (G 18) (G 19) (G 27) (G 28) nC nT nR nD).2.2.1) hx hb hK hP 15 14 (congrArg (fun z : Nat → Int32 => (some ((ba 27), (.inl ((ka 27), 4096, .inl z) : va_E)) : Option (Nat × va_E))) eg107) rfl k85 rfl sd107 (by decide) dM_matters_107 ?_
                      refine lv_if_eq (tgt := 226) hx hb dM_matters_108 (by decide) (fun c108 => ?_) (fun c108 => ?_)
                      · have er101 : lf_M_matters_101 (G 6) nC nT nR nD ch nu k85 ((mr_M_know (F 26) (G 6) (G 7) (G 8) (G 9) (G 10) (G 11) (G 12) (G 13) (G 14) (G 15) (G 16) (G 17) (G 18) (G 19) (G 27) (G 28) nC nT nR nD).2.2.1) ((mr_M_know (F 26) (G 6) (G 7) (G 8) (G 9) (G 10) (G 11) (G 12) (G 13) (G 14) (G 15) (G 16) (G 17) (G 18) (G 19) (G 27) (G 28) nC nT nR nD).2.2.2) (N101 + 1) mo y = (mo, y) := by rw [lf_M_matters_101, if_pos c108]
                        rw [er101] at hR101
                        exact ex101 H locs (by exact hP) (by exact hD) hS ls (by rw [hR101]; exact lv_sub hl [0, 1, 2, 3, 4, 5, 6] rfl)
                      · refine lv_iload hx hb dM_matters_111 (lv_at hl 0 rfl) ?_
                        refine lv_aload_n hx hb dM_matters_113 rfl (lv_at hl 4 rfl) ?_
                        refine va_get (D := D) (ci := 0) (v := .int (F 5)) (C := RM) (T := TM) (N := 29) hx hb hts inM_ hown hK hP 0 rfl hcl 5 (by decide) f7 (fun _ h9 => h9) rfl dM_matters_114 ?_
                        refine wt_i h5 ?_
                        refine lv_icmp_ge (tgt := 226) hx hb dM_matters_117 (by decide) (fun c117 => ?_) (fun c117 => ?_)
                        · have n117 : nD ≤ y := (nI_leI (a := nD) (b := y) (by omega) (by omega)).mp c117
                          have er101 : lf_M_matters_101 (G 6) nC nT nR nD ch nu k85 ((mr_M_know (F 26) (G 6) (G 7) (G 8) (G 9) (G 10) (G 11) (G 12) (G 13) (G 14) (G 15) (G 16) (G 17) (G 18) (G 19) (G 27) (G 28) nC nT nR nD).2.2.1) ((mr_M_know (F 26) (G 6) (G 7) (G 8) (G 9) (G 10) (G 11) (G 12) (G 13) (G 14) (G 15) (G 16) (G 17) (G 18) (G 19) (G 27) (G 28) nC nT nR nD).2.2.2) (N101 + 1) mo y = (mo, y) := by rw [lf_M_matters_101, if_neg c108, if_pos c117]
                          rw [er101] at hR101
                          exact ex101 H locs (by exact hP) (by exact hD) hS ls (by rw [hR101]; exact lv_sub hl [0, 1, 2, 3, 4, 5, 6] rfl)
                        · have n117 : ¬ nD ≤ y := fun h9 => c117 ((nI_leI (a := nD) (b := y) (by omega) (by omega)).mpr h9)
                          refine lv_iload hx hb dM_matters_120 (lv_at hl 0 rfl) ?_
                          refine lv_iload hx hb dM_matters_122 (lv_at hl 2 rfl) ?_
                          refine wt_i (r := nI (pc_ (zg (G 6)) nC ch.toNatClampNeg)) (by exact un_num h6 hc2) ?_
                          refine lv_aload_n hx hb dM_matters_124 rfl (lv_at hl 4 rfl) ?_
                          refine va_get (D := D) (ci := 0) (v := .ref (ba 6)) (C := RM) (T := TM) (N := 29) hx hb hts inM_ hown hK hP 0 rfl hcl 6 (by decide) f13 (fun _ h9 => h9) rfl dM_matters_125 ?_
                          refine lv_iload_n hx hb dM_matters_128 rfl (lv_at hl 5 rfl) ?_
                          refine wt_i (r := nI ch.toNatClampNeg) (by exact xc.1) ?_
                          have sd129 : ch.toNatClampNeg < 8 := by omega
                          refine wn_iald (f := G 6) hx hb hK hP 1 0 rfl rfl ch.toNatClampNeg rfl sd129 (by decide) dM_matters_129 ?_
                          refine wt_i (r := nI (zg (G 6) ch.toNatClampNeg)) (by exact z1) ?_
                          refine lv_imul hx hb dM_matters_130 ?_
                          refine wt_i (r := nI ((pc_ (zg (G 6)) nC ch.toNatClampNeg) * (zg (G 6) ch.toNatClampNeg))) (by exact pk_mul (pc_ (zg (G 6)) nC ch.toNatClampNeg) (zg (G 6) ch.toNatClampNeg)) ?_
                          have sd131 : ¬ (nI ((pc_ (zg (G 6)) nC ch.toNatClampNeg) * (zg (G 6) ch.toNatClampNeg))) = 0 := by exact nI_ne0 hu4 (by omega)
                          refine lv_idiv hx hb dM_matters_131 sd131 ?_
                          refine wt_i (r := nI (y / (pc_ (zg (G 6)) nC ch.toNatClampNeg * zg (G 6) ch.toNatClampNeg))) (by exact pk_div (by omega) hu4 (by omega)) ?_
                          refine lv_iload hx hb dM_matters_132 (lv_at hl 1 rfl) ?_
                          refine lv_iload hx hb dM_matters_134 (lv_at hl 2 rfl) ?_
                          refine wt_i (r := nI (pc_ (zg (G 6)) nC ch.toNatClampNeg)) (by exact un_num h6 hc2) ?_
                          refine lv_aload_n hx hb dM_matters_136 rfl (lv_at hl 4 rfl) ?_
                          refine va_get (D := D) (ci := 0) (v := .ref (ba 6)) (C := RM) (T := TM) (N := 29) hx hb hts inM_ hown hK hP 0 rfl hcl 6 (by decide) f13 (fun _ h9 => h9) rfl dM_matters_137 ?_
                          refine lv_iload_n hx hb dM_matters_140 rfl (lv_at hl 5 rfl) ?_
                          refine wt_i (r := nI ch.toNatClampNeg) (by exact xc.1) ?_
                          have sd141 : ch.toNatClampNeg < 8 := by omega
                          refine wn_iald (f := G 6) hx hb hK hP 1 0 rfl rfl ch.toNatClampNeg rfl sd141 (by decide) dM_matters_141 ?_
                          refine wt_i (r := nI (zg (G 6) ch.toNatClampNeg)) (by exact z1) ?_
                          refine lv_imul hx hb dM_matters_142 ?_
                          refine wt_i (r := nI ((pc_ (zg (G 6)) nC ch.toNatClampNeg) * (zg (G 6) ch.toNatClampNeg))) (by exact pk_mul (pc_ (zg (G 6)) nC ch.toNatClampNeg) (zg (G 6) ch.toNatClampNeg)) ?_
                          have sd143 : ¬ (nI ((pc_ (zg (G 6)) nC ch.toNatClampNeg) * (zg (G 6) ch.toNatClampNeg))) = 0 := by exact nI_ne0 hu4 (by omega)
                          refine lv_idiv hx hb dM_matters_143 sd143 ?_
                          refine wt_i (r := nI (k85 / (pc_ (zg (G 6)) nC ch.toNatClampNeg * zg (G 6) ch.toNatClampNeg))) (by exact pk_div (by omega) hu4 (by omega)) ?_
                          refine lv_icmp_ne (tgt := 226) hx hb dM_matters_144 (by decide) (fun c144 => ?_) (fun c144 => ?_)
                          · have er101 : lf_M_matters_101 (G 6) nC nT nR nD ch nu k85 ((mr_M_know (F 26) (G 6) (G 7) (G 8) (G 9) (G 10) (G 11) (G 12) (G 13) (G 14) (G 15) (G 16) (G 17) (G 18) (G 19) (G 27) (G 28) nC nT nR nD).2.2.1) ((mr_M_know (F 26) (G 6) (G 7) (G 8) (G 9) (G 10) (G 11) (G 12) (G 13) (G 14) (G 15) (G 16) (G 17) (G 18) (G 19) (G 27) (G 28) nC nT nR nD).2.2.2) (N101 + 1) mo y = (mo, y) := by rw [lf_M_matters_101, if_neg c108, if_neg c117, if_neg c144]
                            rw [er101] at hR101
                            exact ex101 H locs (by exact hP) (by exact hD) hS ls (by rw [hR101]; exact lv_sub hl [0, 1, 2, 3, 4, 5, 6] rfl)
                          · refine lv_aload_n hx hb dM_matters_147 rfl (lv_at hl 4 rfl) ?_
                            refine va_get (D := D) (ci := 0) (v := .ref (ba 28)) (C := RM) (T := TM) (N := 29) hx hb hts inM_ hown hK hP 0 rfl hcl 28 (by decide) f63 (fun _ h9 => h9) rfl dM_matters_148 ?_
                            refine lv_iconst (v := 4) hx hb dM_matters_151 (by decide) ?_
                            refine lv_iload hx hb dM_matters_152 (lv_at hl 1 rfl) ?_
                            refine lv_imul hx hb dM_matters_154 ?_
                            refine wt_i (r := nI (4 * k85)) (by exact pk_mul 4 k85) ?_
                            refine lv_iload_n hx hb dM_matters_155 rfl (lv_at hl 6 rfl) ?_
                            refine wt_i (r := nI nu.toNatClampNeg) (by exact xn.1) ?_
                            refine lv_iadd hx hb dM_matters_156 ?_
                            refine wt_i (r := nI ((4 * k85) + nu.toNatClampNeg)) (by exact nI_add (4 * k85) nu.toNatClampNeg) ?_
                            have sd157 : ((4 * k85) + nu.toNatClampNeg) < 16384 := by omega
                            have eg157 : (va_up (va_up (va_up G 19 ((mr_M_know (F 26) (G 6) (G 7) (G 8) (G 9) (G 10) (G 11) (G 12) (G 13) (G 14) (G 15) (G 16) (G 17) (G 18) (G 19) (G 27) (G 28) nC nT nR nD).2.1)) 27 ((mr_M_know (F 26) (G 6) (G 7) (G 8) (G 9) (G 10) (G 11) (G 12) (G 13) (G 14) (G 15) (G 16) (G 17) (G 18) (G 19) (G 27) (G 28) nC nT nR nD).2.2.1)) 28 ((mr_M_know (F 26) (G 6) (G 7) (G 8) (G 9) (G 10) (G 11) (G 12) (G 13) (G 14) (G 15) (G 16) (G 17) (G 18) (G 19) (G 27) (G 28) nC nT nR nD).2.2.2)) 28 = (mr_M_know (F 26) (G 6) (G 7) (G 8) (G 9) (G 10) (G 11) (G 12) (G 13) (G 14) (G 15) (G 16) (G 17) (G 18) (G 19) (G 27) (G 28) nC nT nR nD).2.2.2 := by rw [vup_us]
                            refine wn_iald (f := (mr_M_know (F 26) (G 6) (G 7) (G 8) (G 9) (G 10) (G 11) (G 12) (G 13) (G 14) (G 15) (G 16) (G 17) (G 18) (G 19) (G 27) (G 28) nC nT nR nD).2.2.2) hx hb hK hP 16 15 (congrArg (fun z : Nat → Int32 => (some ((ba 28), (.inl ((ka 28), 16384, .inl z) : va_E)) : Option (Nat × va_E))) eg157) rfl ((4 * k85) + nu.toNatClampNeg) rfl sd157 (by decide) dM_matters_157 ?_
                            refine lv_i2l hx hb dM_matters_158 rfl ?_
                            refine lv_aload_n hx hb dM_matters_159 rfl (lv_at hl 4 rfl) ?_
                            refine va_get (D := D) (ci := 0) (v := .ref (ba 28)) (C := RM) (T := TM) (N := 29) hx hb hts inM_ hown hK hP 0 rfl hcl 28 (by decide) f63 (fun _ h9 => h9) rfl dM_matters_160 ?_
                            refine lv_iconst (v := 4) hx hb dM_matters_163 (by decide) ?_
                            refine lv_iload hx hb dM_matters_164 (lv_at hl 0 rfl) ?_
                            refine lv_imul hx hb dM_matters_166 ?_
                            refine wt_i (r := nI (4 * y)) (by exact pk_mul 4 y) ?_
                            refine lv_iload_n hx hb dM_matters_167 rfl (lv_at hl 6 rfl) ?_
                            refine wt_i (r := nI nu.toNatClampNeg) (by exact xn.1) ?_
                            refine lv_iadd hx hb dM_matters_168 ?_
                            refine wt_i (r := nI ((4 * y) + nu.toNatClampNeg)) (by exact nI_add (4 * y) nu.toNatClampNeg) ?_
                            have sd169 : ((4 * y) + nu.toNatClampNeg) < 16384 := by omega
                            have eg169 : (va_up (va_up (va_up G 19 ((mr_M_know (F 26) (G 6) (G 7) (G 8) (G 9) (G 10) (G 11) (G 12) (G 13) (G 14) (G 15) (G 16) (G 17) (G 18) (G 19) (G 27) (G 28) nC nT nR nD).2.1)) 27 ((mr_M_know (F 26) (G 6) (G 7) (G 8) (G 9) (G 10) (G 11) (G 12) (G 13) (G 14) (G 15) (G 16) (G 17) (G 18) (G 19) (G 27) (G 28) nC nT nR nD).2.2.1)) 28 ((mr_M_know (F 26) (G 6) (G 7) (G 8) (G 9) (G 10) (G 11) (G 12) (G 13) (G 14) (G 15) (G 16) (G 17) (G 18) (G 19) (G 27) (G 28) nC nT nR nD).2.2.2)) 28 = (mr_M_know (F 26) (G 6) (G 7) (G 8) (G 9) (G 10) (G 11) (G 12) (G 13) (G 14) (G 15) (G 16) (G 17) (G 18) (G 19) (G 27) (G 28) nC nT nR nD).2.2.2 := by rw [vup_us]
                            refine wn_iald (f := (mr_M_know (F 26) (G 6) (G 7) (G 8) (G 9) (G 10) (G 11) (G 12) (G 13) (G 14) (G 15) (G 16) (G 17) (G 18) (G 19) (G 27) (G 28) nC nT nR nD).2.2.2) hx hb hK hP 16 15 (congrArg (fun z : Nat → Int32 => (some ((ba 28), (.inl ((ka 28), 16384, .inl z) : va_E)) : Option (Nat × va_E))) eg169) rfl ((4 * y) + nu.toNatClampNeg) rfl sd169 (by decide) dM_matters_169 ?_
                            refine lv_i2l hx hb dM_matters_170 rfl ?_
                            refine lv_lsub hx hb dM_matters_171 ?_
                            refine lv_lstore (lv' := [(8, .long (((((mr_M_know (F 26) (G 6) (G 7) (G 8) (G 9) (G 10) (G 11) (G 12) (G 13) (G 14) (G 15) (G 16) (G 17) (G 18) (G 19) (G 27) (G 28) nC nT nR nD).2.2.2) ((4 * k85) + nu.toNatClampNeg)).toInt64) - ((((mr_M_know (F 26) (G 6) (G 7) (G 8) (G 9) (G 10) (G 11) (G 12) (G 13) (G 14) (G 15) (G 16) (G 17) (G 18) (G 19) (G 27) (G 28) nC nT nR nD).2.2.2) ((4 * y) + nu.toNatClampNeg)).toInt64))), (7, .int (nI y)), (6, .int (nI k85)), (5, .int (lf_M_matters_55 (G 6) nC nT nR nD ch nu 1 (nC - (ch.toNatClampNeg + 1)))), (3, .long mo), (0, .ref a), (1, .int ch), (2, .int nu)]) hx hb dM_matters_172 hl (by decide) rfl (fun ls hl => ?_)
                            refine lv_aload_n hx hb dM_matters_174 rfl (lv_at hl 5 rfl) ?_
                            refine va_get (D := D) (ci := 0) (v := .ref (ba 27)) (C := RM) (T := TM) (N := 29) hx hb hts inM_ hown hK hP 0 rfl hcl 27 (by decide) f60 (fun _ h9 => h9) rfl dM_matters_175 ?_
                            refine lv_iload hx hb dM_matters_178 (lv_at hl 1 rfl) ?_
                            have sd180 : y < 4096 := by omega
                            have eg180 : (va_up (va_up (va_up G 19 ((mr_M_know (F 26) (G 6) (G 7) (G 8) (G 9) (G 10) (G 11) (G 12) (G 13) (G 14) (G 15) (G 16) (G 17) (G 18) (G 19) (G 27) (G 28) nC nT nR nD).2.1)) 27 ((mr_M_know (F 26) (G 6) (G 7) (G 8) (G 9) (G 10) (G 11) (G 12) (G 13) (G 14) (G 15) (G 16) (G 17) (G 18) (G 19) (G 27) (G 28) nC nT nR nD).2.2.1)) 28 ((mr_M_know (F 26) (G 6) (G 7) (G 8) (G 9) (G 10) (G 11) (G 12) (G 13) (G 14) (G 15) (G 16) (G 17) (G 18) (G 19) (G 27) (G 28) nC nT nR nD).2.2.2)) 27 = (mr_M_know (F 26) (G 6) (G 7) (G 8) (G 9) (G 10) (G 11) (G 12) (G 13) (G 14) (G 15) (G 16) (G 17) (G 18) (G 19) (G 27) (G 28) nC nT nR nD).2.2.1 := by rw [vup_un (k := 28) (j := 27) (by decide), vup_us]
                            refine wn_zald (f := (mr_M_know (F 26) (G 6) (G 7) (G 8) (G 9) (G 10) (G 11) (G 12) (G 13) (G 14) (G 15) (G 16) (G 17) (G 18) (G 19) (G 27) (G 28) nC nT nR nD).2.2.1) hx hb hK hP 15 14 (congrArg (fun z : Nat → Int32 => (some ((ba 27), (.inl ((ka 27), 4096, .inl z) : va_E)) : Option (Nat × va_E))) eg180) rfl y rfl sd180 (by decide) dM_matters_180 ?_
                            refine lv_if_eq (tgt := 194) hx hb dM_matters_181 (by decide) (fun c181 => ?_) (fun c181 => ?_)
                            · refine lv_aload_n hx hb dM_matters_194 rfl (lv_at hl 5 rfl) ?_
                              refine va_get (D := D) (ci := 0) (v := .ref (ba 27)) (C := RM) (T := TM) (N := 29) hx hb hts inM_ hown hK hP 0 rfl hcl 27 (by decide) f60 (fun _ h9 => h9) rfl dM_matters_195 ?_
                              refine lv_iload hx hb dM_matters_198 (lv_at hl 1 rfl) ?_
                              have sd200 : y < 4096 := by omega
                              have eg200 : (va_up (va_up (va_up G 19 ((mr_M_know (F 26) (G 6) (G 7) (G 8) (G 9) (G 10) (G 11) (G 12) (G 13) (G 14) (G 15) (G 16) (G 17) (G 18) (G 19) (G 27) (G 28) nC nT nR nD).2.1)) 27 ((mr_M_know (F 26) (G 6) (G 7) (G 8) (G 9) (G 10) (G 11) (G 12) (G 13) (G 14) (G 15) (G 16) (G 17) (G 18) (G 19) (G 27) (G 28) nC nT nR nD).2.2.1)) 28 ((mr_M_know (F 26) (G 6) (G 7) (G 8) (G 9) (G 10) (G 11) (G 12) (G 13) (G 14) (G 15) (G 16) (G 17) (G 18) (G 19) (G 27) (G 28) nC nT nR nD).2.2.2)) 27 = (mr_M_know (F 26) (G 6) (G 7) (G 8) (G 9) (G 10) (G 11) (G 12) (G 13) (G 14) (G 15) (G 16) (G 17) (G 18) (G 19) (G 27) (G 28) nC nT nR nD).2.2.1 := by rw [vup_un (k := 28) (j := 27) (by decide), vup_us]
                              refine wn_zald (f := (mr_M_know (F 26) (G 6) (G 7) (G 8) (G 9) (G 10) (G 11) (G 12) (G 13) (G 14) (G 15) (G 16) (G 17) (G 18) (G 19) (G 27) (G 28) nC nT nR nD).2.2.1) hx hb hK hP 15 14 (congrArg (fun z : Nat → Int32 => (some ((ba 27), (.inl ((ka 27), 4096, .inl z) : va_E)) : Option (Nat × va_E))) eg200) rfl y rfl sd200 (by decide) dM_matters_200 ?_
                              refine lv_if_eq (tgt := 216) hx hb dM_matters_201 (by decide) (fun _ => ?_) (fun h9 => absurd c181 h9)
                              refine lv_iload hx hb dM_matters_216 (lv_at hl 1 rfl) ?_
                              refine lv_iload hx hb dM_matters_218 (lv_at hl 3 rfl) ?_
                              refine wt_i (r := nI (pc_ (zg (G 6)) nC ch.toNatClampNeg)) (by exact un_num h6 hc2) ?_
                              refine lv_iadd hx hb dM_matters_220 ?_
                              refine wt_i (r := nI (y + (pc_ (zg (G 6)) nC ch.toNatClampNeg))) (by exact nI_add y (pc_ (zg (G 6)) nC ch.toNatClampNeg)) ?_
                              refine lv_istore (lv' := [(7, .int (nI (y + (pc_ (zg (G 6)) nC ch.toNatClampNeg)))), (8, .long (((((mr_M_know (F 26) (G 6) (G 7) (G 8) (G 9) (G 10) (G 11) (G 12) (G 13) (G 14) (G 15) (G 16) (G 17) (G 18) (G 19) (G 27) (G 28) nC nT nR nD).2.2.2) ((4 * k85) + nu.toNatClampNeg)).toInt64) - ((((mr_M_know (F 26) (G 6) (G 7) (G 8) (G 9) (G 10) (G 11) (G 12) (G 13) (G 14) (G 15) (G 16) (G 17) (G 18) (G 19) (G 27) (G 28) nC nT nR nD).2.2.2) ((4 * y) + nu.toNatClampNeg)).toInt64))), (6, .int (nI k85)), (5, .int (lf_M_matters_55 (G 6) nC nT nR nD ch nu 1 (nC - (ch.toNatClampNeg + 1)))), (3, .long mo), (0, .ref a), (1, .int ch), (2, .int nu)]) hx hb dM_matters_221 hl (by decide) rfl (fun ls hl => ?_)
                              refine lv_goto (tgt := 101) hx hb dM_matters_223 (by decide) ?_
                              have er101 : lf_M_matters_101 (G 6) nC nT nR nD ch nu k85 ((mr_M_know (F 26) (G 6) (G 7) (G 8) (G 9) (G 10) (G 11) (G 12) (G 13) (G 14) (G 15) (G 16) (G 17) (G 18) (G 19) (G 27) (G 28) nC nT nR nD).2.2.1) ((mr_M_know (F 26) (G 6) (G 7) (G 8) (G 9) (G 10) (G 11) (G 12) (G 13) (G 14) (G 15) (G 16) (G 17) (G 18) (G 19) (G 27) (G 28) nC nT nR nD).2.2.2) (N101 + 1) mo y = lf_M_matters_101 (G 6) nC nT nR nD ch nu k85 ((mr_M_know (F 26) (G 6) (G 7) (G 8) (G 9) (G 10) (G 11) (G 12) (G 13) (G 14) (G 15) (G 16) (G 17) (G 18) (G 19) (G 27) (G 28) nC nT nR nD).2.2.1) ((mr_M_know (F 26) (G 6) (G 7) (G 8) (G 9) (G 10) (G 11) (G 12) (G 13) (G 14) (G 15) (G 16) (G 17) (G 18) (G 19) (G 27) (G 28) nC nT nR nD).2.2.2) N101 mo (y + (pc_ (zg (G 6)) nC ch.toNatClampNeg)) := by rw [lf_M_matters_101, if_neg c108, if_neg c117, if_pos c144, if_pos c181]
                              exact ih101 mo (y + (pc_ (zg (G 6)) nC ch.toNatClampNeg)) (by omega) (by omega) (hR101.trans er101) H locs hP hD hS ls (lv_sub hl [0, 2, 3, 4, 5, 6, 7] rfl)
                            · refine lv_lload hx hb dM_matters_184 (lv_at hl 0 rfl) ?_
                              refine lv_lload_n hx hb dM_matters_186 rfl (lv_at hl 4 rfl) ?_
                              refine W.lcmp hx hb dM_matters_187 ?_
                              refine lv_if_le (tgt := 194) hx hb dM_matters_188 (by decide) (fun c188 => ?_) (fun c188 => ?_)
                              · refine lv_aload_n hx hb dM_matters_194 rfl (lv_at hl 5 rfl) ?_
                                refine va_get (D := D) (ci := 0) (v := .ref (ba 27)) (C := RM) (T := TM) (N := 29) hx hb hts inM_ hown hK hP 0 rfl hcl 27 (by decide) f60 (fun _ h9 => h9) rfl dM_matters_195 ?_
                                refine lv_iload hx hb dM_matters_198 (lv_at hl 1 rfl) ?_
                                have sd200 : y < 4096 := by omega
                                have eg200 : (va_up (va_up (va_up G 19 ((mr_M_know (F 26) (G 6) (G 7) (G 8) (G 9) (G 10) (G 11) (G 12) (G 13) (G 14) (G 15) (G 16) (G 17) (G 18) (G 19) (G 27) (G 28) nC nT nR nD).2.1)) 27 ((mr_M_know (F 26) (G 6) (G 7) (G 8) (G 9) (G 10) (G 11) (G 12) (G 13) (G 14) (G 15) (G 16) (G 17) (G 18) (G 19) (G 27) (G 28) nC nT nR nD).2.2.1)) 28 ((mr_M_know (F 26) (G 6) (G 7) (G 8) (G 9) (G 10) (G 11) (G 12) (G 13) (G 14) (G 15) (G 16) (G 17) (G 18) (G 19) (G 27) (G 28) nC nT nR nD).2.2.2)) 27 = (mr_M_know (F 26) (G 6) (G 7) (G 8) (G 9) (G 10) (G 11) (G 12) (G 13) (G 14) (G 15) (G 16) (G 17) (G 18) (G 19) (G 27) (G 28) nC nT nR nD).2.2.1 := by rw [vup_un (k := 28) (j := 27) (by decide), vup_us]
                                refine wn_zald (f := (mr_M_know (F 26) (G 6) (G 7) (G 8) (G 9) (G 10) (G 11) (G 12) (G 13) (G 14) (G 15) (G 16) (G 17) (G 18) (G 19) (G 27) (G 28) nC nT nR nD).2.2.1) hx hb hK hP 15 14 (congrArg (fun z : Nat → Int32 => (some ((ba 27), (.inl ((ka 27), 4096, .inl z) : va_E)) : Option (Nat × va_E))) eg200) rfl y rfl sd200 (by decide) dM_matters_200 ?_
                                refine lv_if_eq (tgt := 216) hx hb dM_matters_201 (by decide) (fun h9 => absurd h9 c181) (fun _ => ?_)
                                refine lv_lload hx hb dM_matters_204 (lv_at hl 0 rfl) ?_
                                refine lv_lneg hx hb dM_matters_206 ?_
                                refine lv_lload_n hx hb dM_matters_207 rfl (lv_at hl 4 rfl) ?_
                                refine W.lcmp hx hb dM_matters_208 ?_
                                refine lv_if_le (tgt := 216) hx hb dM_matters_209 (by decide) (fun c209 => ?_) (fun c209 => ?_)
                                · refine lv_iload hx hb dM_matters_216 (lv_at hl 1 rfl) ?_
                                  refine lv_iload hx hb dM_matters_218 (lv_at hl 3 rfl) ?_
                                  refine wt_i (r := nI (pc_ (zg (G 6)) nC ch.toNatClampNeg)) (by exact un_num h6 hc2) ?_
                                  refine lv_iadd hx hb dM_matters_220 ?_
                                  refine wt_i (r := nI (y + (pc_ (zg (G 6)) nC ch.toNatClampNeg))) (by exact nI_add y (pc_ (zg (G 6)) nC ch.toNatClampNeg)) ?_
                                  refine lv_istore (lv' := [(7, .int (nI (y + (pc_ (zg (G 6)) nC ch.toNatClampNeg)))), (8, .long (((((mr_M_know (F 26) (G 6) (G 7) (G 8) (G 9) (G 10) (G 11) (G 12) (G 13) (G 14) (G 15) (G 16) (G 17) (G 18) (G 19) (G 27) (G 28) nC nT nR nD).2.2.2) ((4 * k85) + nu.toNatClampNeg)).toInt64) - ((((mr_M_know (F 26) (G 6) (G 7) (G 8) (G 9) (G 10) (G 11) (G 12) (G 13) (G 14) (G 15) (G 16) (G 17) (G 18) (G 19) (G 27) (G 28) nC nT nR nD).2.2.2) ((4 * y) + nu.toNatClampNeg)).toInt64))), (6, .int (nI k85)), (5, .int (lf_M_matters_55 (G 6) nC nT nR nD ch nu 1 (nC - (ch.toNatClampNeg + 1)))), (3, .long mo), (0, .ref a), (1, .int ch), (2, .int nu)]) hx hb dM_matters_221 hl (by decide) rfl (fun ls hl => ?_)
                                  refine lv_goto (tgt := 101) hx hb dM_matters_223 (by decide) ?_
                                  have er101 : lf_M_matters_101 (G 6) nC nT nR nD ch nu k85 ((mr_M_know (F 26) (G 6) (G 7) (G 8) (G 9) (G 10) (G 11) (G 12) (G 13) (G 14) (G 15) (G 16) (G 17) (G 18) (G 19) (G 27) (G 28) nC nT nR nD).2.2.1) ((mr_M_know (F 26) (G 6) (G 7) (G 8) (G 9) (G 10) (G 11) (G 12) (G 13) (G 14) (G 15) (G 16) (G 17) (G 18) (G 19) (G 27) (G 28) nC nT nR nD).2.2.2) (N101 + 1) mo y = lf_M_matters_101 (G 6) nC nT nR nD ch nu k85 ((mr_M_know (F 26) (G 6) (G 7) (G 8) (G 9) (G 10) (G 11) (G 12) (G 13) (G 14) (G 15) (G 16) (G 17) (G 18) (G 19) (G 27) (G 28) nC nT nR nD).2.2.1) ((mr_M_know (F 26) (G 6) (G 7) (G 8) (G 9) (G 10) (G 11) (G 12) (G 13) (G 14) (G 15) (G 16) (G 17) (G 18) (G 19) (G 27) (G 28) nC nT nR nD).2.2.2) N101 mo (y + (pc_ (zg (G 6)) nC ch.toNatClampNeg)) := by rw [lf_M_matters_101, if_neg c108, if_neg c117, if_pos c144, if_neg c181, if_pos c188, if_pos c209]
                                  exact ih101 mo (y + (pc_ (zg (G 6)) nC ch.toNatClampNeg)) (by omega) (by omega) (hR101.trans er101) H locs hP hD hS ls (lv_sub hl [0, 2, 3, 4, 5, 6, 7] rfl)
                                · refine lv_lload hx hb dM_matters_212 (lv_at hl 0 rfl) ?_
                                  refine lv_lneg hx hb dM_matters_214 ?_
                                  refine lv_lstore_n (lv' := [(3, .long (-(((((mr_M_know (F 26) (G 6) (G 7) (G 8) (G 9) (G 10) (G 11) (G 12) (G 13) (G 14) (G 15) (G 16) (G 17) (G 18) (G 19) (G 27) (G 28) nC nT nR nD).2.2.2) ((4 * k85) + nu.toNatClampNeg)).toInt64) - ((((mr_M_know (F 26) (G 6) (G 7) (G 8) (G 9) (G 10) (G 11) (G 12) (G 13) (G 14) (G 15) (G 16) (G 17) (G 18) (G 19) (G 27) (G 28) nC nT nR nD).2.2.2) ((4 * y) + nu.toNatClampNeg)).toInt64)))), (8, .long (((((mr_M_know (F 26) (G 6) (G 7) (G 8) (G 9) (G 10) (G 11) (G 12) (G 13) (G 14) (G 15) (G 16) (G 17) (G 18) (G 19) (G 27) (G 28) nC nT nR nD).2.2.2) ((4 * k85) + nu.toNatClampNeg)).toInt64) - ((((mr_M_know (F 26) (G 6) (G 7) (G 8) (G 9) (G 10) (G 11) (G 12) (G 13) (G 14) (G 15) (G 16) (G 17) (G 18) (G 19) (G 27) (G 28) nC nT nR nD).2.2.2) ((4 * y) + nu.toNatClampNeg)).toInt64))), (7, .int (nI y)), (6, .int (nI k85)), (5, .int (lf_M_matters_55 (G 6) nC nT nR nD ch nu 1 (nC - (ch.toNatClampNeg + 1)))), (0, .ref a), (1, .int ch), (2, .int nu)]) hx hb dM_matters_215 rfl hl (by decide) rfl (fun ls hl => ?_)
                                  refine lv_iload hx hb dM_matters_216 (lv_at hl 2 rfl) ?_
                                  refine lv_iload hx hb dM_matters_218 (lv_at hl 4 rfl) ?_
                                  refine wt_i (r := nI (pc_ (zg (G 6)) nC ch.toNatClampNeg)) (by exact un_num h6 hc2) ?_
                                  refine lv_iadd hx hb dM_matters_220 ?_
                                  refine wt_i (r := nI (y + (pc_ (zg (G 6)) nC ch.toNatClampNeg))) (by exact nI_add y (pc_ (zg (G 6)) nC ch.toNatClampNeg)) ?_
                                  refine lv_istore (lv' := [(7, .int (nI (y + (pc_ (zg (G 6)) nC ch.toNatClampNeg)))), (3, .long (-(((((mr_M_know (F 26) (G 6) (G 7) (G 8) (G 9) (G 10) (G 11) (G 12) (G 13) (G 14) (G 15) (G 16) (G 17) (G 18) (G 19) (G 27) (G 28) nC nT nR nD).2.2.2) ((4 * k85) + nu.toNatClampNeg)).toInt64) - ((((mr_M_know (F 26) (G 6) (G 7) (G 8) (G 9) (G 10) (G 11) (G 12) (G 13) (G 14) (G 15) (G 16) (G 17) (G 18) (G 19) (G 27) (G 28) nC nT nR nD).2.2.2) ((4 * y) + nu.toNatClampNeg)).toInt64)))), (8, .long (((((mr_M_know (F 26) (G 6) (G 7) (G 8) (G 9) (G 10) (G 11) (G 12) (G 13) (G 14) (G 15) (G 16) (G 17) (G 18) (G 19) (G 27) (G 28) nC nT nR nD).2.2.2) ((4 * k85) + nu.toNatClampNeg)).toInt64) - ((((mr_M_know (F 26) (G 6) (G 7) (G 8) (G 9) (G 10) (G 11) (G 12) (G 13) (G 14) (G 15) (G 16) (G 17) (G 18) (G 19) (G 27) (G 28) nC nT nR nD).2.2.2) ((4 * y) + nu.toNatClampNeg)).toInt64))), (6, .int (nI k85)), (5, .int (lf_M_matters_55 (G 6) nC nT nR nD ch nu 1 (nC - (ch.toNatClampNeg + 1)))), (0, .ref a), (1, .int ch), (2, .int nu)]) hx hb dM_matters_221 hl (by decide) rfl (fun ls hl => ?_)
                                  refine lv_goto (tgt := 101) hx hb dM_matters_223 (by decide) ?_
                                  have er101 : lf_M_matters_101 (G 6) nC nT nR nD ch nu k85 ((mr_M_know (F 26) (G 6) (G 7) (G 8) (G 9) (G 10) (G 11) (G 12) (G 13) (G 14) (G 15) (G 16) (G 17) (G 18) (G 19) (G 27) (G 28) nC nT nR nD).2.2.1) ((mr_M_know (F 26) (G 6) (G 7) (G 8) (G 9) (G 10) (G 11) (G 12) (G 13) (G 14) (G 15) (G 16) (G 17) (G 18) (G 19) (G 27) (G 28) nC nT nR nD).2.2.2) (N101 + 1) mo y = lf_M_matters_101 (G 6) nC nT nR nD ch nu k85 ((mr_M_know (F 26) (G 6) (G 7) (G 8) (G 9) (G 10) (G 11) (G 12) (G 13) (G 14) (G 15) (G 16) (G 17) (G 18) (G 19) (G 27) (G 28) nC nT nR nD).2.2.1) ((mr_M_know (F 26) (G 6) (G 7) (G 8) (G 9) (G 10) (G 11) (G 12) (G 13) (G 14) (G 15) (G 16) (G 17) (G 18) (G 19) (G 27) (G 28) nC nT nR nD).2.2.2) N101 (-(((((mr_M_know (F 26) (G 6) (G 7) (G 8) (G 9) (G 10) (G 11) (G 12) (G 13) (G 14) (G 15) (G 16) (G 17) (G 18) (G 19) (G 27) (G 28) nC nT nR nD).2.2.2) ((4 * k85) + nu.toNatClampNeg)).toInt64) - ((((mr_M_know (F 26) (G 6) (G 7) (G 8) (G 9) (G 10) (G 11) (G 12) (G 13) (G 14) (G 15) (G 16) (G 17) (G 18) (G 19) (G 27) (G 28) nC nT nR nD).2.2.2) ((4 * y) + nu.toNatClampNeg)).toInt64))) (y + (pc_ (zg (G 6)) nC ch.toNatClampNeg)) := by rw [lf_M_matters_101, if_neg c108, if_neg c117, if_pos c144, if_neg c181, if_pos c188, if_neg c209]
                                  exact ih101 (-(((((mr_M_know (F 26) (G 6) (G 7) (G 8) (G 9) (G 10) (G 11) (G 12) (G 13) (G 14) (G 15) (G 16) (G 17) (G 18) (G 19) (G 27) (G 28) nC nT nR nD).2.2.2) ((4 * k85) + nu.toNatClampNeg)).toInt64) - ((((mr_M_know (F 26) (G 6) (G 7) (G 8) (G 9) (G 10) (G 11) (G 12) (G 13) (G 14) (G 15) (G 16) (G 17) (G 18) (G 19) (G 27) (G 28) nC nT nR nD).2.2.2) ((4 * y) + nu.toNatClampNeg)).toInt64))) (y + (pc_ (zg (G 6)) nC ch.toNatClampNeg)) (by omega) (by omega) (hR101.trans er101) H locs hP hD hS ls (lv_sub hl [0, 3, 4, 1, 5, 6, 7] rfl)
                              · refine lv_lload hx hb dM_matters_191 (lv_at hl 0 rfl) ?_
                                refine lv_lstore_n (lv' := [(3, .long (((((mr_M_know (F 26) (G 6) (G 7) (G 8) (G 9) (G 10) (G 11) (G 12) (G 13) (G 14) (G 15) (G 16) (G 17) (G 18) (G 19) (G 27) (G 28) nC nT nR nD).2.2.2) ((4 * k85) + nu.toNatClampNeg)).toInt64) - ((((mr_M_know (F 26) (G 6) (G 7) (G 8) (G 9) (G 10) (G 11) (G 12) (G 13) (G 14) (G 15) (G 16) (G 17) (G 18) (G 19) (G 27) (G 28) nC nT nR nD).2.2.2) ((4 * y) + nu.toNatClampNeg)).toInt64))), (8, .long (((((mr_M_know (F 26) (G 6) (G 7) (G 8) (G 9) (G 10) (G 11) (G 12) (G 13) (G 14) (G 15) (G 16) (G 17) (G 18) (G 19) (G 27) (G 28) nC nT nR nD).2.2.2) ((4 * k85) + nu.toNatClampNeg)).toInt64) - ((((mr_M_know (F 26) (G 6) (G 7) (G 8) (G 9) (G 10) (G 11) (G 12) (G 13) (G 14) (G 15) (G 16) (G 17) (G 18) (G 19) (G 27) (G 28) nC nT nR nD).2.2.2) ((4 * y) + nu.toNatClampNeg)).toInt64))), (7, .int (nI y)), (6, .int (nI k85)), (5, .int (lf_M_matters_55 (G 6) nC nT nR nD ch nu 1 (nC - (ch.toNatClampNeg + 1)))), (0, .ref a), (1, .int ch), (2, .int nu)]) hx hb dM_matters_193 rfl hl (by decide) rfl (fun ls hl => ?_)
                                refine lv_aload_n hx hb dM_matters_194 rfl (lv_at hl 5 rfl) ?_
                                refine va_get (D := D) (ci := 0) (v := .ref (ba 27)) (C := RM) (T := TM) (N := 29) hx hb hts inM_ hown hK hP 0 rfl hcl 27 (by decide) f60 (fun _ h9 => h9) rfl dM_matters_195 ?_
                                refine lv_iload hx hb dM_matters_198 (lv_at hl 2 rfl) ?_
                                have sd200 : y < 4096 := by omega
                                have eg200 : (va_up (va_up (va_up G 19 ((mr_M_know (F 26) (G 6) (G 7) (G 8) (G 9) (G 10) (G 11) (G 12) (G 13) (G 14) (G 15) (G 16) (G 17) (G 18) (G 19) (G 27) (G 28) nC nT nR nD).2.1)) 27 ((mr_M_know (F 26) (G 6) (G 7) (G 8) (G 9) (G 10) (G 11) (G 12) (G 13) (G 14) (G 15) (G 16) (G 17) (G 18) (G 19) (G 27) (G 28) nC nT nR nD).2.2.1)) 28 ((mr_M_know (F 26) (G 6) (G 7) (G 8) (G 9) (G 10) (G 11) (G 12) (G 13) (G 14) (G 15) (G 16) (G 17) (G 18) (G 19) (G 27) (G 28) nC nT nR nD).2.2.2)) 27 = (mr_M_know (F 26) (G 6) (G 7) (G 8) (G 9) (G 10) (G 11) (G 12) (G 13) (G 14) (G 15) (G 16) (G 17) (G 18) (G 19) (G 27) (G 28) nC nT nR nD).2.2.1 := by rw [vup_un (k := 28) (j := 27) (by decide), vup_us]
                                refine wn_zald (f := (mr_M_know (F 26) (G 6) (G 7) (G 8) (G 9) (G 10) (G 11) (G 12) (G 13) (G 14) (G 15) (G 16) (G 17) (G 18) (G 19) (G 27) (G 28) nC nT nR nD).2.2.1) hx hb hK hP 15 14 (congrArg (fun z : Nat → Int32 => (some ((ba 27), (.inl ((ka 27), 4096, .inl z) : va_E)) : Option (Nat × va_E))) eg200) rfl y rfl sd200 (by decide) dM_matters_200 ?_
                                refine lv_if_eq (tgt := 216) hx hb dM_matters_201 (by decide) (fun h9 => absurd h9 c181) (fun _ => ?_)
                                refine lv_lload hx hb dM_matters_204 (lv_at hl 1 rfl) ?_
                                refine lv_lneg hx hb dM_matters_206 ?_
                                refine lv_lload_n hx hb dM_matters_207 rfl (lv_at hl 0 rfl) ?_
                                refine W.lcmp hx hb dM_matters_208 ?_
                                refine lv_if_le (tgt := 216) hx hb dM_matters_209 (by decide) (fun c209 => ?_) (fun c209 => ?_)
                                · refine lv_iload hx hb dM_matters_216 (lv_at hl 2 rfl) ?_
                                  refine lv_iload hx hb dM_matters_218 (lv_at hl 4 rfl) ?_
                                  refine wt_i (r := nI (pc_ (zg (G 6)) nC ch.toNatClampNeg)) (by exact un_num h6 hc2) ?_
                                  refine lv_iadd hx hb dM_matters_220 ?_
                                  refine wt_i (r := nI (y + (pc_ (zg (G 6)) nC ch.toNatClampNeg))) (by exact nI_add y (pc_ (zg (G 6)) nC ch.toNatClampNeg)) ?_
                                  refine lv_istore (lv' := [(7, .int (nI (y + (pc_ (zg (G 6)) nC ch.toNatClampNeg)))), (3, .long (((((mr_M_know (F 26) (G 6) (G 7) (G 8) (G 9) (G 10) (G 11) (G 12) (G 13) (G 14) (G 15) (G 16) (G 17) (G 18) (G 19) (G 27) (G 28) nC nT nR nD).2.2.2) ((4 * k85) + nu.toNatClampNeg)).toInt64) - ((((mr_M_know (F 26) (G 6) (G 7) (G 8) (G 9) (G 10) (G 11) (G 12) (G 13) (G 14) (G 15) (G 16) (G 17) (G 18) (G 19) (G 27) (G 28) nC nT nR nD).2.2.2) ((4 * y) + nu.toNatClampNeg)).toInt64))), (8, .long (((((mr_M_know (F 26) (G 6) (G 7) (G 8) (G 9) (G 10) (G 11) (G 12) (G 13) (G 14) (G 15) (G 16) (G 17) (G 18) (G 19) (G 27) (G 28) nC nT nR nD).2.2.2) ((4 * k85) + nu.toNatClampNeg)).toInt64) - ((((mr_M_know (F 26) (G 6) (G 7) (G 8) (G 9) (G 10) (G 11) (G 12) (G 13) (G 14) (G 15) (G 16) (G 17) (G 18) (G 19) (G 27) (G 28) nC nT nR nD).2.2.2) ((4 * y) + nu.toNatClampNeg)).toInt64))), (6, .int (nI k85)), (5, .int (lf_M_matters_55 (G 6) nC nT nR nD ch nu 1 (nC - (ch.toNatClampNeg + 1)))), (0, .ref a), (1, .int ch), (2, .int nu)]) hx hb dM_matters_221 hl (by decide) rfl (fun ls hl => ?_)
                                  refine lv_goto (tgt := 101) hx hb dM_matters_223 (by decide) ?_
                                  have er101 : lf_M_matters_101 (G 6) nC nT nR nD ch nu k85 ((mr_M_know (F 26) (G 6) (G 7) (G 8) (G 9) (G 10) (G 11) (G 12) (G 13) (G 14) (G 15) (G 16) (G 17) (G 18) (G 19) (G 27) (G 28) nC nT nR nD).2.2.1) ((mr_M_know (F 26) (G 6) (G 7) (G 8) (G 9) (G 10) (G 11) (G 12) (G 13) (G 14) (G 15) (G 16) (G 17) (G 18) (G 19) (G 27) (G 28) nC nT nR nD).2.2.2) (N101 + 1) mo y = lf_M_matters_101 (G 6) nC nT nR nD ch nu k85 ((mr_M_know (F 26) (G 6) (G 7) (G 8) (G 9) (G 10) (G 11) (G 12) (G 13) (G 14) (G 15) (G 16) (G 17) (G 18) (G 19) (G 27) (G 28) nC nT nR nD).2.2.1) ((mr_M_know (F 26) (G 6) (G 7) (G 8) (G 9) (G 10) (G 11) (G 12) (G 13) (G 14) (G 15) (G 16) (G 17) (G 18) (G 19) (G 27) (G 28) nC nT nR nD).2.2.2) N101 (((((mr_M_know (F 26) (G 6) (G 7) (G 8) (G 9) (G 10) (G 11) (G 12) (G 13) (G 14) (G 15) (G 16) (G 17) (G 18) (G 19) (G 27) (G 28) nC nT nR nD).2.2.2) ((4 * k85) + nu.toNatClampNeg)).toInt64) - ((((mr_M_know (F 26) (G 6) (G 7) (G 8) (G 9) (G 10) (G 11) (G 12) (G 13) (G 14) (G 15) (G 16) (G 17) (G 18) (G 19) (G 27) (G 28) nC nT nR nD).2.2.2) ((4 * y) + nu.toNatClampNeg)).toInt64)) (y + (pc_ (zg (G 6)) nC ch.toNatClampNeg)) := by rw [lf_M_matters_101, if_neg c108, if_neg c117, if_pos c144, if_neg c181, if_neg c188, if_pos c209]
                                  exact ih101 (((((mr_M_know (F 26) (G 6) (G 7) (G 8) (G 9) (G 10) (G 11) (G 12) (G 13) (G 14) (G 15) (G 16) (G 17) (G 18) (G 19) (G 27) (G 28) nC nT nR nD).2.2.2) ((4 * k85) + nu.toNatClampNeg)).toInt64) - ((((mr_M_know (F 26) (G 6) (G 7) (G 8) (G 9) (G 10) (G 11) (G 12) (G 13) (G 14) (G 15) (G 16) (G 17) (G 18) (G 19) (G 27) (G 28) nC nT nR nD).2.2.2) ((4 * y) + nu.toNatClampNeg)).toInt64)) (y + (pc_ (zg (G 6)) nC ch.toNatClampNeg)) (by omega) (by omega) (hR101.trans er101) H locs hP hD hS ls (lv_sub hl [0, 3, 4, 1, 5, 6, 7] rfl)
                                · refine lv_lload hx hb dM_matters_212 (lv_at hl 1 rfl) ?_
                                  refine lv_lneg hx hb dM_matters_214 ?_
                                  refine lv_lstore_n (lv' := [(3, .long (-(((((mr_M_know (F 26) (G 6) (G 7) (G 8) (G 9) (G 10) (G 11) (G 12) (G 13) (G 14) (G 15) (G 16) (G 17) (G 18) (G 19) (G 27) (G 28) nC nT nR nD).2.2.2) ((4 * k85) + nu.toNatClampNeg)).toInt64) - ((((mr_M_know (F 26) (G 6) (G 7) (G 8) (G 9) (G 10) (G 11) (G 12) (G 13) (G 14) (G 15) (G 16) (G 17) (G 18) (G 19) (G 27) (G 28) nC nT nR nD).2.2.2) ((4 * y) + nu.toNatClampNeg)).toInt64)))), (8, .long (((((mr_M_know (F 26) (G 6) (G 7) (G 8) (G 9) (G 10) (G 11) (G 12) (G 13) (G 14) (G 15) (G 16) (G 17) (G 18) (G 19) (G 27) (G 28) nC nT nR nD).2.2.2) ((4 * k85) + nu.toNatClampNeg)).toInt64) - ((((mr_M_know (F 26) (G 6) (G 7) (G 8) (G 9) (G 10) (G 11) (G 12) (G 13) (G 14) (G 15) (G 16) (G 17) (G 18) (G 19) (G 27) (G 28) nC nT nR nD).2.2.2) ((4 * y) + nu.toNatClampNeg)).toInt64))), (7, .int (nI y)), (6, .int (nI k85)), (5, .int (lf_M_matters_55 (G 6) nC nT nR nD ch nu 1 (nC - (ch.toNatClampNeg + 1)))), (0, .ref a), (1, .int ch), (2, .int nu)]) hx hb dM_matters_215 rfl hl (by decide) rfl (fun ls hl => ?_)
                                  refine lv_iload hx hb dM_matters_216 (lv_at hl 2 rfl) ?_
                                  refine lv_iload hx hb dM_matters_218 (lv_at hl 4 rfl) ?_
                                  refine wt_i (r := nI (pc_ (zg (G 6)) nC ch.toNatClampNeg)) (by exact un_num h6 hc2) ?_
                                  refine lv_iadd hx hb dM_matters_220 ?_
                                  refine wt_i (r := nI (y + (pc_ (zg (G 6)) nC ch.toNatClampNeg))) (by exact nI_add y (pc_ (zg (G 6)) nC ch.toNatClampNeg)) ?_
                                  refine lv_istore (lv' := [(7, .int (nI (y + (pc_ (zg (G 6)) nC ch.toNatClampNeg)))), (3, .long (-(((((mr_M_know (F 26) (G 6) (G 7) (G 8) (G 9) (G 10) (G 11) (G 12) (G 13) (G 14) (G 15) (G 16) (G 17) (G 18) (G 19) (G 27) (G 28) nC nT nR nD).2.2.2) ((4 * k85) + nu.toNatClampNeg)).toInt64) - ((((mr_M_know (F 26) (G 6) (G 7) (G 8) (G 9) (G 10) (G 11) (G 12) (G 13) (G 14) (G 15) (G 16) (G 17) (G 18) (G 19) (G 27) (G 28) nC nT nR nD).2.2.2) ((4 * y) + nu.toNatClampNeg)).toInt64)))), (8, .long (((((mr_M_know (F 26) (G 6) (G 7) (G 8) (G 9) (G 10) (G 11) (G 12) (G 13) (G 14) (G 15) (G 16) (G 17) (G 18) (G 19) (G 27) (G 28) nC nT nR nD).2.2.2) ((4 * k85) + nu.toNatClampNeg)).toInt64) - ((((mr_M_know (F 26) (G 6) (G 7) (G 8) (G 9) (G 10) (G 11) (G 12) (G 13) (G 14) (G 15) (G 16) (G 17) (G 18) (G 19) (G 27) (G 28) nC nT nR nD).2.2.2) ((4 * y) + nu.toNatClampNeg)).toInt64))), (6, .int (nI k85)), (5, .int (lf_M_matters_55 (G 6) nC nT nR nD ch nu 1 (nC - (ch.toNatClampNeg + 1)))), (0, .ref a), (1, .int ch), (2, .int nu)]) hx hb dM_matters_221 hl (by decide) rfl (fun ls hl => ?_)
                                  refine lv_goto (tgt := 101) hx hb dM_matters_223 (by decide) ?_
                                  have er101 : lf_M_matters_101 (G 6) nC nT nR nD ch nu k85 ((mr_M_know (F 26) (G 6) (G 7) (G 8) (G 9) (G 10) (G 11) (G 12) (G 13) (G 14) (G 15) (G 16) (G 17) (G 18) (G 19) (G 27) (G 28) nC nT nR nD).2.2.1) ((mr_M_know (F 26) (G 6) (G 7) (G 8) (G 9) (G 10) (G 11) (G 12) (G 13) (G 14) (G 15) (G 16) (G 17) (G 18) (G 19) (G 27) (G 28) nC nT nR nD).2.2.2) (N101 + 1) mo y = lf_M_matters_101 (G 6) nC nT nR nD ch nu k85 ((mr_M_know (F 26) (G 6) (G 7) (G 8) (G 9) (G 10) (G 11) (G 12) (G 13) (G 14) (G 15) (G 16) (G 17) (G 18) (G 19) (G 27) (G 28) nC nT nR nD).2.2.1) ((mr_M_know (F 26) (G 6) (G 7) (G 8) (G 9) (G 10) (G 11) (G 12) (G 13) (G 14) (G 15) (G 16) (G 17) (G 18) (G 19) (G 27) (G 28) nC nT nR nD).2.2.2) N101 (-(((((mr_M_know (F 26) (G 6) (G 7) (G 8) (G 9) (G 10) (G 11) (G 12) (G 13) (G 14) (G 15) (G 16) (G 17) (G 18) (G 19) (G 27) (G 28) nC nT nR nD).2.2.2) ((4 * k85) + nu.toNatClampNeg)).toInt64) - ((((mr_M_know (F 26) (G 6) (G 7) (G 8) (G 9) (G 10) (G 11) (G 12) (G 13) (G 14) (G 15) (G 16) (G 17) (G 18) (G 19) (G 27) (G 28) nC nT nR nD).2.2.2) ((4 * y) + nu.toNatClampNeg)).toInt64))) (y + (pc_ (zg (G 6)) nC ch.toNatClampNeg)) := by rw [lf_M_matters_101, if_neg c108, if_neg c117, if_pos c144, if_neg c181, if_neg c188, if_neg c209]
                                  exact ih101 (-(((((mr_M_know (F 26) (G 6) (G 7) (G 8) (G 9) (G 10) (G 11) (G 12) (G 13) (G 14) (G 15) (G 16) (G 17) (G 18) (G 19) (G 27) (G 28) nC nT nR nD).2.2.2) ((4 * k85) + nu.toNatClampNeg)).toInt64) - ((((mr_M_know (F 26) (G 6) (G 7) (G 8) (G 9) (G 10) (G 11) (G 12) (G 13) (G 14) (G 15) (G 16) (G 17) (G 18) (G 19) (G 27) (G 28) nC nT nR nD).2.2.2) ((4 * y) + nu.toNatClampNeg)).toInt64))) (y + (pc_ (zg (G 6)) nC ch.toNatClampNeg)) (by omega) (by omega) (hR101.trans er101) H locs hP hD hS ls (lv_sub hl [0, 3, 4, 1, 5, 6, 7] rfl)
                  exact loop101 (nD + 1) (lf_M_matters_85 (G 6) nC nT nR nD ch nu ((mr_M_know (F 26) (G 6) (G 7) (G 8) (G 9) (G 10) (G 11) (G 12) (G 13) (G 14) (G 15) (G 16) (G 17) (G 18) (G 19) (G 27) (G 28) nC nT nR nD).2.2.1) ((mr_M_know (F 26) (G 6) (G 7) (G 8) (G 9) (G 10) (G 11) (G 12) (G 13) (G 14) (G 15) (G 16) (G 17) (G 18) (G 19) (G 27) (G 28) nC nT nR nD).2.2.2) 0 k85) (k85 + (pc_ (zg (G 6)) nC ch.toNatClampNeg)) (by omega) (by omega) rfl H locs hP hD hS ls (lv_sub hl [0, 1, 2, 3, 4, 5, 6] rfl)
            exact loop85 _ 0 (Nat.zero_le _) (Nat.lt_succ_self _)  H locs hP hD hS ls (lv_sub hl [0, 1, 2, 3, 4, 5] rfl)
          · have n61 : ¬ nC ≤ (ch.toNatClampNeg + 1 + k55) := fun h9 => c61 ((nI_leI (a := nC) (b := (ch.toNatClampNeg + 1 + k55)) (by omega) (by omega)).mpr h9)
            refine lv_iload hx hb dM_matters_64 (lv_at hl 1 rfl) ?_
            refine lv_aload_n hx hb dM_matters_66 rfl (lv_at hl 3 rfl) ?_
            refine va_get (D := D) (ci := 0) (v := .ref (ba 6)) (C := RM) (T := TM) (N := 29) hx hb hts inM_ hown hK hP 0 rfl hcl 6 (by decide) f13 (fun _ h9 => h9) rfl dM_matters_67 ?_
            refine lv_iload hx hb dM_matters_70 (lv_at hl 0 rfl) ?_
            have sd72 : (ch.toNatClampNeg + 1 + k55) < 8 := by omega
            refine wn_iald (f := G 6) hx hb hK hP 1 0 rfl rfl (ch.toNatClampNeg + 1 + k55) rfl sd72 (by decide) dM_matters_72 ?_
            refine lv_imul hx hb dM_matters_73 ?_
            refine lv_istore (lv' := [(5, .int ((lf_M_matters_55 (G 6) nC nT nR nD ch nu 1 k55) * (G 6 (ch.toNatClampNeg + 1 + k55)))), (6, .int (nI (ch.toNatClampNeg + 1 + k55))), (3, .long 0), (0, .ref a), (1, .int ch), (2, .int nu)]) hx hb dM_matters_74 hl (by decide) rfl (fun ls hl => ?_)
            refine lv_iinc (v := nI (ch.toNatClampNeg + 1 + (k55 + 1))) (lv' := [(6, .int (nI (ch.toNatClampNeg + 1 + (k55 + 1)))), (5, .int ((lf_M_matters_55 (G 6) nC nT nR nD ch nu 1 k55) * (G 6 (ch.toNatClampNeg + 1 + k55)))), (3, .long 0), (0, .ref a), (1, .int ch), (2, .int nu)]) hx hb dM_matters_76 hl (k := 1) rfl (by exact ii_1 (ch.toNatClampNeg + 1 + k55)) (by decide) rfl (fun ls hl => ?_)
            refine lv_goto (tgt := 55) hx hb dM_matters_79 (by decide) ?_
            have eb55 : lf_M_matters_55 (G 6) nC nT nR nD ch nu 1 (k55 + 1) = (lf_M_matters_55 (G 6) nC nT nR nD ch nu 1 k55) * (G 6 (ch.toNatClampNeg + 1 + k55)) := by rw [lf_M_matters_55]
            exact ih55 (k55 + 1) (by omega) (by omega)  H locs (by exact hP) (by exact hD) hS ls (by rw [eb55]; exact lv_sub hl [0, 1, 2, 3, 4, 5] rfl)
      exact loop55 _ 0 (Nat.zero_le _) (Nat.lt_succ_self _)  H locs hP hD hS ls (lv_sub hl [0, 1, 2, 3, 4, 5] rfl)
    · refine lv_lconst (v := 0) hx hb dM_matters_39 (by decide) ?_
      have em : mr_M_matters (F 26) (G 6) (G 7) (G 8) (G 9) (G 10) (G 11) (G 12) (G 13) (G 14) (G 15) (G 16) (G 17) (G 18) (G 19) (G 27) (G 28) nC nT nR nD ch nu = (0, ((if (mr_M_within ch 0 ((nI nC) - 1)) = 0 then 1 else (if (mr_M_within nu 0 3) = 0 then 1 else 0)) : Int32), F 26, G 19, G 27, G 28) := by rw [mr_M_matters, if_neg c36]
      exact hret _ _ _ _ _ _ (by simp only [em]) (by simp only [em]; rw [upd_keep (f := upd F 0 ((if (mr_M_within ch 0 ((nI nC) - 1)) = 0 then 1 else (if (mr_M_within nu 0 3) = 0 then 1 else 0)) : Int32)) (j := 26) (x := F 26) rfl, vup_keep (f := G) (j := 19) (x := G 19) rfl, vup_keep (f := G) (j := 27) (x := G 27) rfl, vup_keep (f := G) (j := 28) (x := G 28) rfl]) hP hD hS dM_matters_40
  refine lv_if_eq (tgt := 28) hx hb dM_matters_12 (by decide) (fun c12 => ?_) (fun c12 => ?_)
  · refine lv_iconst (v := 1) hx hb dM_matters_28 (by decide) ?_
    exact wt_i (by rw [if_pos c12]) (j29 ls hl)
  · refine lv_iload_n hx hb dM_matters_15 rfl (lv_at hl 2 rfl) ?_
    refine lv_iconst (v := 0) hx hb dM_matters_16 (by decide) ?_
    refine lv_iconst (v := 3) hx hb dM_matters_17 (by decide) ?_
    refine ro_callS (r := (.int (mr_M_within nu 0 3))) (As := [.int nu, .int 0, .int 3]) (rest := [.ref a]) Sx (c_M_within l D cl hcl a ba ka F G hP nu 0 3) (va_cwS 3 hts gM_matters_M_within rfl rfl rfl (by decide +kernel) ⟨Nat.le_of_ble_eq_true rfl, Nat.le_of_ble_eq_true rfl⟩) hK rfl hl.1 rfl (Nat.le_of_ble_eq_true rfl) dM_matters_18 ⟨Nat.zero_le _, Nat.zero_le _⟩ ?_
    refine lv_if_eq (tgt := 28) hx hb dM_matters_21 (by decide) (fun c21 => ?_) (fun c21 => ?_)
    · refine lv_iconst (v := 1) hx hb dM_matters_28 (by decide) ?_
      exact wt_i (by rw [if_neg c12, if_pos c21]) (j29 ls hl)
    · refine lv_iconst (v := 0) hx hb dM_matters_24 (by decide) ?_
      refine lv_goto (tgt := 29) hx hb dM_matters_25 (by decide) ?_
      exact wt_i (by rw [if_neg c12, if_neg c21]) (j29 ls hl)
end
section
def lf_M_walk_77 (f21 : Int32) (g6 : Nat → Int32) (nC : Nat) (nT : Nat) (nR : Nat) (nD : Nat) (d : Int32) (sp : Int32) (qg27_77 : Nat → Int32) (qg28_77 : Nat → Int32) : Nat → Int32 → Nat → Int32 → Int32 → Int32 → (Nat → Int32) → Int32 × Nat × Int32 × Int32 × Int32 × (Nat → Int32)
  | 0, wa, j, x_, lo, we, r => (wa, j, x_, lo, we, r)
  | N + 1, wa, j, x_, lo, we, r => (if (nI sp.toNatClampNeg) ≤ (nI j) then (wa, j, x_, lo, we, r) else (if (qg27_77 (((mr_M_nearOf g6 r nC (wa.toNatClampNeg) (nI (dw g6 nC (wx x_)))).1).toNatClampNeg)) = 0 then lf_M_walk_77 f21 g6 nC nT nR nD d sp qg27_77 qg28_77 N wa (j + 1) (wx x_) lo we ((mr_M_nearOf g6 r nC (wa.toNatClampNeg) (nI (dw g6 nC (wx x_)))).2) else (if 0 < (lg_cmp (mr_M_cost qg28_77 (((mr_M_nearOf g6 r nC (wa.toNatClampNeg) (nI (dw g6 nC (wx x_)))).1).toNatClampNeg)) ((mr_M_cost qg28_77 (wa.toNatClampNeg)) + (f21.toInt64))) then lf_M_walk_77 f21 g6 nC nT nR nD d sp qg27_77 qg28_77 N wa (j + 1) (wx x_) lo we ((mr_M_nearOf g6 r nC (wa.toNatClampNeg) (nI (dw g6 nC (wx x_)))).2) else (if 0 ≤ (lg_cmp (mr_M_cost qg28_77 (((mr_M_nearOf g6 r nC (wa.toNatClampNeg) (nI (dw g6 nC (wx x_)))).1).toNatClampNeg)) (mr_M_cost qg28_77 (lo.toNatClampNeg))) then lf_M_walk_77 f21 g6 nC nT nR nD d sp qg27_77 qg28_77 N ((mr_M_nearOf g6 r nC (wa.toNatClampNeg) (nI (dw g6 nC (wx x_)))).1) (j + 1) (wx x_) lo (we + 1) ((mr_M_nearOf g6 r nC (wa.toNatClampNeg) (nI (dw g6 nC (wx x_)))).2) else lf_M_walk_77 f21 g6 nC nT nR nD d sp qg27_77 qg28_77 N ((mr_M_nearOf g6 r nC (wa.toNatClampNeg) (nI (dw g6 nC (wx x_)))).1) (j + 1) (wx x_) ((mr_M_nearOf g6 r nC (wa.toNatClampNeg) (nI (dw g6 nC (wx x_)))).1) (we + 1) ((mr_M_nearOf g6 r nC (wa.toNatClampNeg) (nI (dw g6 nC (wx x_)))).2)))))
def mr_M_walk (f1 : Int32) (f21 : Int32) (f22 : Int32) (f23 : Int32) (f26 : Int32) (g6 : Nat → Int32) (g7 : Nat → Int32) (g8 : Nat → Int32) (g9 : Nat → Int32) (g10 : Nat → Int32) (g11 : Nat → Int32) (g12 : Nat → Int32) (g13 : Nat → Int32) (g14 : Nat → Int32) (g15 : Nat → Int32) (g16 : Nat → Int32) (g17 : Nat → Int32) (g18 : Nat → Int32) (g19 : Nat → Int32) (g27 : Nat → Int32) (g28 : Nat → Int32) (nC : Nat) (nT : Nat) (nR : Nat) (nD : Nat) (d : Int32) (sp : Int32) : Int32 × Int32 × Int32 × Int32 × Int32 × Int32 × (Nat → Int32) × (Nat → Int32) × (Nat → Int32) := (if (mr_M_isDesign nD d) = 0 then ((mr_M_fail 1).1, (mr_M_fail 1).2, f1, f22, f23, f26, g19, g27, g28) else (if (((mr_M_know f26 g6 g7 g8 g9 g10 g11 g12 g13 g14 g15 g16 g17 g18 g19 g27 g28 nC nT nR nD).2.2.1) d.toNatClampNeg) = 0 then ((mr_M_fail 2).1, (mr_M_fail 2).2, f1, f22, f23, (mr_M_know f26 g6 g7 g8 g9 g10 g11 g12 g13 g14 g15 g16 g17 g18 g19 g27 g28 nC nT nR nD).1, (mr_M_know f26 g6 g7 g8 g9 g10 g11 g12 g13 g14 g15 g16 g17 g18 g19 g27 g28 nC nT nR nD).2.1, (mr_M_know f26 g6 g7 g8 g9 g10 g11 g12 g13 g14 g15 g16 g17 g18 g19 g27 g28 nC nT nR nD).2.2.1, (mr_M_know f26 g6 g7 g8 g9 g10 g11 g12 g13 g14 g15 g16 g17 g18 g19 g27 g28 nC nT nR nD).2.2.2) else (if (mr_M_within sp 1 1000) = 0 then ((mr_M_fail 2).1, (mr_M_fail 2).2, f1, f22, f23, (mr_M_know f26 g6 g7 g8 g9 g10 g11 g12 g13 g14 g15 g16 g17 g18 g19 g27 g28 nC nT nR nD).1, (mr_M_know f26 g6 g7 g8 g9 g10 g11 g12 g13 g14 g15 g16 g17 g18 g19 g27 g28 nC nT nR nD).2.1, (mr_M_know f26 g6 g7 g8 g9 g10 g11 g12 g13 g14 g15 g16 g17 g18 g19 g27 g28 nC nT nR nD).2.2.1, (mr_M_know f26 g6 g7 g8 g9 g10 g11 g12 g13 g14 g15 g16 g17 g18 g19 g27 g28 nC nT nR nD).2.2.2) else (if (nI nC) = 0 then ((mr_M_fail 3).1, (mr_M_fail 3).2, f1, f22, f23, (mr_M_know f26 g6 g7 g8 g9 g10 g11 g12 g13 g14 g15 g16 g17 g18 g19 g27 g28 nC nT nR nD).1, (mr_M_know f26 g6 g7 g8 g9 g10 g11 g12 g13 g14 g15 g16 g17 g18 g19 g27 g28 nC nT nR nD).2.1, (mr_M_know f26 g6 g7 g8 g9 g10 g11 g12 g13 g14 g15 g16 g17 g18 g19 g27 g28 nC nT nR nD).2.2.1, (mr_M_know f26 g6 g7 g8 g9 g10 g11 g12 g13 g14 g15 g16 g17 g18 g19 g27 g28 nC nT nR nD).2.2.2) else ((lf_M_walk_77 f21 g6 nC nT nR nD d sp ((mr_M_know f26 g6 g7 g8 g9 g10 g11 g12 g13 g14 g15 g16 g17 g18 g19 g27 g28 nC nT nR nD).2.2.1) ((mr_M_know f26 g6 g7 g8 g9 g10 g11 g12 g13 g14 g15 g16 g17 g18 g19 g27 g28 nC nT nR nD).2.2.2) (sp.toNatClampNeg + 1) d 0 f1 d 0 ((mr_M_know f26 g6 g7 g8 g9 g10 g11 g12 g13 g14 g15 g16 g17 g18 g19 g27 g28 nC nT nR nD).2.1)).1, 0, (lf_M_walk_77 f21 g6 nC nT nR nD d sp ((mr_M_know f26 g6 g7 g8 g9 g10 g11 g12 g13 g14 g15 g16 g17 g18 g19 g27 g28 nC nT nR nD).2.2.1) ((mr_M_know f26 g6 g7 g8 g9 g10 g11 g12 g13 g14 g15 g16 g17 g18 g19 g27 g28 nC nT nR nD).2.2.2) (sp.toNatClampNeg + 1) d 0 f1 d 0 ((mr_M_know f26 g6 g7 g8 g9 g10 g11 g12 g13 g14 g15 g16 g17 g18 g19 g27 g28 nC nT nR nD).2.1)).2.2.1, (lf_M_walk_77 f21 g6 nC nT nR nD d sp ((mr_M_know f26 g6 g7 g8 g9 g10 g11 g12 g13 g14 g15 g16 g17 g18 g19 g27 g28 nC nT nR nD).2.2.1) ((mr_M_know f26 g6 g7 g8 g9 g10 g11 g12 g13 g14 g15 g16 g17 g18 g19 g27 g28 nC nT nR nD).2.2.2) (sp.toNatClampNeg + 1) d 0 f1 d 0 ((mr_M_know f26 g6 g7 g8 g9 g10 g11 g12 g13 g14 g15 g16 g17 g18 g19 g27 g28 nC nT nR nD).2.1)).2.2.2.1, (lf_M_walk_77 f21 g6 nC nT nR nD d sp ((mr_M_know f26 g6 g7 g8 g9 g10 g11 g12 g13 g14 g15 g16 g17 g18 g19 g27 g28 nC nT nR nD).2.2.1) ((mr_M_know f26 g6 g7 g8 g9 g10 g11 g12 g13 g14 g15 g16 g17 g18 g19 g27 g28 nC nT nR nD).2.2.2) (sp.toNatClampNeg + 1) d 0 f1 d 0 ((mr_M_know f26 g6 g7 g8 g9 g10 g11 g12 g13 g14 g15 g16 g17 g18 g19 g27 g28 nC nT nR nD).2.1)).2.2.2.2.1, (mr_M_know f26 g6 g7 g8 g9 g10 g11 g12 g13 g14 g15 g16 g17 g18 g19 g27 g28 nC nT nR nD).1, (lf_M_walk_77 f21 g6 nC nT nR nD d sp ((mr_M_know f26 g6 g7 g8 g9 g10 g11 g12 g13 g14 g15 g16 g17 g18 g19 g27 g28 nC nT nR nD).2.2.1) ((mr_M_know f26 g6 g7 g8 g9 g10 g11 g12 g13 g14 g15 g16 g17 g18 g19 g27 g28 nC nT nR nD).2.2.2) (sp.toNatClampNeg + 1) d 0 f1 d 0 ((mr_M_know f26 g6 g7 g8 g9 g10 g11 g12 g13 g14 g15 g16 g17 g18 g19 g27 g28 nC nT nR nD).2.1)).2.2.2.2.2, (mr_M_know f26 g6 g7 g8 g9 g10 g11 g12 g13 g14 g15 g16 g17 g18 g19 g27 g28 nC nT nR nD).2.2.1, (mr_M_know f26 g6 g7 g8 g9 g10 g11 g12 g13 g14 g15 g16 g17 g18 g19 g27 g28 nC nT nR nD).2.2.2)))))
theorem wi_sp_M {c : Int32} (h : ¬ mr_M_within c 1 1000 = 0) : ∃ j : Nat, j < 1001 ∧ c = nI j := by
  unfold mr_M_within at h
  by_cases h1 : c < 1
  · rw [if_pos h1] at h; exact absurd rfl h
  · rw [if_neg h1] at h
    by_cases h2 : 1000 < c
    · rw [if_pos h2] at h; exact absurd rfl h
    · exact wi_1 (n := 1000) h1 h2 (by decide)
set_option maxHeartbeats 4000000 in
set_option maxRecDepth 100000 in
theorem c_M_walk (l : Launch) (D : va_G) (cl : List vw_C) (hcl : cl[0]? = some (RM, TM, 29)) (a : Nat) (ba : Nat → Nat) (ka : Nat → ClassId) (F : Nat → Int32) (G : Nat → Nat → Int32) {H0 : Heap} (hP : va_P D cl (mW a ba ka F G) H0) (hD : va_D (fun _ => True) (mW a ba ka F G)) (nC : Nat) (nT : Nat) (nR : Nat) (nD : Nat) (d : Int32) (sp : Int32) (h2 : F 2 = nI nC) (hC : nC ≤ 8) (h3 : F 3 = nI nT) (hT : nT ≤ 100) (h4 : F 4 = nI nR) (hR : nR ≤ 40) (h5 : F 5 = nI nD) (hN : nD ≤ 4096) (h6 : ∀ c, c < nC → ∃ z : Nat, G 6 c = nI z ∧ 2 ≤ z ∧ z ≤ 6) (h8 : ∀ t, t < nT → ∃ x : Nat, x < nC ∧ G 8 t = nI x) (h10 : ∀ t, t < nT → G 10 t = -1 ∨ ∃ x : Nat, x < nC ∧ G 10 t = nI x) (h13 : ∀ j, j < nR → ∃ x : Nat, x < nC ∧ G 13 j = nI x) (h15 : ∀ j, j < nR → ∃ x : Nat, x < nC ∧ G 15 j = nI x) (hmp : mp (zg (G 6)) 0 nC = nD) : ww_Met l yM_walk wsM_walk ({ frames := 4, cells := 0, slots := 0, locals := 92 } : Room) D cl (mT ka) H0 [.ref a, .int d, .int sp] (mW a ba ka F G) (some (.int ((mr_M_walk (F 1) (F 21) (F 22) (F 23) (F 26) (G 6) (G 7) (G 8) (G 9) (G 10) (G 11) (G 12) (G 13) (G 14) (G 15) (G 16) (G 17) (G 18) (G 19) (G 27) (G 28) nC nT nR nD d sp).1))) (mW a ba ka (upd (upd (upd (upd (upd F 0 ((mr_M_walk (F 1) (F 21) (F 22) (F 23) (F 26) (G 6) (G 7) (G 8) (G 9) (G 10) (G 11) (G 12) (G 13) (G 14) (G 15) (G 16) (G 17) (G 18) (G 19) (G 27) (G 28) nC nT nR nD d sp).2.1)) 1 ((mr_M_walk (F 1) (F 21) (F 22) (F 23) (F 26) (G 6) (G 7) (G 8) (G 9) (G 10) (G 11) (G 12) (G 13) (G 14) (G 15) (G 16) (G 17) (G 18) (G 19) (G 27) (G 28) nC nT nR nD d sp).2.2.1)) 22 ((mr_M_walk (F 1) (F 21) (F 22) (F 23) (F 26) (G 6) (G 7) (G 8) (G 9) (G 10) (G 11) (G 12) (G 13) (G 14) (G 15) (G 16) (G 17) (G 18) (G 19) (G 27) (G 28) nC nT nR nD d sp).2.2.2.1)) 23 ((mr_M_walk (F 1) (F 21) (F 22) (F 23) (F 26) (G 6) (G 7) (G 8) (G 9) (G 10) (G 11) (G 12) (G 13) (G 14) (G 15) (G 16) (G 17) (G 18) (G 19) (G 27) (G 28) nC nT nR nD d sp).2.2.2.2.1)) 26 ((mr_M_walk (F 1) (F 21) (F 22) (F 23) (F 26) (G 6) (G 7) (G 8) (G 9) (G 10) (G 11) (G 12) (G 13) (G 14) (G 15) (G 16) (G 17) (G 18) (G 19) (G 27) (G 28) nC nT nR nD d sp).2.2.2.2.2.1)) (va_up (va_up (va_up G 19 ((mr_M_walk (F 1) (F 21) (F 22) (F 23) (F 26) (G 6) (G 7) (G 8) (G 9) (G 10) (G 11) (G 12) (G 13) (G 14) (G 15) (G 16) (G 17) (G 18) (G 19) (G 27) (G 28) nC nT nR nD d sp).2.2.2.2.2.2.1)) 27 ((mr_M_walk (F 1) (F 21) (F 22) (F 23) (F 26) (G 6) (G 7) (G 8) (G 9) (G 10) (G 11) (G 12) (G 13) (G 14) (G 15) (G 16) (G 17) (G 18) (G 19) (G 27) (G 28) nC nT nR nD d sp).2.2.2.2.2.2.2.1)) 28 ((mr_M_walk (F 1) (F 21) (F 22) (F 23) (F 26) (G 6) (G 7) (G 8) (G 9) (G 10) (G 11) (G 12) (G 13) (G 14) (G 15) (G 16) (G 17) (G 18) (G 19) (G 27) (G 28) nC nT nR nD d sp).2.2.2.2.2.2.2.2))) := by
  refine ww_metI (by decide) rfl (Nat.le_of_ble_eq_true rfl) hP hD ?_
  intro p e s m args below meth c Q A Sx hK hP hD hS hA ls hl hret
  obtain ⟨hx, hb, hml, hown, hts⟩ := id Sx
  have hl : lv_has ls 6 [(0, .ref a), (1, .int d), (2, .int sp)] := hl
  obtain ⟨H, eH⟩ : ∃ H : Heap, H = H0 := ⟨_, rfl⟩
  obtain ⟨locs, eL⟩ : ∃ L : List Loc, L = [] := ⟨_, rfl⟩
  have hP : va_P D cl (mW a ba ka F G) H := by rw [eH]; exact hP
  have hS : va_S A H0 H locs := by rw [eH, eL]; exact hS
  rw [show W p l e ({ frames := 4, cells := 0, slots := 0, locals := 92 } : Room) s m args below meth c H0 [] 0 0 Q (F0 m 0 ls []) = W p l e ({ frames := 4, cells := 0, slots := 0, locals := 92 } : Room) s m args below meth c H locs 0 0 Q (F0 m 0 ls []) by rw [eH, eL]]
  clear eH eL
  have f70 := hts _ (List.mem_cons_of_mem _ mfM_70)
  have inM_ : ∀ w ∈ wsM0, w ∈ wsM_walk := fun w h => List.mem_cons_of_mem _ (inM_all w h)
  have f60 := hts _ (List.mem_cons_of_mem _ mfM_60)
  have f81 := hts _ (List.mem_cons_of_mem _ mfM_81)
  have f57 := hts _ (List.mem_cons_of_mem _ mfM_57)
  have f156 := hts _ (List.mem_cons_of_mem _ mfM_156)
  have k159 := hts _ (List.mem_cons_of_mem _ mkM_159)
  have f67 := hts _ (List.mem_cons_of_mem _ mfM_67)
  have k66 := hts _ (List.mem_cons_of_mem _ mkM_66)
  have k160 := hts _ (List.mem_cons_of_mem _ mkM_160)
  have f153 := hts _ (List.mem_cons_of_mem _ mfM_153)
  refine lv_aload_n hx hb dM_walk_0 rfl (lv_at hl 0 rfl) ?_
  refine lv_iconst (v := 0) hx hb dM_walk_1 (by decide) ?_
  refine va_put (D := D) (ci := 0) (fs := mWl0 ba F) (v := .int 0) (ty := .int) (C := RM) (T := TM) (N := 29) hx hb hts inM_ tyM tyM_ok nmM hown hK hP hD hS 0 rfl hcl 0 (by decide) f70 (fun _ h9 => h9) rfl (by decide +kernel) rfl rfl (Nat.le_of_ble_eq_true rfl) dM_walk_2 (fun H locs hP hD hS => ?_)
  rw [mW_f0] at hP hD
  refine lv_aload_n hx hb dM_walk_5 rfl (lv_at hl 0 rfl) ?_
  refine lv_iload_n hx hb dM_walk_6 rfl (lv_at hl 1 rfl) ?_
  refine ro_callV (r := (.int (mr_M_isDesign nD d))) (As := [.int d]) (rest := []) Sx (c_M_isDesign l D cl hcl a ba ka (upd F 0 0) G hP nD d h5) (cwV 1 hts gM_walk_M_isDesign rfl rfl rfl (by decide +kernel) ⟨Nat.le_of_ble_eq_true rfl, Nat.le_of_ble_eq_true rfl⟩) hK (va_recv hK hP (ci := 0) (q0 := 0) hcl rfl) rfl hl.1 rfl (Nat.le_of_ble_eq_true rfl) dM_walk_7 ⟨Nat.zero_le _, Nat.zero_le _⟩ ?_
  refine lv_if_ne (tgt := 19) hx hb dM_walk_10 (by decide) (fun c10 => ?_) (fun c10 => ?_)
  · have xd := ix_cl (wd_ix c10 hN) (by omega)
    have hd2 := xd.2
    refine lv_aload_n hx hb dM_walk_19 rfl (lv_at hl 0 rfl) ?_
    refine ww_callV (r := none) (w' := mW a ba ka (upd (upd F 0 0) 26 ((mr_M_know (F 26) (G 6) (G 7) (G 8) (G 9) (G 10) (G 11) (G 12) (G 13) (G 14) (G 15) (G 16) (G 17) (G 18) (G 19) (G 27) (G 28) nC nT nR nD).1)) (va_up (va_up (va_up G 19 ((mr_M_know (F 26) (G 6) (G 7) (G 8) (G 9) (G 10) (G 11) (G 12) (G 13) (G 14) (G 15) (G 16) (G 17) (G 18) (G 19) (G 27) (G 28) nC nT nR nD).2.1)) 27 ((mr_M_know (F 26) (G 6) (G 7) (G 8) (G 9) (G 10) (G 11) (G 12) (G 13) (G 14) (G 15) (G 16) (G 17) (G 18) (G 19) (G 27) (G 28) nC nT nR nD).2.2.1)) 28 ((mr_M_know (F 26) (G 6) (G 7) (G 8) (G 9) (G 10) (G 11) (G 12) (G 13) (G 14) (G 15) (G 16) (G 17) (G 18) (G 19) (G 27) (G 28) nC nT nR nD).2.2.2))) (As := []) (rest := []) Sx (c_M_know l D cl hcl a ba ka (upd F 0 0) G hP (hD.weaken (fun _ _ _ _ => trivial)) nC nT nR nD h2 hC h3 hT h4 hR h5 hN h6 h8 h10 h13 h15) (cwV 0 hts gM_walk_M_know rfl rfl rfl (by decide +kernel) ⟨Nat.le_of_ble_eq_true rfl, Nat.le_of_ble_eq_true rfl⟩) hK (va_recv hK hP (ci := 0) (q0 := 0) hcl rfl) rfl hl.1 rfl (Nat.le_of_ble_eq_true rfl) dM_walk_20 ⟨Nat.zero_le _, Nat.zero_le _⟩ hD hS hA (fun H locs hP hD hS => ?_)
    refine lv_aload_n hx hb dM_walk_23 rfl (lv_at hl 0 rfl) ?_
    refine va_get (D := D) (ci := 0) (v := .ref (ba 27)) (C := RM) (T := TM) (N := 29) hx hb hts inM_ hown hK hP 0 rfl hcl 27 (by decide) f60 (fun _ h9 => h9) rfl dM_walk_24 ?_
    refine lv_iload_n hx hb dM_walk_27 rfl (lv_at hl 1 rfl) ?_
    refine wt_i (r := nI d.toNatClampNeg) (by exact xd.1) ?_
    have sd28 : d.toNatClampNeg < 4096 := by omega
    have eg28 : (va_up (va_up (va_up G 19 ((mr_M_know (F 26) (G 6) (G 7) (G 8) (G 9) (G 10) (G 11) (G 12) (G 13) (G 14) (G 15) (G 16) (G 17) (G 18) (G 19) (G 27) (G 28) nC nT nR nD).2.1)) 27 ((mr_M_know (F 26) (G 6) (G 7) (G 8) (G 9) (G 10) (G 11) (G 12) (G 13) (G 14) (G 15) (G 16) (G 17) (G 18) (G 19) (G 27) (G 28) nC nT nR nD).2.2.1)) 28 ((mr_M_know (F 26) (G 6) (G 7) (G 8) (G 9) (G 10) (G 11) (G 12) (G 13) (G 14) (G 15) (G 16) (G 17) (G 18) (G 19) (G 27) (G 28) nC nT nR nD).2.2.2)) 27 = (mr_M_know (F 26) (G 6) (G 7) (G 8) (G 9) (G 10) (G 11) (G 12) (G 13) (G 14) (G 15) (G 16) (G 17) (G 18) (G 19) (G 27) (G 28) nC nT nR nD).2.2.1 := by rw [vup_un (k := 28) (j := 27) (by decide), vup_us]
    refine wn_zald (f := (mr_M_know (F 26) (G 6) (G 7) (G 8) (G 9) (G 10) (G 11) (G 12) (G 13) (G 14) (G 15) (G 16) (G 17) (G 18) (G 19) (G 27) (G 28) nC nT nR nD).2.2.1) hx hb hK hP 15 14 (congrArg (fun z : Nat → Int32 => (some ((ba 27), (.inl ((ka 27), 4096, .inl z) : va_E)) : Option (Nat × va_E))) eg28) rfl d.toNatClampNeg rfl sd28 (by decide) dM_walk_28 ?_
    refine lv_if_eq (tgt := 43) hx hb dM_walk_29 (by decide) (fun c29 => ?_) (fun c29 => ?_)
    · refine lv_aload_n hx hb dM_walk_43 rfl (lv_at hl 0 rfl) ?_
      refine lv_iconst (v := 2) hx hb dM_walk_44 (by decide) ?_
      refine ww_callV (r := (some (.int ((mr_M_fail 2).1)))) (w' := mW a ba ka (upd (upd (upd F 0 0) 26 ((mr_M_know (F 26) (G 6) (G 7) (G 8) (G 9) (G 10) (G 11) (G 12) (G 13) (G 14) (G 15) (G 16) (G 17) (G 18) (G 19) (G 27) (G 28) nC nT nR nD).1)) 0 ((mr_M_fail 2).2)) (va_up (va_up (va_up G 19 ((mr_M_know (F 26) (G 6) (G 7) (G 8) (G 9) (G 10) (G 11) (G 12) (G 13) (G 14) (G 15) (G 16) (G 17) (G 18) (G 19) (G 27) (G 28) nC nT nR nD).2.1)) 27 ((mr_M_know (F 26) (G 6) (G 7) (G 8) (G 9) (G 10) (G 11) (G 12) (G 13) (G 14) (G 15) (G 16) (G 17) (G 18) (G 19) (G 27) (G 28) nC nT nR nD).2.2.1)) 28 ((mr_M_know (F 26) (G 6) (G 7) (G 8) (G 9) (G 10) (G 11) (G 12) (G 13) (G 14) (G 15) (G 16) (G 17) (G 18) (G 19) (G 27) (G 28) nC nT nR nD).2.2.2))) (As := [.int 2]) (rest := []) Sx (c_M_fail l D cl hcl a ba ka (upd (upd F 0 0) 26 ((mr_M_know (F 26) (G 6) (G 7) (G 8) (G 9) (G 10) (G 11) (G 12) (G 13) (G 14) (G 15) (G 16) (G 17) (G 18) (G 19) (G 27) (G 28) nC nT nR nD).1)) (va_up (va_up (va_up G 19 ((mr_M_know (F 26) (G 6) (G 7) (G 8) (G 9) (G 10) (G 11) (G 12) (G 13) (G 14) (G 15) (G 16) (G 17) (G 18) (G 19) (G 27) (G 28) nC nT nR nD).2.1)) 27 ((mr_M_know (F 26) (G 6) (G 7) (G 8) (G 9) (G 10) (G 11) (G 12) (G 13) (G 14) (G 15) (G 16) (G 17) (G 18) (G 19) (G 27) (G 28) nC nT nR nD).2.2.1)) 28 ((mr_M_know (F 26) (G 6) (G 7) (G 8) (G 9) (G 10) (G 11) (G 12) (G 13) (G 14) (G 15) (G 16) (G 17) (G 18) (G 19) (G 27) (G 28) nC nT nR nD).2.2.2)) hP (hD.weaken (fun _ _ _ _ => trivial)) 2) (cwV 1 hts gM_walk_M_fail rfl rfl rfl (by decide +kernel) ⟨Nat.le_of_ble_eq_true rfl, Nat.le_of_ble_eq_true rfl⟩) hK (va_recv hK hP (ci := 0) (q0 := 0) hcl rfl) rfl hl.1 rfl (Nat.le_of_ble_eq_true rfl) dM_walk_45 ⟨Nat.zero_le _, Nat.zero_le _⟩ hD hS hA (fun H locs hP hD hS => ?_)
      rw [upd_sw (i := 26) (j := 0) (by decide), upd_ow] at hP hD
      have em : mr_M_walk (F 1) (F 21) (F 22) (F 23) (F 26) (G 6) (G 7) (G 8) (G 9) (G 10) (G 11) (G 12) (G 13) (G 14) (G 15) (G 16) (G 17) (G 18) (G 19) (G 27) (G 28) nC nT nR nD d sp = ((mr_M_fail 2).1, (mr_M_fail 2).2, F 1, F 22, F 23, (mr_M_know (F 26) (G 6) (G 7) (G 8) (G 9) (G 10) (G 11) (G 12) (G 13) (G 14) (G 15) (G 16) (G 17) (G 18) (G 19) (G 27) (G 28) nC nT nR nD).1, (mr_M_know (F 26) (G 6) (G 7) (G 8) (G 9) (G 10) (G 11) (G 12) (G 13) (G 14) (G 15) (G 16) (G 17) (G 18) (G 19) (G 27) (G 28) nC nT nR nD).2.1, (mr_M_know (F 26) (G 6) (G 7) (G 8) (G 9) (G 10) (G 11) (G 12) (G 13) (G 14) (G 15) (G 16) (G 17) (G 18) (G 19) (G 27) (G 28) nC nT nR nD).2.2.1, (mr_M_know (F 26) (G 6) (G 7) (G 8) (G 9) (G 10) (G 11) (G 12) (G 13) (G 14) (G 15) (G 16) (G 17) (G 18) (G 19) (G 27) (G 28) nC nT nR nD).2.2.2) := by rw [mr_M_walk, if_neg c10, if_pos c29]
      exact hret _ _ _ _ _ _ (by simp only [em]) (by simp only [em]; rw [upd_keep (f := upd F 0 ((mr_M_fail 2).2)) (j := 1) (x := F 1) rfl, upd_keep (f := upd F 0 ((mr_M_fail 2).2)) (j := 22) (x := F 22) rfl, upd_keep (f := upd F 0 ((mr_M_fail 2).2)) (j := 23) (x := F 23) rfl]) hP hD hS dM_walk_48
    · refine lv_iload_n hx hb dM_walk_32 rfl (lv_at hl 2 rfl) ?_
      refine lv_iconst (v := 1) hx hb dM_walk_33 (by decide) ?_
      refine lv_sipush (v := 1000) hx hb dM_walk_34 (by decide) ?_
      refine ro_callS (r := (.int (mr_M_within sp 1 1000))) (As := [.int sp, .int 1, .int 1000]) (rest := []) Sx (c_M_within l D cl hcl a ba ka (upd (upd F 0 0) 26 ((mr_M_know (F 26) (G 6) (G 7) (G 8) (G 9) (G 10) (G 11) (G 12) (G 13) (G 14) (G 15) (G 16) (G 17) (G 18) (G 19) (G 27) (G 28) nC nT nR nD).1)) (va_up (va_up (va_up G 19 ((mr_M_know (F 26) (G 6) (G 7) (G 8) (G 9) (G 10) (G 11) (G 12) (G 13) (G 14) (G 15) (G 16) (G 17) (G 18) (G 19) (G 27) (G 28) nC nT nR nD).2.1)) 27 ((mr_M_know (F 26) (G 6) (G 7) (G 8) (G 9) (G 10) (G 11) (G 12) (G 13) (G 14) (G 15) (G 16) (G 17) (G 18) (G 19) (G 27) (G 28) nC nT nR nD).2.2.1)) 28 ((mr_M_know (F 26) (G 6) (G 7) (G 8) (G 9) (G 10) (G 11) (G 12) (G 13) (G 14) (G 15) (G 16) (G 17) (G 18) (G 19) (G 27) (G 28) nC nT nR nD).2.2.2)) hP sp 1 1000) (va_cwS 3 hts gM_walk_M_within rfl rfl rfl (by decide +kernel) ⟨Nat.le_of_ble_eq_true rfl, Nat.le_of_ble_eq_true rfl⟩) hK rfl hl.1 rfl (Nat.le_of_ble_eq_true rfl) dM_walk_37 ⟨Nat.zero_le _, Nat.zero_le _⟩ ?_
      refine lv_if_ne (tgt := 49) hx hb dM_walk_40 (by decide) (fun c40 => ?_) (fun c40 => ?_)
      · have xp := ix_cl (wi_sp_M c40) (by decide)
        have hp2 := xp.2
        refine lv_aload_n hx hb dM_walk_49 rfl (lv_at hl 0 rfl) ?_
        refine va_get (D := D) (ci := 0) (v := .int (F 2)) (C := RM) (T := TM) (N := 29) hx hb hts inM_ hown hK hP 0 rfl hcl 2 (by decide) f81 (fun _ h9 => h9) rfl dM_walk_50 ?_
        refine wt_i h2 ?_
        refine lv_if_ne (tgt := 62) hx hb dM_walk_53 (by decide) (fun c53 => ?_) (fun c53 => ?_)
        · have n53 : ¬ nC = 0 := fun h9 => c53 ((nI_eq (a := nC) (b := 0) (by omega) (by omega)).mpr h9)
          have hC1 : 0 < nC := by have := n53; omega
          have hns := (ns_small h6 nC (Nat.le_refl _)).1
          have hns2 := (ns_small h6 nC (Nat.le_refl _)).2
          refine lv_iload_n hx hb dM_walk_62 rfl (lv_at hl 1 rfl) ?_
          refine lv_istore_n (lv' := [(3, .int d), (0, .ref a), (1, .int d), (2, .int sp)]) hx hb dM_walk_63 rfl hl (by decide) rfl (fun ls hl => ?_)
          refine lv_aload_n hx hb dM_walk_64 rfl (lv_at hl 1 rfl) ?_
          refine lv_iload_n hx hb dM_walk_65 rfl (lv_at hl 2 rfl) ?_
          refine va_put (D := D) (ci := 0) (fs := mWl0 ba (upd (upd F 0 0) 26 ((mr_M_know (F 26) (G 6) (G 7) (G 8) (G 9) (G 10) (G 11) (G 12) (G 13) (G 14) (G 15) (G 16) (G 17) (G 18) (G 19) (G 27) (G 28) nC nT nR nD).1))) (v := .int d) (ty := .int) (C := RM) (T := TM) (N := 29) hx hb hts inM_ tyM tyM_ok nmM hown hK hP hD hS 0 rfl hcl 22 (by decide) f57 (fun _ h9 => h9) rfl (by decide +kernel) rfl rfl (Nat.le_of_ble_eq_true rfl) dM_walk_66 (fun H locs hP hD hS => ?_)
          rw [mW_f22, upd_sw (i := 26) (j := 22) (by decide)] at hP hD
          refine lv_aload_n hx hb dM_walk_69 rfl (lv_at hl 1 rfl) ?_
          refine lv_iconst (v := 0) hx hb dM_walk_70 (by decide) ?_
          refine va_put (D := D) (ci := 0) (fs := mWl0 ba (upd (upd (upd F 0 0) 22 d) 26 ((mr_M_know (F 26) (G 6) (G 7) (G 8) (G 9) (G 10) (G 11) (G 12) (G 13) (G 14) (G 15) (G 16) (G 17) (G 18) (G 19) (G 27) (G 28) nC nT nR nD).1))) (v := .int 0) (ty := .int) (C := RM) (T := TM) (N := 29) hx hb hts inM_ tyM tyM_ok nmM hown hK hP hD hS 0 rfl hcl 23 (by decide) f156 (fun _ h9 => h9) rfl (by decide +kernel) rfl rfl (Nat.le_of_ble_eq_true rfl) dM_walk_71 (fun H locs hP hD hS => ?_)
          rw [mW_f23, upd_sw (i := 26) (j := 23) (by decide)] at hP hD
          refine lv_iconst (v := 0) hx hb dM_walk_74 (by decide) ?_
          refine lv_istore (lv' := [(4, .int 0), (3, .int d), (0, .ref a), (1, .int d), (2, .int sp)]) hx hb dM_walk_75 hl (by decide) rfl (fun ls hl => ?_)
          have ex77 : ∀ (H : Heap) (locs : List Loc), va_P D cl (mW a ba ka (upd (upd (upd (upd (upd F 0 0) 1 ((lf_M_walk_77 (F 21) (G 6) nC nT nR nD d sp ((mr_M_know (F 26) (G 6) (G 7) (G 8) (G 9) (G 10) (G 11) (G 12) (G 13) (G 14) (G 15) (G 16) (G 17) (G 18) (G 19) (G 27) (G 28) nC nT nR nD).2.2.1) ((mr_M_know (F 26) (G 6) (G 7) (G 8) (G 9) (G 10) (G 11) (G 12) (G 13) (G 14) (G 15) (G 16) (G 17) (G 18) (G 19) (G 27) (G 28) nC nT nR nD).2.2.2) (sp.toNatClampNeg + 1) d 0 (F 1) d 0 ((mr_M_know (F 26) (G 6) (G 7) (G 8) (G 9) (G 10) (G 11) (G 12) (G 13) (G 14) (G 15) (G 16) (G 17) (G 18) (G 19) (G 27) (G 28) nC nT nR nD).2.1)).2.2.1)) 22 ((lf_M_walk_77 (F 21) (G 6) nC nT nR nD d sp ((mr_M_know (F 26) (G 6) (G 7) (G 8) (G 9) (G 10) (G 11) (G 12) (G 13) (G 14) (G 15) (G 16) (G 17) (G 18) (G 19) (G 27) (G 28) nC nT nR nD).2.2.1) ((mr_M_know (F 26) (G 6) (G 7) (G 8) (G 9) (G 10) (G 11) (G 12) (G 13) (G 14) (G 15) (G 16) (G 17) (G 18) (G 19) (G 27) (G 28) nC nT nR nD).2.2.2) (sp.toNatClampNeg + 1) d 0 (F 1) d 0 ((mr_M_know (F 26) (G 6) (G 7) (G 8) (G 9) (G 10) (G 11) (G 12) (G 13) (G 14) (G 15) (G 16) (G 17) (G 18) (G 19) (G 27) (G 28) nC nT nR nD).2.1)).2.2.2.1)) 23 ((lf_M_walk_77 (F 21) (G 6) nC nT nR nD d sp ((mr_M_know (F 26) (G 6) (G 7) (G 8) (G 9) (G 10) (G 11) (G 12) (G 13) (G 14) (G 15) (G 16) (G 17) (G 18) (G 19) (G 27) (G 28) nC nT nR nD).2.2.1) ((mr_M_know (F 26) (G 6) (G 7) (G 8) (G 9) (G 10) (G 11) (G 12) (G 13) (G 14) (G 15) (G 16) (G 17) (G 18) (G 19) (G 27) (G 28) nC nT nR nD).2.2.2) (sp.toNatClampNeg + 1) d 0 (F 1) d 0 ((mr_M_know (F 26) (G 6) (G 7) (G 8) (G 9) (G 10) (G 11) (G 12) (G 13) (G 14) (G 15) (G 16) (G 17) (G 18) (G 19) (G 27) (G 28) nC nT nR nD).2.1)).2.2.2.2.1)) 26 ((mr_M_know (F 26) (G 6) (G 7) (G 8) (G 9) (G 10) (G 11) (G 12) (G 13) (G 14) (G 15) (G 16) (G 17) (G 18) (G 19) (G 27) (G 28) nC nT nR nD).1)) (va_up (va_up (va_up G 19 ((lf_M_walk_77 (F 21) (G 6) nC nT nR nD d sp ((mr_M_know (F 26) (G 6) (G 7) (G 8) (G 9) (G 10) (G 11) (G 12) (G 13) (G 14) (G 15) (G 16) (G 17) (G 18) (G 19) (G 27) (G 28) nC nT nR nD).2.2.1) ((mr_M_know (F 26) (G 6) (G 7) (G 8) (G 9) (G 10) (G 11) (G 12) (G 13) (G 14) (G 15) (G 16) (G 17) (G 18) (G 19) (G 27) (G 28) nC nT nR nD).2.2.2) (sp.toNatClampNeg + 1) d 0 (F 1) d 0 ((mr_M_know (F 26) (G 6) (G 7) (G 8) (G 9) (G 10) (G 11) (G 12) (G 13) (G 14) (G 15) (G 16) (G 17) (G 18) (G 19) (G 27) (G 28) nC nT nR nD).2.1)).2.2.2.2.2)) 27 ((mr_M_know (F 26) (G 6) (G 7) (G 8) (G 9) (G 10) (G 11) (G 12) (G 13) (G 14) (G 15) (G 16) (G 17) (G 18) (G 19) (G 27) (G 28) nC nT nR nD).2.2.1)) 28 ((mr_M_know (F 26) (G 6) (G 7) (G 8) (G 9) (G 10) (G 11) (G 12) (G 13) (G 14) (G 15) (G 16) (G 17) (G 18) (G 19) (G 27) (G 28) nC nT nR nD).2.2.2))) H → va_D A (mW a ba ka (upd (upd (upd (upd (upd F 0 0) 1 ((lf_M_walk_77 (F 21) (G 6) nC nT nR nD d sp ((mr_M_know (F 26) (G 6) (G 7) (G 8) (G 9) (G 10) (G 11) (G 12) (G 13) (G 14) (G 15) (G 16) (G 17) (G 18) (G 19) (G 27) (G 28) nC nT nR nD).2.2.1) ((mr_M_know (F 26) (G 6) (G 7) (G 8) (G 9) (G 10) (G 11) (G 12) (G 13) (G 14) (G 15) (G 16) (G 17) (G 18) (G 19) (G 27) (G 28) nC nT nR nD).2.2.2) (sp.toNatClampNeg + 1) d 0 (F 1) d 0 ((mr_M_know (F 26) (G 6) (G 7) (G 8) (G 9) (G 10) (G 11) (G 12) (G 13) (G 14) (G 15) (G 16) (G 17) (G 18) (G 19) (G 27) (G 28) nC nT nR nD).2.1)).2.2.1)) 22 ((lf_M_walk_77 (F 21) (G 6) nC nT nR nD d sp ((mr_M_know (F 26) (G 6) (G 7) (G 8) (G 9) (G 10) (G 11) (G 12) (G 13) (G 14) (G 15) (G 16) (G 17) (G 18) (G 19) (G 27) (G 28) nC nT nR nD).2.2.1) ((mr_M_know (F 26) (G 6) (G 7) (G 8) (G 9) (G 10) (G 11) (G 12) (G 13) (G 14) (G 15) (G 16) (G 17) (G 18) (G 19) (G 27) (G 28) nC nT nR nD).2.2.2) (sp.toNatClampNeg + 1) d 0 (F 1) d 0 ((mr_M_know (F 26) (G 6) (G 7) (G 8) (G 9) (G 10) (G 11) (G 12) (G 13) (G 14) (G 15) (G 16) (G 17) (G 18) (G 19) (G 27) (G 28) nC nT nR nD).2.1)).2.2.2.1)) 23 ((lf_M_walk_77 (F 21) (G 6) nC nT nR nD d sp ((mr_M_know (F 26) (G 6) (G 7) (G 8) (G 9) (G 10) (G 11) (G 12) (G 13) (G 14) (G 15) (G 16) (G 17) (G 18) (G 19) (G 27) (G 28) nC nT nR nD).2.2.1) ((mr_M_know (F 26) (G 6) (G 7) (G 8) (G 9) (G 10) (G 11) (G 12) (G 13) (G 14) (G 15) (G 16) (G 17) (G 18) (G 19) (G 27) (G 28) nC nT nR nD).2.2.2) (sp.toNatClampNeg + 1) d 0 (F 1) d 0 ((mr_M_know (F 26) (G 6) (G 7) (G 8) (G 9) (G 10) (G 11) (G 12) (G 13) (G 14) (G 15) (G 16) (G 17) (G 18) (G 19) (G 27) (G 28) nC nT nR nD).2.1)).2.2.2.2.1)) 26 ((mr_M_know (F 26) (G 6) (G 7) (G 8) (G 9) (G 10) (G 11) (G 12) (G 13) (G 14) (G 15) (G 16) (G 17) (G 18) (G 19) (G 27) (G 28) nC nT nR nD).1)) (va_up (va_up (va_up G 19 ((lf_M_walk_77 (F 21) (G 6) nC nT nR nD d sp ((mr_M_know (F 26) (G 6) (G 7) (G 8) (G 9) (G 10) (G 11) (G 12) (G 13) (G 14) (G 15) (G 16) (G 17) (G 18) (G 19) (G 27) (G 28) nC nT nR nD).2.2.1) ((mr_M_know (F 26) (G 6) (G 7) (G 8) (G 9) (G 10) (G 11) (G 12) (G 13) (G 14) (G 15) (G 16) (G 17) (G 18) (G 19) (G 27) (G 28) nC nT nR nD).2.2.2) (sp.toNatClampNeg + 1) d 0 (F 1) d 0 ((mr_M_know (F 26) (G 6) (G 7) (G 8) (G 9) (G 10) (G 11) (G 12) (G 13) (G 14) (G 15) (G 16) (G 17) (G 18) (G 19) (G 27) (G 28) nC nT nR nD).2.1)).2.2.2.2.2)) 27 ((mr_M_know (F 26) (G 6) (G 7) (G 8) (G 9) (G 10) (G 11) (G 12) (G 13) (G 14) (G 15) (G 16) (G 17) (G 18) (G 19) (G 27) (G 28) nC nT nR nD).2.2.1)) 28 ((mr_M_know (F 26) (G 6) (G 7) (G 8) (G 9) (G 10) (G 11) (G 12) (G 13) (G 14) (G 15) (G 16) (G 17) (G 18) (G 19) (G 27) (G 28) nC nT nR nD).2.2.2))) → va_S A H0 H locs → ∀ (ls : Array Slot), lv_has ls 6 [(4, .int (nI ((lf_M_walk_77 (F 21) (G 6) nC nT nR nD d sp ((mr_M_know (F 26) (G 6) (G 7) (G 8) (G 9) (G 10) (G 11) (G 12) (G 13) (G 14) (G 15) (G 16) (G 17) (G 18) (G 19) (G 27) (G 28) nC nT nR nD).2.2.1) ((mr_M_know (F 26) (G 6) (G 7) (G 8) (G 9) (G 10) (G 11) (G 12) (G 13) (G 14) (G 15) (G 16) (G 17) (G 18) (G 19) (G 27) (G 28) nC nT nR nD).2.2.2) (sp.toNatClampNeg + 1) d 0 (F 1) d 0 ((mr_M_know (F 26) (G 6) (G 7) (G 8) (G 9) (G 10) (G 11) (G 12) (G 13) (G 14) (G 15) (G 16) (G 17) (G 18) (G 19) (G 27) (G 28) nC nT nR nD).2.1)).2.1))), (3, .int ((lf_M_walk_77 (F 21) (G 6) nC nT nR nD d sp ((mr_M_know (F 26) (G 6) (G 7) (G 8) (G 9) (G 10) (G 11) (G 12) (G 13) (G 14) (G 15) (G 16) (G 17) (G 18) (G 19) (G 27) (G 28) nC nT nR nD).2.2.1) ((mr_M_know (F 26) (G 6) (G 7) (G 8) (G 9) (G 10) (G 11) (G 12) (G 13) (G 14) (G 15) (G 16) (G 17) (G 18) (G 19) (G 27) (G 28) nC nT nR nD).2.2.2) (sp.toNatClampNeg + 1) d 0 (F 1) d 0 ((mr_M_know (F 26) (G 6) (G 7) (G 8) (G 9) (G 10) (G 11) (G 12) (G 13) (G 14) (G 15) (G 16) (G 17) (G 18) (G 19) (G 27) (G 28) nC nT nR nD).2.1)).1)), (0, .ref a), (1, .int d), (2, .int sp)] → W p l e ({ frames := 4, cells := 0, slots := 0, locals := 92 } : Room) s m args below meth c H locs 0 0 Q (F0 m 192 ls []) := by
            intro H locs hP hD hS ls hl
            refine lv_iload_n hx hb dM_walk_192 rfl (lv_at hl 1 rfl) ?_
            have em : mr_M_walk (F 1) (F 21) (F 22) (F 23) (F 26) (G 6) (G 7) (G 8) (G 9) (G 10) (G 11) (G 12) (G 13) (G 14) (G 15) (G 16) (G 17) (G 18) (G 19) (G 27) (G 28) nC nT nR nD d sp = ((lf_M_walk_77 (F 21) (G 6) nC nT nR nD d sp ((mr_M_know (F 26) (G 6) (G 7) (G 8) (G 9) (G 10) (G 11) (G 12) (G 13) (G 14) (G 15) (G 16) (G 17) (G 18) (G 19) (G 27) (G 28) nC nT nR nD).2.2.1) ((mr_M_know (F 26) (G 6) (G 7) (G 8) (G 9) (G 10) (G 11) (G 12) (G 13) (G 14) (G 15) (G 16) (G 17) (G 18) (G 19) (G 27) (G 28) nC nT nR nD).2.2.2) (sp.toNatClampNeg + 1) d 0 (F 1) d 0 ((mr_M_know (F 26) (G 6) (G 7) (G 8) (G 9) (G 10) (G 11) (G 12) (G 13) (G 14) (G 15) (G 16) (G 17) (G 18) (G 19) (G 27) (G 28) nC nT nR nD).2.1)).1, 0, (lf_M_walk_77 (F 21) (G 6) nC nT nR nD d sp ((mr_M_know (F 26) (G 6) (G 7) (G 8) (G 9) (G 10) (G 11) (G 12) (G 13) (G 14) (G 15) (G 16) (G 17) (G 18) (G 19) (G 27) (G 28) nC nT nR nD).2.2.1) ((mr_M_know (F 26) (G 6) (G 7) (G 8) (G 9) (G 10) (G 11) (G 12) (G 13) (G 14) (G 15) (G 16) (G 17) (G 18) (G 19) (G 27) (G 28) nC nT nR nD).2.2.2) (sp.toNatClampNeg + 1) d 0 (F 1) d 0 ((mr_M_know (F 26) (G 6) (G 7) (G 8) (G 9) (G 10) (G 11) (G 12) (G 13) (G 14) (G 15) (G 16) (G 17) (G 18) (G 19) (G 27) (G 28) nC nT nR nD).2.1)).2.2.1, (lf_M_walk_77 (F 21) (G 6) nC nT nR nD d sp ((mr_M_know (F 26) (G 6) (G 7) (G 8) (G 9) (G 10) (G 11) (G 12) (G 13) (G 14) (G 15) (G 16) (G 17) (G 18) (G 19) (G 27) (G 28) nC nT nR nD).2.2.1) ((mr_M_know (F 26) (G 6) (G 7) (G 8) (G 9) (G 10) (G 11) (G 12) (G 13) (G 14) (G 15) (G 16) (G 17) (G 18) (G 19) (G 27) (G 28) nC nT nR nD).2.2.2) (sp.toNatClampNeg + 1) d 0 (F 1) d 0 ((mr_M_know (F 26) (G 6) (G 7) (G 8) (G 9) (G 10) (G 11) (G 12) (G 13) (G 14) (G 15) (G 16) (G 17) (G 18) (G 19) (G 27) (G 28) nC nT nR nD).2.1)).2.2.2.1, (lf_M_walk_77 (F 21) (G 6) nC nT nR nD d sp ((mr_M_know (F 26) (G 6) (G 7) (G 8) (G 9) (G 10) (G 11) (G 12) (G 13) (G 14) (G 15) (G 16) (G 17) (G 18) (G 19) (G 27) (G 28) nC nT nR nD).2.2.1) ((mr_M_know (F 26) (G 6) (G 7) (G 8) (G 9) (G 10) (G 11) (G 12) (G 13) (G 14) (G 15) (G 16) (G 17) (G 18) (G 19) (G 27) (G 28) nC nT nR nD).2.2.2) (sp.toNatClampNeg + 1) d 0 (F 1) d 0 ((mr_M_know (F 26) (G 6) (G 7) (G 8) (G 9) (G 10) (G 11) (G 12) (G 13) (G 14) (G 15) (G 16) (G 17) (G 18) (G 19) (G 27) (G 28) nC nT nR nD).2.1)).2.2.2.2.1, (mr_M_know (F 26) (G 6) (G 7) (G 8) (G 9) (G 10) (G 11) (G 12) (G 13) (G 14) (G 15) (G 16) (G 17) (G 18) (G 19) (G 27) (G 28) nC nT nR nD).1, (lf_M_walk_77 (F 21) (G 6) nC nT nR nD d sp ((mr_M_know (F 26) (G 6) (G 7) (G 8) (G 9) (G 10) (G 11) (G 12) (G 13) (G 14) (G 15) (G 16) (G 17) (G 18) (G 19) (G 27) (G 28) nC nT nR nD).2.2.1) ((mr_M_know (F 26) (G 6) (G 7) (G 8) (G 9) (G 10) (G 11) (G 12) (G 13) (G 14) (G 15) (G 16) (G 17) (G 18) (G 19) (G 27) (G 28) nC nT nR nD).2.2.2) (sp.toNatClampNeg + 1) d 0 (F 1) d 0 ((mr_M_know (F 26) (G 6) (G 7) (G 8) (G 9) (G 10) (G 11) (G 12) (G 13) (G 14) (G 15) (G 16) (G 17) (G 18) (G 19) (G 27) (G 28) nC nT nR nD).2.1)).2.2.2.2.2, (mr_M_know (F 26) (G 6) (G 7) (G 8) (G 9) (G 10) (G 11) (G 12) (G 13) (G 14) (G 15) (G 16) (G 17) (G 18) (G 19) (G 27) (G 28) nC nT nR nD).2.2.1, (mr_M_know (F 26) (G 6) (G 7) (G 8) (G 9) (G 10) (G 11) (G 12) (G 13) (G 14) (G 15) (G 16) (G 17) (G 18) (G 19) (G 27) (G 28) nC nT nR nD).2.2.2) := by rw [mr_M_walk, if_neg c10, if_neg c29, if_neg c40, if_neg c53]
            exact hret _ _ _ _ _ _ (by simp only [em]) (by simp only [em]) hP hD hS dM_walk_193
          have loop77 : ∀ (N77 : Nat) (wa : Int32) (j : Nat) (x_ : Int32) (lo : Int32) (we : Int32) (r : Nat → Int32), (∃ j0 : Nat, j0 < nD ∧ wa = nI j0) → (∃ j0 : Nat, j0 < nD ∧ lo = nI j0) → j ≤ sp.toNatClampNeg → sp.toNatClampNeg - j < N77 → lf_M_walk_77 (F 21) (G 6) nC nT nR nD d sp ((mr_M_know (F 26) (G 6) (G 7) (G 8) (G 9) (G 10) (G 11) (G 12) (G 13) (G 14) (G 15) (G 16) (G 17) (G 18) (G 19) (G 27) (G 28) nC nT nR nD).2.2.1) ((mr_M_know (F 26) (G 6) (G 7) (G 8) (G 9) (G 10) (G 11) (G 12) (G 13) (G 14) (G 15) (G 16) (G 17) (G 18) (G 19) (G 27) (G 28) nC nT nR nD).2.2.2) (sp.toNatClampNeg + 1) d 0 (F 1) d 0 ((mr_M_know (F 26) (G 6) (G 7) (G 8) (G 9) (G 10) (G 11) (G 12) (G 13) (G 14) (G 15) (G 16) (G 17) (G 18) (G 19) (G 27) (G 28) nC nT nR nD).2.1) = lf_M_walk_77 (F 21) (G 6) nC nT nR nD d sp ((mr_M_know (F 26) (G 6) (G 7) (G 8) (G 9) (G 10) (G 11) (G 12) (G 13) (G 14) (G 15) (G 16) (G 17) (G 18) (G 19) (G 27) (G 28) nC nT nR nD).2.2.1) ((mr_M_know (F 26) (G 6) (G 7) (G 8) (G 9) (G 10) (G 11) (G 12) (G 13) (G 14) (G 15) (G 16) (G 17) (G 18) (G 19) (G 27) (G 28) nC nT nR nD).2.2.2) N77 wa j x_ lo we r → ∀ (H : Heap) (locs : List Loc), va_P D cl (mW a ba ka (upd (upd (upd (upd (upd F 0 0) 1 x_) 22 lo) 23 we) 26 ((mr_M_know (F 26) (G 6) (G 7) (G 8) (G 9) (G 10) (G 11) (G 12) (G 13) (G 14) (G 15) (G 16) (G 17) (G 18) (G 19) (G 27) (G 28) nC nT nR nD).1)) (va_up (va_up (va_up G 19 r) 27 ((mr_M_know (F 26) (G 6) (G 7) (G 8) (G 9) (G 10) (G 11) (G 12) (G 13) (G 14) (G 15) (G 16) (G 17) (G 18) (G 19) (G 27) (G 28) nC nT nR nD).2.2.1)) 28 ((mr_M_know (F 26) (G 6) (G 7) (G 8) (G 9) (G 10) (G 11) (G 12) (G 13) (G 14) (G 15) (G 16) (G 17) (G 18) (G 19) (G 27) (G 28) nC nT nR nD).2.2.2))) H → va_D A (mW a ba ka (upd (upd (upd (upd (upd F 0 0) 1 x_) 22 lo) 23 we) 26 ((mr_M_know (F 26) (G 6) (G 7) (G 8) (G 9) (G 10) (G 11) (G 12) (G 13) (G 14) (G 15) (G 16) (G 17) (G 18) (G 19) (G 27) (G 28) nC nT nR nD).1)) (va_up (va_up (va_up G 19 r) 27 ((mr_M_know (F 26) (G 6) (G 7) (G 8) (G 9) (G 10) (G 11) (G 12) (G 13) (G 14) (G 15) (G 16) (G 17) (G 18) (G 19) (G 27) (G 28) nC nT nR nD).2.2.1)) 28 ((mr_M_know (F 26) (G 6) (G 7) (G 8) (G 9) (G 10) (G 11) (G 12) (G 13) (G 14) (G 15) (G 16) (G 17) (G 18) (G 19) (G 27) (G 28) nC nT nR nD).2.2.2))) → va_S A H0 H locs → ∀ (ls : Array Slot), lv_has ls 6 [(4, .int (nI j)), (3, .int wa), (0, .ref a), (1, .int d), (2, .int sp)] → W p l e ({ frames := 4, cells := 0, slots := 0, locals := 92 } : Room) s m args below meth c H locs 0 0 Q (F0 m 77 ls []) := by
            intro N77
            induction N77 with
            | zero => intro wa j x_ lo we r hat hlo hj hm77; exact absurd hm77 (Nat.not_lt_zero _)
            | succ N77 ih77 =>
              intro wa j x_ lo we r hat hlo hj hm77 hR77 H locs hP hD hS ls hl
              have xa := ix_cl hat (by omega)
              have xl := ix_cl hlo (by omega)
              have ha2 := xa.2
              have hl2 := xl.2
              refine lv_iload hx hb dM_walk_77 (lv_at hl 0 rfl) ?_
              refine lv_iload_n hx hb dM_walk_79 rfl (lv_at hl 4 rfl) ?_
              refine wt_i (r := nI sp.toNatClampNeg) (by exact xp.1) ?_
              refine lv_icmp_ge (tgt := 192) hx hb dM_walk_80 (by decide) (fun c80 => ?_) (fun c80 => ?_)
              · have n80 : sp.toNatClampNeg ≤ j := (nI_leI (a := sp.toNatClampNeg) (b := j) (by omega) (by omega)).mp c80
                have er77 : lf_M_walk_77 (F 21) (G 6) nC nT nR nD d sp ((mr_M_know (F 26) (G 6) (G 7) (G 8) (G 9) (G 10) (G 11) (G 12) (G 13) (G 14) (G 15) (G 16) (G 17) (G 18) (G 19) (G 27) (G 28) nC nT nR nD).2.2.1) ((mr_M_know (F 26) (G 6) (G 7) (G 8) (G 9) (G 10) (G 11) (G 12) (G 13) (G 14) (G 15) (G 16) (G 17) (G 18) (G 19) (G 27) (G 28) nC nT nR nD).2.2.2) (N77 + 1) wa j x_ lo we r = (wa, j, x_, lo, we, r) := by rw [lf_M_walk_77, if_pos c80]
                rw [er77] at hR77
                exact ex77 H locs (by rw [hR77]; exact hP) (by rw [hR77]; exact hD) hS ls (by rw [hR77]; exact lv_sub hl [0, 1, 2, 3, 4] rfl)
              · have n80 : ¬ sp.toNatClampNeg ≤ j := fun h9 => c80 ((nI_leI (a := sp.toNatClampNeg) (b := j) (by omega) (by omega)).mpr h9)
                refine lv_aload_n hx hb dM_walk_83 rfl (lv_at hl 2 rfl) ?_
                refine lv_ldc hx hb hown k159 dM_walk_84 ?_
                refine lv_aload_n hx hb dM_walk_86 rfl (lv_at hl 2 rfl) ?_
                have ef87 : (upd (upd (upd (upd (upd F 0 0) 1 x_) 22 lo) 23 we) 26 ((mr_M_know (F 26) (G 6) (G 7) (G 8) (G 9) (G 10) (G 11) (G 12) (G 13) (G 14) (G 15) (G 16) (G 17) (G 18) (G 19) (G 27) (G 28) nC nT nR nD).1)) 1 = x_ := by rw [pk_un (k := 26) (j := 1) (by decide), pk_un (k := 23) (j := 1) (by decide), pk_un (k := 22) (j := 1) (by decide), pk_us]
                refine va_get (D := D) (ci := 0) (v := .int x_) (C := RM) (T := TM) (N := 29) hx hb hts inM_ hown hK hP 0 rfl hcl 1 (by decide) f67 (fun _ h9 => h9) (congrArg (fun z => some (Value.int z)) ef87) dM_walk_87 ?_
                refine lv_imul hx hb dM_walk_90 ?_
                refine lv_sipush (v := 12345) hx hb dM_walk_91 (by decide) ?_
                refine lv_iadd hx hb dM_walk_94 ?_
                refine lv_ldc hx hb hown k66 dM_walk_95 ?_
                refine lv_iand hx hb dM_walk_97 ?_
                refine wt_i (r := wx x_) (by rfl) ?_
                refine va_put (D := D) (ci := 0) (fs := mWl0 ba (upd (upd (upd (upd (upd F 0 0) 1 x_) 22 lo) 23 we) 26 ((mr_M_know (F 26) (G 6) (G 7) (G 8) (G 9) (G 10) (G 11) (G 12) (G 13) (G 14) (G 15) (G 16) (G 17) (G 18) (G 19) (G 27) (G 28) nC nT nR nD).1))) (v := .int (wx x_)) (ty := .int) (C := RM) (T := TM) (N := 29) hx hb hts inM_ tyM tyM_ok nmM hown hK hP hD hS 0 rfl hcl 1 (by decide) f67 (fun _ h9 => h9) rfl (by decide +kernel) rfl rfl (Nat.le_of_ble_eq_true rfl) dM_walk_98 (fun H locs hP hD hS => ?_)
                rw [mW_f1, upd_sw (i := 26) (j := 1) (by decide), upd_sw (i := 23) (j := 1) (by decide), upd_sw (i := 22) (j := 1) (by decide), upd_ow] at hP hD
                refine lv_aload_n hx hb dM_walk_101 rfl (lv_at hl 2 rfl) ?_
                refine lv_iload_n hx hb dM_walk_102 rfl (lv_at hl 1 rfl) ?_
                refine wt_i (r := nI (wa.toNatClampNeg)) (by exact xa.1) ?_
                refine lv_aload_n hx hb dM_walk_103 rfl (lv_at hl 2 rfl) ?_
                have ef104 : (upd (upd (upd (upd (upd F 0 0) 1 (wx x_)) 22 lo) 23 we) 26 ((mr_M_know (F 26) (G 6) (G 7) (G 8) (G 9) (G 10) (G 11) (G 12) (G 13) (G 14) (G 15) (G 16) (G 17) (G 18) (G 19) (G 27) (G 28) nC nT nR nD).1)) 1 = wx x_ := by rw [pk_un (k := 26) (j := 1) (by decide), pk_un (k := 23) (j := 1) (by decide), pk_un (k := 22) (j := 1) (by decide), pk_us]
                refine va_get (D := D) (ci := 0) (v := .int (wx x_)) (C := RM) (T := TM) (N := 29) hx hb hts inM_ hown hK hP 0 rfl hcl 1 (by decide) f67 (fun _ h9 => h9) (congrArg (fun z => some (Value.int z)) ef104) dM_walk_104 ?_
                refine lv_ldc hx hb hown k160 dM_walk_107 ?_
                have sd109 : ¬ (65536 : Int32) = 0 := by decide
                refine lv_idiv hx hb dM_walk_109 sd109 ?_
                refine lv_aload_n hx hb dM_walk_110 rfl (lv_at hl 2 rfl) ?_
                refine ro_callV (r := (.int (mr_M_nears (G 6) nC))) (As := []) (rest := [.int ((wx x_) / 65536), .int (nI (wa.toNatClampNeg)), .ref a]) Sx (c_M_nears l D cl hcl a ba ka (upd (upd (upd (upd (upd F 0 0) 1 (wx x_)) 22 lo) 23 we) 26 ((mr_M_know (F 26) (G 6) (G 7) (G 8) (G 9) (G 10) (G 11) (G 12) (G 13) (G 14) (G 15) (G 16) (G 17) (G 18) (G 19) (G 27) (G 28) nC nT nR nD).1)) (va_up (va_up (va_up G 19 r) 27 ((mr_M_know (F 26) (G 6) (G 7) (G 8) (G 9) (G 10) (G 11) (G 12) (G 13) (G 14) (G 15) (G 16) (G 17) (G 18) (G 19) (G 27) (G 28) nC nT nR nD).2.2.1)) 28 ((mr_M_know (F 26) (G 6) (G 7) (G 8) (G 9) (G 10) (G 11) (G 12) (G 13) (G 14) (G 15) (G 16) (G 17) (G 18) (G 19) (G 27) (G 28) nC nT nR nD).2.2.2)) hP nC h2 hC) (cwV 0 hts gM_walk_M_nears rfl rfl rfl (by decide +kernel) ⟨Nat.le_of_ble_eq_true rfl, Nat.le_of_ble_eq_true rfl⟩) hK (va_recv hK hP (ci := 0) (q0 := 0) hcl rfl) rfl hl.1 rfl (Nat.le_of_ble_eq_true rfl) dM_walk_111 ⟨Nat.zero_le _, Nat.zero_le _⟩ ?_
                have sd114 : ¬ (mr_M_nears (G 6) nC) = 0 := by rw [nears_num h6]; exact nI_ne0 (by omega) (by omega)
                refine lv_irem hx hb dM_walk_114 sd114 ?_
                refine wt_i (r := nI (dw (G 6) nC (wx x_))) (by exact dw_eq (nears_num h6) (by omega) (by omega)) ?_
                refine ww_callV (r := (some (.int ((mr_M_nearOf (G 6) r nC (wa.toNatClampNeg) (nI (dw (G 6) nC (wx x_)))).1)))) (w' := mW a ba ka (upd (upd (upd (upd (upd F 0 0) 1 (wx x_)) 22 lo) 23 we) 26 ((mr_M_know (F 26) (G 6) (G 7) (G 8) (G 9) (G 10) (G 11) (G 12) (G 13) (G 14) (G 15) (G 16) (G 17) (G 18) (G 19) (G 27) (G 28) nC nT nR nD).1)) (va_up (va_up (va_up (va_up G 19 r) 27 ((mr_M_know (F 26) (G 6) (G 7) (G 8) (G 9) (G 10) (G 11) (G 12) (G 13) (G 14) (G 15) (G 16) (G 17) (G 18) (G 19) (G 27) (G 28) nC nT nR nD).2.2.1)) 28 ((mr_M_know (F 26) (G 6) (G 7) (G 8) (G 9) (G 10) (G 11) (G 12) (G 13) (G 14) (G 15) (G 16) (G 17) (G 18) (G 19) (G 27) (G 28) nC nT nR nD).2.2.2)) 19 ((mr_M_nearOf (G 6) r nC (wa.toNatClampNeg) (nI (dw (G 6) nC (wx x_)))).2))) (As := [.int (nI (wa.toNatClampNeg)), .int (nI (dw (G 6) nC (wx x_)))]) (rest := []) Sx (c_M_nearOf l D cl hcl a ba ka (upd (upd (upd (upd (upd F 0 0) 1 (wx x_)) 22 lo) 23 we) 26 ((mr_M_know (F 26) (G 6) (G 7) (G 8) (G 9) (G 10) (G 11) (G 12) (G 13) (G 14) (G 15) (G 16) (G 17) (G 18) (G 19) (G 27) (G 28) nC nT nR nD).1)) (va_up (va_up (va_up G 19 r) 27 ((mr_M_know (F 26) (G 6) (G 7) (G 8) (G 9) (G 10) (G 11) (G 12) (G 13) (G 14) (G 15) (G 16) (G 17) (G 18) (G 19) (G 27) (G 28) nC nT nR nD).2.2.1)) 28 ((mr_M_know (F 26) (G 6) (G 7) (G 8) (G 9) (G 10) (G 11) (G 12) (G 13) (G 14) (G 15) (G 16) (G 17) (G 18) (G 19) (G 27) (G 28) nC nT nR nD).2.2.2)) hP (hD.weaken (fun _ _ _ _ => trivial)) nC (wa.toNatClampNeg) (nI (dw (G 6) nC (wx x_))) h2 hC h6) (cwV 2 hts gM_walk_M_nearOf rfl rfl rfl (by decide +kernel) ⟨Nat.le_of_ble_eq_true rfl, Nat.le_of_ble_eq_true rfl⟩) hK (va_recv hK hP (ci := 0) (q0 := 0) hcl rfl) rfl hl.1 rfl (Nat.le_of_ble_eq_true rfl) dM_walk_115 ⟨Nat.zero_le _, Nat.zero_le _⟩ hD hS hA (fun H locs hP hD hS => ?_)
                rw [vup_sw (i := 28) (j := 19) (by decide), vup_sw (i := 27) (j := 19) (by decide), vup_ow] at hP hD
                have hto : ∃ j0 : Nat, j0 < nD ∧ (mr_M_nearOf (G 6) r nC (wa.toNatClampNeg) (nI (dw (G 6) nC (wx x_)))).1 = nI j0 := by rw [← hmp]; exact near_lt hC h6 (by omega) (dw_lt (by omega))
                have xt := ix_cl hto (by omega)
                have ht2 := xt.2
                refine lv_istore (lv' := [(5, .int ((mr_M_nearOf (G 6) r nC (wa.toNatClampNeg) (nI (dw (G 6) nC (wx x_)))).1)), (4, .int (nI j)), (3, .int wa), (0, .ref a), (1, .int d), (2, .int sp)]) hx hb dM_walk_118 hl (by decide) rfl (fun ls hl => ?_)
                refine lv_aload_n hx hb dM_walk_120 rfl (lv_at hl 3 rfl) ?_
                refine va_get (D := D) (ci := 0) (v := .ref (ba 27)) (C := RM) (T := TM) (N := 29) hx hb hts inM_ hown hK hP 0 rfl hcl 27 (by decide) f60 (fun _ h9 => h9) rfl dM_walk_121 ?_
                refine lv_iload hx hb dM_walk_124 (lv_at hl 0 rfl) ?_
                refine wt_i (r := nI (((mr_M_nearOf (G 6) r nC (wa.toNatClampNeg) (nI (dw (G 6) nC (wx x_)))).1).toNatClampNeg)) (by exact xt.1) ?_
                have sd126 : (((mr_M_nearOf (G 6) r nC (wa.toNatClampNeg) (nI (dw (G 6) nC (wx x_)))).1).toNatClampNeg) < 4096 := by omega
                have eg126 : (va_up (va_up (va_up G 19 ((mr_M_nearOf (G 6) r nC (wa.toNatClampNeg) (nI (dw (G 6) nC (wx x_)))).2)) 27 ((mr_M_know (F 26) (G 6) (G 7) (G 8) (G 9) (G 10) (G 11) (G 12) (G 13) (G 14) (G 15) (G 16) (G 17) (G 18) (G 19) (G 27) (G 28) nC nT nR nD).2.2.1)) 28 ((mr_M_know (F 26) (G 6) (G 7) (G 8) (G 9) (G 10) (G 11) (G 12) (G 13) (G 14) (G 15) (G 16) (G 17) (G 18) (G 19) (G 27) (G 28) nC nT nR nD).2.2.2)) 27 = (mr_M_know (F 26) (G 6) (G 7) (G 8) (G 9) (G 10) (G 11) (G 12) (G 13) (G 14) (G 15) (G 16) (G 17) (G 18) (G 19) (G 27) (G 28) nC nT nR nD).2.2.1 := by rw [vup_un (k := 28) (j := 27) (by decide), vup_us]
                refine wn_zald (f := (mr_M_know (F 26) (G 6) (G 7) (G 8) (G 9) (G 10) (G 11) (G 12) (G 13) (G 14) (G 15) (G 16) (G 17) (G 18) (G 19) (G 27) (G 28) nC nT nR nD).2.2.1) hx hb hK hP 15 14 (congrArg (fun z : Nat → Int32 => (some ((ba 27), (.inl ((ka 27), 4096, .inl z) : va_E)) : Option (Nat × va_E))) eg126) rfl (((mr_M_nearOf (G 6) r nC (wa.toNatClampNeg) (nI (dw (G 6) nC (wx x_)))).1).toNatClampNeg) rfl sd126 (by decide) dM_walk_126 ?_
                refine lv_if_eq (tgt := 186) hx hb dM_walk_127 (by decide) (fun c127 => ?_) (fun c127 => ?_)
                · refine lv_iinc (v := nI (j + 1)) (lv' := [(4, .int (nI (j + 1))), (5, .int ((mr_M_nearOf (G 6) r nC (wa.toNatClampNeg) (nI (dw (G 6) nC (wx x_)))).1)), (3, .int wa), (0, .ref a), (1, .int d), (2, .int sp)]) hx hb dM_walk_186 hl (k := 1) rfl (by exact ii_1 j) (by decide) rfl (fun ls hl => ?_)
                  refine lv_goto (tgt := 77) hx hb dM_walk_189 (by decide) ?_
                  have er77 : lf_M_walk_77 (F 21) (G 6) nC nT nR nD d sp ((mr_M_know (F 26) (G 6) (G 7) (G 8) (G 9) (G 10) (G 11) (G 12) (G 13) (G 14) (G 15) (G 16) (G 17) (G 18) (G 19) (G 27) (G 28) nC nT nR nD).2.2.1) ((mr_M_know (F 26) (G 6) (G 7) (G 8) (G 9) (G 10) (G 11) (G 12) (G 13) (G 14) (G 15) (G 16) (G 17) (G 18) (G 19) (G 27) (G 28) nC nT nR nD).2.2.2) (N77 + 1) wa j x_ lo we r = lf_M_walk_77 (F 21) (G 6) nC nT nR nD d sp ((mr_M_know (F 26) (G 6) (G 7) (G 8) (G 9) (G 10) (G 11) (G 12) (G 13) (G 14) (G 15) (G 16) (G 17) (G 18) (G 19) (G 27) (G 28) nC nT nR nD).2.2.1) ((mr_M_know (F 26) (G 6) (G 7) (G 8) (G 9) (G 10) (G 11) (G 12) (G 13) (G 14) (G 15) (G 16) (G 17) (G 18) (G 19) (G 27) (G 28) nC nT nR nD).2.2.2) N77 wa (j + 1) (wx x_) lo we ((mr_M_nearOf (G 6) r nC (wa.toNatClampNeg) (nI (dw (G 6) nC (wx x_)))).2) := by rw [lf_M_walk_77, if_neg c80, if_pos c127]
                  exact ih77 wa (j + 1) (wx x_) lo we ((mr_M_nearOf (G 6) r nC (wa.toNatClampNeg) (nI (dw (G 6) nC (wx x_)))).2) (by first | exact hto | exact hat) (by first | exact hto | exact hlo) (by omega) (by omega) (hR77.trans er77) H locs hP hD hS ls (lv_sub hl [0, 2, 3, 4, 5] rfl)
                · refine lv_aload_n hx hb dM_walk_130 rfl (lv_at hl 3 rfl) ?_
                  refine lv_iload hx hb dM_walk_131 (lv_at hl 0 rfl) ?_
                  refine wt_i (r := nI (((mr_M_nearOf (G 6) r nC (wa.toNatClampNeg) (nI (dw (G 6) nC (wx x_)))).1).toNatClampNeg)) (by exact xt.1) ?_
                  refine ro_callV (r := (.long (mr_M_cost ((mr_M_know (F 26) (G 6) (G 7) (G 8) (G 9) (G 10) (G 11) (G 12) (G 13) (G 14) (G 15) (G 16) (G 17) (G 18) (G 19) (G 27) (G 28) nC nT nR nD).2.2.2) (((mr_M_nearOf (G 6) r nC (wa.toNatClampNeg) (nI (dw (G 6) nC (wx x_)))).1).toNatClampNeg)))) (As := [.int (nI (((mr_M_nearOf (G 6) r nC (wa.toNatClampNeg) (nI (dw (G 6) nC (wx x_)))).1).toNatClampNeg))]) (rest := []) Sx (c_M_cost l D cl hcl a ba ka (upd (upd (upd (upd (upd F 0 0) 1 (wx x_)) 22 lo) 23 we) 26 ((mr_M_know (F 26) (G 6) (G 7) (G 8) (G 9) (G 10) (G 11) (G 12) (G 13) (G 14) (G 15) (G 16) (G 17) (G 18) (G 19) (G 27) (G 28) nC nT nR nD).1)) (va_up (va_up (va_up G 19 ((mr_M_nearOf (G 6) r nC (wa.toNatClampNeg) (nI (dw (G 6) nC (wx x_)))).2)) 27 ((mr_M_know (F 26) (G 6) (G 7) (G 8) (G 9) (G 10) (G 11) (G 12) (G 13) (G 14) (G 15) (G 16) (G 17) (G 18) (G 19) (G 27) (G 28) nC nT nR nD).2.2.1)) 28 ((mr_M_know (F 26) (G 6) (G 7) (G 8) (G 9) (G 10) (G 11) (G 12) (G 13) (G 14) (G 15) (G 16) (G 17) (G 18) (G 19) (G 27) (G 28) nC nT nR nD).2.2.2)) hP (((mr_M_nearOf (G 6) r nC (wa.toNatClampNeg) (nI (dw (G 6) nC (wx x_)))).1).toNatClampNeg) (by omega)) (cwV 1 hts gM_walk_M_cost rfl rfl rfl (by decide +kernel) ⟨Nat.le_of_ble_eq_true rfl, Nat.le_of_ble_eq_true rfl⟩) hK (va_recv hK hP (ci := 0) (q0 := 0) hcl rfl) rfl hl.1 rfl (Nat.le_of_ble_eq_true rfl) dM_walk_133 ⟨Nat.zero_le _, Nat.zero_le _⟩ ?_
                  refine lv_aload_n hx hb dM_walk_136 rfl (lv_at hl 3 rfl) ?_
                  refine lv_iload_n hx hb dM_walk_137 rfl (lv_at hl 2 rfl) ?_
                  refine wt_i (r := nI (wa.toNatClampNeg)) (by exact xa.1) ?_
                  refine ro_callV (r := (.long (mr_M_cost ((mr_M_know (F 26) (G 6) (G 7) (G 8) (G 9) (G 10) (G 11) (G 12) (G 13) (G 14) (G 15) (G 16) (G 17) (G 18) (G 19) (G 27) (G 28) nC nT nR nD).2.2.2) (wa.toNatClampNeg)))) (As := [.int (nI (wa.toNatClampNeg))]) (rest := [.long (mr_M_cost ((mr_M_know (F 26) (G 6) (G 7) (G 8) (G 9) (G 10) (G 11) (G 12) (G 13) (G 14) (G 15) (G 16) (G 17) (G 18) (G 19) (G 27) (G 28) nC nT nR nD).2.2.2) (((mr_M_nearOf (G 6) r nC (wa.toNatClampNeg) (nI (dw (G 6) nC (wx x_)))).1).toNatClampNeg))]) Sx (c_M_cost l D cl hcl a ba ka (upd (upd (upd (upd (upd F 0 0) 1 (wx x_)) 22 lo) 23 we) 26 ((mr_M_know (F 26) (G 6) (G 7) (G 8) (G 9) (G 10) (G 11) (G 12) (G 13) (G 14) (G 15) (G 16) (G 17) (G 18) (G 19) (G 27) (G 28) nC nT nR nD).1)) (va_up (va_up (va_up G 19 ((mr_M_nearOf (G 6) r nC (wa.toNatClampNeg) (nI (dw (G 6) nC (wx x_)))).2)) 27 ((mr_M_know (F 26) (G 6) (G 7) (G 8) (G 9) (G 10) (G 11) (G 12) (G 13) (G 14) (G 15) (G 16) (G 17) (G 18) (G 19) (G 27) (G 28) nC nT nR nD).2.2.1)) 28 ((mr_M_know (F 26) (G 6) (G 7) (G 8) (G 9) (G 10) (G 11) (G 12) (G 13) (G 14) (G 15) (G 16) (G 17) (G 18) (G 19) (G 27) (G 28) nC nT nR nD).2.2.2)) hP (wa.toNatClampNeg) (by omega)) (cwV 1 hts gM_walk_M_cost rfl rfl rfl (by decide +kernel) ⟨Nat.le_of_ble_eq_true rfl, Nat.le_of_ble_eq_true rfl⟩) hK (va_recv hK hP (ci := 0) (q0 := 0) hcl rfl) rfl hl.1 rfl (Nat.le_of_ble_eq_true rfl) dM_walk_138 ⟨Nat.zero_le _, Nat.zero_le _⟩ ?_
                  refine lv_aload_n hx hb dM_walk_141 rfl (lv_at hl 3 rfl) ?_
                  refine va_get (D := D) (ci := 0) (v := .int (F 21)) (C := RM) (T := TM) (N := 29) hx hb hts inM_ hown hK hP 0 rfl hcl 21 (by decide) f153 (fun _ h9 => h9) rfl dM_walk_142 ?_
                  refine lv_i2l hx hb dM_walk_145 rfl ?_
                  refine lv_ladd hx hb dM_walk_146 ?_
                  refine W.lcmp hx hb dM_walk_147 ?_
                  refine lv_if_gt (tgt := 186) hx hb dM_walk_148 (by decide) (fun c148 => ?_) (fun c148 => ?_)
                  · refine lv_iinc (v := nI (j + 1)) (lv' := [(4, .int (nI (j + 1))), (5, .int ((mr_M_nearOf (G 6) r nC (wa.toNatClampNeg) (nI (dw (G 6) nC (wx x_)))).1)), (3, .int wa), (0, .ref a), (1, .int d), (2, .int sp)]) hx hb dM_walk_186 hl (k := 1) rfl (by exact ii_1 j) (by decide) rfl (fun ls hl => ?_)
                    refine lv_goto (tgt := 77) hx hb dM_walk_189 (by decide) ?_
                    have er77 : lf_M_walk_77 (F 21) (G 6) nC nT nR nD d sp ((mr_M_know (F 26) (G 6) (G 7) (G 8) (G 9) (G 10) (G 11) (G 12) (G 13) (G 14) (G 15) (G 16) (G 17) (G 18) (G 19) (G 27) (G 28) nC nT nR nD).2.2.1) ((mr_M_know (F 26) (G 6) (G 7) (G 8) (G 9) (G 10) (G 11) (G 12) (G 13) (G 14) (G 15) (G 16) (G 17) (G 18) (G 19) (G 27) (G 28) nC nT nR nD).2.2.2) (N77 + 1) wa j x_ lo we r = lf_M_walk_77 (F 21) (G 6) nC nT nR nD d sp ((mr_M_know (F 26) (G 6) (G 7) (G 8) (G 9) (G 10) (G 11) (G 12) (G 13) (G 14) (G 15) (G 16) (G 17) (G 18) (G 19) (G 27) (G 28) nC nT nR nD).2.2.1) ((mr_M_know (F 26) (G 6) (G 7) (G 8) (G 9) (G 10) (G 11) (G 12) (G 13) (G 14) (G 15) (G 16) (G 17) (G 18) (G 19) (G 27) (G 28) nC nT nR nD).2.2.2) N77 wa (j + 1) (wx x_) lo we ((mr_M_nearOf (G 6) r nC (wa.toNatClampNeg) (nI (dw (G 6) nC (wx x_)))).2) := by rw [lf_M_walk_77, if_neg c80, if_neg c127, if_pos c148]
                    exact ih77 wa (j + 1) (wx x_) lo we ((mr_M_nearOf (G 6) r nC (wa.toNatClampNeg) (nI (dw (G 6) nC (wx x_)))).2) (by first | exact hto | exact hat) (by first | exact hto | exact hlo) (by omega) (by omega) (hR77.trans er77) H locs hP hD hS ls (lv_sub hl [0, 2, 3, 4, 5] rfl)
                  · refine lv_iload hx hb dM_walk_151 (lv_at hl 0 rfl) ?_
                    refine lv_istore_n (lv' := [(3, .int ((mr_M_nearOf (G 6) r nC (wa.toNatClampNeg) (nI (dw (G 6) nC (wx x_)))).1)), (5, .int ((mr_M_nearOf (G 6) r nC (wa.toNatClampNeg) (nI (dw (G 6) nC (wx x_)))).1)), (4, .int (nI j)), (0, .ref a), (1, .int d), (2, .int sp)]) hx hb dM_walk_153 rfl hl (by decide) rfl (fun ls hl => ?_)
                    refine lv_aload_n hx hb dM_walk_154 rfl (lv_at hl 3 rfl) ?_
                    refine lv_dup hx hb dM_walk_155 rfl ?_
                    have ef156 : (upd (upd (upd (upd (upd F 0 0) 1 (wx x_)) 22 lo) 23 we) 26 ((mr_M_know (F 26) (G 6) (G 7) (G 8) (G 9) (G 10) (G 11) (G 12) (G 13) (G 14) (G 15) (G 16) (G 17) (G 18) (G 19) (G 27) (G 28) nC nT nR nD).1)) 23 = we := by rw [pk_un (k := 26) (j := 23) (by decide), pk_us]
                    refine va_get (D := D) (ci := 0) (v := .int we) (C := RM) (T := TM) (N := 29) hx hb hts inM_ hown hK hP 0 rfl hcl 23 (by decide) f156 (fun _ h9 => h9) (congrArg (fun z => some (Value.int z)) ef156) dM_walk_156 ?_
                    refine lv_iconst (v := 1) hx hb dM_walk_159 (by decide) ?_
                    refine lv_iadd hx hb dM_walk_160 ?_
                    refine va_put (D := D) (ci := 0) (fs := mWl0 ba (upd (upd (upd (upd (upd F 0 0) 1 (wx x_)) 22 lo) 23 we) 26 ((mr_M_know (F 26) (G 6) (G 7) (G 8) (G 9) (G 10) (G 11) (G 12) (G 13) (G 14) (G 15) (G 16) (G 17) (G 18) (G 19) (G 27) (G 28) nC nT nR nD).1))) (v := .int (we + 1)) (ty := .int) (C := RM) (T := TM) (N := 29) hx hb hts inM_ tyM tyM_ok nmM hown hK hP hD hS 0 rfl hcl 23 (by decide) f156 (fun _ h9 => h9) rfl (by decide +kernel) rfl rfl (Nat.le_of_ble_eq_true rfl) dM_walk_161 (fun H locs hP hD hS => ?_)
                    rw [mW_f23, upd_sw (i := 26) (j := 23) (by decide), upd_ow] at hP hD
                    refine lv_aload_n hx hb dM_walk_164 rfl (lv_at hl 3 rfl) ?_
                    refine lv_iload_n hx hb dM_walk_165 rfl (lv_at hl 0 rfl) ?_
                    refine wt_i (r := nI (((mr_M_nearOf (G 6) r nC (wa.toNatClampNeg) (nI (dw (G 6) nC (wx x_)))).1).toNatClampNeg)) (by exact xt.1) ?_
                    refine ro_callV (r := (.long (mr_M_cost ((mr_M_know (F 26) (G 6) (G 7) (G 8) (G 9) (G 10) (G 11) (G 12) (G 13) (G 14) (G 15) (G 16) (G 17) (G 18) (G 19) (G 27) (G 28) nC nT nR nD).2.2.2) (((mr_M_nearOf (G 6) r nC (wa.toNatClampNeg) (nI (dw (G 6) nC (wx x_)))).1).toNatClampNeg)))) (As := [.int (nI (((mr_M_nearOf (G 6) r nC (wa.toNatClampNeg) (nI (dw (G 6) nC (wx x_)))).1).toNatClampNeg))]) (rest := []) Sx (c_M_cost l D cl hcl a ba ka (upd (upd (upd (upd (upd F 0 0) 1 (wx x_)) 22 lo) 23 (we + 1)) 26 ((mr_M_know (F 26) (G 6) (G 7) (G 8) (G 9) (G 10) (G 11) (G 12) (G 13) (G 14) (G 15) (G 16) (G 17) (G 18) (G 19) (G 27) (G 28) nC nT nR nD).1)) (va_up (va_up (va_up G 19 ((mr_M_nearOf (G 6) r nC (wa.toNatClampNeg) (nI (dw (G 6) nC (wx x_)))).2)) 27 ((mr_M_know (F 26) (G 6) (G 7) (G 8) (G 9) (G 10) (G 11) (G 12) (G 13) (G 14) (G 15) (G 16) (G 17) (G 18) (G 19) (G 27) (G 28) nC nT nR nD).2.2.1)) 28 ((mr_M_know (F 26) (G 6) (G 7) (G 8) (G 9) (G 10) (G 11) (G 12) (G 13) (G 14) (G 15) (G 16) (G 17) (G 18) (G 19) (G 27) (G 28) nC nT nR nD).2.2.2)) hP (((mr_M_nearOf (G 6) r nC (wa.toNatClampNeg) (nI (dw (G 6) nC (wx x_)))).1).toNatClampNeg) (by omega)) (cwV 1 hts gM_walk_M_cost rfl rfl rfl (by decide +kernel) ⟨Nat.le_of_ble_eq_true rfl, Nat.le_of_ble_eq_true rfl⟩) hK (va_recv hK hP (ci := 0) (q0 := 0) hcl rfl) rfl hl.1 rfl (Nat.le_of_ble_eq_true rfl) dM_walk_166 ⟨Nat.zero_le _, Nat.zero_le _⟩ ?_
                    refine lv_aload_n hx hb dM_walk_169 rfl (lv_at hl 3 rfl) ?_
                    refine lv_aload_n hx hb dM_walk_170 rfl (lv_at hl 3 rfl) ?_
                    have ef171 : (upd (upd (upd (upd (upd F 0 0) 1 (wx x_)) 22 lo) 23 (we + 1)) 26 ((mr_M_know (F 26) (G 6) (G 7) (G 8) (G 9) (G 10) (G 11) (G 12) (G 13) (G 14) (G 15) (G 16) (G 17) (G 18) (G 19) (G 27) (G 28) nC nT nR nD).1)) 22 = lo := by rw [pk_un (k := 26) (j := 22) (by decide), pk_un (k := 23) (j := 22) (by decide), pk_us]
                    refine va_get (D := D) (ci := 0) (v := .int lo) (C := RM) (T := TM) (N := 29) hx hb hts inM_ hown hK hP 0 rfl hcl 22 (by decide) f57 (fun _ h9 => h9) (congrArg (fun z => some (Value.int z)) ef171) dM_walk_171 ?_
                    refine wt_i (r := nI (lo.toNatClampNeg)) (by exact xl.1) ?_
                    refine ro_callV (r := (.long (mr_M_cost ((mr_M_know (F 26) (G 6) (G 7) (G 8) (G 9) (G 10) (G 11) (G 12) (G 13) (G 14) (G 15) (G 16) (G 17) (G 18) (G 19) (G 27) (G 28) nC nT nR nD).2.2.2) (lo.toNatClampNeg)))) (As := [.int (nI (lo.toNatClampNeg))]) (rest := [.long (mr_M_cost ((mr_M_know (F 26) (G 6) (G 7) (G 8) (G 9) (G 10) (G 11) (G 12) (G 13) (G 14) (G 15) (G 16) (G 17) (G 18) (G 19) (G 27) (G 28) nC nT nR nD).2.2.2) (((mr_M_nearOf (G 6) r nC (wa.toNatClampNeg) (nI (dw (G 6) nC (wx x_)))).1).toNatClampNeg))]) Sx (c_M_cost l D cl hcl a ba ka (upd (upd (upd (upd (upd F 0 0) 1 (wx x_)) 22 lo) 23 (we + 1)) 26 ((mr_M_know (F 26) (G 6) (G 7) (G 8) (G 9) (G 10) (G 11) (G 12) (G 13) (G 14) (G 15) (G 16) (G 17) (G 18) (G 19) (G 27) (G 28) nC nT nR nD).1)) (va_up (va_up (va_up G 19 ((mr_M_nearOf (G 6) r nC (wa.toNatClampNeg) (nI (dw (G 6) nC (wx x_)))).2)) 27 ((mr_M_know (F 26) (G 6) (G 7) (G 8) (G 9) (G 10) (G 11) (G 12) (G 13) (G 14) (G 15) (G 16) (G 17) (G 18) (G 19) (G 27) (G 28) nC nT nR nD).2.2.1)) 28 ((mr_M_know (F 26) (G 6) (G 7) (G 8) (G 9) (G 10) (G 11) (G 12) (G 13) (G 14) (G 15) (G 16) (G 17) (G 18) (G 19) (G 27) (G 28) nC nT nR nD).2.2.2)) hP (lo.toNatClampNeg) (by omega)) (cwV 1 hts gM_walk_M_cost rfl rfl rfl (by decide +kernel) ⟨Nat.le_of_ble_eq_true rfl, Nat.le_of_ble_eq_true rfl⟩) hK (va_recv hK hP (ci := 0) (q0 := 0) hcl rfl) rfl hl.1 rfl (Nat.le_of_ble_eq_true rfl) dM_walk_174 ⟨Nat.zero_le _, Nat.zero_le _⟩ ?_
                    refine W.lcmp hx hb dM_walk_177 ?_
                    refine lv_if_ge (tgt := 186) hx hb dM_walk_178 (by decide) (fun c178 => ?_) (fun c178 => ?_)
                    · refine lv_iinc (v := nI (j + 1)) (lv' := [(4, .int (nI (j + 1))), (3, .int ((mr_M_nearOf (G 6) r nC (wa.toNatClampNeg) (nI (dw (G 6) nC (wx x_)))).1)), (5, .int ((mr_M_nearOf (G 6) r nC (wa.toNatClampNeg) (nI (dw (G 6) nC (wx x_)))).1)), (0, .ref a), (1, .int d), (2, .int sp)]) hx hb dM_walk_186 hl (k := 2) rfl (by exact ii_1 j) (by decide) rfl (fun ls hl => ?_)
                      refine lv_goto (tgt := 77) hx hb dM_walk_189 (by decide) ?_
                      have er77 : lf_M_walk_77 (F 21) (G 6) nC nT nR nD d sp ((mr_M_know (F 26) (G 6) (G 7) (G 8) (G 9) (G 10) (G 11) (G 12) (G 13) (G 14) (G 15) (G 16) (G 17) (G 18) (G 19) (G 27) (G 28) nC nT nR nD).2.2.1) ((mr_M_know (F 26) (G 6) (G 7) (G 8) (G 9) (G 10) (G 11) (G 12) (G 13) (G 14) (G 15) (G 16) (G 17) (G 18) (G 19) (G 27) (G 28) nC nT nR nD).2.2.2) (N77 + 1) wa j x_ lo we r = lf_M_walk_77 (F 21) (G 6) nC nT nR nD d sp ((mr_M_know (F 26) (G 6) (G 7) (G 8) (G 9) (G 10) (G 11) (G 12) (G 13) (G 14) (G 15) (G 16) (G 17) (G 18) (G 19) (G 27) (G 28) nC nT nR nD).2.2.1) ((mr_M_know (F 26) (G 6) (G 7) (G 8) (G 9) (G 10) (G 11) (G 12) (G 13) (G 14) (G 15) (G 16) (G 17) (G 18) (G 19) (G 27) (G 28) nC nT nR nD).2.2.2) N77 ((mr_M_nearOf (G 6) r nC (wa.toNatClampNeg) (nI (dw (G 6) nC (wx x_)))).1) (j + 1) (wx x_) lo (we + 1) ((mr_M_nearOf (G 6) r nC (wa.toNatClampNeg) (nI (dw (G 6) nC (wx x_)))).2) := by rw [lf_M_walk_77, if_neg c80, if_neg c127, if_neg c148, if_pos c178]
                      exact ih77 ((mr_M_nearOf (G 6) r nC (wa.toNatClampNeg) (nI (dw (G 6) nC (wx x_)))).1) (j + 1) (wx x_) lo (we + 1) ((mr_M_nearOf (G 6) r nC (wa.toNatClampNeg) (nI (dw (G 6) nC (wx x_)))).2) (by first | exact hto | exact hat) (by first | exact hto | exact hlo) (by omega) (by omega) (hR77.trans er77) H locs hP hD hS ls (lv_sub hl [0, 1, 3, 4, 5] rfl)
                    · refine lv_aload_n hx hb dM_walk_181 rfl (lv_at hl 3 rfl) ?_
                      refine lv_iload_n hx hb dM_walk_182 rfl (lv_at hl 0 rfl) ?_
                      refine va_put (D := D) (ci := 0) (fs := mWl0 ba (upd (upd (upd (upd (upd F 0 0) 1 (wx x_)) 22 lo) 23 (we + 1)) 26 ((mr_M_know (F 26) (G 6) (G 7) (G 8) (G 9) (G 10) (G 11) (G 12) (G 13) (G 14) (G 15) (G 16) (G 17) (G 18) (G 19) (G 27) (G 28) nC nT nR nD).1))) (v := .int ((mr_M_nearOf (G 6) r nC (wa.toNatClampNeg) (nI (dw (G 6) nC (wx x_)))).1)) (ty := .int) (C := RM) (T := TM) (N := 29) hx hb hts inM_ tyM tyM_ok nmM hown hK hP hD hS 0 rfl hcl 22 (by decide) f57 (fun _ h9 => h9) rfl (by decide +kernel) rfl rfl (Nat.le_of_ble_eq_true rfl) dM_walk_183 (fun H locs hP hD hS => ?_)
                      rw [mW_f22, upd_sw (i := 26) (j := 22) (by decide), upd_sw (i := 23) (j := 22) (by decide), upd_ow] at hP hD
                      refine lv_iinc (v := nI (j + 1)) (lv' := [(4, .int (nI (j + 1))), (3, .int ((mr_M_nearOf (G 6) r nC (wa.toNatClampNeg) (nI (dw (G 6) nC (wx x_)))).1)), (5, .int ((mr_M_nearOf (G 6) r nC (wa.toNatClampNeg) (nI (dw (G 6) nC (wx x_)))).1)), (0, .ref a), (1, .int d), (2, .int sp)]) hx hb dM_walk_186 hl (k := 2) rfl (by exact ii_1 j) (by decide) rfl (fun ls hl => ?_)
                      refine lv_goto (tgt := 77) hx hb dM_walk_189 (by decide) ?_
                      have er77 : lf_M_walk_77 (F 21) (G 6) nC nT nR nD d sp ((mr_M_know (F 26) (G 6) (G 7) (G 8) (G 9) (G 10) (G 11) (G 12) (G 13) (G 14) (G 15) (G 16) (G 17) (G 18) (G 19) (G 27) (G 28) nC nT nR nD).2.2.1) ((mr_M_know (F 26) (G 6) (G 7) (G 8) (G 9) (G 10) (G 11) (G 12) (G 13) (G 14) (G 15) (G 16) (G 17) (G 18) (G 19) (G 27) (G 28) nC nT nR nD).2.2.2) (N77 + 1) wa j x_ lo we r = lf_M_walk_77 (F 21) (G 6) nC nT nR nD d sp ((mr_M_know (F 26) (G 6) (G 7) (G 8) (G 9) (G 10) (G 11) (G 12) (G 13) (G 14) (G 15) (G 16) (G 17) (G 18) (G 19) (G 27) (G 28) nC nT nR nD).2.2.1) ((mr_M_know (F 26) (G 6) (G 7) (G 8) (G 9) (G 10) (G 11) (G 12) (G 13) (G 14) (G 15) (G 16) (G 17) (G 18) (G 19) (G 27) (G 28) nC nT nR nD).2.2.2) N77 ((mr_M_nearOf (G 6) r nC (wa.toNatClampNeg) (nI (dw (G 6) nC (wx x_)))).1) (j + 1) (wx x_) ((mr_M_nearOf (G 6) r nC (wa.toNatClampNeg) (nI (dw (G 6) nC (wx x_)))).1) (we + 1) ((mr_M_nearOf (G 6) r nC (wa.toNatClampNeg) (nI (dw (G 6) nC (wx x_)))).2) := by rw [lf_M_walk_77, if_neg c80, if_neg c127, if_neg c148, if_neg c178]
                      exact ih77 ((mr_M_nearOf (G 6) r nC (wa.toNatClampNeg) (nI (dw (G 6) nC (wx x_)))).1) (j + 1) (wx x_) ((mr_M_nearOf (G 6) r nC (wa.toNatClampNeg) (nI (dw (G 6) nC (wx x_)))).1) (we + 1) ((mr_M_nearOf (G 6) r nC (wa.toNatClampNeg) (nI (dw (G 6) nC (wx x_)))).2) (by first | exact hto | exact hat) (by first | exact hto | exact hlo) (by omega) (by omega) (hR77.trans er77) H locs hP hD hS ls (lv_sub hl [0, 1, 3, 4, 5] rfl)
          exact loop77 (sp.toNatClampNeg + 1) d 0 (F 1) d 0 ((mr_M_know (F 26) (G 6) (G 7) (G 8) (G 9) (G 10) (G 11) (G 12) (G 13) (G 14) (G 15) (G 16) (G 17) (G 18) (G 19) (G 27) (G 28) nC nT nR nD).2.1) (by exact ⟨_, hd2, xd.1⟩) (by exact ⟨_, hd2, xd.1⟩) (by omega) (by omega) rfl H locs hP hD hS ls (lv_sub hl [0, 1, 2, 3, 4] rfl)
        · have n53 : nC = 0 := (nI_eq (a := nC) (b := 0) (by omega) (by omega)).mp c53
          refine lv_aload_n hx hb dM_walk_56 rfl (lv_at hl 0 rfl) ?_
          refine lv_iconst (v := 3) hx hb dM_walk_57 (by decide) ?_
          refine ww_callV (r := (some (.int ((mr_M_fail 3).1)))) (w' := mW a ba ka (upd (upd (upd F 0 0) 26 ((mr_M_know (F 26) (G 6) (G 7) (G 8) (G 9) (G 10) (G 11) (G 12) (G 13) (G 14) (G 15) (G 16) (G 17) (G 18) (G 19) (G 27) (G 28) nC nT nR nD).1)) 0 ((mr_M_fail 3).2)) (va_up (va_up (va_up G 19 ((mr_M_know (F 26) (G 6) (G 7) (G 8) (G 9) (G 10) (G 11) (G 12) (G 13) (G 14) (G 15) (G 16) (G 17) (G 18) (G 19) (G 27) (G 28) nC nT nR nD).2.1)) 27 ((mr_M_know (F 26) (G 6) (G 7) (G 8) (G 9) (G 10) (G 11) (G 12) (G 13) (G 14) (G 15) (G 16) (G 17) (G 18) (G 19) (G 27) (G 28) nC nT nR nD).2.2.1)) 28 ((mr_M_know (F 26) (G 6) (G 7) (G 8) (G 9) (G 10) (G 11) (G 12) (G 13) (G 14) (G 15) (G 16) (G 17) (G 18) (G 19) (G 27) (G 28) nC nT nR nD).2.2.2))) (As := [.int 3]) (rest := []) Sx (c_M_fail l D cl hcl a ba ka (upd (upd F 0 0) 26 ((mr_M_know (F 26) (G 6) (G 7) (G 8) (G 9) (G 10) (G 11) (G 12) (G 13) (G 14) (G 15) (G 16) (G 17) (G 18) (G 19) (G 27) (G 28) nC nT nR nD).1)) (va_up (va_up (va_up G 19 ((mr_M_know (F 26) (G 6) (G 7) (G 8) (G 9) (G 10) (G 11) (G 12) (G 13) (G 14) (G 15) (G 16) (G 17) (G 18) (G 19) (G 27) (G 28) nC nT nR nD).2.1)) 27 ((mr_M_know (F 26) (G 6) (G 7) (G 8) (G 9) (G 10) (G 11) (G 12) (G 13) (G 14) (G 15) (G 16) (G 17) (G 18) (G 19) (G 27) (G 28) nC nT nR nD).2.2.1)) 28 ((mr_M_know (F 26) (G 6) (G 7) (G 8) (G 9) (G 10) (G 11) (G 12) (G 13) (G 14) (G 15) (G 16) (G 17) (G 18) (G 19) (G 27) (G 28) nC nT nR nD).2.2.2)) hP (hD.weaken (fun _ _ _ _ => trivial)) 3) (cwV 1 hts gM_walk_M_fail rfl rfl rfl (by decide +kernel) ⟨Nat.le_of_ble_eq_true rfl, Nat.le_of_ble_eq_true rfl⟩) hK (va_recv hK hP (ci := 0) (q0 := 0) hcl rfl) rfl hl.1 rfl (Nat.le_of_ble_eq_true rfl) dM_walk_58 ⟨Nat.zero_le _, Nat.zero_le _⟩ hD hS hA (fun H locs hP hD hS => ?_)
          rw [upd_sw (i := 26) (j := 0) (by decide), upd_ow] at hP hD
          have em : mr_M_walk (F 1) (F 21) (F 22) (F 23) (F 26) (G 6) (G 7) (G 8) (G 9) (G 10) (G 11) (G 12) (G 13) (G 14) (G 15) (G 16) (G 17) (G 18) (G 19) (G 27) (G 28) nC nT nR nD d sp = ((mr_M_fail 3).1, (mr_M_fail 3).2, F 1, F 22, F 23, (mr_M_know (F 26) (G 6) (G 7) (G 8) (G 9) (G 10) (G 11) (G 12) (G 13) (G 14) (G 15) (G 16) (G 17) (G 18) (G 19) (G 27) (G 28) nC nT nR nD).1, (mr_M_know (F 26) (G 6) (G 7) (G 8) (G 9) (G 10) (G 11) (G 12) (G 13) (G 14) (G 15) (G 16) (G 17) (G 18) (G 19) (G 27) (G 28) nC nT nR nD).2.1, (mr_M_know (F 26) (G 6) (G 7) (G 8) (G 9) (G 10) (G 11) (G 12) (G 13) (G 14) (G 15) (G 16) (G 17) (G 18) (G 19) (G 27) (G 28) nC nT nR nD).2.2.1, (mr_M_know (F 26) (G 6) (G 7) (G 8) (G 9) (G 10) (G 11) (G 12) (G 13) (G 14) (G 15) (G 16) (G 17) (G 18) (G 19) (G 27) (G 28) nC nT nR nD).2.2.2) := by rw [mr_M_walk, if_neg c10, if_neg c29, if_neg c40, if_pos c53]
          exact hret _ _ _ _ _ _ (by simp only [em]) (by simp only [em]; rw [upd_keep (f := upd F 0 ((mr_M_fail 3).2)) (j := 1) (x := F 1) rfl, upd_keep (f := upd F 0 ((mr_M_fail 3).2)) (j := 22) (x := F 22) rfl, upd_keep (f := upd F 0 ((mr_M_fail 3).2)) (j := 23) (x := F 23) rfl]) hP hD hS dM_walk_61
      · refine lv_aload_n hx hb dM_walk_43 rfl (lv_at hl 0 rfl) ?_
        refine lv_iconst (v := 2) hx hb dM_walk_44 (by decide) ?_
        refine ww_callV (r := (some (.int ((mr_M_fail 2).1)))) (w' := mW a ba ka (upd (upd (upd F 0 0) 26 ((mr_M_know (F 26) (G 6) (G 7) (G 8) (G 9) (G 10) (G 11) (G 12) (G 13) (G 14) (G 15) (G 16) (G 17) (G 18) (G 19) (G 27) (G 28) nC nT nR nD).1)) 0 ((mr_M_fail 2).2)) (va_up (va_up (va_up G 19 ((mr_M_know (F 26) (G 6) (G 7) (G 8) (G 9) (G 10) (G 11) (G 12) (G 13) (G 14) (G 15) (G 16) (G 17) (G 18) (G 19) (G 27) (G 28) nC nT nR nD).2.1)) 27 ((mr_M_know (F 26) (G 6) (G 7) (G 8) (G 9) (G 10) (G 11) (G 12) (G 13) (G 14) (G 15) (G 16) (G 17) (G 18) (G 19) (G 27) (G 28) nC nT nR nD).2.2.1)) 28 ((mr_M_know (F 26) (G 6) (G 7) (G 8) (G 9) (G 10) (G 11) (G 12) (G 13) (G 14) (G 15) (G 16) (G 17) (G 18) (G 19) (G 27) (G 28) nC nT nR nD).2.2.2))) (As := [.int 2]) (rest := []) Sx (c_M_fail l D cl hcl a ba ka (upd (upd F 0 0) 26 ((mr_M_know (F 26) (G 6) (G 7) (G 8) (G 9) (G 10) (G 11) (G 12) (G 13) (G 14) (G 15) (G 16) (G 17) (G 18) (G 19) (G 27) (G 28) nC nT nR nD).1)) (va_up (va_up (va_up G 19 ((mr_M_know (F 26) (G 6) (G 7) (G 8) (G 9) (G 10) (G 11) (G 12) (G 13) (G 14) (G 15) (G 16) (G 17) (G 18) (G 19) (G 27) (G 28) nC nT nR nD).2.1)) 27 ((mr_M_know (F 26) (G 6) (G 7) (G 8) (G 9) (G 10) (G 11) (G 12) (G 13) (G 14) (G 15) (G 16) (G 17) (G 18) (G 19) (G 27) (G 28) nC nT nR nD).2.2.1)) 28 ((mr_M_know (F 26) (G 6) (G 7) (G 8) (G 9) (G 10) (G 11) (G 12) (G 13) (G 14) (G 15) (G 16) (G 17) (G 18) (G 19) (G 27) (G 28) nC nT nR nD).2.2.2)) hP (hD.weaken (fun _ _ _ _ => trivial)) 2) (cwV 1 hts gM_walk_M_fail rfl rfl rfl (by decide +kernel) ⟨Nat.le_of_ble_eq_true rfl, Nat.le_of_ble_eq_true rfl⟩) hK (va_recv hK hP (ci := 0) (q0 := 0) hcl rfl) rfl hl.1 rfl (Nat.le_of_ble_eq_true rfl) dM_walk_45 ⟨Nat.zero_le _, Nat.zero_le _⟩ hD hS hA (fun H locs hP hD hS => ?_)
        rw [upd_sw (i := 26) (j := 0) (by decide), upd_ow] at hP hD
        have em : mr_M_walk (F 1) (F 21) (F 22) (F 23) (F 26) (G 6) (G 7) (G 8) (G 9) (G 10) (G 11) (G 12) (G 13) (G 14) (G 15) (G 16) (G 17) (G 18) (G 19) (G 27) (G 28) nC nT nR nD d sp = ((mr_M_fail 2).1, (mr_M_fail 2).2, F 1, F 22, F 23, (mr_M_know (F 26) (G 6) (G 7) (G 8) (G 9) (G 10) (G 11) (G 12) (G 13) (G 14) (G 15) (G 16) (G 17) (G 18) (G 19) (G 27) (G 28) nC nT nR nD).1, (mr_M_know (F 26) (G 6) (G 7) (G 8) (G 9) (G 10) (G 11) (G 12) (G 13) (G 14) (G 15) (G 16) (G 17) (G 18) (G 19) (G 27) (G 28) nC nT nR nD).2.1, (mr_M_know (F 26) (G 6) (G 7) (G 8) (G 9) (G 10) (G 11) (G 12) (G 13) (G 14) (G 15) (G 16) (G 17) (G 18) (G 19) (G 27) (G 28) nC nT nR nD).2.2.1, (mr_M_know (F 26) (G 6) (G 7) (G 8) (G 9) (G 10) (G 11) (G 12) (G 13) (G 14) (G 15) (G 16) (G 17) (G 18) (G 19) (G 27) (G 28) nC nT nR nD).2.2.2) := by rw [mr_M_walk, if_neg c10, if_neg c29, if_pos c40]
        exact hret _ _ _ _ _ _ (by simp only [em]) (by simp only [em]; rw [upd_keep (f := upd F 0 ((mr_M_fail 2).2)) (j := 1) (x := F 1) rfl, upd_keep (f := upd F 0 ((mr_M_fail 2).2)) (j := 22) (x := F 22) rfl, upd_keep (f := upd F 0 ((mr_M_fail 2).2)) (j := 23) (x := F 23) rfl]) hP hD hS dM_walk_48
  · refine lv_aload_n hx hb dM_walk_13 rfl (lv_at hl 0 rfl) ?_
    refine lv_iconst (v := 1) hx hb dM_walk_14 (by decide) ?_
    refine ww_callV (r := (some (.int ((mr_M_fail 1).1)))) (w' := mW a ba ka (upd (upd F 0 0) 0 ((mr_M_fail 1).2)) G) (As := [.int 1]) (rest := []) Sx (c_M_fail l D cl hcl a ba ka (upd F 0 0) G hP (hD.weaken (fun _ _ _ _ => trivial)) 1) (cwV 1 hts gM_walk_M_fail rfl rfl rfl (by decide +kernel) ⟨Nat.le_of_ble_eq_true rfl, Nat.le_of_ble_eq_true rfl⟩) hK (va_recv hK hP (ci := 0) (q0 := 0) hcl rfl) rfl hl.1 rfl (Nat.le_of_ble_eq_true rfl) dM_walk_15 ⟨Nat.zero_le _, Nat.zero_le _⟩ hD hS hA (fun H locs hP hD hS => ?_)
    rw [upd_ow] at hP hD
    have em : mr_M_walk (F 1) (F 21) (F 22) (F 23) (F 26) (G 6) (G 7) (G 8) (G 9) (G 10) (G 11) (G 12) (G 13) (G 14) (G 15) (G 16) (G 17) (G 18) (G 19) (G 27) (G 28) nC nT nR nD d sp = ((mr_M_fail 1).1, (mr_M_fail 1).2, F 1, F 22, F 23, F 26, G 19, G 27, G 28) := by rw [mr_M_walk, if_pos c10]
    exact hret _ _ _ _ _ _ (by simp only [em]) (by simp only [em]; rw [upd_keep (f := upd F 0 ((mr_M_fail 1).2)) (j := 1) (x := F 1) rfl, upd_keep (f := upd F 0 ((mr_M_fail 1).2)) (j := 22) (x := F 22) rfl, upd_keep (f := upd F 0 ((mr_M_fail 1).2)) (j := 23) (x := F 23) rfl, upd_keep (f := upd F 0 ((mr_M_fail 1).2)) (j := 26) (x := F 26) rfl, vup_keep (f := G) (j := 19) (x := G 19) rfl, vup_keep (f := G) (j := 27) (x := G 27) rfl, vup_keep (f := G) (j := 28) (x := G 28) rfl]) hP hD hS dM_walk_18
end
section
set_option maxHeartbeats 4000000 in
set_option maxRecDepth 100000 in
theorem c_M_init (l : Launch) (D : va_G) (cl : List vw_C) (hcl : cl[0]? = some (RM, TM, 29)) (a sz : Nat) (sd : Int32) : Met l yM_init wsM_init ({ frames := 1, cells := 16, slots := 21264, locals := 12 } : Room) (va_Pc [.ref a, .int sd] (fun U => U.heap.size = sz ∧ va_P D cl [(a, .inr (0, [.int 0, .int 0, .int 0, .int 0, .int 0, .int 0, .null, .null, .null, .null, .null, .null, .null, .null, .null, .null, .null, .null, .null, .null, .int 0, .int 0, .int 0, .int 0, .int 0, .int 0, .int 0, .null, .null]))] U.heap ∧ va_K D cl [] U ∧ va_D (fun _ => True) [(a, .inr (0, [.int 0, .int 0, .int 0, .int 0, .int 0, .int 0, .null, .null, .null, .null, .null, .null, .null, .null, .null, .null, .null, .null, .null, .null, .int 0, .int 0, .int 0, .int 0, .int 0, .int 0, .int 0, .null, .null]))])) (va_Qv (fun _ : (Nat → Nat) × (Nat → ClassId) => True) (fun u t => va_P D cl (mW a u.1 u.2 (mF0 sd) mG0) t.heap ∧ va_K D cl (mT u.2) t ∧ va_D (va_A [(a, .inr (0, [.int 0, .int 0, .int 0, .int 0, .int 0, .int 0, .null, .null, .null, .null, .null, .null, .null, .null, .null, .null, .null, .null, .null, .null, .int 0, .int 0, .int 0, .int 0, .int 0, .int 0, .int 0, .null, .null]))] sz) (mW a u.1 u.2 (mF0 sd) mG0)) (va_A [(a, .inr (0, [.int 0, .int 0, .int 0, .int 0, .int 0, .int 0, .null, .null, .null, .null, .null, .null, .null, .null, .null, .null, .null, .null, .null, .null, .int 0, .int 0, .int 0, .int 0, .int 0, .int 0, .int 0, .null, .null]))] sz)) 16 21264 (va_A [(a, .inr (0, [.int 0, .int 0, .int 0, .int 0, .int 0, .int 0, .null, .null, .null, .null, .null, .null, .null, .null, .null, .null, .null, .null, .null, .null, .int 0, .int 0, .int 0, .int 0, .int 0, .int 0, .int 0, .null, .null]))] sz) := by
  refine Met.ofW (cc := cM_init) (maxL := 2) (ret := none) (by decide) rfl ?_
  intro p e s m args below meth c s₁ B hml hv
  obtain ⟨rfl, hsz, hP, hK, hD0⟩ := hv
  have hx := B.exec
  have hb := B.bytes
  have hr := B.returns
  have hts := atoms_spec (ws := wsM_init) B.pre
  have hown : s.vm.findClass RM = some m.cls := findClass_of_methodNamed B.named
  have hlocks := B.notSynchronized
  have hin : meth.name = "<init>" := (name_of_methodNamed B.named B.method).1
  subst hsz
  have hD := hD0.self (sz := s.heap.size)
  generalize hAe : va_A [(a, .inr (0, [.int 0, .int 0, .int 0, .int 0, .int 0, .int 0, .null, .null, .null, .null, .null, .null, .null, .null, .null, .null, .null, .null, .null, .null, .int 0, .int 0, .int 0, .int 0, .int 0, .int 0, .int 0, .null, .null]))] s.heap.size = A at hD ⊢
  have hA : ∀ q : Nat, s.heap.size ≤ q → A q := fun q h => by rw [← hAe]; exact Or.inr h
  have hS : va_S A s.heap s.heap [] := va_S.rf
  have hP : va_P D cl [(a, .inr (0, [.int 0, .int 0, .int 0, .int 0, .int 0, .int 0, .null, .null, .null, .null, .null, .null, .null, .null, .null, .null, .null, .null, .null, .null, .int 0, .int 0, .int 0, .int 0, .int 0, .int 0, .int 0, .null, .null]))] s.heap := hP
  have hl := lv_entry ([.ref a, .int sd]) (n := 2) (Nat.le_of_ble_eq_true rfl)
  rw [lg_entry_eq]
  generalize (lg_sl ([.ref a, .int sd]) ++ List.replicate (2 - (lg_sl ([.ref a, .int sd])).length) Slot.unset).toArray = ls at hl ⊢
  have hl : lv_has ls 2 [(0, .ref a), (1, .int sd)] := hl
  have inX_ : ∀ w ∈ wsM0, w ∈ wsM_init := fun w h => List.mem_cons_of_mem _ (inM_all w h)
  have oi := hts _ (List.mem_cons_of_mem _ mlM_1)
  have oj := hts _ (List.mem_cons_of_mem _ miOM)
  have oc := hts _ (List.mem_cons_of_mem _ mcOM)
  have f7 := hts _ (List.mem_cons_of_mem _ mfM_7)
  have aci := hts _ (List.mem_cons_of_mem _ maM_int)
  have f13 := hts _ (List.mem_cons_of_mem _ mfM_13)
  have f17 := hts _ (List.mem_cons_of_mem _ mfM_17)
  have f20 := hts _ (List.mem_cons_of_mem _ mfM_20)
  have f23 := hts _ (List.mem_cons_of_mem _ mfM_23)
  have f26 := hts _ (List.mem_cons_of_mem _ mfM_26)
  have f29 := hts _ (List.mem_cons_of_mem _ mfM_29)
  have f32 := hts _ (List.mem_cons_of_mem _ mfM_32)
  have f35 := hts _ (List.mem_cons_of_mem _ mfM_35)
  have f38 := hts _ (List.mem_cons_of_mem _ mfM_38)
  have f41 := hts _ (List.mem_cons_of_mem _ mfM_41)
  have f44 := hts _ (List.mem_cons_of_mem _ mfM_44)
  have acb := hts _ (List.mem_cons_of_mem _ maM_boolean)
  have f47 := hts _ (List.mem_cons_of_mem _ mfM_47)
  have f51 := hts _ (List.mem_cons_of_mem _ mfM_51)
  have f54 := hts _ (List.mem_cons_of_mem _ mfM_54)
  have f57 := hts _ (List.mem_cons_of_mem _ mfM_57)
  have f60 := hts _ (List.mem_cons_of_mem _ mfM_60)
  have f63 := hts _ (List.mem_cons_of_mem _ mfM_63)
  have k_66 := hts _ (List.mem_cons_of_mem _ mkM_66)
  have f67 := hts _ (List.mem_cons_of_mem _ mfM_67)
  refine lv_aload_n hx hb dM_init_0 rfl (lv_at hl 0 rfl) ?_
  refine W.objInit hx hb hown oi oj oc rfl (by rw [hml]; exact hl.1) rfl dM_init_1 (Nat.le_of_ble_eq_true rfl) (Nat.le_of_ble_eq_true rfl) ?_
  refine W.eq (g2 := F0 m 4 ls []) rfl ?_
  refine lv_aload_n hx hb dM_init_4 rfl (lv_at hl 0 rfl) ?_
  refine lv_iconst (v := 1) hx hb dM_init_5 (by decide) ?_
  refine va_put (D := D) (ci := 0) (v := .int 1) (ty := tyM 5) (C := RM) (T := TM) (N := 29) hx hb hts inX_ tyM tyM_ok nmM hown hK hP hD hS 0 rfl hcl 5 (by decide) f7 (fun _ h9 => h9) rfl (tyM_ok 5 (by decide)) rfl rfl (Nat.le_of_ble_eq_true rfl) dM_init_6 (fun H locs hP hD hS => ?_)
  have hP : va_P D cl [(a, .inr (0, [.int 0, .int 0, .int 0, .int 0, .int 0, .int 1, .null, .null, .null, .null, .null, .null, .null, .null, .null, .null, .null, .null, .null, .null, .int 0, .int 0, .int 0, .int 0, .int 0, .int 0, .int 0, .null, .null]))] H := hP
  have hD : va_D A [(a, .inr (0, [.int 0, .int 0, .int 0, .int 0, .int 0, .int 1, .null, .null, .null, .null, .null, .null, .null, .null, .null, .null, .null, .null, .null, .null, .int 0, .int 0, .int 0, .int 0, .int 0, .int 0, .int 0, .null, .null]))] := hD
  refine lv_aload_n hx hb dM_init_9 rfl (lv_at hl 0 rfl) ?_
  refine lv_bipush (v := 8) hx hb dM_init_10 (by decide) ?_
  refine va_newa (atype := .int) (N' := 8) (a0 := (8, .inl (fun _ => 0))) (ty := .int) (n := 8) hx hb aci rfl hK hP hD hS hA (fun _ => rfl) (by decide) (by decide) (by decide) (by decide) (by decide) dM_init_12 (fun q6 k6 H hK hP hD hS => ?_)
  have hK : va_K D cl [(k6, .int)] s := hK
  have hP : va_P D cl [(a, .inr (0, [.int 0, .int 0, .int 0, .int 0, .int 0, .int 1, .null, .null, .null, .null, .null, .null, .null, .null, .null, .null, .null, .null, .null, .null, .int 0, .int 0, .int 0, .int 0, .int 0, .int 0, .int 0, .null, .null])), (q6, .inl (k6, 8, .inl (fun _ => 0)))] H := hP
  have hD : va_D A [(a, .inr (0, [.int 0, .int 0, .int 0, .int 0, .int 0, .int 1, .null, .null, .null, .null, .null, .null, .null, .null, .null, .null, .null, .null, .null, .null, .int 0, .int 0, .int 0, .int 0, .int 0, .int 0, .int 0, .null, .null])), (q6, .inl (k6, 8, .inl (fun _ => 0)))] := hD
  refine W.widen (k := 1) (n := 8) (by decide) (by decide) ?_
  refine va_putF (D := D) (ci := 0) (v := .ref q6) (ty := tyM 6) (C := RM) (T := TM) (N := 29) hx hb hts inX_ tyM tyM_ok nmM hown hK hP hD hS 0 rfl hcl 6 (by decide) f13 (fun _ h9 => h9) rfl hin rfl (tyM_ok 6 (by decide)) rfl rfl (Nat.le_of_ble_eq_true rfl) dM_init_14 (fun H locs hP hD hS => ?_)
  have hP : va_P D cl [(a, .inr (0, [.int 0, .int 0, .int 0, .int 0, .int 0, .int 1, .ref q6, .null, .null, .null, .null, .null, .null, .null, .null, .null, .null, .null, .null, .null, .int 0, .int 0, .int 0, .int 0, .int 0, .int 0, .int 0, .null, .null])), (q6, .inl (k6, 8, .inl (fun _ => 0)))] H := hP
  have hD : va_D A [(a, .inr (0, [.int 0, .int 0, .int 0, .int 0, .int 0, .int 1, .ref q6, .null, .null, .null, .null, .null, .null, .null, .null, .null, .null, .null, .null, .null, .int 0, .int 0, .int 0, .int 0, .int 0, .int 0, .int 0, .null, .null])), (q6, .inl (k6, 8, .inl (fun _ => 0)))] := hD
  refine lv_aload_n hx hb dM_init_17 rfl (lv_at hl 0 rfl) ?_
  refine lv_bipush (v := 100) hx hb dM_init_18 (by decide) ?_
  refine va_newa (atype := .int) (N' := 100) (a0 := (100, .inl (fun _ => 0))) (ty := .int) (n := 100) hx hb aci rfl hK hP hD hS hA (fun _ => rfl) (by decide) (by decide) (by decide) (by decide) (by decide) dM_init_20 (fun q7 k7 H hK hP hD hS => ?_)
  have hK : va_K D cl [(k6, .int), (k7, .int)] s := hK
  have hP : va_P D cl [(a, .inr (0, [.int 0, .int 0, .int 0, .int 0, .int 0, .int 1, .ref q6, .null, .null, .null, .null, .null, .null, .null, .null, .null, .null, .null, .null, .null, .int 0, .int 0, .int 0, .int 0, .int 0, .int 0, .int 0, .null, .null])), (q6, .inl (k6, 8, .inl (fun _ => 0))), (q7, .inl (k7, 100, .inl (fun _ => 0)))] H := hP
  have hD : va_D A [(a, .inr (0, [.int 0, .int 0, .int 0, .int 0, .int 0, .int 1, .ref q6, .null, .null, .null, .null, .null, .null, .null, .null, .null, .null, .null, .null, .null, .int 0, .int 0, .int 0, .int 0, .int 0, .int 0, .int 0, .null, .null])), (q6, .inl (k6, 8, .inl (fun _ => 0))), (q7, .inl (k7, 100, .inl (fun _ => 0)))] := hD
  refine W.widen (k := 2) (n := 108) (by decide) (by decide) ?_
  refine va_putF (D := D) (ci := 0) (v := .ref q7) (ty := tyM 7) (C := RM) (T := TM) (N := 29) hx hb hts inX_ tyM tyM_ok nmM hown hK hP hD hS 0 rfl hcl 7 (by decide) f17 (fun _ h9 => h9) rfl hin rfl (tyM_ok 7 (by decide)) rfl rfl (Nat.le_of_ble_eq_true rfl) dM_init_22 (fun H locs hP hD hS => ?_)
  have hP : va_P D cl [(a, .inr (0, [.int 0, .int 0, .int 0, .int 0, .int 0, .int 1, .ref q6, .ref q7, .null, .null, .null, .null, .null, .null, .null, .null, .null, .null, .null, .null, .int 0, .int 0, .int 0, .int 0, .int 0, .int 0, .int 0, .null, .null])), (q6, .inl (k6, 8, .inl (fun _ => 0))), (q7, .inl (k7, 100, .inl (fun _ => 0)))] H := hP
  have hD : va_D A [(a, .inr (0, [.int 0, .int 0, .int 0, .int 0, .int 0, .int 1, .ref q6, .ref q7, .null, .null, .null, .null, .null, .null, .null, .null, .null, .null, .null, .null, .int 0, .int 0, .int 0, .int 0, .int 0, .int 0, .int 0, .null, .null])), (q6, .inl (k6, 8, .inl (fun _ => 0))), (q7, .inl (k7, 100, .inl (fun _ => 0)))] := hD
  refine lv_aload_n hx hb dM_init_25 rfl (lv_at hl 0 rfl) ?_
  refine lv_bipush (v := 100) hx hb dM_init_26 (by decide) ?_
  refine va_newa (atype := .int) (N' := 100) (a0 := (100, .inl (fun _ => 0))) (ty := .int) (n := 100) hx hb aci rfl hK hP hD hS hA (fun _ => rfl) (by decide) (by decide) (by decide) (by decide) (by decide) dM_init_28 (fun q8 k8 H hK hP hD hS => ?_)
  have hK : va_K D cl [(k6, .int), (k7, .int), (k8, .int)] s := hK
  have hP : va_P D cl [(a, .inr (0, [.int 0, .int 0, .int 0, .int 0, .int 0, .int 1, .ref q6, .ref q7, .null, .null, .null, .null, .null, .null, .null, .null, .null, .null, .null, .null, .int 0, .int 0, .int 0, .int 0, .int 0, .int 0, .int 0, .null, .null])), (q6, .inl (k6, 8, .inl (fun _ => 0))), (q7, .inl (k7, 100, .inl (fun _ => 0))), (q8, .inl (k8, 100, .inl (fun _ => 0)))] H := hP
  have hD : va_D A [(a, .inr (0, [.int 0, .int 0, .int 0, .int 0, .int 0, .int 1, .ref q6, .ref q7, .null, .null, .null, .null, .null, .null, .null, .null, .null, .null, .null, .null, .int 0, .int 0, .int 0, .int 0, .int 0, .int 0, .int 0, .null, .null])), (q6, .inl (k6, 8, .inl (fun _ => 0))), (q7, .inl (k7, 100, .inl (fun _ => 0))), (q8, .inl (k8, 100, .inl (fun _ => 0)))] := hD
  refine W.widen (k := 3) (n := 208) (by decide) (by decide) ?_
  refine va_putF (D := D) (ci := 0) (v := .ref q8) (ty := tyM 8) (C := RM) (T := TM) (N := 29) hx hb hts inX_ tyM tyM_ok nmM hown hK hP hD hS 0 rfl hcl 8 (by decide) f20 (fun _ h9 => h9) rfl hin rfl (tyM_ok 8 (by decide)) rfl rfl (Nat.le_of_ble_eq_true rfl) dM_init_30 (fun H locs hP hD hS => ?_)
  have hP : va_P D cl [(a, .inr (0, [.int 0, .int 0, .int 0, .int 0, .int 0, .int 1, .ref q6, .ref q7, .ref q8, .null, .null, .null, .null, .null, .null, .null, .null, .null, .null, .null, .int 0, .int 0, .int 0, .int 0, .int 0, .int 0, .int 0, .null, .null])), (q6, .inl (k6, 8, .inl (fun _ => 0))), (q7, .inl (k7, 100, .inl (fun _ => 0))), (q8, .inl (k8, 100, .inl (fun _ => 0)))] H := hP
  have hD : va_D A [(a, .inr (0, [.int 0, .int 0, .int 0, .int 0, .int 0, .int 1, .ref q6, .ref q7, .ref q8, .null, .null, .null, .null, .null, .null, .null, .null, .null, .null, .null, .int 0, .int 0, .int 0, .int 0, .int 0, .int 0, .int 0, .null, .null])), (q6, .inl (k6, 8, .inl (fun _ => 0))), (q7, .inl (k7, 100, .inl (fun _ => 0))), (q8, .inl (k8, 100, .inl (fun _ => 0)))] := hD
  refine lv_aload_n hx hb dM_init_33 rfl (lv_at hl 0 rfl) ?_
  refine lv_bipush (v := 100) hx hb dM_init_34 (by decide) ?_
  refine va_newa (atype := .int) (N' := 100) (a0 := (100, .inl (fun _ => 0))) (ty := .int) (n := 100) hx hb aci rfl hK hP hD hS hA (fun _ => rfl) (by decide) (by decide) (by decide) (by decide) (by decide) dM_init_36 (fun q9 k9 H hK hP hD hS => ?_)
  have hK : va_K D cl [(k6, .int), (k7, .int), (k8, .int), (k9, .int)] s := hK
  have hP : va_P D cl [(a, .inr (0, [.int 0, .int 0, .int 0, .int 0, .int 0, .int 1, .ref q6, .ref q7, .ref q8, .null, .null, .null, .null, .null, .null, .null, .null, .null, .null, .null, .int 0, .int 0, .int 0, .int 0, .int 0, .int 0, .int 0, .null, .null])), (q6, .inl (k6, 8, .inl (fun _ => 0))), (q7, .inl (k7, 100, .inl (fun _ => 0))), (q8, .inl (k8, 100, .inl (fun _ => 0))), (q9, .inl (k9, 100, .inl (fun _ => 0)))] H := hP
  have hD : va_D A [(a, .inr (0, [.int 0, .int 0, .int 0, .int 0, .int 0, .int 1, .ref q6, .ref q7, .ref q8, .null, .null, .null, .null, .null, .null, .null, .null, .null, .null, .null, .int 0, .int 0, .int 0, .int 0, .int 0, .int 0, .int 0, .null, .null])), (q6, .inl (k6, 8, .inl (fun _ => 0))), (q7, .inl (k7, 100, .inl (fun _ => 0))), (q8, .inl (k8, 100, .inl (fun _ => 0))), (q9, .inl (k9, 100, .inl (fun _ => 0)))] := hD
  refine W.widen (k := 4) (n := 308) (by decide) (by decide) ?_
  refine va_putF (D := D) (ci := 0) (v := .ref q9) (ty := tyM 9) (C := RM) (T := TM) (N := 29) hx hb hts inX_ tyM tyM_ok nmM hown hK hP hD hS 0 rfl hcl 9 (by decide) f23 (fun _ h9 => h9) rfl hin rfl (tyM_ok 9 (by decide)) rfl rfl (Nat.le_of_ble_eq_true rfl) dM_init_38 (fun H locs hP hD hS => ?_)
  have hP : va_P D cl [(a, .inr (0, [.int 0, .int 0, .int 0, .int 0, .int 0, .int 1, .ref q6, .ref q7, .ref q8, .ref q9, .null, .null, .null, .null, .null, .null, .null, .null, .null, .null, .int 0, .int 0, .int 0, .int 0, .int 0, .int 0, .int 0, .null, .null])), (q6, .inl (k6, 8, .inl (fun _ => 0))), (q7, .inl (k7, 100, .inl (fun _ => 0))), (q8, .inl (k8, 100, .inl (fun _ => 0))), (q9, .inl (k9, 100, .inl (fun _ => 0)))] H := hP
  have hD : va_D A [(a, .inr (0, [.int 0, .int 0, .int 0, .int 0, .int 0, .int 1, .ref q6, .ref q7, .ref q8, .ref q9, .null, .null, .null, .null, .null, .null, .null, .null, .null, .null, .int 0, .int 0, .int 0, .int 0, .int 0, .int 0, .int 0, .null, .null])), (q6, .inl (k6, 8, .inl (fun _ => 0))), (q7, .inl (k7, 100, .inl (fun _ => 0))), (q8, .inl (k8, 100, .inl (fun _ => 0))), (q9, .inl (k9, 100, .inl (fun _ => 0)))] := hD
  refine lv_aload_n hx hb dM_init_41 rfl (lv_at hl 0 rfl) ?_
  refine lv_bipush (v := 100) hx hb dM_init_42 (by decide) ?_
  refine va_newa (atype := .int) (N' := 100) (a0 := (100, .inl (fun _ => 0))) (ty := .int) (n := 100) hx hb aci rfl hK hP hD hS hA (fun _ => rfl) (by decide) (by decide) (by decide) (by decide) (by decide) dM_init_44 (fun q10 k10 H hK hP hD hS => ?_)
  have hK : va_K D cl [(k6, .int), (k7, .int), (k8, .int), (k9, .int), (k10, .int)] s := hK
  have hP : va_P D cl [(a, .inr (0, [.int 0, .int 0, .int 0, .int 0, .int 0, .int 1, .ref q6, .ref q7, .ref q8, .ref q9, .null, .null, .null, .null, .null, .null, .null, .null, .null, .null, .int 0, .int 0, .int 0, .int 0, .int 0, .int 0, .int 0, .null, .null])), (q6, .inl (k6, 8, .inl (fun _ => 0))), (q7, .inl (k7, 100, .inl (fun _ => 0))), (q8, .inl (k8, 100, .inl (fun _ => 0))), (q9, .inl (k9, 100, .inl (fun _ => 0))), (q10, .inl (k10, 100, .inl (fun _ => 0)))] H := hP
  have hD : va_D A [(a, .inr (0, [.int 0, .int 0, .int 0, .int 0, .int 0, .int 1, .ref q6, .ref q7, .ref q8, .ref q9, .null, .null, .null, .null, .null, .null, .null, .null, .null, .null, .int 0, .int 0, .int 0, .int 0, .int 0, .int 0, .int 0, .null, .null])), (q6, .inl (k6, 8, .inl (fun _ => 0))), (q7, .inl (k7, 100, .inl (fun _ => 0))), (q8, .inl (k8, 100, .inl (fun _ => 0))), (q9, .inl (k9, 100, .inl (fun _ => 0))), (q10, .inl (k10, 100, .inl (fun _ => 0)))] := hD
  refine W.widen (k := 5) (n := 408) (by decide) (by decide) ?_
  refine va_putF (D := D) (ci := 0) (v := .ref q10) (ty := tyM 10) (C := RM) (T := TM) (N := 29) hx hb hts inX_ tyM tyM_ok nmM hown hK hP hD hS 0 rfl hcl 10 (by decide) f26 (fun _ h9 => h9) rfl hin rfl (tyM_ok 10 (by decide)) rfl rfl (Nat.le_of_ble_eq_true rfl) dM_init_46 (fun H locs hP hD hS => ?_)
  have hP : va_P D cl [(a, .inr (0, [.int 0, .int 0, .int 0, .int 0, .int 0, .int 1, .ref q6, .ref q7, .ref q8, .ref q9, .ref q10, .null, .null, .null, .null, .null, .null, .null, .null, .null, .int 0, .int 0, .int 0, .int 0, .int 0, .int 0, .int 0, .null, .null])), (q6, .inl (k6, 8, .inl (fun _ => 0))), (q7, .inl (k7, 100, .inl (fun _ => 0))), (q8, .inl (k8, 100, .inl (fun _ => 0))), (q9, .inl (k9, 100, .inl (fun _ => 0))), (q10, .inl (k10, 100, .inl (fun _ => 0)))] H := hP
  have hD : va_D A [(a, .inr (0, [.int 0, .int 0, .int 0, .int 0, .int 0, .int 1, .ref q6, .ref q7, .ref q8, .ref q9, .ref q10, .null, .null, .null, .null, .null, .null, .null, .null, .null, .int 0, .int 0, .int 0, .int 0, .int 0, .int 0, .int 0, .null, .null])), (q6, .inl (k6, 8, .inl (fun _ => 0))), (q7, .inl (k7, 100, .inl (fun _ => 0))), (q8, .inl (k8, 100, .inl (fun _ => 0))), (q9, .inl (k9, 100, .inl (fun _ => 0))), (q10, .inl (k10, 100, .inl (fun _ => 0)))] := hD
  refine lv_aload_n hx hb dM_init_49 rfl (lv_at hl 0 rfl) ?_
  refine lv_bipush (v := 100) hx hb dM_init_50 (by decide) ?_
  refine va_newa (atype := .int) (N' := 100) (a0 := (100, .inl (fun _ => 0))) (ty := .int) (n := 100) hx hb aci rfl hK hP hD hS hA (fun _ => rfl) (by decide) (by decide) (by decide) (by decide) (by decide) dM_init_52 (fun q11 k11 H hK hP hD hS => ?_)
  have hK : va_K D cl [(k6, .int), (k7, .int), (k8, .int), (k9, .int), (k10, .int), (k11, .int)] s := hK
  have hP : va_P D cl [(a, .inr (0, [.int 0, .int 0, .int 0, .int 0, .int 0, .int 1, .ref q6, .ref q7, .ref q8, .ref q9, .ref q10, .null, .null, .null, .null, .null, .null, .null, .null, .null, .int 0, .int 0, .int 0, .int 0, .int 0, .int 0, .int 0, .null, .null])), (q6, .inl (k6, 8, .inl (fun _ => 0))), (q7, .inl (k7, 100, .inl (fun _ => 0))), (q8, .inl (k8, 100, .inl (fun _ => 0))), (q9, .inl (k9, 100, .inl (fun _ => 0))), (q10, .inl (k10, 100, .inl (fun _ => 0))), (q11, .inl (k11, 100, .inl (fun _ => 0)))] H := hP
  have hD : va_D A [(a, .inr (0, [.int 0, .int 0, .int 0, .int 0, .int 0, .int 1, .ref q6, .ref q7, .ref q8, .ref q9, .ref q10, .null, .null, .null, .null, .null, .null, .null, .null, .null, .int 0, .int 0, .int 0, .int 0, .int 0, .int 0, .int 0, .null, .null])), (q6, .inl (k6, 8, .inl (fun _ => 0))), (q7, .inl (k7, 100, .inl (fun _ => 0))), (q8, .inl (k8, 100, .inl (fun _ => 0))), (q9, .inl (k9, 100, .inl (fun _ => 0))), (q10, .inl (k10, 100, .inl (fun _ => 0))), (q11, .inl (k11, 100, .inl (fun _ => 0)))] := hD
  refine W.widen (k := 6) (n := 508) (by decide) (by decide) ?_
  refine va_putF (D := D) (ci := 0) (v := .ref q11) (ty := tyM 11) (C := RM) (T := TM) (N := 29) hx hb hts inX_ tyM tyM_ok nmM hown hK hP hD hS 0 rfl hcl 11 (by decide) f29 (fun _ h9 => h9) rfl hin rfl (tyM_ok 11 (by decide)) rfl rfl (Nat.le_of_ble_eq_true rfl) dM_init_54 (fun H locs hP hD hS => ?_)
  have hP : va_P D cl [(a, .inr (0, [.int 0, .int 0, .int 0, .int 0, .int 0, .int 1, .ref q6, .ref q7, .ref q8, .ref q9, .ref q10, .ref q11, .null, .null, .null, .null, .null, .null, .null, .null, .int 0, .int 0, .int 0, .int 0, .int 0, .int 0, .int 0, .null, .null])), (q6, .inl (k6, 8, .inl (fun _ => 0))), (q7, .inl (k7, 100, .inl (fun _ => 0))), (q8, .inl (k8, 100, .inl (fun _ => 0))), (q9, .inl (k9, 100, .inl (fun _ => 0))), (q10, .inl (k10, 100, .inl (fun _ => 0))), (q11, .inl (k11, 100, .inl (fun _ => 0)))] H := hP
  have hD : va_D A [(a, .inr (0, [.int 0, .int 0, .int 0, .int 0, .int 0, .int 1, .ref q6, .ref q7, .ref q8, .ref q9, .ref q10, .ref q11, .null, .null, .null, .null, .null, .null, .null, .null, .int 0, .int 0, .int 0, .int 0, .int 0, .int 0, .int 0, .null, .null])), (q6, .inl (k6, 8, .inl (fun _ => 0))), (q7, .inl (k7, 100, .inl (fun _ => 0))), (q8, .inl (k8, 100, .inl (fun _ => 0))), (q9, .inl (k9, 100, .inl (fun _ => 0))), (q10, .inl (k10, 100, .inl (fun _ => 0))), (q11, .inl (k11, 100, .inl (fun _ => 0)))] := hD
  refine lv_aload_n hx hb dM_init_57 rfl (lv_at hl 0 rfl) ?_
  refine lv_bipush (v := 100) hx hb dM_init_58 (by decide) ?_
  refine va_newa (atype := .int) (N' := 100) (a0 := (100, .inl (fun _ => 0))) (ty := .int) (n := 100) hx hb aci rfl hK hP hD hS hA (fun _ => rfl) (by decide) (by decide) (by decide) (by decide) (by decide) dM_init_60 (fun q12 k12 H hK hP hD hS => ?_)
  have hK : va_K D cl [(k6, .int), (k7, .int), (k8, .int), (k9, .int), (k10, .int), (k11, .int), (k12, .int)] s := hK
  have hP : va_P D cl [(a, .inr (0, [.int 0, .int 0, .int 0, .int 0, .int 0, .int 1, .ref q6, .ref q7, .ref q8, .ref q9, .ref q10, .ref q11, .null, .null, .null, .null, .null, .null, .null, .null, .int 0, .int 0, .int 0, .int 0, .int 0, .int 0, .int 0, .null, .null])), (q6, .inl (k6, 8, .inl (fun _ => 0))), (q7, .inl (k7, 100, .inl (fun _ => 0))), (q8, .inl (k8, 100, .inl (fun _ => 0))), (q9, .inl (k9, 100, .inl (fun _ => 0))), (q10, .inl (k10, 100, .inl (fun _ => 0))), (q11, .inl (k11, 100, .inl (fun _ => 0))), (q12, .inl (k12, 100, .inl (fun _ => 0)))] H := hP
  have hD : va_D A [(a, .inr (0, [.int 0, .int 0, .int 0, .int 0, .int 0, .int 1, .ref q6, .ref q7, .ref q8, .ref q9, .ref q10, .ref q11, .null, .null, .null, .null, .null, .null, .null, .null, .int 0, .int 0, .int 0, .int 0, .int 0, .int 0, .int 0, .null, .null])), (q6, .inl (k6, 8, .inl (fun _ => 0))), (q7, .inl (k7, 100, .inl (fun _ => 0))), (q8, .inl (k8, 100, .inl (fun _ => 0))), (q9, .inl (k9, 100, .inl (fun _ => 0))), (q10, .inl (k10, 100, .inl (fun _ => 0))), (q11, .inl (k11, 100, .inl (fun _ => 0))), (q12, .inl (k12, 100, .inl (fun _ => 0)))] := hD
  refine W.widen (k := 7) (n := 608) (by decide) (by decide) ?_
  refine va_putF (D := D) (ci := 0) (v := .ref q12) (ty := tyM 12) (C := RM) (T := TM) (N := 29) hx hb hts inX_ tyM tyM_ok nmM hown hK hP hD hS 0 rfl hcl 12 (by decide) f32 (fun _ h9 => h9) rfl hin rfl (tyM_ok 12 (by decide)) rfl rfl (Nat.le_of_ble_eq_true rfl) dM_init_62 (fun H locs hP hD hS => ?_)
  have hP : va_P D cl [(a, .inr (0, [.int 0, .int 0, .int 0, .int 0, .int 0, .int 1, .ref q6, .ref q7, .ref q8, .ref q9, .ref q10, .ref q11, .ref q12, .null, .null, .null, .null, .null, .null, .null, .int 0, .int 0, .int 0, .int 0, .int 0, .int 0, .int 0, .null, .null])), (q6, .inl (k6, 8, .inl (fun _ => 0))), (q7, .inl (k7, 100, .inl (fun _ => 0))), (q8, .inl (k8, 100, .inl (fun _ => 0))), (q9, .inl (k9, 100, .inl (fun _ => 0))), (q10, .inl (k10, 100, .inl (fun _ => 0))), (q11, .inl (k11, 100, .inl (fun _ => 0))), (q12, .inl (k12, 100, .inl (fun _ => 0)))] H := hP
  have hD : va_D A [(a, .inr (0, [.int 0, .int 0, .int 0, .int 0, .int 0, .int 1, .ref q6, .ref q7, .ref q8, .ref q9, .ref q10, .ref q11, .ref q12, .null, .null, .null, .null, .null, .null, .null, .int 0, .int 0, .int 0, .int 0, .int 0, .int 0, .int 0, .null, .null])), (q6, .inl (k6, 8, .inl (fun _ => 0))), (q7, .inl (k7, 100, .inl (fun _ => 0))), (q8, .inl (k8, 100, .inl (fun _ => 0))), (q9, .inl (k9, 100, .inl (fun _ => 0))), (q10, .inl (k10, 100, .inl (fun _ => 0))), (q11, .inl (k11, 100, .inl (fun _ => 0))), (q12, .inl (k12, 100, .inl (fun _ => 0)))] := hD
  refine lv_aload_n hx hb dM_init_65 rfl (lv_at hl 0 rfl) ?_
  refine lv_bipush (v := 40) hx hb dM_init_66 (by decide) ?_
  refine va_newa (atype := .int) (N' := 40) (a0 := (40, .inl (fun _ => 0))) (ty := .int) (n := 40) hx hb aci rfl hK hP hD hS hA (fun _ => rfl) (by decide) (by decide) (by decide) (by decide) (by decide) dM_init_68 (fun q13 k13 H hK hP hD hS => ?_)
  have hK : va_K D cl [(k6, .int), (k7, .int), (k8, .int), (k9, .int), (k10, .int), (k11, .int), (k12, .int), (k13, .int)] s := hK
  have hP : va_P D cl [(a, .inr (0, [.int 0, .int 0, .int 0, .int 0, .int 0, .int 1, .ref q6, .ref q7, .ref q8, .ref q9, .ref q10, .ref q11, .ref q12, .null, .null, .null, .null, .null, .null, .null, .int 0, .int 0, .int 0, .int 0, .int 0, .int 0, .int 0, .null, .null])), (q6, .inl (k6, 8, .inl (fun _ => 0))), (q7, .inl (k7, 100, .inl (fun _ => 0))), (q8, .inl (k8, 100, .inl (fun _ => 0))), (q9, .inl (k9, 100, .inl (fun _ => 0))), (q10, .inl (k10, 100, .inl (fun _ => 0))), (q11, .inl (k11, 100, .inl (fun _ => 0))), (q12, .inl (k12, 100, .inl (fun _ => 0))), (q13, .inl (k13, 40, .inl (fun _ => 0)))] H := hP
  have hD : va_D A [(a, .inr (0, [.int 0, .int 0, .int 0, .int 0, .int 0, .int 1, .ref q6, .ref q7, .ref q8, .ref q9, .ref q10, .ref q11, .ref q12, .null, .null, .null, .null, .null, .null, .null, .int 0, .int 0, .int 0, .int 0, .int 0, .int 0, .int 0, .null, .null])), (q6, .inl (k6, 8, .inl (fun _ => 0))), (q7, .inl (k7, 100, .inl (fun _ => 0))), (q8, .inl (k8, 100, .inl (fun _ => 0))), (q9, .inl (k9, 100, .inl (fun _ => 0))), (q10, .inl (k10, 100, .inl (fun _ => 0))), (q11, .inl (k11, 100, .inl (fun _ => 0))), (q12, .inl (k12, 100, .inl (fun _ => 0))), (q13, .inl (k13, 40, .inl (fun _ => 0)))] := hD
  refine W.widen (k := 8) (n := 648) (by decide) (by decide) ?_
  refine va_putF (D := D) (ci := 0) (v := .ref q13) (ty := tyM 13) (C := RM) (T := TM) (N := 29) hx hb hts inX_ tyM tyM_ok nmM hown hK hP hD hS 0 rfl hcl 13 (by decide) f35 (fun _ h9 => h9) rfl hin rfl (tyM_ok 13 (by decide)) rfl rfl (Nat.le_of_ble_eq_true rfl) dM_init_70 (fun H locs hP hD hS => ?_)
  have hP : va_P D cl [(a, .inr (0, [.int 0, .int 0, .int 0, .int 0, .int 0, .int 1, .ref q6, .ref q7, .ref q8, .ref q9, .ref q10, .ref q11, .ref q12, .ref q13, .null, .null, .null, .null, .null, .null, .int 0, .int 0, .int 0, .int 0, .int 0, .int 0, .int 0, .null, .null])), (q6, .inl (k6, 8, .inl (fun _ => 0))), (q7, .inl (k7, 100, .inl (fun _ => 0))), (q8, .inl (k8, 100, .inl (fun _ => 0))), (q9, .inl (k9, 100, .inl (fun _ => 0))), (q10, .inl (k10, 100, .inl (fun _ => 0))), (q11, .inl (k11, 100, .inl (fun _ => 0))), (q12, .inl (k12, 100, .inl (fun _ => 0))), (q13, .inl (k13, 40, .inl (fun _ => 0)))] H := hP
  have hD : va_D A [(a, .inr (0, [.int 0, .int 0, .int 0, .int 0, .int 0, .int 1, .ref q6, .ref q7, .ref q8, .ref q9, .ref q10, .ref q11, .ref q12, .ref q13, .null, .null, .null, .null, .null, .null, .int 0, .int 0, .int 0, .int 0, .int 0, .int 0, .int 0, .null, .null])), (q6, .inl (k6, 8, .inl (fun _ => 0))), (q7, .inl (k7, 100, .inl (fun _ => 0))), (q8, .inl (k8, 100, .inl (fun _ => 0))), (q9, .inl (k9, 100, .inl (fun _ => 0))), (q10, .inl (k10, 100, .inl (fun _ => 0))), (q11, .inl (k11, 100, .inl (fun _ => 0))), (q12, .inl (k12, 100, .inl (fun _ => 0))), (q13, .inl (k13, 40, .inl (fun _ => 0)))] := hD
  refine lv_aload_n hx hb dM_init_73 rfl (lv_at hl 0 rfl) ?_
  refine lv_bipush (v := 40) hx hb dM_init_74 (by decide) ?_
  refine va_newa (atype := .int) (N' := 40) (a0 := (40, .inl (fun _ => 0))) (ty := .int) (n := 40) hx hb aci rfl hK hP hD hS hA (fun _ => rfl) (by decide) (by decide) (by decide) (by decide) (by decide) dM_init_76 (fun q14 k14 H hK hP hD hS => ?_)
  have hK : va_K D cl [(k6, .int), (k7, .int), (k8, .int), (k9, .int), (k10, .int), (k11, .int), (k12, .int), (k13, .int), (k14, .int)] s := hK
  have hP : va_P D cl [(a, .inr (0, [.int 0, .int 0, .int 0, .int 0, .int 0, .int 1, .ref q6, .ref q7, .ref q8, .ref q9, .ref q10, .ref q11, .ref q12, .ref q13, .null, .null, .null, .null, .null, .null, .int 0, .int 0, .int 0, .int 0, .int 0, .int 0, .int 0, .null, .null])), (q6, .inl (k6, 8, .inl (fun _ => 0))), (q7, .inl (k7, 100, .inl (fun _ => 0))), (q8, .inl (k8, 100, .inl (fun _ => 0))), (q9, .inl (k9, 100, .inl (fun _ => 0))), (q10, .inl (k10, 100, .inl (fun _ => 0))), (q11, .inl (k11, 100, .inl (fun _ => 0))), (q12, .inl (k12, 100, .inl (fun _ => 0))), (q13, .inl (k13, 40, .inl (fun _ => 0))), (q14, .inl (k14, 40, .inl (fun _ => 0)))] H := hP
  have hD : va_D A [(a, .inr (0, [.int 0, .int 0, .int 0, .int 0, .int 0, .int 1, .ref q6, .ref q7, .ref q8, .ref q9, .ref q10, .ref q11, .ref q12, .ref q13, .null, .null, .null, .null, .null, .null, .int 0, .int 0, .int 0, .int 0, .int 0, .int 0, .int 0, .null, .null])), (q6, .inl (k6, 8, .inl (fun _ => 0))), (q7, .inl (k7, 100, .inl (fun _ => 0))), (q8, .inl (k8, 100, .inl (fun _ => 0))), (q9, .inl (k9, 100, .inl (fun _ => 0))), (q10, .inl (k10, 100, .inl (fun _ => 0))), (q11, .inl (k11, 100, .inl (fun _ => 0))), (q12, .inl (k12, 100, .inl (fun _ => 0))), (q13, .inl (k13, 40, .inl (fun _ => 0))), (q14, .inl (k14, 40, .inl (fun _ => 0)))] := hD
  refine W.widen (k := 9) (n := 688) (by decide) (by decide) ?_
  refine va_putF (D := D) (ci := 0) (v := .ref q14) (ty := tyM 14) (C := RM) (T := TM) (N := 29) hx hb hts inX_ tyM tyM_ok nmM hown hK hP hD hS 0 rfl hcl 14 (by decide) f38 (fun _ h9 => h9) rfl hin rfl (tyM_ok 14 (by decide)) rfl rfl (Nat.le_of_ble_eq_true rfl) dM_init_78 (fun H locs hP hD hS => ?_)
  have hP : va_P D cl [(a, .inr (0, [.int 0, .int 0, .int 0, .int 0, .int 0, .int 1, .ref q6, .ref q7, .ref q8, .ref q9, .ref q10, .ref q11, .ref q12, .ref q13, .ref q14, .null, .null, .null, .null, .null, .int 0, .int 0, .int 0, .int 0, .int 0, .int 0, .int 0, .null, .null])), (q6, .inl (k6, 8, .inl (fun _ => 0))), (q7, .inl (k7, 100, .inl (fun _ => 0))), (q8, .inl (k8, 100, .inl (fun _ => 0))), (q9, .inl (k9, 100, .inl (fun _ => 0))), (q10, .inl (k10, 100, .inl (fun _ => 0))), (q11, .inl (k11, 100, .inl (fun _ => 0))), (q12, .inl (k12, 100, .inl (fun _ => 0))), (q13, .inl (k13, 40, .inl (fun _ => 0))), (q14, .inl (k14, 40, .inl (fun _ => 0)))] H := hP
  have hD : va_D A [(a, .inr (0, [.int 0, .int 0, .int 0, .int 0, .int 0, .int 1, .ref q6, .ref q7, .ref q8, .ref q9, .ref q10, .ref q11, .ref q12, .ref q13, .ref q14, .null, .null, .null, .null, .null, .int 0, .int 0, .int 0, .int 0, .int 0, .int 0, .int 0, .null, .null])), (q6, .inl (k6, 8, .inl (fun _ => 0))), (q7, .inl (k7, 100, .inl (fun _ => 0))), (q8, .inl (k8, 100, .inl (fun _ => 0))), (q9, .inl (k9, 100, .inl (fun _ => 0))), (q10, .inl (k10, 100, .inl (fun _ => 0))), (q11, .inl (k11, 100, .inl (fun _ => 0))), (q12, .inl (k12, 100, .inl (fun _ => 0))), (q13, .inl (k13, 40, .inl (fun _ => 0))), (q14, .inl (k14, 40, .inl (fun _ => 0)))] := hD
  refine lv_aload_n hx hb dM_init_81 rfl (lv_at hl 0 rfl) ?_
  refine lv_bipush (v := 40) hx hb dM_init_82 (by decide) ?_
  refine va_newa (atype := .int) (N' := 40) (a0 := (40, .inl (fun _ => 0))) (ty := .int) (n := 40) hx hb aci rfl hK hP hD hS hA (fun _ => rfl) (by decide) (by decide) (by decide) (by decide) (by decide) dM_init_84 (fun q15 k15 H hK hP hD hS => ?_)
  have hK : va_K D cl [(k6, .int), (k7, .int), (k8, .int), (k9, .int), (k10, .int), (k11, .int), (k12, .int), (k13, .int), (k14, .int), (k15, .int)] s := hK
  have hP : va_P D cl [(a, .inr (0, [.int 0, .int 0, .int 0, .int 0, .int 0, .int 1, .ref q6, .ref q7, .ref q8, .ref q9, .ref q10, .ref q11, .ref q12, .ref q13, .ref q14, .null, .null, .null, .null, .null, .int 0, .int 0, .int 0, .int 0, .int 0, .int 0, .int 0, .null, .null])), (q6, .inl (k6, 8, .inl (fun _ => 0))), (q7, .inl (k7, 100, .inl (fun _ => 0))), (q8, .inl (k8, 100, .inl (fun _ => 0))), (q9, .inl (k9, 100, .inl (fun _ => 0))), (q10, .inl (k10, 100, .inl (fun _ => 0))), (q11, .inl (k11, 100, .inl (fun _ => 0))), (q12, .inl (k12, 100, .inl (fun _ => 0))), (q13, .inl (k13, 40, .inl (fun _ => 0))), (q14, .inl (k14, 40, .inl (fun _ => 0))), (q15, .inl (k15, 40, .inl (fun _ => 0)))] H := hP
  have hD : va_D A [(a, .inr (0, [.int 0, .int 0, .int 0, .int 0, .int 0, .int 1, .ref q6, .ref q7, .ref q8, .ref q9, .ref q10, .ref q11, .ref q12, .ref q13, .ref q14, .null, .null, .null, .null, .null, .int 0, .int 0, .int 0, .int 0, .int 0, .int 0, .int 0, .null, .null])), (q6, .inl (k6, 8, .inl (fun _ => 0))), (q7, .inl (k7, 100, .inl (fun _ => 0))), (q8, .inl (k8, 100, .inl (fun _ => 0))), (q9, .inl (k9, 100, .inl (fun _ => 0))), (q10, .inl (k10, 100, .inl (fun _ => 0))), (q11, .inl (k11, 100, .inl (fun _ => 0))), (q12, .inl (k12, 100, .inl (fun _ => 0))), (q13, .inl (k13, 40, .inl (fun _ => 0))), (q14, .inl (k14, 40, .inl (fun _ => 0))), (q15, .inl (k15, 40, .inl (fun _ => 0)))] := hD
  refine W.widen (k := 10) (n := 728) (by decide) (by decide) ?_
  refine va_putF (D := D) (ci := 0) (v := .ref q15) (ty := tyM 15) (C := RM) (T := TM) (N := 29) hx hb hts inX_ tyM tyM_ok nmM hown hK hP hD hS 0 rfl hcl 15 (by decide) f41 (fun _ h9 => h9) rfl hin rfl (tyM_ok 15 (by decide)) rfl rfl (Nat.le_of_ble_eq_true rfl) dM_init_86 (fun H locs hP hD hS => ?_)
  have hP : va_P D cl [(a, .inr (0, [.int 0, .int 0, .int 0, .int 0, .int 0, .int 1, .ref q6, .ref q7, .ref q8, .ref q9, .ref q10, .ref q11, .ref q12, .ref q13, .ref q14, .ref q15, .null, .null, .null, .null, .int 0, .int 0, .int 0, .int 0, .int 0, .int 0, .int 0, .null, .null])), (q6, .inl (k6, 8, .inl (fun _ => 0))), (q7, .inl (k7, 100, .inl (fun _ => 0))), (q8, .inl (k8, 100, .inl (fun _ => 0))), (q9, .inl (k9, 100, .inl (fun _ => 0))), (q10, .inl (k10, 100, .inl (fun _ => 0))), (q11, .inl (k11, 100, .inl (fun _ => 0))), (q12, .inl (k12, 100, .inl (fun _ => 0))), (q13, .inl (k13, 40, .inl (fun _ => 0))), (q14, .inl (k14, 40, .inl (fun _ => 0))), (q15, .inl (k15, 40, .inl (fun _ => 0)))] H := hP
  have hD : va_D A [(a, .inr (0, [.int 0, .int 0, .int 0, .int 0, .int 0, .int 1, .ref q6, .ref q7, .ref q8, .ref q9, .ref q10, .ref q11, .ref q12, .ref q13, .ref q14, .ref q15, .null, .null, .null, .null, .int 0, .int 0, .int 0, .int 0, .int 0, .int 0, .int 0, .null, .null])), (q6, .inl (k6, 8, .inl (fun _ => 0))), (q7, .inl (k7, 100, .inl (fun _ => 0))), (q8, .inl (k8, 100, .inl (fun _ => 0))), (q9, .inl (k9, 100, .inl (fun _ => 0))), (q10, .inl (k10, 100, .inl (fun _ => 0))), (q11, .inl (k11, 100, .inl (fun _ => 0))), (q12, .inl (k12, 100, .inl (fun _ => 0))), (q13, .inl (k13, 40, .inl (fun _ => 0))), (q14, .inl (k14, 40, .inl (fun _ => 0))), (q15, .inl (k15, 40, .inl (fun _ => 0)))] := hD
  refine lv_aload_n hx hb dM_init_89 rfl (lv_at hl 0 rfl) ?_
  refine lv_bipush (v := 40) hx hb dM_init_90 (by decide) ?_
  refine va_newa (atype := .int) (N' := 40) (a0 := (40, .inl (fun _ => 0))) (ty := .int) (n := 40) hx hb aci rfl hK hP hD hS hA (fun _ => rfl) (by decide) (by decide) (by decide) (by decide) (by decide) dM_init_92 (fun q16 k16 H hK hP hD hS => ?_)
  have hK : va_K D cl [(k6, .int), (k7, .int), (k8, .int), (k9, .int), (k10, .int), (k11, .int), (k12, .int), (k13, .int), (k14, .int), (k15, .int), (k16, .int)] s := hK
  have hP : va_P D cl [(a, .inr (0, [.int 0, .int 0, .int 0, .int 0, .int 0, .int 1, .ref q6, .ref q7, .ref q8, .ref q9, .ref q10, .ref q11, .ref q12, .ref q13, .ref q14, .ref q15, .null, .null, .null, .null, .int 0, .int 0, .int 0, .int 0, .int 0, .int 0, .int 0, .null, .null])), (q6, .inl (k6, 8, .inl (fun _ => 0))), (q7, .inl (k7, 100, .inl (fun _ => 0))), (q8, .inl (k8, 100, .inl (fun _ => 0))), (q9, .inl (k9, 100, .inl (fun _ => 0))), (q10, .inl (k10, 100, .inl (fun _ => 0))), (q11, .inl (k11, 100, .inl (fun _ => 0))), (q12, .inl (k12, 100, .inl (fun _ => 0))), (q13, .inl (k13, 40, .inl (fun _ => 0))), (q14, .inl (k14, 40, .inl (fun _ => 0))), (q15, .inl (k15, 40, .inl (fun _ => 0))), (q16, .inl (k16, 40, .inl (fun _ => 0)))] H := hP
  have hD : va_D A [(a, .inr (0, [.int 0, .int 0, .int 0, .int 0, .int 0, .int 1, .ref q6, .ref q7, .ref q8, .ref q9, .ref q10, .ref q11, .ref q12, .ref q13, .ref q14, .ref q15, .null, .null, .null, .null, .int 0, .int 0, .int 0, .int 0, .int 0, .int 0, .int 0, .null, .null])), (q6, .inl (k6, 8, .inl (fun _ => 0))), (q7, .inl (k7, 100, .inl (fun _ => 0))), (q8, .inl (k8, 100, .inl (fun _ => 0))), (q9, .inl (k9, 100, .inl (fun _ => 0))), (q10, .inl (k10, 100, .inl (fun _ => 0))), (q11, .inl (k11, 100, .inl (fun _ => 0))), (q12, .inl (k12, 100, .inl (fun _ => 0))), (q13, .inl (k13, 40, .inl (fun _ => 0))), (q14, .inl (k14, 40, .inl (fun _ => 0))), (q15, .inl (k15, 40, .inl (fun _ => 0))), (q16, .inl (k16, 40, .inl (fun _ => 0)))] := hD
  refine W.widen (k := 11) (n := 768) (by decide) (by decide) ?_
  refine va_putF (D := D) (ci := 0) (v := .ref q16) (ty := tyM 16) (C := RM) (T := TM) (N := 29) hx hb hts inX_ tyM tyM_ok nmM hown hK hP hD hS 0 rfl hcl 16 (by decide) f44 (fun _ h9 => h9) rfl hin rfl (tyM_ok 16 (by decide)) rfl rfl (Nat.le_of_ble_eq_true rfl) dM_init_94 (fun H locs hP hD hS => ?_)
  have hP : va_P D cl [(a, .inr (0, [.int 0, .int 0, .int 0, .int 0, .int 0, .int 1, .ref q6, .ref q7, .ref q8, .ref q9, .ref q10, .ref q11, .ref q12, .ref q13, .ref q14, .ref q15, .ref q16, .null, .null, .null, .int 0, .int 0, .int 0, .int 0, .int 0, .int 0, .int 0, .null, .null])), (q6, .inl (k6, 8, .inl (fun _ => 0))), (q7, .inl (k7, 100, .inl (fun _ => 0))), (q8, .inl (k8, 100, .inl (fun _ => 0))), (q9, .inl (k9, 100, .inl (fun _ => 0))), (q10, .inl (k10, 100, .inl (fun _ => 0))), (q11, .inl (k11, 100, .inl (fun _ => 0))), (q12, .inl (k12, 100, .inl (fun _ => 0))), (q13, .inl (k13, 40, .inl (fun _ => 0))), (q14, .inl (k14, 40, .inl (fun _ => 0))), (q15, .inl (k15, 40, .inl (fun _ => 0))), (q16, .inl (k16, 40, .inl (fun _ => 0)))] H := hP
  have hD : va_D A [(a, .inr (0, [.int 0, .int 0, .int 0, .int 0, .int 0, .int 1, .ref q6, .ref q7, .ref q8, .ref q9, .ref q10, .ref q11, .ref q12, .ref q13, .ref q14, .ref q15, .ref q16, .null, .null, .null, .int 0, .int 0, .int 0, .int 0, .int 0, .int 0, .int 0, .null, .null])), (q6, .inl (k6, 8, .inl (fun _ => 0))), (q7, .inl (k7, 100, .inl (fun _ => 0))), (q8, .inl (k8, 100, .inl (fun _ => 0))), (q9, .inl (k9, 100, .inl (fun _ => 0))), (q10, .inl (k10, 100, .inl (fun _ => 0))), (q11, .inl (k11, 100, .inl (fun _ => 0))), (q12, .inl (k12, 100, .inl (fun _ => 0))), (q13, .inl (k13, 40, .inl (fun _ => 0))), (q14, .inl (k14, 40, .inl (fun _ => 0))), (q15, .inl (k15, 40, .inl (fun _ => 0))), (q16, .inl (k16, 40, .inl (fun _ => 0)))] := hD
  refine lv_aload_n hx hb dM_init_97 rfl (lv_at hl 0 rfl) ?_
  refine lv_iconst (v := 4) hx hb dM_init_98 (by decide) ?_
  refine va_newa (atype := .boolean) (N' := 4) (a0 := (4, .inl (fun _ => 0))) (ty := .boolean) (n := 4) hx hb acb rfl hK hP hD hS hA (fun _ => rfl) (by decide) (by decide) (by decide) (by decide) (by decide) dM_init_99 (fun q17 k17 H hK hP hD hS => ?_)
  have hK : va_K D cl [(k6, .int), (k7, .int), (k8, .int), (k9, .int), (k10, .int), (k11, .int), (k12, .int), (k13, .int), (k14, .int), (k15, .int), (k16, .int), (k17, .boolean)] s := hK
  have hP : va_P D cl [(a, .inr (0, [.int 0, .int 0, .int 0, .int 0, .int 0, .int 1, .ref q6, .ref q7, .ref q8, .ref q9, .ref q10, .ref q11, .ref q12, .ref q13, .ref q14, .ref q15, .ref q16, .null, .null, .null, .int 0, .int 0, .int 0, .int 0, .int 0, .int 0, .int 0, .null, .null])), (q6, .inl (k6, 8, .inl (fun _ => 0))), (q7, .inl (k7, 100, .inl (fun _ => 0))), (q8, .inl (k8, 100, .inl (fun _ => 0))), (q9, .inl (k9, 100, .inl (fun _ => 0))), (q10, .inl (k10, 100, .inl (fun _ => 0))), (q11, .inl (k11, 100, .inl (fun _ => 0))), (q12, .inl (k12, 100, .inl (fun _ => 0))), (q13, .inl (k13, 40, .inl (fun _ => 0))), (q14, .inl (k14, 40, .inl (fun _ => 0))), (q15, .inl (k15, 40, .inl (fun _ => 0))), (q16, .inl (k16, 40, .inl (fun _ => 0))), (q17, .inl (k17, 4, .inl (fun _ => 0)))] H := hP
  have hD : va_D A [(a, .inr (0, [.int 0, .int 0, .int 0, .int 0, .int 0, .int 1, .ref q6, .ref q7, .ref q8, .ref q9, .ref q10, .ref q11, .ref q12, .ref q13, .ref q14, .ref q15, .ref q16, .null, .null, .null, .int 0, .int 0, .int 0, .int 0, .int 0, .int 0, .int 0, .null, .null])), (q6, .inl (k6, 8, .inl (fun _ => 0))), (q7, .inl (k7, 100, .inl (fun _ => 0))), (q8, .inl (k8, 100, .inl (fun _ => 0))), (q9, .inl (k9, 100, .inl (fun _ => 0))), (q10, .inl (k10, 100, .inl (fun _ => 0))), (q11, .inl (k11, 100, .inl (fun _ => 0))), (q12, .inl (k12, 100, .inl (fun _ => 0))), (q13, .inl (k13, 40, .inl (fun _ => 0))), (q14, .inl (k14, 40, .inl (fun _ => 0))), (q15, .inl (k15, 40, .inl (fun _ => 0))), (q16, .inl (k16, 40, .inl (fun _ => 0))), (q17, .inl (k17, 4, .inl (fun _ => 0)))] := hD
  refine W.widen (k := 12) (n := 772) (by decide) (by decide) ?_
  refine va_putF (D := D) (ci := 0) (v := .ref q17) (ty := tyM 17) (C := RM) (T := TM) (N := 29) hx hb hts inX_ tyM tyM_ok nmM hown hK hP hD hS 0 rfl hcl 17 (by decide) f47 (fun _ h9 => h9) rfl hin rfl (tyM_ok 17 (by decide)) rfl rfl (Nat.le_of_ble_eq_true rfl) dM_init_101 (fun H locs hP hD hS => ?_)
  have hP : va_P D cl [(a, .inr (0, [.int 0, .int 0, .int 0, .int 0, .int 0, .int 1, .ref q6, .ref q7, .ref q8, .ref q9, .ref q10, .ref q11, .ref q12, .ref q13, .ref q14, .ref q15, .ref q16, .ref q17, .null, .null, .int 0, .int 0, .int 0, .int 0, .int 0, .int 0, .int 0, .null, .null])), (q6, .inl (k6, 8, .inl (fun _ => 0))), (q7, .inl (k7, 100, .inl (fun _ => 0))), (q8, .inl (k8, 100, .inl (fun _ => 0))), (q9, .inl (k9, 100, .inl (fun _ => 0))), (q10, .inl (k10, 100, .inl (fun _ => 0))), (q11, .inl (k11, 100, .inl (fun _ => 0))), (q12, .inl (k12, 100, .inl (fun _ => 0))), (q13, .inl (k13, 40, .inl (fun _ => 0))), (q14, .inl (k14, 40, .inl (fun _ => 0))), (q15, .inl (k15, 40, .inl (fun _ => 0))), (q16, .inl (k16, 40, .inl (fun _ => 0))), (q17, .inl (k17, 4, .inl (fun _ => 0)))] H := hP
  have hD : va_D A [(a, .inr (0, [.int 0, .int 0, .int 0, .int 0, .int 0, .int 1, .ref q6, .ref q7, .ref q8, .ref q9, .ref q10, .ref q11, .ref q12, .ref q13, .ref q14, .ref q15, .ref q16, .ref q17, .null, .null, .int 0, .int 0, .int 0, .int 0, .int 0, .int 0, .int 0, .null, .null])), (q6, .inl (k6, 8, .inl (fun _ => 0))), (q7, .inl (k7, 100, .inl (fun _ => 0))), (q8, .inl (k8, 100, .inl (fun _ => 0))), (q9, .inl (k9, 100, .inl (fun _ => 0))), (q10, .inl (k10, 100, .inl (fun _ => 0))), (q11, .inl (k11, 100, .inl (fun _ => 0))), (q12, .inl (k12, 100, .inl (fun _ => 0))), (q13, .inl (k13, 40, .inl (fun _ => 0))), (q14, .inl (k14, 40, .inl (fun _ => 0))), (q15, .inl (k15, 40, .inl (fun _ => 0))), (q16, .inl (k16, 40, .inl (fun _ => 0))), (q17, .inl (k17, 4, .inl (fun _ => 0)))] := hD
  refine lv_aload_n hx hb dM_init_104 rfl (lv_at hl 0 rfl) ?_
  refine lv_iconst (v := 4) hx hb dM_init_105 (by decide) ?_
  refine va_newa (atype := .int) (N' := 4) (a0 := (4, .inl (fun _ => 0))) (ty := .int) (n := 4) hx hb aci rfl hK hP hD hS hA (fun _ => rfl) (by decide) (by decide) (by decide) (by decide) (by decide) dM_init_106 (fun q18 k18 H hK hP hD hS => ?_)
  have hK : va_K D cl [(k6, .int), (k7, .int), (k8, .int), (k9, .int), (k10, .int), (k11, .int), (k12, .int), (k13, .int), (k14, .int), (k15, .int), (k16, .int), (k17, .boolean), (k18, .int)] s := hK
  have hP : va_P D cl [(a, .inr (0, [.int 0, .int 0, .int 0, .int 0, .int 0, .int 1, .ref q6, .ref q7, .ref q8, .ref q9, .ref q10, .ref q11, .ref q12, .ref q13, .ref q14, .ref q15, .ref q16, .ref q17, .null, .null, .int 0, .int 0, .int 0, .int 0, .int 0, .int 0, .int 0, .null, .null])), (q6, .inl (k6, 8, .inl (fun _ => 0))), (q7, .inl (k7, 100, .inl (fun _ => 0))), (q8, .inl (k8, 100, .inl (fun _ => 0))), (q9, .inl (k9, 100, .inl (fun _ => 0))), (q10, .inl (k10, 100, .inl (fun _ => 0))), (q11, .inl (k11, 100, .inl (fun _ => 0))), (q12, .inl (k12, 100, .inl (fun _ => 0))), (q13, .inl (k13, 40, .inl (fun _ => 0))), (q14, .inl (k14, 40, .inl (fun _ => 0))), (q15, .inl (k15, 40, .inl (fun _ => 0))), (q16, .inl (k16, 40, .inl (fun _ => 0))), (q17, .inl (k17, 4, .inl (fun _ => 0))), (q18, .inl (k18, 4, .inl (fun _ => 0)))] H := hP
  have hD : va_D A [(a, .inr (0, [.int 0, .int 0, .int 0, .int 0, .int 0, .int 1, .ref q6, .ref q7, .ref q8, .ref q9, .ref q10, .ref q11, .ref q12, .ref q13, .ref q14, .ref q15, .ref q16, .ref q17, .null, .null, .int 0, .int 0, .int 0, .int 0, .int 0, .int 0, .int 0, .null, .null])), (q6, .inl (k6, 8, .inl (fun _ => 0))), (q7, .inl (k7, 100, .inl (fun _ => 0))), (q8, .inl (k8, 100, .inl (fun _ => 0))), (q9, .inl (k9, 100, .inl (fun _ => 0))), (q10, .inl (k10, 100, .inl (fun _ => 0))), (q11, .inl (k11, 100, .inl (fun _ => 0))), (q12, .inl (k12, 100, .inl (fun _ => 0))), (q13, .inl (k13, 40, .inl (fun _ => 0))), (q14, .inl (k14, 40, .inl (fun _ => 0))), (q15, .inl (k15, 40, .inl (fun _ => 0))), (q16, .inl (k16, 40, .inl (fun _ => 0))), (q17, .inl (k17, 4, .inl (fun _ => 0))), (q18, .inl (k18, 4, .inl (fun _ => 0)))] := hD
  refine W.widen (k := 13) (n := 776) (by decide) (by decide) ?_
  refine va_putF (D := D) (ci := 0) (v := .ref q18) (ty := tyM 18) (C := RM) (T := TM) (N := 29) hx hb hts inX_ tyM tyM_ok nmM hown hK hP hD hS 0 rfl hcl 18 (by decide) f51 (fun _ h9 => h9) rfl hin rfl (tyM_ok 18 (by decide)) rfl rfl (Nat.le_of_ble_eq_true rfl) dM_init_108 (fun H locs hP hD hS => ?_)
  have hP : va_P D cl [(a, .inr (0, [.int 0, .int 0, .int 0, .int 0, .int 0, .int 1, .ref q6, .ref q7, .ref q8, .ref q9, .ref q10, .ref q11, .ref q12, .ref q13, .ref q14, .ref q15, .ref q16, .ref q17, .ref q18, .null, .int 0, .int 0, .int 0, .int 0, .int 0, .int 0, .int 0, .null, .null])), (q6, .inl (k6, 8, .inl (fun _ => 0))), (q7, .inl (k7, 100, .inl (fun _ => 0))), (q8, .inl (k8, 100, .inl (fun _ => 0))), (q9, .inl (k9, 100, .inl (fun _ => 0))), (q10, .inl (k10, 100, .inl (fun _ => 0))), (q11, .inl (k11, 100, .inl (fun _ => 0))), (q12, .inl (k12, 100, .inl (fun _ => 0))), (q13, .inl (k13, 40, .inl (fun _ => 0))), (q14, .inl (k14, 40, .inl (fun _ => 0))), (q15, .inl (k15, 40, .inl (fun _ => 0))), (q16, .inl (k16, 40, .inl (fun _ => 0))), (q17, .inl (k17, 4, .inl (fun _ => 0))), (q18, .inl (k18, 4, .inl (fun _ => 0)))] H := hP
  have hD : va_D A [(a, .inr (0, [.int 0, .int 0, .int 0, .int 0, .int 0, .int 1, .ref q6, .ref q7, .ref q8, .ref q9, .ref q10, .ref q11, .ref q12, .ref q13, .ref q14, .ref q15, .ref q16, .ref q17, .ref q18, .null, .int 0, .int 0, .int 0, .int 0, .int 0, .int 0, .int 0, .null, .null])), (q6, .inl (k6, 8, .inl (fun _ => 0))), (q7, .inl (k7, 100, .inl (fun _ => 0))), (q8, .inl (k8, 100, .inl (fun _ => 0))), (q9, .inl (k9, 100, .inl (fun _ => 0))), (q10, .inl (k10, 100, .inl (fun _ => 0))), (q11, .inl (k11, 100, .inl (fun _ => 0))), (q12, .inl (k12, 100, .inl (fun _ => 0))), (q13, .inl (k13, 40, .inl (fun _ => 0))), (q14, .inl (k14, 40, .inl (fun _ => 0))), (q15, .inl (k15, 40, .inl (fun _ => 0))), (q16, .inl (k16, 40, .inl (fun _ => 0))), (q17, .inl (k17, 4, .inl (fun _ => 0))), (q18, .inl (k18, 4, .inl (fun _ => 0)))] := hD
  refine lv_aload_n hx hb dM_init_111 rfl (lv_at hl 0 rfl) ?_
  refine lv_bipush (v := 8) hx hb dM_init_112 (by decide) ?_
  refine va_newa (atype := .int) (N' := 8) (a0 := (8, .inl (fun _ => 0))) (ty := .int) (n := 8) hx hb aci rfl hK hP hD hS hA (fun _ => rfl) (by decide) (by decide) (by decide) (by decide) (by decide) dM_init_114 (fun q19 k19 H hK hP hD hS => ?_)
  have hK : va_K D cl [(k6, .int), (k7, .int), (k8, .int), (k9, .int), (k10, .int), (k11, .int), (k12, .int), (k13, .int), (k14, .int), (k15, .int), (k16, .int), (k17, .boolean), (k18, .int), (k19, .int)] s := hK
  have hP : va_P D cl [(a, .inr (0, [.int 0, .int 0, .int 0, .int 0, .int 0, .int 1, .ref q6, .ref q7, .ref q8, .ref q9, .ref q10, .ref q11, .ref q12, .ref q13, .ref q14, .ref q15, .ref q16, .ref q17, .ref q18, .null, .int 0, .int 0, .int 0, .int 0, .int 0, .int 0, .int 0, .null, .null])), (q6, .inl (k6, 8, .inl (fun _ => 0))), (q7, .inl (k7, 100, .inl (fun _ => 0))), (q8, .inl (k8, 100, .inl (fun _ => 0))), (q9, .inl (k9, 100, .inl (fun _ => 0))), (q10, .inl (k10, 100, .inl (fun _ => 0))), (q11, .inl (k11, 100, .inl (fun _ => 0))), (q12, .inl (k12, 100, .inl (fun _ => 0))), (q13, .inl (k13, 40, .inl (fun _ => 0))), (q14, .inl (k14, 40, .inl (fun _ => 0))), (q15, .inl (k15, 40, .inl (fun _ => 0))), (q16, .inl (k16, 40, .inl (fun _ => 0))), (q17, .inl (k17, 4, .inl (fun _ => 0))), (q18, .inl (k18, 4, .inl (fun _ => 0))), (q19, .inl (k19, 8, .inl (fun _ => 0)))] H := hP
  have hD : va_D A [(a, .inr (0, [.int 0, .int 0, .int 0, .int 0, .int 0, .int 1, .ref q6, .ref q7, .ref q8, .ref q9, .ref q10, .ref q11, .ref q12, .ref q13, .ref q14, .ref q15, .ref q16, .ref q17, .ref q18, .null, .int 0, .int 0, .int 0, .int 0, .int 0, .int 0, .int 0, .null, .null])), (q6, .inl (k6, 8, .inl (fun _ => 0))), (q7, .inl (k7, 100, .inl (fun _ => 0))), (q8, .inl (k8, 100, .inl (fun _ => 0))), (q9, .inl (k9, 100, .inl (fun _ => 0))), (q10, .inl (k10, 100, .inl (fun _ => 0))), (q11, .inl (k11, 100, .inl (fun _ => 0))), (q12, .inl (k12, 100, .inl (fun _ => 0))), (q13, .inl (k13, 40, .inl (fun _ => 0))), (q14, .inl (k14, 40, .inl (fun _ => 0))), (q15, .inl (k15, 40, .inl (fun _ => 0))), (q16, .inl (k16, 40, .inl (fun _ => 0))), (q17, .inl (k17, 4, .inl (fun _ => 0))), (q18, .inl (k18, 4, .inl (fun _ => 0))), (q19, .inl (k19, 8, .inl (fun _ => 0)))] := hD
  refine W.widen (k := 14) (n := 784) (by decide) (by decide) ?_
  refine va_putF (D := D) (ci := 0) (v := .ref q19) (ty := tyM 19) (C := RM) (T := TM) (N := 29) hx hb hts inX_ tyM tyM_ok nmM hown hK hP hD hS 0 rfl hcl 19 (by decide) f54 (fun _ h9 => h9) rfl hin rfl (tyM_ok 19 (by decide)) rfl rfl (Nat.le_of_ble_eq_true rfl) dM_init_116 (fun H locs hP hD hS => ?_)
  have hP : va_P D cl [(a, .inr (0, [.int 0, .int 0, .int 0, .int 0, .int 0, .int 1, .ref q6, .ref q7, .ref q8, .ref q9, .ref q10, .ref q11, .ref q12, .ref q13, .ref q14, .ref q15, .ref q16, .ref q17, .ref q18, .ref q19, .int 0, .int 0, .int 0, .int 0, .int 0, .int 0, .int 0, .null, .null])), (q6, .inl (k6, 8, .inl (fun _ => 0))), (q7, .inl (k7, 100, .inl (fun _ => 0))), (q8, .inl (k8, 100, .inl (fun _ => 0))), (q9, .inl (k9, 100, .inl (fun _ => 0))), (q10, .inl (k10, 100, .inl (fun _ => 0))), (q11, .inl (k11, 100, .inl (fun _ => 0))), (q12, .inl (k12, 100, .inl (fun _ => 0))), (q13, .inl (k13, 40, .inl (fun _ => 0))), (q14, .inl (k14, 40, .inl (fun _ => 0))), (q15, .inl (k15, 40, .inl (fun _ => 0))), (q16, .inl (k16, 40, .inl (fun _ => 0))), (q17, .inl (k17, 4, .inl (fun _ => 0))), (q18, .inl (k18, 4, .inl (fun _ => 0))), (q19, .inl (k19, 8, .inl (fun _ => 0)))] H := hP
  have hD : va_D A [(a, .inr (0, [.int 0, .int 0, .int 0, .int 0, .int 0, .int 1, .ref q6, .ref q7, .ref q8, .ref q9, .ref q10, .ref q11, .ref q12, .ref q13, .ref q14, .ref q15, .ref q16, .ref q17, .ref q18, .ref q19, .int 0, .int 0, .int 0, .int 0, .int 0, .int 0, .int 0, .null, .null])), (q6, .inl (k6, 8, .inl (fun _ => 0))), (q7, .inl (k7, 100, .inl (fun _ => 0))), (q8, .inl (k8, 100, .inl (fun _ => 0))), (q9, .inl (k9, 100, .inl (fun _ => 0))), (q10, .inl (k10, 100, .inl (fun _ => 0))), (q11, .inl (k11, 100, .inl (fun _ => 0))), (q12, .inl (k12, 100, .inl (fun _ => 0))), (q13, .inl (k13, 40, .inl (fun _ => 0))), (q14, .inl (k14, 40, .inl (fun _ => 0))), (q15, .inl (k15, 40, .inl (fun _ => 0))), (q16, .inl (k16, 40, .inl (fun _ => 0))), (q17, .inl (k17, 4, .inl (fun _ => 0))), (q18, .inl (k18, 4, .inl (fun _ => 0))), (q19, .inl (k19, 8, .inl (fun _ => 0)))] := hD
  refine lv_aload_n hx hb dM_init_119 rfl (lv_at hl 0 rfl) ?_
  refine lv_iconst (v := (-1)) hx hb dM_init_120 (by decide) ?_
  refine va_put (D := D) (ci := 0) (v := .int (-1)) (ty := tyM 22) (C := RM) (T := TM) (N := 29) hx hb hts inX_ tyM tyM_ok nmM hown hK hP hD hS 0 rfl hcl 22 (by decide) f57 (fun _ h9 => h9) rfl (tyM_ok 22 (by decide)) rfl rfl (Nat.le_of_ble_eq_true rfl) dM_init_121 (fun H locs hP hD hS => ?_)
  have hP : va_P D cl [(a, .inr (0, [.int 0, .int 0, .int 0, .int 0, .int 0, .int 1, .ref q6, .ref q7, .ref q8, .ref q9, .ref q10, .ref q11, .ref q12, .ref q13, .ref q14, .ref q15, .ref q16, .ref q17, .ref q18, .ref q19, .int 0, .int 0, .int (-1), .int 0, .int 0, .int 0, .int 0, .null, .null])), (q6, .inl (k6, 8, .inl (fun _ => 0))), (q7, .inl (k7, 100, .inl (fun _ => 0))), (q8, .inl (k8, 100, .inl (fun _ => 0))), (q9, .inl (k9, 100, .inl (fun _ => 0))), (q10, .inl (k10, 100, .inl (fun _ => 0))), (q11, .inl (k11, 100, .inl (fun _ => 0))), (q12, .inl (k12, 100, .inl (fun _ => 0))), (q13, .inl (k13, 40, .inl (fun _ => 0))), (q14, .inl (k14, 40, .inl (fun _ => 0))), (q15, .inl (k15, 40, .inl (fun _ => 0))), (q16, .inl (k16, 40, .inl (fun _ => 0))), (q17, .inl (k17, 4, .inl (fun _ => 0))), (q18, .inl (k18, 4, .inl (fun _ => 0))), (q19, .inl (k19, 8, .inl (fun _ => 0)))] H := hP
  have hD : va_D A [(a, .inr (0, [.int 0, .int 0, .int 0, .int 0, .int 0, .int 1, .ref q6, .ref q7, .ref q8, .ref q9, .ref q10, .ref q11, .ref q12, .ref q13, .ref q14, .ref q15, .ref q16, .ref q17, .ref q18, .ref q19, .int 0, .int 0, .int (-1), .int 0, .int 0, .int 0, .int 0, .null, .null])), (q6, .inl (k6, 8, .inl (fun _ => 0))), (q7, .inl (k7, 100, .inl (fun _ => 0))), (q8, .inl (k8, 100, .inl (fun _ => 0))), (q9, .inl (k9, 100, .inl (fun _ => 0))), (q10, .inl (k10, 100, .inl (fun _ => 0))), (q11, .inl (k11, 100, .inl (fun _ => 0))), (q12, .inl (k12, 100, .inl (fun _ => 0))), (q13, .inl (k13, 40, .inl (fun _ => 0))), (q14, .inl (k14, 40, .inl (fun _ => 0))), (q15, .inl (k15, 40, .inl (fun _ => 0))), (q16, .inl (k16, 40, .inl (fun _ => 0))), (q17, .inl (k17, 4, .inl (fun _ => 0))), (q18, .inl (k18, 4, .inl (fun _ => 0))), (q19, .inl (k19, 8, .inl (fun _ => 0)))] := hD
  refine lv_aload_n hx hb dM_init_124 rfl (lv_at hl 0 rfl) ?_
  refine lv_sipush (v := 4096) hx hb dM_init_125 (by decide) ?_
  refine va_newa (atype := .boolean) (N' := 4096) (a0 := (4096, .inl (fun _ => 0))) (ty := .boolean) (n := 4096) hx hb acb rfl hK hP hD hS hA (fun _ => rfl) (by decide) (by decide) (by decide) (by decide) (by decide) dM_init_128 (fun q27 k27 H hK hP hD hS => ?_)
  have hK : va_K D cl [(k6, .int), (k7, .int), (k8, .int), (k9, .int), (k10, .int), (k11, .int), (k12, .int), (k13, .int), (k14, .int), (k15, .int), (k16, .int), (k17, .boolean), (k18, .int), (k19, .int), (k27, .boolean)] s := hK
  have hP : va_P D cl [(a, .inr (0, [.int 0, .int 0, .int 0, .int 0, .int 0, .int 1, .ref q6, .ref q7, .ref q8, .ref q9, .ref q10, .ref q11, .ref q12, .ref q13, .ref q14, .ref q15, .ref q16, .ref q17, .ref q18, .ref q19, .int 0, .int 0, .int (-1), .int 0, .int 0, .int 0, .int 0, .null, .null])), (q6, .inl (k6, 8, .inl (fun _ => 0))), (q7, .inl (k7, 100, .inl (fun _ => 0))), (q8, .inl (k8, 100, .inl (fun _ => 0))), (q9, .inl (k9, 100, .inl (fun _ => 0))), (q10, .inl (k10, 100, .inl (fun _ => 0))), (q11, .inl (k11, 100, .inl (fun _ => 0))), (q12, .inl (k12, 100, .inl (fun _ => 0))), (q13, .inl (k13, 40, .inl (fun _ => 0))), (q14, .inl (k14, 40, .inl (fun _ => 0))), (q15, .inl (k15, 40, .inl (fun _ => 0))), (q16, .inl (k16, 40, .inl (fun _ => 0))), (q17, .inl (k17, 4, .inl (fun _ => 0))), (q18, .inl (k18, 4, .inl (fun _ => 0))), (q19, .inl (k19, 8, .inl (fun _ => 0))), (q27, .inl (k27, 4096, .inl (fun _ => 0)))] H := hP
  have hD : va_D A [(a, .inr (0, [.int 0, .int 0, .int 0, .int 0, .int 0, .int 1, .ref q6, .ref q7, .ref q8, .ref q9, .ref q10, .ref q11, .ref q12, .ref q13, .ref q14, .ref q15, .ref q16, .ref q17, .ref q18, .ref q19, .int 0, .int 0, .int (-1), .int 0, .int 0, .int 0, .int 0, .null, .null])), (q6, .inl (k6, 8, .inl (fun _ => 0))), (q7, .inl (k7, 100, .inl (fun _ => 0))), (q8, .inl (k8, 100, .inl (fun _ => 0))), (q9, .inl (k9, 100, .inl (fun _ => 0))), (q10, .inl (k10, 100, .inl (fun _ => 0))), (q11, .inl (k11, 100, .inl (fun _ => 0))), (q12, .inl (k12, 100, .inl (fun _ => 0))), (q13, .inl (k13, 40, .inl (fun _ => 0))), (q14, .inl (k14, 40, .inl (fun _ => 0))), (q15, .inl (k15, 40, .inl (fun _ => 0))), (q16, .inl (k16, 40, .inl (fun _ => 0))), (q17, .inl (k17, 4, .inl (fun _ => 0))), (q18, .inl (k18, 4, .inl (fun _ => 0))), (q19, .inl (k19, 8, .inl (fun _ => 0))), (q27, .inl (k27, 4096, .inl (fun _ => 0)))] := hD
  refine W.widen (k := 15) (n := 4880) (by decide) (by decide) ?_
  refine va_putF (D := D) (ci := 0) (v := .ref q27) (ty := tyM 27) (C := RM) (T := TM) (N := 29) hx hb hts inX_ tyM tyM_ok nmM hown hK hP hD hS 0 rfl hcl 27 (by decide) f60 (fun _ h9 => h9) rfl hin rfl (tyM_ok 27 (by decide)) rfl rfl (Nat.le_of_ble_eq_true rfl) dM_init_130 (fun H locs hP hD hS => ?_)
  have hP : va_P D cl [(a, .inr (0, [.int 0, .int 0, .int 0, .int 0, .int 0, .int 1, .ref q6, .ref q7, .ref q8, .ref q9, .ref q10, .ref q11, .ref q12, .ref q13, .ref q14, .ref q15, .ref q16, .ref q17, .ref q18, .ref q19, .int 0, .int 0, .int (-1), .int 0, .int 0, .int 0, .int 0, .ref q27, .null])), (q6, .inl (k6, 8, .inl (fun _ => 0))), (q7, .inl (k7, 100, .inl (fun _ => 0))), (q8, .inl (k8, 100, .inl (fun _ => 0))), (q9, .inl (k9, 100, .inl (fun _ => 0))), (q10, .inl (k10, 100, .inl (fun _ => 0))), (q11, .inl (k11, 100, .inl (fun _ => 0))), (q12, .inl (k12, 100, .inl (fun _ => 0))), (q13, .inl (k13, 40, .inl (fun _ => 0))), (q14, .inl (k14, 40, .inl (fun _ => 0))), (q15, .inl (k15, 40, .inl (fun _ => 0))), (q16, .inl (k16, 40, .inl (fun _ => 0))), (q17, .inl (k17, 4, .inl (fun _ => 0))), (q18, .inl (k18, 4, .inl (fun _ => 0))), (q19, .inl (k19, 8, .inl (fun _ => 0))), (q27, .inl (k27, 4096, .inl (fun _ => 0)))] H := hP
  have hD : va_D A [(a, .inr (0, [.int 0, .int 0, .int 0, .int 0, .int 0, .int 1, .ref q6, .ref q7, .ref q8, .ref q9, .ref q10, .ref q11, .ref q12, .ref q13, .ref q14, .ref q15, .ref q16, .ref q17, .ref q18, .ref q19, .int 0, .int 0, .int (-1), .int 0, .int 0, .int 0, .int 0, .ref q27, .null])), (q6, .inl (k6, 8, .inl (fun _ => 0))), (q7, .inl (k7, 100, .inl (fun _ => 0))), (q8, .inl (k8, 100, .inl (fun _ => 0))), (q9, .inl (k9, 100, .inl (fun _ => 0))), (q10, .inl (k10, 100, .inl (fun _ => 0))), (q11, .inl (k11, 100, .inl (fun _ => 0))), (q12, .inl (k12, 100, .inl (fun _ => 0))), (q13, .inl (k13, 40, .inl (fun _ => 0))), (q14, .inl (k14, 40, .inl (fun _ => 0))), (q15, .inl (k15, 40, .inl (fun _ => 0))), (q16, .inl (k16, 40, .inl (fun _ => 0))), (q17, .inl (k17, 4, .inl (fun _ => 0))), (q18, .inl (k18, 4, .inl (fun _ => 0))), (q19, .inl (k19, 8, .inl (fun _ => 0))), (q27, .inl (k27, 4096, .inl (fun _ => 0)))] := hD
  refine lv_aload_n hx hb dM_init_133 rfl (lv_at hl 0 rfl) ?_
  refine lv_sipush (v := 16384) hx hb dM_init_134 (by decide) ?_
  refine va_newa (atype := .int) (N' := 16384) (a0 := (16384, .inl (fun _ => 0))) (ty := .int) (n := 16384) hx hb aci rfl hK hP hD hS hA (fun _ => rfl) (by decide) (by decide) (by decide) (by decide) (by decide) dM_init_137 (fun q28 k28 H hK hP hD hS => ?_)
  have hK : va_K D cl [(k6, .int), (k7, .int), (k8, .int), (k9, .int), (k10, .int), (k11, .int), (k12, .int), (k13, .int), (k14, .int), (k15, .int), (k16, .int), (k17, .boolean), (k18, .int), (k19, .int), (k27, .boolean), (k28, .int)] s := hK
  have hP : va_P D cl [(a, .inr (0, [.int 0, .int 0, .int 0, .int 0, .int 0, .int 1, .ref q6, .ref q7, .ref q8, .ref q9, .ref q10, .ref q11, .ref q12, .ref q13, .ref q14, .ref q15, .ref q16, .ref q17, .ref q18, .ref q19, .int 0, .int 0, .int (-1), .int 0, .int 0, .int 0, .int 0, .ref q27, .null])), (q6, .inl (k6, 8, .inl (fun _ => 0))), (q7, .inl (k7, 100, .inl (fun _ => 0))), (q8, .inl (k8, 100, .inl (fun _ => 0))), (q9, .inl (k9, 100, .inl (fun _ => 0))), (q10, .inl (k10, 100, .inl (fun _ => 0))), (q11, .inl (k11, 100, .inl (fun _ => 0))), (q12, .inl (k12, 100, .inl (fun _ => 0))), (q13, .inl (k13, 40, .inl (fun _ => 0))), (q14, .inl (k14, 40, .inl (fun _ => 0))), (q15, .inl (k15, 40, .inl (fun _ => 0))), (q16, .inl (k16, 40, .inl (fun _ => 0))), (q17, .inl (k17, 4, .inl (fun _ => 0))), (q18, .inl (k18, 4, .inl (fun _ => 0))), (q19, .inl (k19, 8, .inl (fun _ => 0))), (q27, .inl (k27, 4096, .inl (fun _ => 0))), (q28, .inl (k28, 16384, .inl (fun _ => 0)))] H := hP
  have hD : va_D A [(a, .inr (0, [.int 0, .int 0, .int 0, .int 0, .int 0, .int 1, .ref q6, .ref q7, .ref q8, .ref q9, .ref q10, .ref q11, .ref q12, .ref q13, .ref q14, .ref q15, .ref q16, .ref q17, .ref q18, .ref q19, .int 0, .int 0, .int (-1), .int 0, .int 0, .int 0, .int 0, .ref q27, .null])), (q6, .inl (k6, 8, .inl (fun _ => 0))), (q7, .inl (k7, 100, .inl (fun _ => 0))), (q8, .inl (k8, 100, .inl (fun _ => 0))), (q9, .inl (k9, 100, .inl (fun _ => 0))), (q10, .inl (k10, 100, .inl (fun _ => 0))), (q11, .inl (k11, 100, .inl (fun _ => 0))), (q12, .inl (k12, 100, .inl (fun _ => 0))), (q13, .inl (k13, 40, .inl (fun _ => 0))), (q14, .inl (k14, 40, .inl (fun _ => 0))), (q15, .inl (k15, 40, .inl (fun _ => 0))), (q16, .inl (k16, 40, .inl (fun _ => 0))), (q17, .inl (k17, 4, .inl (fun _ => 0))), (q18, .inl (k18, 4, .inl (fun _ => 0))), (q19, .inl (k19, 8, .inl (fun _ => 0))), (q27, .inl (k27, 4096, .inl (fun _ => 0))), (q28, .inl (k28, 16384, .inl (fun _ => 0)))] := hD
  refine W.widen (k := 16) (n := 21264) (by decide) (by decide) ?_
  refine va_putF (D := D) (ci := 0) (v := .ref q28) (ty := tyM 28) (C := RM) (T := TM) (N := 29) hx hb hts inX_ tyM tyM_ok nmM hown hK hP hD hS 0 rfl hcl 28 (by decide) f63 (fun _ h9 => h9) rfl hin rfl (tyM_ok 28 (by decide)) rfl rfl (Nat.le_of_ble_eq_true rfl) dM_init_139 (fun H locs hP hD hS => ?_)
  have hP : va_P D cl [(a, .inr (0, [.int 0, .int 0, .int 0, .int 0, .int 0, .int 1, .ref q6, .ref q7, .ref q8, .ref q9, .ref q10, .ref q11, .ref q12, .ref q13, .ref q14, .ref q15, .ref q16, .ref q17, .ref q18, .ref q19, .int 0, .int 0, .int (-1), .int 0, .int 0, .int 0, .int 0, .ref q27, .ref q28])), (q6, .inl (k6, 8, .inl (fun _ => 0))), (q7, .inl (k7, 100, .inl (fun _ => 0))), (q8, .inl (k8, 100, .inl (fun _ => 0))), (q9, .inl (k9, 100, .inl (fun _ => 0))), (q10, .inl (k10, 100, .inl (fun _ => 0))), (q11, .inl (k11, 100, .inl (fun _ => 0))), (q12, .inl (k12, 100, .inl (fun _ => 0))), (q13, .inl (k13, 40, .inl (fun _ => 0))), (q14, .inl (k14, 40, .inl (fun _ => 0))), (q15, .inl (k15, 40, .inl (fun _ => 0))), (q16, .inl (k16, 40, .inl (fun _ => 0))), (q17, .inl (k17, 4, .inl (fun _ => 0))), (q18, .inl (k18, 4, .inl (fun _ => 0))), (q19, .inl (k19, 8, .inl (fun _ => 0))), (q27, .inl (k27, 4096, .inl (fun _ => 0))), (q28, .inl (k28, 16384, .inl (fun _ => 0)))] H := hP
  have hD : va_D A [(a, .inr (0, [.int 0, .int 0, .int 0, .int 0, .int 0, .int 1, .ref q6, .ref q7, .ref q8, .ref q9, .ref q10, .ref q11, .ref q12, .ref q13, .ref q14, .ref q15, .ref q16, .ref q17, .ref q18, .ref q19, .int 0, .int 0, .int (-1), .int 0, .int 0, .int 0, .int 0, .ref q27, .ref q28])), (q6, .inl (k6, 8, .inl (fun _ => 0))), (q7, .inl (k7, 100, .inl (fun _ => 0))), (q8, .inl (k8, 100, .inl (fun _ => 0))), (q9, .inl (k9, 100, .inl (fun _ => 0))), (q10, .inl (k10, 100, .inl (fun _ => 0))), (q11, .inl (k11, 100, .inl (fun _ => 0))), (q12, .inl (k12, 100, .inl (fun _ => 0))), (q13, .inl (k13, 40, .inl (fun _ => 0))), (q14, .inl (k14, 40, .inl (fun _ => 0))), (q15, .inl (k15, 40, .inl (fun _ => 0))), (q16, .inl (k16, 40, .inl (fun _ => 0))), (q17, .inl (k17, 4, .inl (fun _ => 0))), (q18, .inl (k18, 4, .inl (fun _ => 0))), (q19, .inl (k19, 8, .inl (fun _ => 0))), (q27, .inl (k27, 4096, .inl (fun _ => 0))), (q28, .inl (k28, 16384, .inl (fun _ => 0)))] := hD
  refine lv_aload_n hx hb dM_init_142 rfl (lv_at hl 0 rfl) ?_
  refine lv_iload_n hx hb dM_init_143 rfl (lv_at hl 1 rfl) ?_
  refine lv_ldc hx hb hown k_66 dM_init_144 ?_
  refine lv_iand hx hb dM_init_146 ?_
  refine va_put (D := D) (ci := 0) (v := .int (sd &&& 2147483647)) (ty := tyM 1) (C := RM) (T := TM) (N := 29) hx hb hts inX_ tyM tyM_ok nmM hown hK hP hD hS 0 rfl hcl 1 (by decide) f67 (fun _ h9 => h9) rfl (tyM_ok 1 (by decide)) rfl rfl (Nat.le_of_ble_eq_true rfl) dM_init_147 (fun H locs hP hD hS => ?_)
  have hP : va_P D cl [(a, .inr (0, [.int 0, .int (sd &&& 2147483647), .int 0, .int 0, .int 0, .int 1, .ref q6, .ref q7, .ref q8, .ref q9, .ref q10, .ref q11, .ref q12, .ref q13, .ref q14, .ref q15, .ref q16, .ref q17, .ref q18, .ref q19, .int 0, .int 0, .int (-1), .int 0, .int 0, .int 0, .int 0, .ref q27, .ref q28])), (q6, .inl (k6, 8, .inl (fun _ => 0))), (q7, .inl (k7, 100, .inl (fun _ => 0))), (q8, .inl (k8, 100, .inl (fun _ => 0))), (q9, .inl (k9, 100, .inl (fun _ => 0))), (q10, .inl (k10, 100, .inl (fun _ => 0))), (q11, .inl (k11, 100, .inl (fun _ => 0))), (q12, .inl (k12, 100, .inl (fun _ => 0))), (q13, .inl (k13, 40, .inl (fun _ => 0))), (q14, .inl (k14, 40, .inl (fun _ => 0))), (q15, .inl (k15, 40, .inl (fun _ => 0))), (q16, .inl (k16, 40, .inl (fun _ => 0))), (q17, .inl (k17, 4, .inl (fun _ => 0))), (q18, .inl (k18, 4, .inl (fun _ => 0))), (q19, .inl (k19, 8, .inl (fun _ => 0))), (q27, .inl (k27, 4096, .inl (fun _ => 0))), (q28, .inl (k28, 16384, .inl (fun _ => 0)))] H := hP
  have hD : va_D A [(a, .inr (0, [.int 0, .int (sd &&& 2147483647), .int 0, .int 0, .int 0, .int 1, .ref q6, .ref q7, .ref q8, .ref q9, .ref q10, .ref q11, .ref q12, .ref q13, .ref q14, .ref q15, .ref q16, .ref q17, .ref q18, .ref q19, .int 0, .int 0, .int (-1), .int 0, .int 0, .int 0, .int 0, .ref q27, .ref q28])), (q6, .inl (k6, 8, .inl (fun _ => 0))), (q7, .inl (k7, 100, .inl (fun _ => 0))), (q8, .inl (k8, 100, .inl (fun _ => 0))), (q9, .inl (k9, 100, .inl (fun _ => 0))), (q10, .inl (k10, 100, .inl (fun _ => 0))), (q11, .inl (k11, 100, .inl (fun _ => 0))), (q12, .inl (k12, 100, .inl (fun _ => 0))), (q13, .inl (k13, 40, .inl (fun _ => 0))), (q14, .inl (k14, 40, .inl (fun _ => 0))), (q15, .inl (k15, 40, .inl (fun _ => 0))), (q16, .inl (k16, 40, .inl (fun _ => 0))), (q17, .inl (k17, 4, .inl (fun _ => 0))), (q18, .inl (k18, 4, .inl (fun _ => 0))), (q19, .inl (k19, 8, .inl (fun _ => 0))), (q27, .inl (k27, 4096, .inl (fun _ => 0))), (q28, .inl (k28, 16384, .inl (fun _ => 0)))] := hD
  have hP9 : va_P D cl (mW a (fun j => if j = 6 then q6 else if j = 7 then q7 else if j = 8 then q8 else if j = 9 then q9 else if j = 10 then q10 else if j = 11 then q11 else if j = 12 then q12 else if j = 13 then q13 else if j = 14 then q14 else if j = 15 then q15 else if j = 16 then q16 else if j = 17 then q17 else if j = 18 then q18 else if j = 19 then q19 else if j = 27 then q27 else if j = 28 then q28 else 0) (fun j => if j = 6 then k6 else if j = 7 then k7 else if j = 8 then k8 else if j = 9 then k9 else if j = 10 then k10 else if j = 11 then k11 else if j = 12 then k12 else if j = 13 then k13 else if j = 14 then k14 else if j = 15 then k15 else if j = 16 then k16 else if j = 17 then k17 else if j = 18 then k18 else if j = 19 then k19 else if j = 27 then k27 else if j = 28 then k28 else k6) (mF0 sd) mG0) H := hP
  have hD9 : va_D A (mW a (fun j => if j = 6 then q6 else if j = 7 then q7 else if j = 8 then q8 else if j = 9 then q9 else if j = 10 then q10 else if j = 11 then q11 else if j = 12 then q12 else if j = 13 then q13 else if j = 14 then q14 else if j = 15 then q15 else if j = 16 then q16 else if j = 17 then q17 else if j = 18 then q18 else if j = 19 then q19 else if j = 27 then q27 else if j = 28 then q28 else 0) (fun j => if j = 6 then k6 else if j = 7 then k7 else if j = 8 then k8 else if j = 9 then k9 else if j = 10 then k10 else if j = 11 then k11 else if j = 12 then k12 else if j = 13 then k13 else if j = 14 then k14 else if j = 15 then k15 else if j = 16 then k16 else if j = 17 then k17 else if j = 18 then k18 else if j = 19 then k19 else if j = 27 then k27 else if j = 28 then k28 else k6) (mF0 sd) mG0) := hD
  have hK9 : va_K D cl (mT (fun j => if j = 6 then k6 else if j = 7 then k7 else if j = 8 then k8 else if j = 9 then k9 else if j = 10 then k10 else if j = 11 then k11 else if j = 12 then k12 else if j = 13 then k13 else if j = 14 then k14 else if j = 15 then k15 else if j = 16 then k16 else if j = 17 then k17 else if j = 18 then k18 else if j = 19 then k19 else if j = 27 then k27 else if j = 28 then k28 else k6)) s := hK
  exact W.vret hx hb hr (fun t ht hW => ⟨⟨((fun j => if j = 6 then q6 else if j = 7 then q7 else if j = 8 then q8 else if j = 9 then q9 else if j = 10 then q10 else if j = 11 then q11 else if j = 12 then q12 else if j = 13 then q13 else if j = 14 then q14 else if j = 15 then q15 else if j = 16 then q16 else if j = 17 then q17 else if j = 18 then q18 else if j = 19 then q19 else if j = 27 then q27 else if j = 28 then q28 else 0), (fun j => if j = 6 then k6 else if j = 7 then k7 else if j = 8 then k8 else if j = 9 then k9 else if j = 10 then k10 else if j = 11 then k11 else if j = 12 then k12 else if j = 13 then k13 else if j = 14 then k14 else if j = 15 then k15 else if j = 16 then k16 else if j = 17 then k17 else if j = 18 then k18 else if j = 19 then k19 else if j = 27 then k27 else if j = 28 then k28 else k6)), rfl, trivial, by rw [ht]; exact hP9, va_K.moved hW.alike hK9, hD9⟩, hS.F ht⟩) hS.2.2 dM_init_150
end
section
/-! the numbers and legality of designs, as the reference finds them (M is its tag) -/
def rowD (g6 : Nat → Int32) (nC d st : Nat) : Nat → Int32 := fun c => if c < st then nI (dg (zg g6) nC d c) else -1
theorem counts_ext {g8 g9 g10 g11 r r' : Nat → Int32} {nC nT t : Nat} (hC : nC ≤ 8) (h8 : ∃ x : Nat, x < nC ∧ g8 t = nI x) (h10 : g10 t = -1 ∨ ∃ x : Nat, x < nC ∧ g10 t = nI x) (h : ∀ c, c < nC → r c = r' c) : mr_M_counts g8 g9 g10 g11 r nC nT t = mr_M_counts g8 g9 g10 g11 r' nC nT t := by
  have xa := ix_cl h8 (by omega)
  have ea : r (g8 t).toNatClampNeg = r' (g8 t).toNatClampNeg := h _ xa.2
  have eb : r (g10 t).toNatClampNeg = r' (g10 t).toNatClampNeg := by
    rcases h10 with e | e
    · rw [e, show (-1 : Int32).toNatClampNeg = 0 from rfl]
      exact h 0 (by have := xa.2; omega)
    · exact h _ (ix_cl e (by omega)).2
  unfold mr_M_counts
  rw [ea, eb]
section EM
variable {g7 g8 g9 g10 g11 g12 g13 g14 g15 g16 g17 g18 r r' : Nat → Int32} {nC nT nR : Nat}
theorem boundOf_ext {nu : Int32} (hC : nC ≤ 8) (h8 : ∀ t, t < nT → ∃ x : Nat, x < nC ∧ g8 t = nI x) (h10 : ∀ t, t < nT → g10 t = -1 ∨ ∃ x : Nat, x < nC ∧ g10 t = nI x) (h : ∀ c, c < nC → r c = r' c) : mr_M_boundOf g7 g8 g9 g10 g11 g12 r nC nT nu = mr_M_boundOf g7 g8 g9 g10 g11 g12 r' nC nT nu := by
  have key : ∀ k, k ≤ nT → lf_M_boundOf_4 g7 g8 g9 g10 g11 g12 r nC nT nu 0 k = lf_M_boundOf_4 g7 g8 g9 g10 g11 g12 r' nC nT nu 0 k := by
    intro k
    induction k with
    | zero => intro _; rfl
    | succ k ih => intro hk; rw [lf_M_boundOf_4, lf_M_boundOf_4, ih (by omega), counts_ext hC (h8 k (by omega)) (h10 k (by omega)) h]
  exact key nT (Nat.le_refl _)
theorem isBarred_ext (hC : nC ≤ 8) (h13 : ∀ j, j < nR → ∃ x : Nat, x < nC ∧ g13 j = nI x) (h15 : ∀ j, j < nR → ∃ x : Nat, x < nC ∧ g15 j = nI x) (h : ∀ c, c < nC → r c = r' c) : mr_M_isBarred g13 g14 g15 g16 r nC nR = mr_M_isBarred g13 g14 g15 g16 r' nC nR := by
  have key : ∀ k, k ≤ nR → lf_M_isBarred_4 g13 g14 g15 g16 r nC nR 0 k = lf_M_isBarred_4 g13 g14 g15 g16 r' nC nR 0 k := by
    intro k
    induction k with
    | zero => intro _; rfl
    | succ k ih => intro hk; rw [lf_M_isBarred_4, lf_M_isBarred_4, ih (by omega), h _ (ix_cl (h13 k (by omega)) (by omega)).2, h _ (ix_cl (h15 k (by omega)) (by omega)).2]
  exact key nR (Nat.le_refl _)
theorem passes_ext (hC : nC ≤ 8) (h8 : ∀ t, t < nT → ∃ x : Nat, x < nC ∧ g8 t = nI x) (h10 : ∀ t, t < nT → g10 t = -1 ∨ ∃ x : Nat, x < nC ∧ g10 t = nI x) (h : ∀ c, c < nC → r c = r' c) : mr_M_passesLimits g7 g8 g9 g10 g11 g12 g17 g18 r nC nT = mr_M_passesLimits g7 g8 g9 g10 g11 g12 g17 g18 r' nC nT := by
  have key : ∀ k, lf_M_passesLimits_4 g7 g8 g9 g10 g11 g12 g17 g18 r nC nT 0 k = lf_M_passesLimits_4 g7 g8 g9 g10 g11 g12 g17 g18 r' nC nT 0 k := by
    intro k
    induction k with
    | zero => rfl
    | succ k ih => rw [lf_M_passesLimits_4, lf_M_passesLimits_4, ih, boundOf_ext hC h8 h10 h]
  exact key 4
end EM
/-- legality (1 or 0) and the numbers, of a design -/
def sLeg (g6 g7 g8 g9 g10 g11 g12 g13 g14 g15 g16 g17 g18 : Nat → Int32) (nC nT nR d : Nat) : Int32 := if mr_M_isBarred g13 g14 g15 g16 (rowD g6 nC d nC) nC nR = 0 then (if mr_M_passesLimits g7 g8 g9 g10 g11 g12 g17 g18 (rowD g6 nC d nC) nC nT = 0 then 1 else 0) else 0
def sNum (g6 g7 g8 g9 g10 g11 g12 : Nat → Int32) (nC nT d k : Nat) : Int32 := mr_M_boundOf g7 g8 g9 g10 g11 g12 (rowD g6 nC d nC) nC nT (nI k)
theorem know59 {g7 g8 g9 g10 g11 g12 row i0 : Nat → Int32} {nC nT nR nD d : Nat} : ∀ k i, lf_M_know_59 g7 g8 g9 g10 g11 g12 nC nT nR nD d row i0 k i = if 4 * d ≤ i ∧ i < 4 * d + k then mr_M_boundOf g7 g8 g9 g10 g11 g12 row nC nT (nI (i - 4 * d)) else i0 i := by
  intro k
  induction k with
  | zero => intro i; rw [if_neg (by omega)]; rfl
  | succ k ih =>
    intro i
    rw [lf_M_know_59]
    by_cases h : i = 4 * d + k
    · rw [h, pk_us, if_pos (by omega), show 4 * d + k - 4 * d = k by omega]
    · rw [pk_un h, ih i]
      by_cases h2 : 4 * d ≤ i ∧ i < 4 * d + k
      · rw [if_pos h2, if_pos (by omega)]
      · rw [if_neg h2, if_neg (by omega)]
section KN
variable {g6 g7 g8 g9 g10 g11 g12 g13 g14 g15 g16 g17 g18 g19 g27 g28 : Nat → Int32} {nC nT nR nD : Nat}
theorem know15 (hC : nC ≤ 8) (h6 : ∀ c, c < nC → ∃ z : Nat, g6 c = nI z ∧ 2 ≤ z ∧ z ≤ 6) (h8 : ∀ t, t < nT → ∃ x : Nat, x < nC ∧ g8 t = nI x) (h10 : ∀ t, t < nT → g10 t = -1 ∨ ∃ x : Nat, x < nC ∧ g10 t = nI x) (h13 : ∀ j, j < nR → ∃ x : Nat, x < nC ∧ g13 j = nI x) (h15 : ∀ j, j < nR → ∃ x : Nat, x < nC ∧ g15 j = nI x) : ∀ n, n ≤ 4096 → ∀ d, d < n →
    (lf_M_know_15 g6 g7 g8 g9 g10 g11 g12 g13 g14 g15 g16 g17 g18 nC nT nR nD g19 g27 g28 n).2.1 d = sLeg g6 g7 g8 g9 g10 g11 g12 g13 g14 g15 g16 g17 g18 nC nT nR d ∧ ∀ k, k < 4 → (lf_M_know_15 g6 g7 g8 g9 g10 g11 g12 g13 g14 g15 g16 g17 g18 nC nT nR nD g19 g27 g28 n).2.2 (4 * d + k) = sNum g6 g7 g8 g9 g10 g11 g12 nC nT d k := by
  intro n
  induction n with
  | zero => intro _ d h; exact absurd h (Nat.not_lt_zero _)
  | succ n ih =>
    intro hn d hd
    have hrow : ∀ (g : Nat → Int32) (c : Nat), c < nC → mr_M_open g6 g nC n nC c = rowD g6 nC n nC c := fun g c hc => by
      unfold rowD
      rw [open_row hC h6 (by omega) hC c, if_pos hc, if_pos hc]
    rw [lf_M_know_15]
    generalize hq : lf_M_know_15 g6 g7 g8 g9 g10 g11 g12 g13 g14 g15 g16 g17 g18 nC nT nR nD g19 g27 g28 n = q at ih
    by_cases h : d = n
    · subst h
      refine ⟨?_, fun k hk => ?_⟩
      · show upd q.2.1 d _ d = _
        rw [pk_us, isBarred_ext hC h13 h15 (hrow _), passes_ext hC h8 h10 (hrow _)]
        rfl
      · show lf_M_know_59 _ _ _ _ _ _ nC nT nR nD d _ _ 4 (4 * d + k) = _
        rw [know59, if_pos (by omega), show 4 * d + k - 4 * d = k by omega, boundOf_ext hC h8 h10 (hrow _)]
        rfl
    · obtain ⟨i1, i2⟩ := ih (by omega) d (by omega)
      refine ⟨?_, fun k hk => ?_⟩
      · show upd q.2.1 n _ d = _
        rw [pk_un h, i1]
      · show lf_M_know_59 _ _ _ _ _ _ nC nT nR nD n _ _ 4 (4 * d + k) = _
        rw [know59, if_neg (by omega), i2 k hk]
/-- what is known stays right -/
theorem know_sem {f26 : Int32} (hC : nC ≤ 8) (hN : nD ≤ 4096) (h6 : ∀ c, c < nC → ∃ z : Nat, g6 c = nI z ∧ 2 ≤ z ∧ z ≤ 6) (h8 : ∀ t, t < nT → ∃ x : Nat, x < nC ∧ g8 t = nI x) (h10 : ∀ t, t < nT → g10 t = -1 ∨ ∃ x : Nat, x < nC ∧ g10 t = nI x) (h13 : ∀ j, j < nR → ∃ x : Nat, x < nC ∧ g13 j = nI x) (h15 : ∀ j, j < nR → ∃ x : Nat, x < nC ∧ g15 j = nI x)
    (hk : ¬ f26 = 0 → ∀ d, d < nD → g27 d = sLeg g6 g7 g8 g9 g10 g11 g12 g13 g14 g15 g16 g17 g18 nC nT nR d ∧ ∀ k, k < 4 → g28 (4 * d + k) = sNum g6 g7 g8 g9 g10 g11 g12 nC nT d k) : ¬ (mr_M_know f26 g6 g7 g8 g9 g10 g11 g12 g13 g14 g15 g16 g17 g18 g19 g27 g28 nC nT nR nD).1 = 0 ∧ ∀ d, d < nD →
    (mr_M_know f26 g6 g7 g8 g9 g10 g11 g12 g13 g14 g15 g16 g17 g18 g19 g27 g28 nC nT nR nD).2.2.1 d = sLeg g6 g7 g8 g9 g10 g11 g12 g13 g14 g15 g16 g17 g18 nC nT nR d ∧ ∀ k, k < 4 → (mr_M_know f26 g6 g7 g8 g9 g10 g11 g12 g13 g14 g15 g16 g17 g18 g19 g27 g28 nC nT nR nD).2.2.2 (4 * d + k) = sNum g6 g7 g8 g9 g10 g11 g12 nC nT d k := by
  unfold mr_M_know
  by_cases h : f26 = 0
  · rw [if_pos h]
    exact ⟨(by decide : ¬ (1 : Int32) = 0), fun d hd => know15 hC h6 h8 h10 h13 h15 nD hN d hd⟩
  · rw [if_neg h]
    exact ⟨h, hk h⟩
end KN
theorem acc_all {a : Int32} {P : Prop} [Decidable P] {Q : Nat → Prop} {k : Nat} (ih : a = 0 ↔ ∀ j, j < k → Q j) (hP : P ↔ Q k) : ((if a = 0 then (if P then 0 else 1) else 1 : Int32) = 0) ↔ ∀ j, j < k + 1 → Q j := by
  by_cases h1 : a = 0
  · rw [if_pos h1]
    by_cases h2 : P
    · rw [if_pos h2]
      exact ⟨fun _ => lt_s (ih.mp h1) (hP.mp h2), fun _ => rfl⟩
    · rw [if_neg h2]
      exact ⟨fun h => absurd h (by decide), fun h => absurd (hP.mpr (h k (Nat.lt_succ_self _))) h2⟩
  · rw [if_neg h1]
    exact ⟨fun h => absurd h (by decide), fun h => absurd (ih.mpr (fun j hj => h j (Nat.lt_succ_of_lt hj))) h1⟩
/-- all numbers of d are at most those of e -/
def sLe (g28 : Nat → Int32) (d e : Nat) : Prop := ∀ k, k < 4 → g28 (4 * d + k) ≤ g28 (4 * e + k)
theorem beaten_acc (g28 : Nat → Int32) (d y : Nat) : ∀ k, ((lf_M_isBeaten_8 g28 d y 0 0 k).1 = 0 ↔ ∀ j, j < k → g28 (4 * d + j) ≤ g28 (4 * y + j)) ∧ ((lf_M_isBeaten_8 g28 d y 0 0 k).2 = 0 ↔ ∀ j, j < k → g28 (4 * y + j) ≤ g28 (4 * d + j)) := by
  intro k
  induction k with
  | zero => exact ⟨⟨fun _ => lt_0, fun _ => rfl⟩, ⟨fun _ => lt_0, fun _ => rfl⟩⟩
  | succ k ih =>
    rw [lf_M_isBeaten_8]
    exact ⟨acc_all ih.1 Iff.rfl, acc_all ih.2 Iff.rfl⟩
theorem beaten_sem (g28 : Nat → Int32) (d y : Nat) : mr_M_isBeaten g28 d y = 0 ↔ ¬ (sLe g28 y d ∧ ¬ sLe g28 d y) := by
  obtain ⟨h1, h2⟩ := beaten_acc g28 d y 4
  unfold mr_M_isBeaten
  by_cases c1 : (lf_M_isBeaten_8 g28 d y 0 0 4).1 = 0
  · rw [if_pos c1]
    exact ⟨fun _ h => h.2 (h1.mp c1), fun _ => rfl⟩
  · rw [if_neg c1]
    by_cases c2 : (lf_M_isBeaten_8 g28 d y 0 0 4).2 = 0
    · rw [if_pos c2]
      exact ⟨fun h => absurd h (by decide), fun h => absurd ⟨h2.mp c2, fun q => c1 (h1.mpr q)⟩ h⟩
    · rw [if_neg c2]
      exact ⟨fun _ h => c2 (h2.mpr h.1), fun _ => rfl⟩
theorem und_lf {g27 g28 : Nat → Int32} {nD d : Nat} (hN : nD ≤ 4096) : ∀ (N y : Nat), nD - y < N → y ≤ nD → (lf_M_isUndominated_13 g27 g28 nD d N y = 0 ∨ lf_M_isUndominated_13 g27 g28 nD d N y = 1) ∧ (¬ lf_M_isUndominated_13 g27 g28 nD d N y = 0 ↔ ∀ e, y ≤ e → e < nD → ¬ g27 e = 0 → mr_M_isBeaten g28 d e = 0) := by
  intro N
  induction N with
  | zero => intro y h; exact absurd h (Nat.not_lt_zero _)
  | succ N ih =>
    intro y h hy
    rw [lf_M_isUndominated_13]
    by_cases c1 : nI nD ≤ nI y
    · have n1 : nD ≤ y := (nI_leI (by omega) (by omega)).mp c1
      rw [if_pos c1]
      exact ⟨Or.inr rfl, fun _ e h1 h2 => absurd h2 (by omega), fun _ => by decide⟩
    · have n1 : ¬ nD ≤ y := fun h9 => c1 ((nI_leI (by omega) (by omega)).mpr h9)
      obtain ⟨i1, i2⟩ := ih (y + 1) (by omega) (by omega)
      rw [if_neg c1]
      by_cases c2 : g27 y = 0
      · rw [if_pos c2]
        refine ⟨i1, fun q e h1 h2 h3 => ?_, fun q => i2.mpr (fun e h1 h2 h3 => q e (by omega) h2 h3)⟩
        rcases Nat.lt_or_ge y e with a | a
        · exact i2.mp q e a h2 h3
        · exact absurd c2 (by rw [show y = e by omega]; exact h3)
      · rw [if_neg c2]
        by_cases c3 : mr_M_isBeaten g28 d y = 0
        · rw [if_pos c3]
          refine ⟨i1, fun q e h1 h2 h3 => ?_, fun q => i2.mpr (fun e h1 h2 h3 => q e (by omega) h2 h3)⟩
          rcases Nat.lt_or_ge y e with a | a
          · exact i2.mp q e a h2 h3
          · rw [show e = y by omega]; exact c3
        · rw [if_neg c3]
          exact ⟨Or.inl rfl, fun q => absurd rfl q, fun q => absurd (q y (Nat.le_refl _) (by omega) c2) c3⟩
/-- undominated: legal, and no legal one beats it -/
def sUnd (g27 g28 : Nat → Int32) (nD d : Nat) : Prop := ¬ g27 d = 0 ∧ ∀ e, e < nD → ¬ g27 e = 0 → ¬ (sLe g28 e d ∧ ¬ sLe g28 d e)
theorem und_sem {g27 g28 : Nat → Int32} {nD d : Nat} (hN : nD ≤ 4096) : (mr_M_isUndominated g27 g28 nD d = 0 ∨ mr_M_isUndominated g27 g28 nD d = 1) ∧ (¬ mr_M_isUndominated g27 g28 nD d = 0 ↔ sUnd g27 g28 nD d) := by
  obtain ⟨i1, i2⟩ := und_lf (g27 := g27) (g28 := g28) (d := d) hN (nD + 1) 0 (by omega) (Nat.zero_le _)
  unfold mr_M_isUndominated
  by_cases c1 : g27 d = 0
  · rw [if_pos c1]
    exact ⟨Or.inl rfl, fun h => absurd rfl h, fun h => absurd c1 h.1⟩
  · rw [if_neg c1]
    refine ⟨i1, fun q => ⟨c1, fun e h1 h2 => (beaten_sem g28 d e).mp (i2.mp q e (Nat.zero_le _) h1 h2)⟩, fun q => i2.mpr (fun e _ h1 h2 => (beaten_sem g28 d e).mpr (q.2 e h1 h2))⟩
end
section
/-! how many are undominated, and the k-th of them, as the reference finds them (M is its tag) -/
def cu (u : Nat → Int32) : Nat → Nat
  | 0 => 0
  | n + 1 => cu u n + (if u n = 0 then 0 else 1)
theorem cu_le (u : Nat → Int32) : ∀ n, cu u n ≤ n := by
  intro n
  induction n with
  | zero => exact Nat.le_refl _
  | succ n ih => rw [cu]; split <;> omega
theorem cu_mono {u : Nat → Int32} {a b : Nat} (h : a ≤ b) : cu u a ≤ cu u b := by
  induction b with
  | zero => rw [show a = 0 by omega]; exact Nat.le_refl _
  | succ b ih =>
    rcases Nat.lt_or_ge a (b + 1) with q | q
    · have := ih (by omega)
      rw [cu]; omega
    · rw [show a = b + 1 by omega]; exact Nat.le_refl _
theorem und_cnt {g27 g28 : Nat → Int32} {nC nT nR nD : Nat} : ∀ k, lf_M_undominated_13 nC nT nR nD g27 g28 0 k = nI (cu (fun d => mr_M_isUndominated g27 g28 nD d) k) := by
  intro k
  induction k with
  | zero => rfl
  | succ k ih =>
    rw [lf_M_undominated_13, ih, cu]
    by_cases h : mr_M_isUndominated g27 g28 nD k = 0
    · rw [if_pos h, if_pos h]
      exact nI_add _ 0
    · rw [if_neg h, if_neg h]
      exact nI_add _ 1
section AT
variable {f0 f26 p : Int32} {g19 h27 h28 q g27 g28 : Nat → Int32} {nC nT nR nD : Nat}
theorem at_hit (hN : nD ≤ 4096) {d : Nat} (hd : d < nD) (hu : ¬ mr_M_isUndominated g27 g28 nD d = 0) : ∀ (N y : Nat), nD - y < N → y ≤ d → lf_M_at_13 f0 f26 g19 h27 h28 nC nT nR nD (nI (cu (fun d => mr_M_isUndominated g27 g28 nD d) d)) p q g27 g28 N (nI (cu (fun d => mr_M_isUndominated g27 g28 nD d) y)) y = (nI d, 0, p, q, g27, g28) := by
  intro N
  induction N with
  | zero => intro y h; exact absurd h (Nat.not_lt_zero _)
  | succ N ih =>
    intro y h hy
    have hl := cu_le (fun d => mr_M_isUndominated g27 g28 nD d) d
    have hl2 := cu_le (fun d => mr_M_isUndominated g27 g28 nD d) y
    rw [lf_M_at_13, if_neg (fun h9 => absurd ((nI_leI (by omega) (by omega)).mp h9) (by omega)), if_neg (nI_pos (by omega))]
    by_cases c1 : mr_M_isUndominated g27 g28 nD y = 0
    · have hyd : y ≠ d := fun e => hu (by rw [← e]; exact c1)
      have e := ih (y + 1) (by omega) (by omega)
      rw [if_pos c1]
      rw [show cu (fun d => mr_M_isUndominated g27 g28 nD d) (y + 1) = cu (fun d => mr_M_isUndominated g27 g28 nD d) y by rw [cu, if_pos c1]; rfl] at e
      exact e
    · rw [if_neg c1]
      by_cases hyd : y = d
      · rw [hyd, if_pos rfl]
      · have hm : cu (fun d => mr_M_isUndominated g27 g28 nD d) (y + 1) ≤ cu (fun d => mr_M_isUndominated g27 g28 nD d) d := cu_mono (by omega)
        have e := ih (y + 1) (by omega) (by omega)
        rw [show cu (fun d => mr_M_isUndominated g27 g28 nD d) (y + 1) = cu (fun d => mr_M_isUndominated g27 g28 nD d) y + 1 by rw [cu, if_neg c1]] at hm e
        rw [if_neg (fun h9 => absurd ((nI_eq (by omega) (by omega)).mp h9) (by omega)), nI_1]
        exact e
theorem at_miss (hN : nD ≤ 4096) {kk : Int32} (hk : ∀ d, d < nD → ¬ mr_M_isUndominated g27 g28 nD d = 0 → ¬ kk = nI (cu (fun d => mr_M_isUndominated g27 g28 nD d) d)) : ∀ (N y : Nat), nD - y < N → y ≤ nD → lf_M_at_13 f0 f26 g19 h27 h28 nC nT nR nD kk p q g27 g28 N (nI (cu (fun d => mr_M_isUndominated g27 g28 nD d) y)) y = ((mr_M_fail 1).1, (mr_M_fail 1).2, p, q, g27, g28) := by
  intro N
  induction N with
  | zero => intro y h; exact absurd h (Nat.not_lt_zero _)
  | succ N ih =>
    intro y h hy
    rw [lf_M_at_13]
    by_cases c0 : nI nD ≤ nI y
    · rw [if_pos c0]
    · have n0 : ¬ nD ≤ y := fun h9 => c0 ((nI_leI (by omega) (by omega)).mpr h9)
      rw [if_neg c0]
      by_cases c9 : kk < 0
      · rw [if_pos c9]
      · rw [if_neg c9]
        have e := ih (y + 1) (by omega) (by omega)
        by_cases c1 : mr_M_isUndominated g27 g28 nD y = 0
        · rw [if_pos c1]
          rw [show cu (fun d => mr_M_isUndominated g27 g28 nD d) (y + 1) = cu (fun d => mr_M_isUndominated g27 g28 nD d) y by rw [cu, if_pos c1]; rfl] at e
          exact e
        · rw [if_neg c1, if_neg (fun h9 => hk y (by omega) c1 h9.symm), nI_1]
          rw [show cu (fun d => mr_M_isUndominated g27 g28 nD d) (y + 1) = cu (fun d => mr_M_isUndominated g27 g28 nD d) y + 1 by rw [cu, if_neg c1]] at e
          exact e
end AT
end
section
/-! what a new choice, a new term, a new rule do to the numbers and to what is barred (M is the reference's tag) -/
theorem dg_split {z z' : Nat → Nat} {n v d c : Nat} (h1 : ∀ j, j < n → z' j = z j) (h2 : z' n = v) (hc : c < n) : dg z' (n + 1) d c = dg z n (d / v) c := by
  unfold dg pc_
  have e1 : n + 1 - (c + 1) = (n - (c + 1)) + 1 := by omega
  have e2 : c + 1 + (n - (c + 1)) = n := by omega
  rw [e1, mp, e2, h2, h1 c hc, mp_ext (z := z') (y := z) (fun i hi => h1 _ (by omega)), Nat.mul_comm, Nat.div_div_eq_div_mul]
theorem dg_last {z' : Nat → Nat} {n v d : Nat} (h2 : z' n = v) : dg z' (n + 1) d n = d % v := by
  unfold dg pc_
  rw [Nat.sub_self, mp, Nat.div_one, h2]
theorem zg_upd {g6 : Nat → Int32} {n v : Nat} (hv : v < 2 ^ 31) : (∀ j, j < n → zg (upd g6 n (nI v)) j = zg g6 j) ∧ zg (upd g6 n (nI v)) n = v := by
  unfold zg
  refine ⟨fun j hj => by rw [pk_un (by omega)], ?_⟩
  rw [pk_us]
  exact nI_clamp hv
theorem row_split {g6 : Nat → Int32} {nC v d c : Nat} (hv : v < 2 ^ 31) (hc : c < nC) : rowD (upd g6 nC (nI v)) (nC + 1) d (nC + 1) c = rowD g6 nC (d / v) nC c := by
  unfold rowD
  rw [if_pos (by omega), if_pos hc, dg_split (zg_upd hv).1 (zg_upd hv).2 hc]
section PUSH
variable {g7 g8 g9 g10 g11 g12 g13 g14 g15 g16 g17 g18 r : Nat → Int32} {nC nC' nT nT' nR nR' : Nat}
theorem bound_par {nu : Int32} (k : Nat) : lf_M_boundOf_4 g7 g8 g9 g10 g11 g12 r nC nT nu 0 k = lf_M_boundOf_4 g7 g8 g9 g10 g11 g12 r nC' nT' nu 0 k := by
  induction k with
  | zero => rfl
  | succ k ih => rw [lf_M_boundOf_4, lf_M_boundOf_4, ih]; rfl
theorem bar_par (k : Nat) : lf_M_isBarred_4 g13 g14 g15 g16 r nC nR 0 k = lf_M_isBarred_4 g13 g14 g15 g16 r nC' nR' 0 k := by
  induction k with
  | zero => rfl
  | succ k ih => rw [lf_M_isBarred_4, lf_M_isBarred_4, ih]
theorem bound_arr {a7 a8 a9 a10 a11 a12 : Nat → Int32} {nu : Int32} : ∀ k, (∀ t, t < k → a7 t = g7 t ∧ a8 t = g8 t ∧ a9 t = g9 t ∧ a10 t = g10 t ∧ a11 t = g11 t ∧ a12 t = g12 t) → lf_M_boundOf_4 a7 a8 a9 a10 a11 a12 r nC nT nu 0 k = lf_M_boundOf_4 g7 g8 g9 g10 g11 g12 r nC nT nu 0 k := by
  intro k
  induction k with
  | zero => intro _; rfl
  | succ k ih =>
    intro h
    obtain ⟨e7, e8, e9, e10, e11, e12⟩ := h k (Nat.lt_succ_self _)
    have ec : mr_M_counts a8 a9 a10 a11 r nC nT k = mr_M_counts g8 g9 g10 g11 r nC nT k := by
      unfold mr_M_counts
      rw [e8, e9, e10, e11]
    rw [lf_M_boundOf_4, lf_M_boundOf_4, ih (fun t ht => h t (Nat.lt_succ_of_lt ht)), ec, e7, e12]
theorem bar_arr {a13 a14 a15 a16 : Nat → Int32} : ∀ k, (∀ t, t < k → a13 t = g13 t ∧ a14 t = g14 t ∧ a15 t = g15 t ∧ a16 t = g16 t) → lf_M_isBarred_4 a13 a14 a15 a16 r nC nR 0 k = lf_M_isBarred_4 g13 g14 g15 g16 r nC nR 0 k := by
  intro k
  induction k with
  | zero => intro _; rfl
  | succ k ih =>
    intro h
    obtain ⟨e3, e4, e5, e6⟩ := h k (Nat.lt_succ_self _)
    rw [lf_M_isBarred_4, lf_M_isBarred_4, ih (fun t ht => h t (Nat.lt_succ_of_lt ht)), e3, e4, e5, e6]
/-- a row whose choices are all set: a term counts, or it doesn't -/
theorem counts_full {t : Nat} (hC : nC ≤ 8) (h8 : ∃ x : Nat, x < nC ∧ g8 t = nI x) (h10 : g10 t = -1 ∨ ∃ x : Nat, x < nC ∧ g10 t = nI x) (hr : ∀ c, c < nC → 0 ≤ r c) : mr_M_counts g8 g9 g10 g11 r nC nT t = if r (g8 t).toNatClampNeg = g9 t ∧ (g10 t < 0 ∨ r (g10 t).toNatClampNeg = g11 t) then 1 else -1 := by
  have xa := ix_cl h8 (by omega)
  have ra := hr _ xa.2
  have rb : ¬ g10 t < 0 → 0 ≤ r (g10 t).toNatClampNeg := fun h => hr _ (ix_cl (ix_nn h10 h) (by omega)).2
  unfold mr_M_counts
  by_cases c1 : r (g8 t).toNatClampNeg = g9 t
  · by_cases c2 : g10 t < 0
    · rw [show (if r (g8 t).toNatClampNeg = g9 t ∧ (g10 t < 0 ∨ r (g10 t).toNatClampNeg = g11 t) then (1 : Int32) else -1) = 1 from if_pos ⟨c1, Or.inl c2⟩, if_pos c1, if_pos c2]
      try rfl
    · by_cases c3 : r (g10 t).toNatClampNeg = g11 t
      · rw [show (if r (g8 t).toNatClampNeg = g9 t ∧ (g10 t < 0 ∨ r (g10 t).toNatClampNeg = g11 t) then (1 : Int32) else -1) = 1 from if_pos ⟨c1, Or.inr c3⟩, if_pos c1, if_neg c2, if_pos c3]
        try rfl
      · have r0 : ¬ r (g10 t).toNatClampNeg < 0 := fun h => absurd (rb c2) (Int32.not_le.mpr h)
        rw [show (if r (g8 t).toNatClampNeg = g9 t ∧ (g10 t < 0 ∨ r (g10 t).toNatClampNeg = g11 t) then (1 : Int32) else -1) = -1 from if_neg (fun h => h.2.elim c2 c3), if_pos c1, if_neg c2, if_neg c3, if_neg r0]
        try rfl
  · rw [show (if r (g8 t).toNatClampNeg = g9 t ∧ (g10 t < 0 ∨ r (g10 t).toNatClampNeg = g11 t) then (1 : Int32) else -1) = -1 from if_neg (fun h => c1 h.1), if_neg c1, if_pos ra]
    try rfl
end PUSH
end
section
/-! the numbers of a design under a new choice and a new term; limits by the numbers; what is barred under a new choice and a new rule (M is the reference's tag) -/
section LEG
variable {g6 g7 g8 g9 g10 g11 g12 g13 g14 g15 g16 g17 g18 : Nat → Int32} {nC nT nR : Nat}
theorem num_choice {v d k : Nat} (hC : nC ≤ 8) (hv : v < 2 ^ 31) (h8 : ∀ t, t < nT → ∃ x : Nat, x < nC ∧ g8 t = nI x) (h10 : ∀ t, t < nT → g10 t = -1 ∨ ∃ x : Nat, x < nC ∧ g10 t = nI x) : sNum (upd g6 nC (nI v)) g7 g8 g9 g10 g11 g12 (nC + 1) nT d k = sNum g6 g7 g8 g9 g10 g11 g12 nC nT (d / v) k := by
  unfold sNum
  rw [← boundOf_ext hC h8 h10 (fun c hc => row_split (g6 := g6) (d := d) hv hc)]
  exact bound_par nT
/-- a full row's entries are not below 0 -/
theorem row_nn {d c : Nat} (hC : nC ≤ 8) (h6 : ∀ c, c < nC → ∃ z : Nat, g6 c = nI z ∧ 2 ≤ z ∧ z ≤ 6) (hc : c < nC) : 0 ≤ rowD g6 nC d nC c := by
  unfold rowD
  rw [if_pos hc]
  have h := dg_lt (z := zg g6) (n := nC) (d := d) (c := c) (by have := (zg_ok h6 hc).2.1; omega)
  have h2 := (zg_ok h6 hc).2.2
  exact nI_pos' (by omega)
/-- whether a term's values are those of a design -/
def sFits (g6 : Nat → Int32) (nC d : Nat) (ta va tb vb : Int32) : Prop := rowD g6 nC d nC ta.toNatClampNeg = va ∧ (tb < 0 ∨ rowD g6 nC d nC tb.toNatClampNeg = vb)
theorem num_term {d k : Nat} {nu ta va tb vb w : Int32} (hC : nC ≤ 8) (h6 : ∀ c, c < nC → ∃ z : Nat, g6 c = nI z ∧ 2 ≤ z ∧ z ≤ 6) (ha : ∃ x : Nat, x < nC ∧ ta = nI x) (hb : tb = -1 ∨ ∃ x : Nat, x < nC ∧ tb = nI x) :
    (nu = nI k → sFits g6 nC d ta va tb vb → sNum g6 (upd g7 nT nu) (upd g8 nT ta) (upd g9 nT va) (upd g10 nT tb) (upd g11 nT vb) (upd g12 nT w) nC (nT + 1) d k = sNum g6 g7 g8 g9 g10 g11 g12 nC nT d k + w) ∧
    (¬ (nu = nI k ∧ sFits g6 nC d ta va tb vb) → sNum g6 (upd g7 nT nu) (upd g8 nT ta) (upd g9 nT va) (upd g10 nT tb) (upd g11 nT vb) (upd g12 nT w) nC (nT + 1) d k = sNum g6 g7 g8 g9 g10 g11 g12 nC nT d k) := by
  have e0 : lf_M_boundOf_4 (upd g7 nT nu) (upd g8 nT ta) (upd g9 nT va) (upd g10 nT tb) (upd g11 nT vb) (upd g12 nT w) (rowD g6 nC d nC) nC (nT + 1) (nI k) 0 nT = sNum g6 g7 g8 g9 g10 g11 g12 nC nT d k := by
    rw [bound_arr nT (fun t ht => ⟨pk_un (by omega), pk_un (by omega), pk_un (by omega), pk_un (by omega), pk_un (by omega), pk_un (by omega)⟩)]
    exact bound_par nT
  have ec := counts_full (nT := nT + 1) (g8 := upd g8 nT ta) (g9 := upd g9 nT va) (g10 := upd g10 nT tb) (g11 := upd g11 nT vb) (r := rowD g6 nC d nC) (t := nT) hC (by rw [pk_us]; exact ha) (by rw [pk_us]; exact hb) (fun c hc => row_nn hC h6 hc)
  rw [pk_us, pk_us, pk_us, pk_us] at ec
  have es : sNum g6 (upd g7 nT nu) (upd g8 nT ta) (upd g9 nT va) (upd g10 nT tb) (upd g11 nT vb) (upd g12 nT w) nC (nT + 1) d k = lf_M_boundOf_4 (upd g7 nT nu) (upd g8 nT ta) (upd g9 nT va) (upd g10 nT tb) (upd g11 nT vb) (upd g12 nT w) (rowD g6 nC d nC) nC (nT + 1) (nI k) 0 (nT + 1) := rfl
  rw [es, lf_M_boundOf_4, e0, pk_us, pk_us]
  refine ⟨fun h1 h2 => ?_, fun h => ?_⟩
  · rw [if_pos h1, ec, if_pos (show _ ∧ _ from h2), if_pos rfl]
  · by_cases h1 : nu = nI k
    · have h2 : ¬ sFits g6 nC d ta va tb vb := fun q => h ⟨h1, q⟩
      have h3 : ¬ (rowD g6 nC d nC ta.toNatClampNeg = va ∧ (tb < 0 ∨ rowD g6 nC d nC tb.toNatClampNeg = vb)) := h2
      rw [if_pos h1, ec, if_neg h3, if_neg (by decide), if_neg (by decide)]
      exact Int32.add_zero _
    · rw [if_neg h1]
theorem bar_choice {v d : Nat} (hC : nC ≤ 8) (hv : v < 2 ^ 31) (h13 : ∀ j, j < nR → ∃ x : Nat, x < nC ∧ g13 j = nI x) (h15 : ∀ j, j < nR → ∃ x : Nat, x < nC ∧ g15 j = nI x) : mr_M_isBarred g13 g14 g15 g16 (rowD (upd g6 nC (nI v)) (nC + 1) d (nC + 1)) (nC + 1) nR = mr_M_isBarred g13 g14 g15 g16 (rowD g6 nC (d / v) nC) nC nR := by
  rw [← isBarred_ext hC h13 h15 (fun c hc => row_split (g6 := g6) (d := d) hv hc)]
  exact bar_par nR
/-- limits are passed by the numbers -/
theorem passes_num {d : Nat} : mr_M_passesLimits g7 g8 g9 g10 g11 g12 g17 g18 (rowD g6 nC d nC) nC nT = 0 ↔ ∀ k, k < 4 → g17 k = 0 ∨ sNum g6 g7 g8 g9 g10 g11 g12 nC nT d k ≤ g18 k := by
  have key : ∀ n, lf_M_passesLimits_4 g7 g8 g9 g10 g11 g12 g17 g18 (rowD g6 nC d nC) nC nT 0 n = 0 ↔ ∀ k, k < n → g17 k = 0 ∨ sNum g6 g7 g8 g9 g10 g11 g12 nC nT d k ≤ g18 k := by
    intro n
    induction n with
    | zero => exact ⟨fun _ => lt_0, fun _ => rfl⟩
    | succ n ih =>
      rw [lf_M_passesLimits_4]
      by_cases c1 : lf_M_passesLimits_4 g7 g8 g9 g10 g11 g12 g17 g18 (rowD g6 nC d nC) nC nT 0 n = 0
      · rw [if_pos c1]
        by_cases c2 : g17 n = 0
        · rw [if_pos c2]
          exact ⟨fun _ => lt_s (ih.mp c1) (Or.inl c2), fun _ => rfl⟩
        · rw [if_neg c2]
          by_cases c3 : mr_M_boundOf g7 g8 g9 g10 g11 g12 (rowD g6 nC d nC) nC nT (nI n) ≤ g18 n
          · rw [if_pos c3]
            exact ⟨fun _ => lt_s (ih.mp c1) (Or.inr c3), fun _ => rfl⟩
          · rw [if_neg c3]
            exact ⟨fun h => absurd h (by decide), fun h => ((h n (Nat.lt_succ_self _)).elim c2 c3).elim⟩
      · rw [if_neg c1]
        exact ⟨fun h => absurd h (by decide), fun h => absurd (ih.mpr (fun j hj => h j (Nat.lt_succ_of_lt hj))) c1⟩
  exact key 4
end LEG
end
section
/-! a callee that throws an object of class E and changes no old cell: its contract, and what its caller stands at -/
def tx_Q (E : String) (mc ms : Nat) : Array Value → State → Outcome → State → Prop := fun _ st o t =>
  ∃ (q : Addr) (ce : Cell), o = .threw q ∧ t.heap[q]? = some ce ∧ ce.vm = .none ∧ st.vm.findClass E = some ce.cls ∧ st.WarmedH t.vm ∧ st.sameButNew ({ t with vm := st.vm } : State) [] mc ms
def tx_Met (l : Launch) (y : MethodName) (ws : List Cond) (rm : Room) (Pc : Array Value → State → Prop) (E : String) (mc ms : Nat) : Prop :=
  MetFree l y (headSpec ws rm) Pc (fun _ _ _ _ _ => True) (tx_Q E mc ms)
theorem tx_back {l : Launch} {R : Room} {p : Program} {e : Env} {below : List Frame} {s : State} {sargs : Array Value} {y : MethodName} {ws : List Cond} {rm : Room} {Pc : Array Value → State → Prop} {E : String} {mc ms : Nat} {bytes : ByteArray} {maxL : Nat} {ret : Option FieldType}
    (hM : tx_Met l y ws rm Pc E mc ms) (hblind : FrameBlind Pc) (hrc : rm.cells = mc) (hrs : rm.slots = ms) (hframes : rm.frames + 1 ≤ R.frames) (hlocals : 8 + (maxL + 11) + rm.locals ≤ R.locals)
    (hws : ∀ w ∈ ws, ∀ (a' : Array Value) (U : State), s.WarmedH U.vm → w.before a' U = true) (hcode : Cond.code y bytes maxL ret ∈ ws) (hinit : ∀ (a' : Array Value) (U : State), s.WarmedH U.vm → (Cond.initialized y.cls).before a' U = true)
    {m : MethodId} {meth : Method} {c : Code} {U : State} {locs : List Loc} {cells slots : Nat} {g : JFrame} {ig : Instr} {len : Nat} {mk : MethodId} {a : Array Value}
    (X : Stand p l e R s m sargs below meth c U locs cells slots) (hg : g.method = m) (hsize : g.locals.size = c.maxLocals) (hdg : decode c.code g.pc = .ok (ig, len)) (hW : 2 * g.monitorRoom + (g.stack.map fun v => v.category).sum ≤ 8) (hn : U.methodNamed? y = some mk) (hP : Pc a U) (hcs : cells + mc ≤ R.cells ∧ slots + ms ≤ R.slots) :
    ∃ (q : Addr) (ce : Cell) (T' : State), Stand p l e R s m sargs below meth c T' locs (cells + mc) (slots + ms) ∧ T'.heap[q]? = some ce ∧ ce.vm = .none ∧ U.vm.findClass E = some ce.cls ∧ U.WarmedH T'.vm ∧ U.sameButNew ({ U with heap := T'.heap, slotsUsed := T'.slotsUsed } : State) [] mc ms ∧
      Steps p.tables e below (doInvoke e (U.setTop g) [] mk a).1 ((T'.setTop g).pushFrame (.throwing q)) := by
  obtain ⟨methY, cY, hmY, hcY, -, hlY, -, -, -, -⟩ := Cond.code_spec hn (hws _ hcode a U X.warmed)
  obtain ⟨kY, hkY, -⟩ := className_of_methodNamed hn
  have hinitY : kY.init = .initialized := Cond.initialized_spec (findClass_of_methodNamed hn) hkY (hinit a U X.warmed)
  have h : At U g.method c below := by rw [hg]; exact X.here
  have hpre : (headSpec ws rm).pre.before a U = true := atoms_intro fun w hw => hws w hw _ _ X.warmed
  have happ : (headSpec ws rm).appliesLoose y e.platform (U.calling g mk a) = true :=
    Spec.appliesLoose_calling (g := g) h hdg hn hkY hinitY
      (X.room_calling (g := g) (R' := (headSpec ws rm).room) hsize hmY hcY hframes (by rw [hlY]; show _ + (maxL + 11) + rm.locals ≤ R.locals; omega) (by rw [show (headSpec ws rm).room.cells = mc from hrc]; exact hcs.1) (by rw [show (headSpec ws rm).room.slots = ms from hrs]; exact hcs.2)) hpre
  obtain ⟨mid, hmid⟩ := h.above
  have hfr : (U.setTop g).frames = (.java g :: mid) ++ below := by rw [State.frames_setTop' g h.top, hmid]; rfl
  obtain ⟨o, s₂, hsteps, -, hend, hq⟩ := Steps.callFree hM p X.admits X.cas X.clock (acts := []) hfr happ (hblind _ _ _ _ hP) trivial
  have hq' : tx_Q E mc ms a (U.calling g mk a) o s₂ := hq
  obtain ⟨q, ce, rfl, hce, hcv, hcl, hW₂, hsm⟩ := hq'
  obtain ⟨e2, q2, q3, q4, q5, q6⟩ := id hsm
  have hend' : s₂.frames = .throwing q :: (U.setTop g).frames := hend
  rw [State.frames_setTop' g h.top] at hend'
  have e3 : s₂ = ({ (U.calling g mk a).setFrames s₂.frames with heap := s₂.heap, slotsUsed := s₂.slotsUsed } : State).setVm s₂.vm := by
    have e4 : s₂ = ({ s₂ with vm := (U.calling g mk a).vm } : State).setVm s₂.vm := rfl
    rw [e2] at e4
    exact e4
  have hW' : U.WarmedH s₂.vm := hW₂
  obtain ⟨g₀, hg0⟩ := Option.isSome_iff_exists.mp h.top
  obtain ⟨r, hr⟩ := State.topJava?_eq_some.mp hg0
  have hr' : (({ U with heap := s₂.heap, slotsUsed := s₂.slotsUsed } : State).setVm s₂.vm).frames = .java g₀ :: r := hr
  have hs₂ : s₂ = ((({ U with heap := s₂.heap, slotsUsed := s₂.slotsUsed } : State).setVm s₂.vm).setTop g).pushFrame (.throwing q) := by
    refine e3.trans ?_
    rw [State.setTop_of_frames _ hr']
    show _ = ((({ U with heap := s₂.heap, slotsUsed := s₂.slotsUsed } : State).setVm s₂.vm).setFrames (.java g :: r)).setFrames (.throwing q :: ((({ U with heap := s₂.heap, slotsUsed := s₂.slotsUsed } : State).setVm s₂.vm).setFrames (.java g :: r)).frames)
    rw [State.setFrames_setFrames, State.frames_setFrames _ (State.cur_lt_of_frames hr'), hend', State.calling_eq h.top, State.setFrames_setFrames, hr]
    rfl
  have hsame : U.sameButNew ({ U with heap := s₂.heap, slotsUsed := s₂.slotsUsed } : State) [] mc ms := by
    refine ⟨?_, q2, q3, q4, q5, q6⟩
    obtain ⟨t, ht, -⟩ := State.frames_cons hr
    show ({ U with heap := s₂.heap, slotsUsed := s₂.slotsUsed } : State) = { U.setFrames U.frames with heap := s₂.heap, slotsUsed := s₂.slotsUsed }
    rw [State.setFrames_self ht]
  subst hg
  have hst := X.same.trans (hsame.setVm s.vm)
  rw [List.append_nil] at hst
  refine ⟨q, ce, (({ U with heap := s₂.heap, slotsUsed := s₂.slotsUsed } : State).setVm s₂.vm),
    ⟨X.admits, X.cas, X.clock, X.frames, X.room, X.hears, X.method, X.code, (X.here.setHeapUsed s₂.heap s₂.slotsUsed).setVm hW'.alike, X.tail, State.WarmedH.trans X.warmed hW', X.limits, X.bytes, hst⟩, hce, hcv, hcl, hW', hsame, ?_⟩
  rw [← hs₂]
  exact hsteps
theorem tx_old {U V : State} {mc ms : Nat} (h : U.sameButNew V [] mc ms) : U.heap.size ≤ V.heap.size ∧ ∀ i : Nat, i < U.heap.size → V.heap[i]? = U.heap[i]? := by
  obtain ⟨-, h2, -, -, -, h6⟩ := h
  refine ⟨h2, fun i hi => ?_⟩
  obtain ⟨c9, e1, e2, e3, e4⟩ := h6 i _ (Array.getElem?_eq_getElem hi)
  have hs : c9.slots = (U.heap[i]).slots := Array.ext_getElem? fun k => e4 k List.not_mem_nil
  rw [hs] at e2
  rw [e1, e2, Array.getElem?_eq_getElem hi]
/-- the frame g, with q thrown over it -/
def tx_W (p : Program) (l : Launch) (e : Env) (R : Room) (s : State) (m : MethodId) (args : Array Value) (below : List Frame) (meth : Method) (c : Code) (H : Heap) (locs : List Loc) (cells slots : Nat) (Q : State → Prop) (g : JFrame) (q : Addr) : Prop :=
  ∀ T : State, T.heap = H → Stand p l e R s m args below meth c T locs cells slots → ∃ t, Steps p.tables e below ((T.setTop g).pushFrame (.throwing q)) t ∧ Q t
theorem tx_callV {p : Program} {l : Launch} {e : Env} {R : Room} {s : State} {m : MethodId} {args : Array Value} {below : List Frame} {meth : Method} {c : Code} {H : Heap} {locs : List Loc} {cells slots : Nat} {Q : State → Prop} {pc : Nat} {ls : Array Slot} {cc : ByteArray} {nL : Nat} {Ts : List Cond} {own : String} {y : MethodName} {ws : List Cond} {rm : Room} {D : va_G} {cl : List vw_C} {tys : List (ClassId × FieldType)} {bytes : ByteArray} {maxL n index mc ms : Nat} {ret : Option FieldType} {C E : String} {b : Addr} {As rest : List Value}
    (S : CallFix p m c cc nL s args Ts own) (hM : tx_Met l y ws rm (ro_P D cl tys H (.ref b :: As)) E mc ms) (cw : CallW R s args own C index y bytes maxL ret ws rm mc ms n) (hK : va_K D cl tys s) (hrecv : ∃ cell : Cell, H[b]? = some cell ∧ cell.vm.isStatics = false ∧ s.vm.findClass C = some cell.cls)
    (hn : As.length = n) (hl : ls.size = nL) {st : List Value} (hst : st = As.reverse ++ .ref b :: rest) (hW : (rest.map fun v => v.category).sum ≤ 8) (hdg : decode cc pc = .ok (.invokevirtual index, 3)) (hcs : cells + mc ≤ R.cells ∧ slots + ms ≤ R.slots)
    (kx : ∀ (q : Addr) (ce : Cell) (H1 : Heap), H1[q]? = some ce → ce.vm = .none → s.vm.findClass E = some ce.cls → H.size ≤ H1.size → (∀ i : Nat, i < H.size → H1[i]? = H[i]?) → tx_W p l e R s m args below meth c H1 locs (cells + mc) (slots + ms) Q (F0 m pc ls rest) q) : W p l e R s m args below meth c H locs cells slots Q (F0 m pc ls st) := by
  subst hst
  intro T hT X
  obtain ⟨⟨hrc, hrs, hfr, hlo, hws, hcw, hcode, hini, hy, hlen, hlk⟩, hin, hse⟩ := cw
  obtain ⟨hx, hb, hml, ho, -⟩ := S
  obtain ⟨cellB, hcB, hoB, hclB⟩ := hrecv
  obtain ⟨mk, methM, hnamed, hmethM, hstM, habM⟩ := Cond.instanceMethod_spec hin
  obtain ⟨methM', cM, hmethM', -, -, -, -, -, -, hsigM⟩ := Cond.code_spec hnamed hcode
  cases hmethM.symm.trans hmethM'
  obtain ⟨c2, r2, m2, q1, q2, q3, q4, kP, hkP, hkPi⟩ := Cond.selects_spec hse
  cases hclB.symm.trans q1
  cases (State.methodFound?_of_named hnamed hy).symm.trans q2
  cases hnamed.symm.trans q3
  have hselP : selectMethod e.platform s.vm cellB.cls mk = .method mk := by rw [Launch.admits_selectMethod X.admits]; exact q4
  obtain ⟨vm₁, X₁, hstep₁⟩ := X.invokevirtual hx ho hlk hnamed hmethM hstM hkP hkPi hy (a := b) (cell := cellB) (by rw [hT]; exact hcB)
    (fun z h => by rw [h] at hoB; cases hoB) hselP hmethM habM hkP hkPi (g := F0 m pc ls (As.reverse ++ .ref b :: rest)) rfl (argsL := As) (rest := rest) (hn.trans (hlen _ hsigM)) rfl (by rw [hb]; exact hdg)
  obtain ⟨q, ce, T', X', h1, h2, h3, h4, h5, st⟩ := tx_back (a := (Value.ref b :: As).toArray) hM ro_blind hrc hrs hfr hlo hws hcw (fun a' U hW => word_at hW (Or.inl (by first | rfl | simp [Cond.onTables, Cond.keeps, Cond.steady])) hini) X₁ (g := F0 m pc ls rest) (ig := .invokevirtual index) (len := 3) rfl (hl.trans hml.symm) (by rw [hb]; exact hdg) (lv_room hW) (X₁.named hnamed) ⟨rfl, hT, va_K.moved X₁.warmed.alike hK⟩ hcs
  obtain ⟨o1, o2⟩ := tx_old h5
  have hcE : s.vm.findClass E = some ce.cls := by
    have h9 : (T.setVm vm₁).vm.findClass E = some ce.cls := h3
    rw [X₁.warmed.alike.findClass] at h9
    exact h9
  have o1' : H.size ≤ T'.heap.size := by rw [← hT]; exact o1
  obtain ⟨t, a1, b1⟩ := kx q ce T'.heap h1 h2 hcE o1' (fun i hi => by rw [← hT] at hi ⊢; exact o2 i hi) T' rfl X'
  exact ⟨t, hstep₁ _ fun acts => by rw [doInvoke_state]; exact st.trans a1, b1⟩
end
