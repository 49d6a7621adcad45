set_option maxRecDepth 100000 in
theorem cALL_i360 : (Jvm.Cond.constant "DesignSpaces" (104 : Nat) (1000000 : Int32)) ∈ lw_tbl := List.mem_of_getElem? (i := 481) rfl
set_option maxRecDepth 100000 in
theorem cALL_i361 : (Jvm.Cond.methodLink "DesignSpaces" (112 : Nat) ({ cls := "DesignSpaces$Book", name := "addTerm", desc := "(IIIIII)V" } : Jvm.MethodName)) ∈ lw_tbl := List.mem_of_getElem? (i := 484) rfl
set_option maxRecDepth 100000 in
theorem cALL_i362 : (Jvm.Cond.instanceMethod ({ cls := "DesignSpaces$Book", name := "addTerm", desc := "(IIIIII)V" } : Jvm.MethodName)) ∈ lw_tbl := List.mem_of_getElem? (i := 485) rfl
set_option maxRecDepth 100000 in
theorem cALL_i363 : (Jvm.Cond.selects "DesignSpaces$Book" ({ cls := "DesignSpaces$Book", name := "addTerm", desc := "(IIIIII)V" } : Jvm.MethodName) ({ cls := "DesignSpaces$Book", name := "addTerm", desc := "(IIIIII)V" } : Jvm.MethodName)) ∈ lw_tbl := List.mem_of_getElem? (i := 486) rfl
set_option maxRecDepth 100000 in
theorem cALL_i364 : (Jvm.Cond.code ({ cls := "DesignSpaces$Book", name := "addTerm", desc := "(IIIIII)V" } : Jvm.MethodName) prog_2_method_4_code (9 : Nat) (Option.none : Option Jvm.ClassFile.FieldType)) ∈ lw_tbl := List.mem_of_getElem? (i := 487) rfl
set_option maxRecDepth 100000 in
theorem cALL_i365 : (Jvm.Cond.methodLink "DesignSpaces$Book" (60 : Nat) ({ cls := "DesignSpaces$Matches", name := "put", desc := "(IIIII)V" } : Jvm.MethodName)) ∈ lw_tbl := List.mem_of_getElem? (i := 488) rfl
set_option maxRecDepth 100000 in
theorem cALL_i366 : (Jvm.Cond.instanceMethod ({ cls := "DesignSpaces$Matches", name := "put", desc := "(IIIII)V" } : Jvm.MethodName)) ∈ lw_tbl := List.mem_of_getElem? (i := 489) rfl
set_option maxRecDepth 100000 in
theorem cALL_i367 : (Jvm.Cond.selects "DesignSpaces$Matches" ({ cls := "DesignSpaces$Matches", name := "put", desc := "(IIIII)V" } : Jvm.MethodName) ({ cls := "DesignSpaces$Matches", name := "put", desc := "(IIIII)V" } : Jvm.MethodName)) ∈ lw_tbl := List.mem_of_getElem? (i := 490) rfl
set_option maxRecDepth 100000 in
theorem cALL_i368 : (Jvm.Cond.code ({ cls := "DesignSpaces$Matches", name := "put", desc := "(IIIII)V" } : Jvm.MethodName) prog_4_method_2_code (6 : Nat) (Option.none : Option Jvm.ClassFile.FieldType)) ∈ lw_tbl := List.mem_of_getElem? (i := 491) rfl
set_option maxRecDepth 100000 in
theorem cALL_i369 : (Jvm.Cond.methodLink "DesignSpaces$Book" (64 : Nat) ({ cls := "DesignSpaces$Matches", name := "fits", desc := "(II)Z" } : Jvm.MethodName)) ∈ lw_tbl := List.mem_of_getElem? (i := 492) rfl
set_option maxRecDepth 100000 in
theorem cALL_i370 : (Jvm.Cond.instanceMethod ({ cls := "DesignSpaces$Matches", name := "fits", desc := "(II)Z" } : Jvm.MethodName)) ∈ lw_tbl := List.mem_of_getElem? (i := 493) rfl
set_option maxRecDepth 100000 in
theorem cALL_i371 : (Jvm.Cond.selects "DesignSpaces$Matches" ({ cls := "DesignSpaces$Matches", name := "fits", desc := "(II)Z" } : Jvm.MethodName) ({ cls := "DesignSpaces$Matches", name := "fits", desc := "(II)Z" } : Jvm.MethodName)) ∈ lw_tbl := List.mem_of_getElem? (i := 494) rfl
set_option maxRecDepth 100000 in
theorem cALL_i372 : (Jvm.Cond.code ({ cls := "DesignSpaces$Matches", name := "fits", desc := "(II)Z" } : Jvm.MethodName) prog_4_method_3_code (3 : Nat) (Option.some Jvm.ClassFile.FieldType.boolean)) ∈ lw_tbl := List.mem_of_getElem? (i := 495) rfl
set_option maxRecDepth 100000 in
theorem cALL_i373 : (Jvm.Cond.methodLink "DesignSpaces$Matches" (28 : Nat) ({ cls := "DesignSpaces$Shape", name := "digit", desc := "(II)I" } : Jvm.MethodName)) ∈ lw_tbl := List.mem_of_getElem? (i := 496) rfl
set_option maxRecDepth 100000 in
theorem cALL_i374 : (Jvm.Cond.instanceMethod ({ cls := "DesignSpaces$Shape", name := "digit", desc := "(II)I" } : Jvm.MethodName)) ∈ lw_tbl := List.mem_of_getElem? (i := 497) rfl
set_option maxRecDepth 100000 in
theorem cALL_i375 : (Jvm.Cond.selects "DesignSpaces$Shape" ({ cls := "DesignSpaces$Shape", name := "digit", desc := "(II)I" } : Jvm.MethodName) ({ cls := "DesignSpaces$Shape", name := "digit", desc := "(II)I" } : Jvm.MethodName)) ∈ lw_tbl := List.mem_of_getElem? (i := 498) rfl
set_option maxRecDepth 100000 in
theorem cALL_i376 : (Jvm.Cond.code ({ cls := "DesignSpaces$Shape", name := "digit", desc := "(II)I" } : Jvm.MethodName) prog_6_method_7_code (5 : Nat) (Option.some Jvm.ClassFile.FieldType.int)) ∈ lw_tbl := List.mem_of_getElem? (i := 499) rfl
set_option maxRecDepth 100000 in
theorem cALL_i377 : (Jvm.Cond.instanceMethod ({ cls := "DesignSpaces", name := "rule", desc := "(IIII)I" } : Jvm.MethodName)) ∈ lw_tbl := List.mem_of_getElem? (i := 504) rfl
set_option maxRecDepth 100000 in
theorem cALL_i378 : (Jvm.Cond.selects "DesignSpaces" ({ cls := "DesignSpaces", name := "rule", desc := "(IIII)I" } : Jvm.MethodName) ({ cls := "DesignSpaces", name := "rule", desc := "(IIII)I" } : Jvm.MethodName)) ∈ lw_tbl := List.mem_of_getElem? (i := 505) rfl
set_option maxRecDepth 100000 in
theorem cALL_i379 : (Jvm.Cond.code ({ cls := "DesignSpaces", name := "rule", desc := "(IIII)I" } : Jvm.MethodName) prog_1_method_4_code (5 : Nat) (Option.some Jvm.ClassFile.FieldType.int)) ∈ lw_tbl := List.mem_of_getElem? (i := 506) rfl
set_option maxRecDepth 100000 in
theorem cALL_i380 : (Jvm.Cond.methodLink "DesignSpaces" (125 : Nat) ({ cls := "DesignSpaces$Book", name := "addRule", desc := "(IIII)V" } : Jvm.MethodName)) ∈ lw_tbl := List.mem_of_getElem? (i := 510) rfl
set_option maxRecDepth 100000 in
theorem cALL_i381 : (Jvm.Cond.instanceMethod ({ cls := "DesignSpaces$Book", name := "addRule", desc := "(IIII)V" } : Jvm.MethodName)) ∈ lw_tbl := List.mem_of_getElem? (i := 511) rfl
set_option maxRecDepth 100000 in
theorem cALL_i382 : (Jvm.Cond.selects "DesignSpaces$Book" ({ cls := "DesignSpaces$Book", name := "addRule", desc := "(IIII)V" } : Jvm.MethodName) ({ cls := "DesignSpaces$Book", name := "addRule", desc := "(IIII)V" } : Jvm.MethodName)) ∈ lw_tbl := List.mem_of_getElem? (i := 512) rfl
set_option maxRecDepth 100000 in
theorem cALL_i383 : (Jvm.Cond.code ({ cls := "DesignSpaces$Book", name := "addRule", desc := "(IIII)V" } : Jvm.MethodName) prog_2_method_5_code (7 : Nat) (Option.none : Option Jvm.ClassFile.FieldType)) ∈ lw_tbl := List.mem_of_getElem? (i := 513) rfl
set_option maxRecDepth 100000 in
theorem cALL_i384 : (Jvm.Cond.instanceMethod ({ cls := "DesignSpaces", name := "limit", desc := "(IZI)Z" } : Jvm.MethodName)) ∈ lw_tbl := List.mem_of_getElem? (i := 518) rfl
set_option maxRecDepth 100000 in
theorem cALL_i385 : (Jvm.Cond.selects "DesignSpaces" ({ cls := "DesignSpaces", name := "limit", desc := "(IZI)Z" } : Jvm.MethodName) ({ cls := "DesignSpaces", name := "limit", desc := "(IZI)Z" } : Jvm.MethodName)) ∈ lw_tbl := List.mem_of_getElem? (i := 519) rfl
set_option maxRecDepth 100000 in
theorem cALL_i386 : (Jvm.Cond.code ({ cls := "DesignSpaces", name := "limit", desc := "(IZI)Z" } : Jvm.MethodName) prog_1_method_5_code (5 : Nat) (Option.some Jvm.ClassFile.FieldType.boolean)) ∈ lw_tbl := List.mem_of_getElem? (i := 520) rfl
set_option maxRecDepth 100000 in
theorem cALL_i387 : (Jvm.Cond.instanceMethod ({ cls := "DesignSpaces", name := "number", desc := "(II)I" } : Jvm.MethodName)) ∈ lw_tbl := List.mem_of_getElem? (i := 526) rfl
set_option maxRecDepth 100000 in
theorem cALL_i388 : (Jvm.Cond.selects "DesignSpaces" ({ cls := "DesignSpaces", name := "number", desc := "(II)I" } : Jvm.MethodName) ({ cls := "DesignSpaces", name := "number", desc := "(II)I" } : Jvm.MethodName)) ∈ lw_tbl := List.mem_of_getElem? (i := 527) rfl
set_option maxRecDepth 100000 in
theorem cALL_i389 : (Jvm.Cond.code ({ cls := "DesignSpaces", name := "number", desc := "(II)I" } : Jvm.MethodName) prog_1_method_6_code (3 : Nat) (Option.some Jvm.ClassFile.FieldType.int)) ∈ lw_tbl := List.mem_of_getElem? (i := 528) rfl
set_option maxRecDepth 100000 in
theorem cALL_i390 : (Jvm.Cond.methodLink "DesignSpaces" (139 : Nat) ({ cls := "DesignSpaces$Shape", name := "hasDesign", desc := "(I)Z" } : Jvm.MethodName)) ∈ lw_tbl := List.mem_of_getElem? (i := 529) rfl
set_option maxRecDepth 100000 in
theorem cALL_i391 : (Jvm.Cond.instanceMethod ({ cls := "DesignSpaces$Shape", name := "hasDesign", desc := "(I)Z" } : Jvm.MethodName)) ∈ lw_tbl := List.mem_of_getElem? (i := 530) rfl
set_option maxRecDepth 100000 in
theorem cALL_i392 : (Jvm.Cond.selects "DesignSpaces$Shape" ({ cls := "DesignSpaces$Shape", name := "hasDesign", desc := "(I)Z" } : Jvm.MethodName) ({ cls := "DesignSpaces$Shape", name := "hasDesign", desc := "(I)Z" } : Jvm.MethodName)) ∈ lw_tbl := List.mem_of_getElem? (i := 531) rfl
set_option maxRecDepth 100000 in
theorem cALL_i393 : (Jvm.Cond.code ({ cls := "DesignSpaces$Shape", name := "hasDesign", desc := "(I)Z" } : Jvm.MethodName) prog_6_method_4_code (2 : Nat) (Option.some Jvm.ClassFile.FieldType.boolean)) ∈ lw_tbl := List.mem_of_getElem? (i := 532) rfl
set_option maxRecDepth 100000 in
theorem cALL_i394 : (Jvm.Cond.methodLink "DesignSpaces" (144 : Nat) ({ cls := "DesignSpaces$Book", name := "sumOf", desc := "(II)I" } : Jvm.MethodName)) ∈ lw_tbl := List.mem_of_getElem? (i := 534) rfl
set_option maxRecDepth 100000 in
theorem cALL_i395 : (Jvm.Cond.instanceMethod ({ cls := "DesignSpaces", name := "value", desc := "(II)I" } : Jvm.MethodName)) ∈ lw_tbl := List.mem_of_getElem? (i := 539) rfl
set_option maxRecDepth 100000 in
theorem cALL_i396 : (Jvm.Cond.selects "DesignSpaces" ({ cls := "DesignSpaces", name := "value", desc := "(II)I" } : Jvm.MethodName) ({ cls := "DesignSpaces", name := "value", desc := "(II)I" } : Jvm.MethodName)) ∈ lw_tbl := List.mem_of_getElem? (i := 540) rfl
set_option maxRecDepth 100000 in
theorem cALL_i397 : (Jvm.Cond.code ({ cls := "DesignSpaces", name := "value", desc := "(II)I" } : Jvm.MethodName) prog_1_method_7_code (3 : Nat) (Option.some Jvm.ClassFile.FieldType.int)) ∈ lw_tbl := List.mem_of_getElem? (i := 541) rfl
set_option maxRecDepth 100000 in
theorem cALL_i398 : (Jvm.Cond.methodLink "DesignSpaces" (148 : Nat) ({ cls := "DesignSpaces$Shape", name := "hasChoice", desc := "(I)Z" } : Jvm.MethodName)) ∈ lw_tbl := List.mem_of_getElem? (i := 542) rfl
set_option maxRecDepth 100000 in
theorem cALL_i399 : (Jvm.Cond.methodLink "DesignSpaces" (153 : Nat) ({ cls := "DesignSpaces$Shape", name := "digit", desc := "(II)I" } : Jvm.MethodName)) ∈ lw_tbl := List.mem_of_getElem? (i := 544) rfl
set_option maxRecDepth 100000 in
theorem cALL_i400 : (Jvm.Cond.instanceMethod ({ cls := "DesignSpaces", name := "legal", desc := "(I)Z" } : Jvm.MethodName)) ∈ lw_tbl := List.mem_of_getElem? (i := 549) rfl
set_option maxRecDepth 100000 in
theorem cALL_i401 : (Jvm.Cond.selects "DesignSpaces" ({ cls := "DesignSpaces", name := "legal", desc := "(I)Z" } : Jvm.MethodName) ({ cls := "DesignSpaces", name := "legal", desc := "(I)Z" } : Jvm.MethodName)) ∈ lw_tbl := List.mem_of_getElem? (i := 550) rfl
set_option maxRecDepth 100000 in
theorem cALL_i402 : (Jvm.Cond.code ({ cls := "DesignSpaces", name := "legal", desc := "(I)Z" } : Jvm.MethodName) prog_1_method_8_code (2 : Nat) (Option.some Jvm.ClassFile.FieldType.boolean)) ∈ lw_tbl := List.mem_of_getElem? (i := 551) rfl
set_option maxRecDepth 100000 in
theorem cALL_i403 : (Jvm.Cond.methodLink "DesignSpaces" (158 : Nat) ({ cls := "DesignSpaces$Book", name := "allows", desc := "(I)Z" } : Jvm.MethodName)) ∈ lw_tbl := List.mem_of_getElem? (i := 553) rfl
set_option maxRecDepth 100000 in
theorem cALL_i404 : (Jvm.Cond.instanceMethod ({ cls := "DesignSpaces", name := "beats", desc := "(II)Z" } : Jvm.MethodName)) ∈ lw_tbl := List.mem_of_getElem? (i := 558) rfl
set_option maxRecDepth 100000 in
theorem cALL_i405 : (Jvm.Cond.selects "DesignSpaces" ({ cls := "DesignSpaces", name := "beats", desc := "(II)Z" } : Jvm.MethodName) ({ cls := "DesignSpaces", name := "beats", desc := "(II)Z" } : Jvm.MethodName)) ∈ lw_tbl := List.mem_of_getElem? (i := 559) rfl
set_option maxRecDepth 100000 in
theorem cALL_i406 : (Jvm.Cond.code ({ cls := "DesignSpaces", name := "beats", desc := "(II)Z" } : Jvm.MethodName) prog_1_method_9_code (3 : Nat) (Option.some Jvm.ClassFile.FieldType.boolean)) ∈ lw_tbl := List.mem_of_getElem? (i := 560) rfl
set_option maxRecDepth 100000 in
theorem cALL_i407 : (Jvm.Cond.methodLink "DesignSpaces" (165 : Nat) ({ cls := "DesignSpaces$Book", name := "isAtMost", desc := "(II)Z" } : Jvm.MethodName)) ∈ lw_tbl := List.mem_of_getElem? (i := 563) rfl
set_option maxRecDepth 100000 in
theorem cALL_i408 : (Jvm.Cond.instanceMethod ({ cls := "DesignSpaces", name := "at", desc := "(I)I" } : Jvm.MethodName)) ∈ lw_tbl := List.mem_of_getElem? (i := 568) rfl
set_option maxRecDepth 100000 in
theorem cALL_i409 : (Jvm.Cond.selects "DesignSpaces" ({ cls := "DesignSpaces", name := "at", desc := "(I)I" } : Jvm.MethodName) ({ cls := "DesignSpaces", name := "at", desc := "(I)I" } : Jvm.MethodName)) ∈ lw_tbl := List.mem_of_getElem? (i := 569) rfl
set_option maxRecDepth 100000 in
theorem cALL_i410 : (Jvm.Cond.code ({ cls := "DesignSpaces", name := "at", desc := "(I)I" } : Jvm.MethodName) prog_1_method_11_code (2 : Nat) (Option.some Jvm.ClassFile.FieldType.int)) ∈ lw_tbl := List.mem_of_getElem? (i := 570) rfl
set_option maxRecDepth 100000 in
theorem cALL_i411 : (Jvm.Cond.instanceMethod ({ cls := "DesignSpaces", name := "best", desc := "(I)I" } : Jvm.MethodName)) ∈ lw_tbl := List.mem_of_getElem? (i := 576) rfl
set_option maxRecDepth 100000 in
theorem cALL_i412 : (Jvm.Cond.selects "DesignSpaces" ({ cls := "DesignSpaces", name := "best", desc := "(I)I" } : Jvm.MethodName) ({ cls := "DesignSpaces", name := "best", desc := "(I)I" } : Jvm.MethodName)) ∈ lw_tbl := List.mem_of_getElem? (i := 577) rfl
set_option maxRecDepth 100000 in
theorem cALL_i413 : (Jvm.Cond.code ({ cls := "DesignSpaces", name := "best", desc := "(I)I" } : Jvm.MethodName) prog_1_method_12_code (2 : Nat) (Option.some Jvm.ClassFile.FieldType.int)) ∈ lw_tbl := List.mem_of_getElem? (i := 578) rfl
set_option maxRecDepth 100000 in
theorem cALL_i414 : (Jvm.Cond.methodLink "DesignSpaces" (179 : Nat) ({ cls := "DesignSpaces$Search", name := "leastOf", desc := "(I)I" } : Jvm.MethodName)) ∈ lw_tbl := List.mem_of_getElem? (i := 579) rfl
set_option maxRecDepth 100000 in
theorem cALL_i415 : (Jvm.Cond.instanceMethod ({ cls := "DesignSpaces$Search", name := "leastOf", desc := "(I)I" } : Jvm.MethodName)) ∈ lw_tbl := List.mem_of_getElem? (i := 580) rfl
set_option maxRecDepth 100000 in
theorem cALL_i416 : (Jvm.Cond.selects "DesignSpaces$Search" ({ cls := "DesignSpaces$Search", name := "leastOf", desc := "(I)I" } : Jvm.MethodName) ({ cls := "DesignSpaces$Search", name := "leastOf", desc := "(I)I" } : Jvm.MethodName)) ∈ lw_tbl := List.mem_of_getElem? (i := 581) rfl
set_option maxRecDepth 100000 in
theorem cALL_i417 : (Jvm.Cond.code ({ cls := "DesignSpaces$Search", name := "leastOf", desc := "(I)I" } : Jvm.MethodName) prog_5_method_2_code (5 : Nat) (Option.some Jvm.ClassFile.FieldType.int)) ∈ lw_tbl := List.mem_of_getElem? (i := 582) rfl
set_option maxRecDepth 100000 in
theorem cALL_i418 : (Jvm.Cond.methodLink "DesignSpaces$Search" (33 : Nat) ({ cls := "DesignSpaces$Search", name := "isPassedBy", desc := "(II)Z" } : Jvm.MethodName)) ∈ lw_tbl := List.mem_of_getElem? (i := 583) rfl
set_option maxRecDepth 100000 in
theorem cALL_i419 : (Jvm.Cond.instanceMethod ({ cls := "DesignSpaces$Search", name := "isPassedBy", desc := "(II)Z" } : Jvm.MethodName)) ∈ lw_tbl := List.mem_of_getElem? (i := 585) rfl
set_option maxRecDepth 100000 in
theorem cALL_i420 : (Jvm.Cond.code ({ cls := "DesignSpaces$Search", name := "isPassedBy", desc := "(II)Z" } : Jvm.MethodName) prog_5_method_5_code (3 : Nat) (Option.some Jvm.ClassFile.FieldType.boolean)) ∈ lw_tbl := List.mem_of_getElem? (i := 586) rfl
set_option maxRecDepth 100000 in
theorem cALL_i421 : (Jvm.Cond.methodLink "DesignSpaces$Search" (63 : Nat) ({ cls := "DesignSpaces$Book", name := "barsRow", desc := "([II)Z" } : Jvm.MethodName)) ∈ lw_tbl := List.mem_of_getElem? (i := 587) rfl
set_option maxRecDepth 100000 in
theorem cALL_i422 : (Jvm.Cond.instanceMethod ({ cls := "DesignSpaces$Book", name := "barsRow", desc := "([II)Z" } : Jvm.MethodName)) ∈ lw_tbl := List.mem_of_getElem? (i := 588) rfl
set_option maxRecDepth 100000 in
theorem cALL_i423 : (Jvm.Cond.selects "DesignSpaces$Book" ({ cls := "DesignSpaces$Book", name := "barsRow", desc := "([II)Z" } : Jvm.MethodName) ({ cls := "DesignSpaces$Book", name := "barsRow", desc := "([II)Z" } : Jvm.MethodName)) ∈ lw_tbl := List.mem_of_getElem? (i := 589) rfl
set_option maxRecDepth 100000 in
theorem cALL_i424 : (Jvm.Cond.code ({ cls := "DesignSpaces$Book", name := "barsRow", desc := "([II)Z" } : Jvm.MethodName) prog_2_method_12_code (5 : Nat) (Option.some Jvm.ClassFile.FieldType.boolean)) ∈ lw_tbl := List.mem_of_getElem? (i := 590) rfl
set_option maxRecDepth 100000 in
theorem cALL_i425 : (Jvm.Cond.methodLink "DesignSpaces$Book" (76 : Nat) ({ cls := "DesignSpaces$Matches", name := "isSettled", desc := "(II)Z" } : Jvm.MethodName)) ∈ lw_tbl := List.mem_of_getElem? (i := 591) rfl
set_option maxRecDepth 100000 in
theorem cALL_i426 : (Jvm.Cond.instanceMethod ({ cls := "DesignSpaces$Matches", name := "isSettled", desc := "(II)Z" } : Jvm.MethodName)) ∈ lw_tbl := List.mem_of_getElem? (i := 592) rfl
set_option maxRecDepth 100000 in
theorem cALL_i427 : (Jvm.Cond.selects "DesignSpaces$Matches" ({ cls := "DesignSpaces$Matches", name := "isSettled", desc := "(II)Z" } : Jvm.MethodName) ({ cls := "DesignSpaces$Matches", name := "isSettled", desc := "(II)Z" } : Jvm.MethodName)) ∈ lw_tbl := List.mem_of_getElem? (i := 593) rfl
set_option maxRecDepth 100000 in
theorem cALL_i428 : (Jvm.Cond.code ({ cls := "DesignSpaces$Matches", name := "isSettled", desc := "(II)Z" } : Jvm.MethodName) prog_4_method_5_code (3 : Nat) (Option.some Jvm.ClassFile.FieldType.boolean)) ∈ lw_tbl := List.mem_of_getElem? (i := 594) rfl
set_option maxRecDepth 100000 in
theorem cALL_i429 : (Jvm.Cond.methodLink "DesignSpaces$Book" (72 : Nat) ({ cls := "DesignSpaces$Matches", name := "isOpen", desc := "(I[II)Z" } : Jvm.MethodName)) ∈ lw_tbl := List.mem_of_getElem? (i := 595) rfl
set_option maxRecDepth 100000 in
theorem cALL_i430 : (Jvm.Cond.instanceMethod ({ cls := "DesignSpaces$Matches", name := "isOpen", desc := "(I[II)Z" } : Jvm.MethodName)) ∈ lw_tbl := List.mem_of_getElem? (i := 596) rfl
set_option maxRecDepth 100000 in
theorem cALL_i431 : (Jvm.Cond.selects "DesignSpaces$Matches" ({ cls := "DesignSpaces$Matches", name := "isOpen", desc := "(I[II)Z" } : Jvm.MethodName) ({ cls := "DesignSpaces$Matches", name := "isOpen", desc := "(I[II)Z" } : Jvm.MethodName)) ∈ lw_tbl := List.mem_of_getElem? (i := 597) rfl
set_option maxRecDepth 100000 in
theorem cALL_i432 : (Jvm.Cond.code ({ cls := "DesignSpaces$Matches", name := "isOpen", desc := "(I[II)Z" } : Jvm.MethodName) prog_4_method_4_code (6 : Nat) (Option.some Jvm.ClassFile.FieldType.boolean)) ∈ lw_tbl := List.mem_of_getElem? (i := 598) rfl
set_option maxRecDepth 100000 in
theorem cALL_i433 : (Jvm.Cond.methodLink "DesignSpaces$Search" (67 : Nat) ({ cls := "DesignSpaces$Book", name := "limitsRow", desc := "([II)Z" } : Jvm.MethodName)) ∈ lw_tbl := List.mem_of_getElem? (i := 599) rfl
set_option maxRecDepth 100000 in
theorem cALL_i434 : (Jvm.Cond.instanceMethod ({ cls := "DesignSpaces$Book", name := "limitsRow", desc := "([II)Z" } : Jvm.MethodName)) ∈ lw_tbl := List.mem_of_getElem? (i := 600) rfl
set_option maxRecDepth 100000 in
theorem cALL_i435 : (Jvm.Cond.selects "DesignSpaces$Book" ({ cls := "DesignSpaces$Book", name := "limitsRow", desc := "([II)Z" } : Jvm.MethodName) ({ cls := "DesignSpaces$Book", name := "limitsRow", desc := "([II)Z" } : Jvm.MethodName)) ∈ lw_tbl := List.mem_of_getElem? (i := 601) rfl
set_option maxRecDepth 100000 in
theorem cALL_i436 : (Jvm.Cond.code ({ cls := "DesignSpaces$Book", name := "limitsRow", desc := "([II)Z" } : Jvm.MethodName) prog_2_method_13_code (4 : Nat) (Option.some Jvm.ClassFile.FieldType.boolean)) ∈ lw_tbl := List.mem_of_getElem? (i := 602) rfl
set_option maxRecDepth 100000 in
theorem cALL_i437 : (Jvm.Cond.methodLink "DesignSpaces$Book" (79 : Nat) ({ cls := "DesignSpaces$Book", name := "boundOf", desc := "(I[II)I" } : Jvm.MethodName)) ∈ lw_tbl := List.mem_of_getElem? (i := 603) rfl
set_option maxRecDepth 100000 in
theorem cALL_i438 : (Jvm.Cond.instanceMethod ({ cls := "DesignSpaces$Book", name := "boundOf", desc := "(I[II)I" } : Jvm.MethodName)) ∈ lw_tbl := List.mem_of_getElem? (i := 604) rfl
set_option maxRecDepth 100000 in
theorem cALL_i439 : (Jvm.Cond.selects "DesignSpaces$Book" ({ cls := "DesignSpaces$Book", name := "boundOf", desc := "(I[II)I" } : Jvm.MethodName) ({ cls := "DesignSpaces$Book", name := "boundOf", desc := "(I[II)I" } : Jvm.MethodName)) ∈ lw_tbl := List.mem_of_getElem? (i := 605) rfl
set_option maxRecDepth 100000 in
theorem cALL_i440 : (Jvm.Cond.code ({ cls := "DesignSpaces$Book", name := "boundOf", desc := "(I[II)I" } : Jvm.MethodName) prog_2_method_11_code (8 : Nat) (Option.some Jvm.ClassFile.FieldType.int)) ∈ lw_tbl := List.mem_of_getElem? (i := 606) rfl
set_option maxRecDepth 100000 in
theorem cALL_i441 : (Jvm.Cond.methodLink "DesignSpaces$Search" (70 : Nat) ({ cls := "DesignSpaces$Book", name := "boundOf", desc := "(I[II)I" } : Jvm.MethodName)) ∈ lw_tbl := List.mem_of_getElem? (i := 607) rfl
set_option maxRecDepth 100000 in
theorem cALL_i442 : (Jvm.Cond.methodLink "DesignSpaces$Search" (42 : Nat) ({ cls := "DesignSpaces$Search", name := "keepRow", desc := "(I)V" } : Jvm.MethodName)) ∈ lw_tbl := List.mem_of_getElem? (i := 608) rfl
set_option maxRecDepth 100000 in
theorem cALL_i443 : (Jvm.Cond.instanceMethod ({ cls := "DesignSpaces$Search", name := "keepRow", desc := "(I)V" } : Jvm.MethodName)) ∈ lw_tbl := List.mem_of_getElem? (i := 610) rfl
set_option maxRecDepth 100000 in
theorem cALL_i444 : (Jvm.Cond.code ({ cls := "DesignSpaces$Search", name := "keepRow", desc := "(I)V" } : Jvm.MethodName) prog_5_method_3_code (2 : Nat) (Option.none : Option Jvm.ClassFile.FieldType)) ∈ lw_tbl := List.mem_of_getElem? (i := 611) rfl
set_option maxRecDepth 100000 in
theorem cALL_i445 : (Jvm.Cond.methodLink "DesignSpaces$Search" (50 : Nat) ({ cls := "DesignSpaces$Shape", name := "designOf", desc := "([I)I" } : Jvm.MethodName)) ∈ lw_tbl := List.mem_of_getElem? (i := 612) rfl
set_option maxRecDepth 100000 in
theorem cALL_i446 : (Jvm.Cond.instanceMethod ({ cls := "DesignSpaces$Shape", name := "designOf", desc := "([I)I" } : Jvm.MethodName)) ∈ lw_tbl := List.mem_of_getElem? (i := 613) rfl
set_option maxRecDepth 100000 in
theorem cALL_i447 : (Jvm.Cond.selects "DesignSpaces$Shape" ({ cls := "DesignSpaces$Shape", name := "designOf", desc := "([I)I" } : Jvm.MethodName) ({ cls := "DesignSpaces$Shape", name := "designOf", desc := "([I)I" } : Jvm.MethodName)) ∈ lw_tbl := List.mem_of_getElem? (i := 614) rfl
set_option maxRecDepth 100000 in
theorem cALL_i448 : (Jvm.Cond.code ({ cls := "DesignSpaces$Shape", name := "designOf", desc := "([I)I" } : Jvm.MethodName) prog_6_method_8_code (4 : Nat) (Option.some Jvm.ClassFile.FieldType.int)) ∈ lw_tbl := List.mem_of_getElem? (i := 615) rfl
set_option maxRecDepth 100000 in
theorem cALL_i449 : (Jvm.Cond.methodLink "DesignSpaces$Search" (54 : Nat) ({ cls := "DesignSpaces$Book", name := "sumOf", desc := "(II)I" } : Jvm.MethodName)) ∈ lw_tbl := List.mem_of_getElem? (i := 616) rfl
set_option maxRecDepth 100000 in
theorem cALL_i450 : (Jvm.Cond.methodLink "DesignSpaces$Search" (46 : Nat) ({ cls := "DesignSpaces$Search", name := "goBehind", desc := "(I)I" } : Jvm.MethodName)) ∈ lw_tbl := List.mem_of_getElem? (i := 617) rfl
set_option maxRecDepth 100000 in
theorem cALL_i451 : (Jvm.Cond.instanceMethod ({ cls := "DesignSpaces$Search", name := "goBehind", desc := "(I)I" } : Jvm.MethodName)) ∈ lw_tbl := List.mem_of_getElem? (i := 619) rfl
set_option maxRecDepth 100000 in
theorem cALL_i452 : (Jvm.Cond.code ({ cls := "DesignSpaces$Search", name := "goBehind", desc := "(I)I" } : Jvm.MethodName) prog_5_method_4_code (3 : Nat) (Option.some Jvm.ClassFile.FieldType.int)) ∈ lw_tbl := List.mem_of_getElem? (i := 620) rfl
set_option maxRecDepth 100000 in
theorem cALL_i453 : (Jvm.Cond.instanceMethod ({ cls := "DesignSpaces", name := "bound", desc := "(III)I" } : Jvm.MethodName)) ∈ lw_tbl := List.mem_of_getElem? (i := 625) rfl
set_option maxRecDepth 100000 in
theorem cALL_i454 : (Jvm.Cond.selects "DesignSpaces" ({ cls := "DesignSpaces", name := "bound", desc := "(III)I" } : Jvm.MethodName) ({ cls := "DesignSpaces", name := "bound", desc := "(III)I" } : Jvm.MethodName)) ∈ lw_tbl := List.mem_of_getElem? (i := 626) rfl
set_option maxRecDepth 100000 in
theorem cALL_i455 : (Jvm.Cond.code ({ cls := "DesignSpaces", name := "bound", desc := "(III)I" } : Jvm.MethodName) prog_1_method_14_code (4 : Nat) (Option.some Jvm.ClassFile.FieldType.int)) ∈ lw_tbl := List.mem_of_getElem? (i := 627) rfl
set_option maxRecDepth 100000 in
theorem cALL_i456 : (Jvm.Cond.methodLink "DesignSpaces" (188 : Nat) ({ cls := "DesignSpaces$Search", name := "boundFor", desc := "(III)I" } : Jvm.MethodName)) ∈ lw_tbl := List.mem_of_getElem? (i := 629) rfl
set_option maxRecDepth 100000 in
theorem cALL_i457 : (Jvm.Cond.instanceMethod ({ cls := "DesignSpaces$Search", name := "boundFor", desc := "(III)I" } : Jvm.MethodName)) ∈ lw_tbl := List.mem_of_getElem? (i := 630) rfl
set_option maxRecDepth 100000 in
theorem cALL_i458 : (Jvm.Cond.selects "DesignSpaces$Search" ({ cls := "DesignSpaces$Search", name := "boundFor", desc := "(III)I" } : Jvm.MethodName) ({ cls := "DesignSpaces$Search", name := "boundFor", desc := "(III)I" } : Jvm.MethodName)) ∈ lw_tbl := List.mem_of_getElem? (i := 631) rfl
set_option maxRecDepth 100000 in
theorem cALL_i459 : (Jvm.Cond.code ({ cls := "DesignSpaces$Search", name := "boundFor", desc := "(III)I" } : Jvm.MethodName) prog_5_method_6_code (5 : Nat) (Option.some Jvm.ClassFile.FieldType.int)) ∈ lw_tbl := List.mem_of_getElem? (i := 632) rfl
set_option maxRecDepth 100000 in
theorem cALL_i460 : (Jvm.Cond.methodLink "DesignSpaces$Search" (74 : Nat) ({ cls := "DesignSpaces$Shape", name := "digit", desc := "(II)I" } : Jvm.MethodName)) ∈ lw_tbl := List.mem_of_getElem? (i := 633) rfl
set_option maxRecDepth 100000 in
theorem cALL_i461 : (Jvm.Cond.instanceMethod ({ cls := "DesignSpaces", name := "near", desc := "(II)I" } : Jvm.MethodName)) ∈ lw_tbl := List.mem_of_getElem? (i := 638) rfl
set_option maxRecDepth 100000 in
theorem cALL_i462 : (Jvm.Cond.selects "DesignSpaces" ({ cls := "DesignSpaces", name := "near", desc := "(II)I" } : Jvm.MethodName) ({ cls := "DesignSpaces", name := "near", desc := "(II)I" } : Jvm.MethodName)) ∈ lw_tbl := List.mem_of_getElem? (i := 639) rfl
set_option maxRecDepth 100000 in
theorem cALL_i463 : (Jvm.Cond.code ({ cls := "DesignSpaces", name := "near", desc := "(II)I" } : Jvm.MethodName) prog_1_method_15_code (3 : Nat) (Option.some Jvm.ClassFile.FieldType.int)) ∈ lw_tbl := List.mem_of_getElem? (i := 640) rfl
set_option maxRecDepth 100000 in
theorem cALL_i464 : (Jvm.Cond.methodLink "DesignSpaces" (192 : Nat) ({ cls := "DesignSpaces$Shape", name := "neighbours", desc := "()I" } : Jvm.MethodName)) ∈ lw_tbl := List.mem_of_getElem? (i := 641) rfl
set_option maxRecDepth 100000 in
theorem cALL_i465 : (Jvm.Cond.instanceMethod ({ cls := "DesignSpaces$Shape", name := "neighbours", desc := "()I" } : Jvm.MethodName)) ∈ lw_tbl := List.mem_of_getElem? (i := 642) rfl
set_option maxRecDepth 100000 in
theorem cALL_i466 : (Jvm.Cond.selects "DesignSpaces$Shape" ({ cls := "DesignSpaces$Shape", name := "neighbours", desc := "()I" } : Jvm.MethodName) ({ cls := "DesignSpaces$Shape", name := "neighbours", desc := "()I" } : Jvm.MethodName)) ∈ lw_tbl := List.mem_of_getElem? (i := 643) rfl
set_option maxRecDepth 100000 in
theorem cALL_i467 : (Jvm.Cond.code ({ cls := "DesignSpaces$Shape", name := "neighbours", desc := "()I" } : Jvm.MethodName) prog_6_method_9_code (3 : Nat) (Option.some Jvm.ClassFile.FieldType.int)) ∈ lw_tbl := List.mem_of_getElem? (i := 644) rfl
set_option maxRecDepth 100000 in
theorem cALL_i468 : (Jvm.Cond.methodLink "DesignSpaces" (198 : Nat) ({ cls := "DesignSpaces$Shape", name := "neighbour", desc := "(II)I" } : Jvm.MethodName)) ∈ lw_tbl := List.mem_of_getElem? (i := 646) rfl
set_option maxRecDepth 100000 in
theorem cALL_i469 : (Jvm.Cond.instanceMethod ({ cls := "DesignSpaces$Shape", name := "neighbour", desc := "(II)I" } : Jvm.MethodName)) ∈ lw_tbl := List.mem_of_getElem? (i := 647) rfl
set_option maxRecDepth 100000 in
theorem cALL_i470 : (Jvm.Cond.selects "DesignSpaces$Shape" ({ cls := "DesignSpaces$Shape", name := "neighbour", desc := "(II)I" } : Jvm.MethodName) ({ cls := "DesignSpaces$Shape", name := "neighbour", desc := "(II)I" } : Jvm.MethodName)) ∈ lw_tbl := List.mem_of_getElem? (i := 648) rfl
set_option maxRecDepth 100000 in
theorem cALL_i471 : (Jvm.Cond.code ({ cls := "DesignSpaces$Shape", name := "neighbour", desc := "(II)I" } : Jvm.MethodName) prog_6_method_10_code (8 : Nat) (Option.some Jvm.ClassFile.FieldType.int)) ∈ lw_tbl := List.mem_of_getElem? (i := 649) rfl
set_option maxRecDepth 100000 in
theorem cALL_i472 : (Jvm.Cond.methodLink "DesignSpaces$Shape" (29 : Nat) ({ cls := "DesignSpaces$Shape", name := "digit", desc := "(II)I" } : Jvm.MethodName)) ∈ lw_tbl := List.mem_of_getElem? (i := 650) rfl
set_option maxRecDepth 100000 in
theorem cALL_i473 : (Jvm.Cond.instanceMethod ({ cls := "DesignSpaces", name := "slack", desc := "(I)I" } : Jvm.MethodName)) ∈ lw_tbl := List.mem_of_getElem? (i := 655) rfl
set_option maxRecDepth 100000 in
theorem cALL_i474 : (Jvm.Cond.selects "DesignSpaces" ({ cls := "DesignSpaces", name := "slack", desc := "(I)I" } : Jvm.MethodName) ({ cls := "DesignSpaces", name := "slack", desc := "(I)I" } : Jvm.MethodName)) ∈ lw_tbl := List.mem_of_getElem? (i := 656) rfl
set_option maxRecDepth 100000 in
theorem cALL_i475 : (Jvm.Cond.code ({ cls := "DesignSpaces", name := "slack", desc := "(I)I" } : Jvm.MethodName) prog_1_method_16_code (3 : Nat) (Option.some Jvm.ClassFile.FieldType.int)) ∈ lw_tbl := List.mem_of_getElem? (i := 657) rfl
set_option maxRecDepth 100000 in
theorem cALL_i476 : (Jvm.Cond.instanceMethod ({ cls := "DesignSpaces", name := "walk", desc := "(II)I" } : Jvm.MethodName)) ∈ lw_tbl := List.mem_of_getElem? (i := 664) rfl
set_option maxRecDepth 100000 in
theorem cALL_i477 : (Jvm.Cond.selects "DesignSpaces" ({ cls := "DesignSpaces", name := "walk", desc := "(II)I" } : Jvm.MethodName) ({ cls := "DesignSpaces", name := "walk", desc := "(II)I" } : Jvm.MethodName)) ∈ lw_tbl := List.mem_of_getElem? (i := 665) rfl
set_option maxRecDepth 100000 in
theorem cALL_i478 : (Jvm.Cond.code ({ cls := "DesignSpaces", name := "walk", desc := "(II)I" } : Jvm.MethodName) prog_1_method_17_code (3 : Nat) (Option.some Jvm.ClassFile.FieldType.int)) ∈ lw_tbl := List.mem_of_getElem? (i := 666) rfl
set_option maxRecDepth 100000 in
theorem cALL_i479 : (Jvm.Cond.classLink "DesignSpaces" (208 : Nat) "java/lang/IllegalStateException") ∈ lw_tbl := List.mem_of_getElem? (i := 668) rfl
set_option maxRecDepth 100000 in
theorem cALL_i480 : (Jvm.Cond.instantiable "java/lang/IllegalStateException" (6 : Nat)) ∈ lw_tbl := List.mem_of_getElem? (i := 669) rfl
set_option maxRecDepth 100000 in
theorem cALL_i481 : (Jvm.Cond.selects "java/lang/IllegalStateException" ({ cls := "java/lang/Throwable", name := "fillInStackTrace", desc := "(I)Ljava/lang/Throwable;" } : Jvm.MethodName) ({ cls := "java/lang/Throwable", name := "fillInStackTrace", desc := "(I)Ljava/lang/Throwable;" } : Jvm.MethodName)) ∈ lw_tbl := List.mem_of_getElem? (i := 671) rfl
set_option maxRecDepth 100000 in
theorem cALL_i482 : (Jvm.Cond.lays "java/lang/IllegalStateException" "java/lang/Throwable" "cause" "Ljava/lang/Throwable;") ∈ lw_tbl := List.mem_of_getElem? (i := 672) rfl
set_option maxRecDepth 100000 in
theorem cALL_i483 : (Jvm.Cond.lays "java/lang/IllegalStateException" "java/lang/Throwable" "stackTrace" "[Ljava/lang/StackTraceElement;") ∈ lw_tbl := List.mem_of_getElem? (i := 673) rfl
set_option maxRecDepth 100000 in
theorem cALL_i484 : (Jvm.Cond.lays "java/lang/IllegalStateException" "java/lang/Throwable" "suppressedExceptions" "Ljava/util/List;") ∈ lw_tbl := List.mem_of_getElem? (i := 674) rfl
set_option maxRecDepth 100000 in
theorem cALL_i485 : (Jvm.Cond.lays "java/lang/IllegalStateException" "java/lang/Throwable" "detailMessage" "Ljava/lang/String;") ∈ lw_tbl := List.mem_of_getElem? (i := 675) rfl
set_option maxRecDepth 100000 in
theorem cALL_i486 : (Jvm.Cond.lays "java/lang/IllegalStateException" "java/lang/Throwable" "backtrace" "Ljava/lang/Object;") ∈ lw_tbl := List.mem_of_getElem? (i := 676) rfl
set_option maxRecDepth 100000 in
theorem cALL_i487 : (Jvm.Cond.methodLink "DesignSpaces" (212 : Nat) ({ cls := "java/lang/IllegalStateException", name := "<init>", desc := "(Ljava/lang/String;)V" } : Jvm.MethodName)) ∈ lw_tbl := List.mem_of_getElem? (i := 678) rfl
set_option maxRecDepth 100000 in
theorem cALL_i488 : (Jvm.Cond.instanceMethod ({ cls := "java/lang/IllegalStateException", name := "<init>", desc := "(Ljava/lang/String;)V" } : Jvm.MethodName)) ∈ lw_tbl := List.mem_of_getElem? (i := 679) rfl
set_option maxRecDepth 100000 in
theorem cALL_i489 : (Jvm.Cond.code ({ cls := "java/lang/IllegalStateException", name := "<init>", desc := "(Ljava/lang/String;)V" } : Jvm.MethodName) prog_13_method_2_code (2 : Nat) (Option.none : Option Jvm.ClassFile.FieldType)) ∈ lw_tbl := List.mem_of_getElem? (i := 680) rfl
set_option maxRecDepth 100000 in
theorem cALL_i490 : (Jvm.Cond.methodLink "java/lang/IllegalStateException" (7 : Nat) ({ cls := "java/lang/RuntimeException", name := "<init>", desc := "(Ljava/lang/String;)V" } : Jvm.MethodName)) ∈ lw_tbl := List.mem_of_getElem? (i := 681) rfl
set_option maxRecDepth 100000 in
theorem cALL_i491 : (Jvm.Cond.lays "java/lang/IllegalStateException" "java/lang/Throwable" "depth" "I") ∈ lw_tbl := List.mem_of_getElem? (i := 682) rfl
set_option maxRecDepth 100000 in
theorem cALL_i492 : (Jvm.Cond.superclass "java/lang/IllegalStateException" "java/lang/RuntimeException") ∈ lw_tbl := List.mem_of_getElem? (i := 683) rfl
set_option maxRecDepth 100000 in
theorem cALL_i493 : (Jvm.Cond.methodLink "DesignSpaces" (213 : Nat) ({ cls := "DesignSpaces$Walker", name := "go", desc := "(II)I" } : Jvm.MethodName)) ∈ lw_tbl := List.mem_of_getElem? (i := 684) rfl
set_option maxRecDepth 100000 in
theorem cALL_i494 : (Jvm.Cond.instanceMethod ({ cls := "DesignSpaces$Walker", name := "go", desc := "(II)I" } : Jvm.MethodName)) ∈ lw_tbl := List.mem_of_getElem? (i := 685) rfl
set_option maxRecDepth 100000 in
theorem cALL_i495 : (Jvm.Cond.selects "DesignSpaces$Walker" ({ cls := "DesignSpaces$Walker", name := "go", desc := "(II)I" } : Jvm.MethodName) ({ cls := "DesignSpaces$Walker", name := "go", desc := "(II)I" } : Jvm.MethodName)) ∈ lw_tbl := List.mem_of_getElem? (i := 686) rfl
set_option maxRecDepth 100000 in
theorem cALL_i496 : (Jvm.Cond.code ({ cls := "DesignSpaces$Walker", name := "go", desc := "(II)I" } : Jvm.MethodName) prog_8_method_2_code (12 : Nat) (Option.some Jvm.ClassFile.FieldType.int)) ∈ lw_tbl := List.mem_of_getElem? (i := 687) rfl
set_option maxRecDepth 100000 in
theorem cALL_i497 : (Jvm.Cond.methodLink "DesignSpaces$Walker" (32 : Nat) ({ cls := "DesignSpaces$Book", name := "costOf", desc := "(I)J" } : Jvm.MethodName)) ∈ lw_tbl := List.mem_of_getElem? (i := 688) rfl
set_option maxRecDepth 100000 in
theorem cALL_i498 : (Jvm.Cond.instanceMethod ({ cls := "DesignSpaces$Book", name := "costOf", desc := "(I)J" } : Jvm.MethodName)) ∈ lw_tbl := List.mem_of_getElem? (i := 689) rfl
set_option maxRecDepth 100000 in
theorem cALL_i499 : (Jvm.Cond.selects "DesignSpaces$Book" ({ cls := "DesignSpaces$Book", name := "costOf", desc := "(I)J" } : Jvm.MethodName) ({ cls := "DesignSpaces$Book", name := "costOf", desc := "(I)J" } : Jvm.MethodName)) ∈ lw_tbl := List.mem_of_getElem? (i := 690) rfl
set_option maxRecDepth 100000 in
theorem cALL_i500 : (Jvm.Cond.code ({ cls := "DesignSpaces$Book", name := "costOf", desc := "(I)J" } : Jvm.MethodName) prog_2_method_8_code (5 : Nat) (Option.some Jvm.ClassFile.FieldType.long)) ∈ lw_tbl := List.mem_of_getElem? (i := 691) rfl
set_option maxRecDepth 100000 in
theorem cALL_i501 : (Jvm.Cond.methodLink "DesignSpaces$Walker" (38 : Nat) ({ cls := "DesignSpaces$Walker", name := "drawNear", desc := "(I)I" } : Jvm.MethodName)) ∈ lw_tbl := List.mem_of_getElem? (i := 692) rfl
set_option maxRecDepth 100000 in
theorem cALL_i502 : (Jvm.Cond.instanceMethod ({ cls := "DesignSpaces$Walker", name := "drawNear", desc := "(I)I" } : Jvm.MethodName)) ∈ lw_tbl := List.mem_of_getElem? (i := 694) rfl
set_option maxRecDepth 100000 in
theorem cALL_i503 : (Jvm.Cond.code ({ cls := "DesignSpaces$Walker", name := "drawNear", desc := "(I)I" } : Jvm.MethodName) prog_8_method_3_code (3 : Nat) (Option.some Jvm.ClassFile.FieldType.int)) ∈ lw_tbl := List.mem_of_getElem? (i := 695) rfl
set_option maxRecDepth 100000 in
theorem cALL_i504 : (Jvm.Cond.constant "DesignSpaces$Walker" (46 : Nat) (1103515245 : Int32)) ∈ lw_tbl := List.mem_of_getElem? (i := 696) rfl
set_option maxRecDepth 100000 in
theorem cALL_i505 : (Jvm.Cond.constant "DesignSpaces$Walker" (47 : Nat) (2147483647 : Int32)) ∈ lw_tbl := List.mem_of_getElem? (i := 697) rfl
set_option maxRecDepth 100000 in
theorem cALL_i506 : (Jvm.Cond.methodLink "DesignSpaces$Walker" (48 : Nat) ({ cls := "DesignSpaces$Shape", name := "neighbours", desc := "()I" } : Jvm.MethodName)) ∈ lw_tbl := List.mem_of_getElem? (i := 698) rfl
set_option maxRecDepth 100000 in
theorem cALL_i507 : (Jvm.Cond.constant "DesignSpaces$Walker" (54 : Nat) (65536 : Int32)) ∈ lw_tbl := List.mem_of_getElem? (i := 699) rfl
set_option maxRecDepth 100000 in
theorem cALL_i508 : (Jvm.Cond.methodLink "DesignSpaces$Walker" (55 : Nat) ({ cls := "DesignSpaces$Shape", name := "neighbour", desc := "(II)I" } : Jvm.MethodName)) ∈ lw_tbl := List.mem_of_getElem? (i := 700) rfl
set_option maxRecDepth 100000 in
theorem cALL_i509 : (Jvm.Cond.methodLink "DesignSpaces$Walker" (42 : Nat) ({ cls := "DesignSpaces$Book", name := "allows", desc := "(I)Z" } : Jvm.MethodName)) ∈ lw_tbl := List.mem_of_getElem? (i := 701) rfl
set_option maxRecDepth 100000 in
theorem cALL_i510 : (Jvm.Cond.instanceMethod ({ cls := "DesignSpaces", name := "matters", desc := "(II)J" } : Jvm.MethodName)) ∈ lw_tbl := List.mem_of_getElem? (i := 706) rfl
set_option maxRecDepth 100000 in
theorem cALL_i511 : (Jvm.Cond.selects "DesignSpaces" ({ cls := "DesignSpaces", name := "matters", desc := "(II)J" } : Jvm.MethodName) ({ cls := "DesignSpaces", name := "matters", desc := "(II)J" } : Jvm.MethodName)) ∈ lw_tbl := List.mem_of_getElem? (i := 707) rfl
set_option maxRecDepth 100000 in
theorem cALL_i512 : (Jvm.Cond.code ({ cls := "DesignSpaces", name := "matters", desc := "(II)J" } : Jvm.MethodName) prog_1_method_19_code (3 : Nat) (Option.some Jvm.ClassFile.FieldType.long)) ∈ lw_tbl := List.mem_of_getElem? (i := 708) rfl
set_option maxRecDepth 100000 in
theorem cALL_i513 : (Jvm.Cond.methodLink "DesignSpaces" (221 : Nat) ({ cls := "DesignSpaces$Book", name := "greatestDifference", desc := "(II)J" } : Jvm.MethodName)) ∈ lw_tbl := List.mem_of_getElem? (i := 710) rfl
set_option maxRecDepth 100000 in
theorem cALL_i514 : (Jvm.Cond.instanceMethod ({ cls := "DesignSpaces$Book", name := "greatestDifference", desc := "(II)J" } : Jvm.MethodName)) ∈ lw_tbl := List.mem_of_getElem? (i := 711) rfl
set_option maxRecDepth 100000 in
theorem cALL_i515 : (Jvm.Cond.selects "DesignSpaces$Book" ({ cls := "DesignSpaces$Book", name := "greatestDifference", desc := "(II)J" } : Jvm.MethodName) ({ cls := "DesignSpaces$Book", name := "greatestDifference", desc := "(II)J" } : Jvm.MethodName)) ∈ lw_tbl := List.mem_of_getElem? (i := 712) rfl
set_option maxRecDepth 100000 in
theorem cALL_i516 : (Jvm.Cond.code ({ cls := "DesignSpaces$Book", name := "greatestDifference", desc := "(II)J" } : Jvm.MethodName) prog_2_method_14_code (6 : Nat) (Option.some Jvm.ClassFile.FieldType.long)) ∈ lw_tbl := List.mem_of_getElem? (i := 713) rfl
set_option maxRecDepth 100000 in
theorem cALL_i517 : (Jvm.Cond.methodLink "DesignSpaces$Book" (83 : Nat) ({ cls := "DesignSpaces$Shape", name := "digit", desc := "(II)I" } : Jvm.MethodName)) ∈ lw_tbl := List.mem_of_getElem? (i := 714) rfl
set_option maxRecDepth 100000 in
theorem cALL_i518 : (Jvm.Cond.methodLink "DesignSpaces$Book" (86 : Nat) ({ cls := "DesignSpaces$Book", name := "differenceAlong", desc := "(III)J" } : Jvm.MethodName)) ∈ lw_tbl := List.mem_of_getElem? (i := 715) rfl
set_option maxRecDepth 100000 in
theorem cALL_i519 : (Jvm.Cond.instanceMethod ({ cls := "DesignSpaces$Book", name := "differenceAlong", desc := "(III)J" } : Jvm.MethodName)) ∈ lw_tbl := List.mem_of_getElem? (i := 717) rfl
set_option maxRecDepth 100000 in
theorem cALL_i520 : (Jvm.Cond.code ({ cls := "DesignSpaces$Book", name := "differenceAlong", desc := "(III)J" } : Jvm.MethodName) prog_2_method_15_code (13 : Nat) (Option.some Jvm.ClassFile.FieldType.long)) ∈ lw_tbl := List.mem_of_getElem? (i := 718) rfl
set_option maxRecDepth 100000 in
theorem cALL_i521 : (Jvm.Cond.methodLink "DesignSpaces$Book" (102 : Nat) ({ cls := "DesignSpaces$Book", name := "allows", desc := "(I)Z" } : Jvm.MethodName)) ∈ lw_tbl := List.mem_of_getElem? (i := 719) rfl
set_option maxRecDepth 100000 in
theorem cALL_i522 : (Jvm.Cond.methodLink "DesignSpaces$Book" (106 : Nat) ({ cls := "java/lang/Math", name := "min", desc := "(JJ)J" } : Jvm.MethodName)) ∈ lw_tbl := List.mem_of_getElem? (i := 720) rfl
set_option maxRecDepth 100000 in
theorem cALL_i523 : (Jvm.Cond.static ({ cls := "java/lang/Math", name := "min", desc := "(JJ)J" } : Jvm.MethodName)) ∈ lw_tbl := List.mem_of_getElem? (i := 721) rfl
set_option maxRecDepth 100000 in
theorem cALL_i524 : (Jvm.Cond.code ({ cls := "java/lang/Math", name := "min", desc := "(JJ)J" } : Jvm.MethodName) prog_15_method_70_code (4 : Nat) (Option.some Jvm.ClassFile.FieldType.long)) ∈ lw_tbl := List.mem_of_getElem? (i := 722) rfl
set_option maxRecDepth 100000 in
theorem cALL_i525 : (Jvm.Cond.methodLink "DesignSpaces$Book" (90 : Nat) ({ cls := "java/lang/Math", name := "max", desc := "(JJ)J" } : Jvm.MethodName)) ∈ lw_tbl := List.mem_of_getElem? (i := 723) rfl
set_option maxRecDepth 100000 in
theorem cALL_i526 : (Jvm.Cond.static ({ cls := "java/lang/Math", name := "max", desc := "(JJ)J" } : Jvm.MethodName)) ∈ lw_tbl := List.mem_of_getElem? (i := 724) rfl
set_option maxRecDepth 100000 in
theorem cALL_i527 : (Jvm.Cond.code ({ cls := "java/lang/Math", name := "max", desc := "(JJ)J" } : Jvm.MethodName) prog_15_method_66_code (4 : Nat) (Option.some Jvm.ClassFile.FieldType.long)) ∈ lw_tbl := List.mem_of_getElem? (i := 725) rfl
set_option maxRecDepth 100000 in
theorem cALL_i528 : (Jvm.Cond.instanceMethod ({ cls := "DesignSpaces", name := "sweep", desc := "(I)I" } : Jvm.MethodName)) ∈ lw_tbl := List.mem_of_getElem? (i := 730) rfl
set_option maxRecDepth 100000 in
theorem cALL_i529 : (Jvm.Cond.selects "DesignSpaces" ({ cls := "DesignSpaces", name := "sweep", desc := "(I)I" } : Jvm.MethodName) ({ cls := "DesignSpaces", name := "sweep", desc := "(I)I" } : Jvm.MethodName)) ∈ lw_tbl := List.mem_of_getElem? (i := 731) rfl
set_option maxRecDepth 100000 in
theorem cALL_i530 : (Jvm.Cond.code ({ cls := "DesignSpaces", name := "sweep", desc := "(I)I" } : Jvm.MethodName) prog_1_method_20_code (2 : Nat) (Option.some Jvm.ClassFile.FieldType.int)) ∈ lw_tbl := List.mem_of_getElem? (i := 732) rfl
set_option maxRecDepth 100000 in
theorem cALL_i531 : (Jvm.Cond.methodLink "DesignSpaces" (233 : Nat) ({ cls := "DesignSpaces$Sweeper", name := "goOn", desc := "(I)I" } : Jvm.MethodName)) ∈ lw_tbl := List.mem_of_getElem? (i := 735) rfl
set_option maxRecDepth 100000 in
theorem cALL_i532 : (Jvm.Cond.instanceMethod ({ cls := "DesignSpaces$Sweeper", name := "goOn", desc := "(I)I" } : Jvm.MethodName)) ∈ lw_tbl := List.mem_of_getElem? (i := 736) rfl
set_option maxRecDepth 100000 in
theorem cALL_i533 : (Jvm.Cond.selects "DesignSpaces$Sweeper" ({ cls := "DesignSpaces$Sweeper", name := "goOn", desc := "(I)I" } : Jvm.MethodName) ({ cls := "DesignSpaces$Sweeper", name := "goOn", desc := "(I)I" } : Jvm.MethodName)) ∈ lw_tbl := List.mem_of_getElem? (i := 737) rfl
set_option maxRecDepth 100000 in
theorem cALL_i534 : (Jvm.Cond.code ({ cls := "DesignSpaces$Sweeper", name := "goOn", desc := "(I)I" } : Jvm.MethodName) prog_7_method_4_code (5 : Nat) (Option.some Jvm.ClassFile.FieldType.int)) ∈ lw_tbl := List.mem_of_getElem? (i := 738) rfl
set_option maxRecDepth 100000 in
theorem cALL_i535 : (Jvm.Cond.methodLink "DesignSpaces$Sweeper" (29 : Nat) ({ cls := "java/lang/Math", name := "min", desc := "(II)I" } : Jvm.MethodName)) ∈ lw_tbl := List.mem_of_getElem? (i := 739) rfl
set_option maxRecDepth 100000 in
theorem cALL_i536 : (Jvm.Cond.static ({ cls := "java/lang/Math", name := "min", desc := "(II)I" } : Jvm.MethodName)) ∈ lw_tbl := List.mem_of_getElem? (i := 740) rfl
set_option maxRecDepth 100000 in
theorem cALL_i537 : (Jvm.Cond.code ({ cls := "java/lang/Math", name := "min", desc := "(II)I" } : Jvm.MethodName) prog_15_method_69_code (2 : Nat) (Option.some Jvm.ClassFile.FieldType.int)) ∈ lw_tbl := List.mem_of_getElem? (i := 741) rfl
set_option maxRecDepth 100000 in
theorem cALL_i538 : (Jvm.Cond.methodLink "DesignSpaces$Sweeper" (35 : Nat) ({ cls := "DesignSpaces$Book", name := "allows", desc := "(I)Z" } : Jvm.MethodName)) ∈ lw_tbl := List.mem_of_getElem? (i := 742) rfl
set_option maxRecDepth 100000 in
theorem cALL_i539 : (Jvm.Cond.arrayClass Jvm.ClassFile.FieldType.long) ∈ lw_tbl := List.mem_of_getElem? (i := 993) rfl
