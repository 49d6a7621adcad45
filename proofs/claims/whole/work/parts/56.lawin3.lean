set_option maxRecDepth 100000 in
theorem cALL_i540 : (Jvm.Cond.sameMethod "java/lang/Throwable" "java/lang/Throwable" "fillInStackTrace" "(I)Ljava/lang/Throwable;") ∈ lw_tbl := List.mem_of_getElem? (i := 994) rfl
