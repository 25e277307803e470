theorem tg_4 : (Cond.initialized "ForestTablets$Notebook") ∈ lw_g := lw_gi (List.mem_of_getElem? (i := 4) (by decide +kernel)) rfl
theorem tg_16 : (Cond.initialized "ForestTablets$Measure") ∈ lw_g := lw_gi (List.mem_of_getElem? (i := 16) (by decide +kernel)) rfl
theorem tg_17 : (Cond.initialized "java/lang/Math") ∈ lw_g := lw_gi (List.mem_of_getElem? (i := 17) (by decide +kernel)) rfl
theorem tg_72 : (Cond.fieldLink "ForestTablets$Notebook" (11 : Nat) "ForestTablets$Notebook" "newest" "[LForestTablets$Measure;") ∈ lw_g := lw_gi (List.mem_of_getElem? (i := 72) (by decide +kernel)) rfl
theorem tg_73 : (Cond.fieldLink "ForestTablets$Notebook" (17 : Nat) "ForestTablets$Notebook" "lastOfAuthor" "[LForestTablets$Measure;") ∈ lw_g := lw_gi (List.mem_of_getElem? (i := 73) (by decide +kernel)) rfl
theorem tg_74 : (Cond.fieldLink "ForestTablets$Notebook" (20 : Nat) "ForestTablets$Notebook" "unseen" "[LForestTablets$Measure;") ∈ lw_g := lw_gi (List.mem_of_getElem? (i := 74) (by decide +kernel)) rfl
theorem tg_75 : (Cond.fieldLink "ForestTablets$Notebook" (23 : Nat) "ForestTablets$Notebook" "listed" "[LForestTablets$Measure;") ∈ lw_g := lw_gi (List.mem_of_getElem? (i := 75) (by decide +kernel)) rfl
theorem tg_76 : (Cond.fieldLink "ForestTablets$Notebook" (58 : Nat) "ForestTablets$Notebook" "candidates" "I") ∈ lw_g := lw_gi (List.mem_of_getElem? (i := 76) (by decide +kernel)) rfl
theorem tg_77 : (Cond.fieldLink "ForestTablets$Notebook" (51 : Nat) "ForestTablets$Notebook" "size" "I") ∈ lw_g := lw_gi (List.mem_of_getElem? (i := 77) (by decide +kernel)) rfl
theorem tg_404 : (Cond.fieldLink "ForestTablets$Measure" (7 : Nat) "ForestTablets$Measure" "author" "I") ∈ lw_g := lw_gi (List.mem_of_getElem? (i := 404) (by decide +kernel)) rfl
theorem tg_405 : (Cond.fieldLink "ForestTablets$Notebook" (64 : Nat) "ForestTablets$Measure" "author" "I") ∈ lw_g := lw_gi (List.mem_of_getElem? (i := 405) (by decide +kernel)) rfl
theorem tg_406 : (Cond.fieldLink "ForestTablets$Measure" (13 : Nat) "ForestTablets$Measure" "number" "I") ∈ lw_g := lw_gi (List.mem_of_getElem? (i := 406) (by decide +kernel)) rfl
theorem tg_407 : (Cond.fieldLink "ForestTablets$Notebook" (67 : Nat) "ForestTablets$Measure" "number" "I") ∈ lw_g := lw_gi (List.mem_of_getElem? (i := 407) (by decide +kernel)) rfl
theorem tg_409 : (Cond.fieldLink "ForestTablets$Notebook" (61 : Nat) "ForestTablets$Measure" "value" "I") ∈ lw_g := lw_gi (List.mem_of_getElem? (i := 409) (by decide +kernel)) rfl
theorem tg_412 : (Cond.fieldLink "ForestTablets$Notebook" (33 : Nat) "ForestTablets$Measure" "rank" "I") ∈ lw_g := lw_gi (List.mem_of_getElem? (i := 412) (by decide +kernel)) rfl
theorem tg_413 : (Cond.fieldLink "ForestTablets$Measure" (22 : Nat) "ForestTablets$Measure" "vector" "[I") ∈ lw_g := lw_gi (List.mem_of_getElem? (i := 413) (by decide +kernel)) rfl
theorem tg_415 : (Cond.fieldLink "ForestTablets$Notebook" (43 : Nat) "ForestTablets$Measure" "earlier" "LForestTablets$Measure;") ∈ lw_g := lw_gi (List.mem_of_getElem? (i := 415) (by decide +kernel)) rfl
theorem tg_445 : (Cond.methodLink "ForestTablets$Notebook" (29 : Nat) ({ cls := "ForestTablets$Notebook", name := "lastKnown", desc := "(II[I)LForestTablets$Measure;" } : Jvm.MethodName)) ∈ lw_g := lw_gi (List.mem_of_getElem? (i := 445) (by decide +kernel)) rfl
theorem tg_447 : (Cond.instanceMethod ({ cls := "ForestTablets$Notebook", name := "lastKnown", desc := "(II[I)LForestTablets$Measure;" } : Jvm.MethodName)) ∈ lw_g := lw_gi (List.mem_of_getElem? (i := 447) (by decide +kernel)) rfl
theorem tg_448 : (Cond.code ({ cls := "ForestTablets$Notebook", name := "lastKnown", desc := "(II[I)LForestTablets$Measure;" } : Jvm.MethodName) prog_6_method_8_code (5 : Nat) (Option.some (FieldType.object "ForestTablets$Measure"))) ∈ lw_g := lw_gi (List.mem_of_getElem? (i := 448) (by decide +kernel)) rfl
theorem tg_449 : (Cond.methodLink "ForestTablets$Notebook" (47 : Nat) ({ cls := "ForestTablets$Notebook", name := "isKnownToAnother", desc := "(LForestTablets$Measure;)Z" } : Jvm.MethodName)) ∈ lw_g := lw_gi (List.mem_of_getElem? (i := 449) (by decide +kernel)) rfl
theorem tg_451 : (Cond.instanceMethod ({ cls := "ForestTablets$Notebook", name := "isKnownToAnother", desc := "(LForestTablets$Measure;)Z" } : Jvm.MethodName)) ∈ lw_g := lw_gi (List.mem_of_getElem? (i := 451) (by decide +kernel)) rfl
theorem tg_452 : (Cond.code ({ cls := "ForestTablets$Notebook", name := "isKnownToAnother", desc := "(LForestTablets$Measure;)Z" } : Jvm.MethodName) prog_6_method_9_code (4 : Nat) (Option.some FieldType.boolean)) ∈ lw_g := lw_gi (List.mem_of_getElem? (i := 452) (by decide +kernel)) rfl
theorem tg_453 : (Cond.methodLink "ForestTablets$Notebook" (70 : Nat) ({ cls := "ForestTablets$Measure", name := "knew", desc := "(LForestTablets$Measure;)Z" } : Jvm.MethodName)) ∈ lw_g := lw_gi (List.mem_of_getElem? (i := 453) (by decide +kernel)) rfl
theorem tg_454 : (Cond.instanceMethod ({ cls := "ForestTablets$Measure", name := "knew", desc := "(LForestTablets$Measure;)Z" } : Jvm.MethodName)) ∈ lw_g := lw_gi (List.mem_of_getElem? (i := 454) (by decide +kernel)) rfl
theorem tg_455 : (Cond.selects "ForestTablets$Measure" ({ cls := "ForestTablets$Measure", name := "knew", desc := "(LForestTablets$Measure;)Z" } : Jvm.MethodName) ({ cls := "ForestTablets$Measure", name := "knew", desc := "(LForestTablets$Measure;)Z" } : Jvm.MethodName)) ∈ lw_g := lw_gi (List.mem_of_getElem? (i := 455) (by decide +kernel)) rfl
theorem tg_456 : (Cond.code ({ cls := "ForestTablets$Measure", name := "knew", desc := "(LForestTablets$Measure;)Z" } : Jvm.MethodName) prog_5_method_2_code (2 : Nat) (Option.some FieldType.boolean)) ∈ lw_g := lw_gi (List.mem_of_getElem? (i := 456) (by decide +kernel)) rfl
theorem tg_457 : (Cond.methodLink "ForestTablets$Notebook" (37 : Nat) ({ cls := "java/lang/Math", name := "max", desc := "(II)I" } : Jvm.MethodName)) ∈ lw_g := lw_gi (List.mem_of_getElem? (i := 457) (by decide +kernel)) rfl
theorem tg_458 : (Cond.static ({ cls := "java/lang/Math", name := "max", desc := "(II)I" } : Jvm.MethodName)) ∈ lw_g := lw_gi (List.mem_of_getElem? (i := 458) (by decide +kernel)) rfl
theorem tg_459 : (Cond.code ({ cls := "java/lang/Math", name := "max", desc := "(II)I" } : Jvm.MethodName) prog_16_method_65_code (2 : Nat) (Option.some FieldType.int)) ∈ lw_g := lw_gi (List.mem_of_getElem? (i := 459) (by decide +kernel)) rfl
theorem tg_460 : (Cond.methodLink "ForestTablets$Notebook" (54 : Nat) ({ cls := "ForestTablets$Notebook", name := "listByRank", desc := "(IZ)V" } : Jvm.MethodName)) ∈ lw_g := lw_gi (List.mem_of_getElem? (i := 460) (by decide +kernel)) rfl
theorem tg_462 : (Cond.instanceMethod ({ cls := "ForestTablets$Notebook", name := "listByRank", desc := "(IZ)V" } : Jvm.MethodName)) ∈ lw_g := lw_gi (List.mem_of_getElem? (i := 462) (by decide +kernel)) rfl
theorem tg_463 : (Cond.code ({ cls := "ForestTablets$Notebook", name := "listByRank", desc := "(IZ)V" } : Jvm.MethodName) prog_6_method_10_code (5 : Nat) (Option.none : Option FieldType)) ∈ lw_g := lw_gi (List.mem_of_getElem? (i := 463) (by decide +kernel)) rfl
abbrev cX3_knew : ByteArray := prog_5_method_2_code
def yX3_knew : MethodName := ⟨RX3, "knew", "(LForestTablets$Measure;)Z"⟩
def wsX3_knew : List Cond := .code yX3_knew cX3_knew 2 (some FieldType.boolean) :: lw_g
abbrev cX4_lastKnown : ByteArray := prog_6_method_8_code
def yX4_lastKnown : MethodName := ⟨RX4, "lastKnown", "(II[I)LForestTablets$Measure;"⟩
def wsX4_lastKnown : List Cond := .code yX4_lastKnown cX4_lastKnown 5 (some (FieldType.object "ForestTablets$Measure")) :: lw_g
abbrev cX4_isKnownToAnother : ByteArray := prog_6_method_9_code
def yX4_isKnownToAnother : MethodName := ⟨RX4, "isKnownToAnother", "(LForestTablets$Measure;)Z"⟩
def wsX4_isKnownToAnother : List Cond := .code yX4_isKnownToAnother cX4_isKnownToAnother 4 (some FieldType.boolean) :: lw_g
abbrev cX4_listByRank : ByteArray := prog_6_method_10_code
def yX4_listByRank : MethodName := ⟨RX4, "listByRank", "(IZ)V"⟩
def wsX4_listByRank : List Cond := .code yX4_listByRank cX4_listByRank 5 none :: lw_g
abbrev cX4_open : ByteArray := prog_6_method_4_code
def yX4_open : MethodName := ⟨RX4, "open", "(I[I)V"⟩
def wsX4_open : List Cond := .code yX4_open cX4_open 7 none :: lw_g
abbrev cX4_shownMeasure : ByteArray := prog_6_method_5_code
def yX4_shownMeasure : MethodName := ⟨RX4, "shownMeasure", "()LForestTablets$Measure;"⟩
def wsX4_shownMeasure : List Cond := .code yX4_shownMeasure cX4_shownMeasure 1 (some (FieldType.object "ForestTablets$Measure")) :: lw_g
abbrev cX4_isInConflict : ByteArray := prog_6_method_6_code
def yX4_isInConflict : MethodName := ⟨RX4, "isInConflict", "()Z"⟩
def wsX4_isInConflict : List Cond := .code yX4_isInConflict cX4_isInConflict 2 (some FieldType.boolean) :: lw_g
abbrev cX4_codeAt : ByteArray := prog_6_method_7_code
def yX4_codeAt : MethodName := ⟨RX4, "codeAt", "(I)I"⟩
def wsX4_codeAt : List Cond := .code yX4_codeAt cX4_codeAt 3 (some FieldType.int) :: lw_g
abbrev cX4_greatestRank : ByteArray := prog_6_method_3_code
def yX4_greatestRank : MethodName := ⟨RX4, "greatestRank", "(I[I)I"⟩
def wsX4_greatestRank : List Cond := .code yX4_greatestRank cX4_greatestRank 6 (some FieldType.int) :: lw_g
theorem slX4_lastKnown : Cond.selects RX4 yX4_lastKnown yX4_lastKnown ∈ lw_g := lw_gs (q := (yX4_lastKnown, 6)) (by decide +kernel)
theorem slX4_isKnownToAnother : Cond.selects RX4 yX4_isKnownToAnother yX4_isKnownToAnother ∈ lw_g := lw_gs (q := (yX4_isKnownToAnother, 6)) (by decide +kernel)
theorem slX4_listByRank : Cond.selects RX4 yX4_listByRank yX4_listByRank ∈ lw_g := lw_gs (q := (yX4_listByRank, 6)) (by decide +kernel)
theorem dX3_knew_0 : decode cX3_knew 0 = .ok (.aload_n 1, 1) := by decide +kernel
theorem dX3_knew_1 : decode cX3_knew 1 = .ok (.getfield 13, 3) := by decide +kernel
theorem dX3_knew_4 : decode cX3_knew 4 = .ok (.aload_n 0, 1) := by decide +kernel
theorem dX3_knew_5 : decode cX3_knew 5 = .ok (.getfield 22, 3) := by decide +kernel
theorem dX3_knew_8 : decode cX3_knew 8 = .ok (.aload_n 1, 1) := by decide +kernel
theorem dX3_knew_9 : decode cX3_knew 9 = .ok (.getfield 7, 3) := by decide +kernel
theorem dX3_knew_12 : decode cX3_knew 12 = .ok (.iaload, 1) := by decide +kernel
theorem dX3_knew_13 : decode cX3_knew 13 = .ok (.if_icmp .gt 7, 3) := by decide +kernel
theorem dX3_knew_16 : decode cX3_knew 16 = .ok (.iconst 1, 1) := by decide +kernel
theorem dX3_knew_17 : decode cX3_knew 17 = .ok (.goto 4, 3) := by decide +kernel
theorem dX3_knew_20 : decode cX3_knew 20 = .ok (.iconst 0, 1) := by decide +kernel
theorem dX3_knew_21 : decode cX3_knew 21 = .ok (.ireturn, 1) := by decide +kernel
theorem dX4_lastKnown_0 : decode cX4_lastKnown 0 = .ok (.aload_n 0, 1) := by decide +kernel
theorem dX4_lastKnown_1 : decode cX4_lastKnown 1 = .ok (.getfield 11, 3) := by decide +kernel
theorem dX4_lastKnown_4 : decode cX4_lastKnown 4 = .ok (.iload_n 1, 1) := by decide +kernel
theorem dX4_lastKnown_5 : decode cX4_lastKnown 5 = .ok (.iconst 5, 1) := by decide +kernel
theorem dX4_lastKnown_6 : decode cX4_lastKnown 6 = .ok (.imul, 1) := by decide +kernel
theorem dX4_lastKnown_7 : decode cX4_lastKnown 7 = .ok (.iload_n 2, 1) := by decide +kernel
theorem dX4_lastKnown_8 : decode cX4_lastKnown 8 = .ok (.iadd, 1) := by decide +kernel
theorem dX4_lastKnown_9 : decode cX4_lastKnown 9 = .ok (.aaload, 1) := by decide +kernel
theorem dX4_lastKnown_10 : decode cX4_lastKnown 10 = .ok (.astore 4, 2) := by decide +kernel
theorem dX4_lastKnown_12 : decode cX4_lastKnown 12 = .ok (.aload 4, 2) := by decide +kernel
theorem dX4_lastKnown_14 : decode cX4_lastKnown 14 = .ok (.ifnull 27, 3) := by decide +kernel
theorem dX4_lastKnown_17 : decode cX4_lastKnown 17 = .ok (.aload 4, 2) := by decide +kernel
theorem dX4_lastKnown_19 : decode cX4_lastKnown 19 = .ok (.getfield 67, 3) := by decide +kernel
theorem dX4_lastKnown_22 : decode cX4_lastKnown 22 = .ok (.aload_n 3, 1) := by decide +kernel
theorem dX4_lastKnown_23 : decode cX4_lastKnown 23 = .ok (.iload_n 2, 1) := by decide +kernel
theorem dX4_lastKnown_24 : decode cX4_lastKnown 24 = .ok (.iaload, 1) := by decide +kernel
theorem dX4_lastKnown_25 : decode cX4_lastKnown 25 = .ok (.if_icmp .gt 6, 3) := by decide +kernel
theorem dX4_lastKnown_28 : decode cX4_lastKnown 28 = .ok (.aload 4, 2) := by decide +kernel
theorem dX4_lastKnown_30 : decode cX4_lastKnown 30 = .ok (.areturn, 1) := by decide +kernel
theorem dX4_lastKnown_31 : decode cX4_lastKnown 31 = .ok (.aload 4, 2) := by decide +kernel
theorem dX4_lastKnown_33 : decode cX4_lastKnown 33 = .ok (.getfield 43, 3) := by decide +kernel
theorem dX4_lastKnown_36 : decode cX4_lastKnown 36 = .ok (.astore 4, 2) := by decide +kernel
theorem dX4_lastKnown_38 : decode cX4_lastKnown 38 = .ok (.goto (-26), 3) := by decide +kernel
theorem dX4_lastKnown_41 : decode cX4_lastKnown 41 = .ok (.aconst_null, 1) := by decide +kernel
theorem dX4_lastKnown_42 : decode cX4_lastKnown 42 = .ok (.areturn, 1) := by decide +kernel
theorem dX4_isKnownToAnother_0 : decode cX4_isKnownToAnother 0 = .ok (.iconst 0, 1) := by decide +kernel
theorem dX4_isKnownToAnother_1 : decode cX4_isKnownToAnother 1 = .ok (.istore_n 2, 1) := by decide +kernel
theorem dX4_isKnownToAnother_2 : decode cX4_isKnownToAnother 2 = .ok (.iload_n 2, 1) := by decide +kernel
theorem dX4_isKnownToAnother_3 : decode cX4_isKnownToAnother 3 = .ok (.iconst 5, 1) := by decide +kernel
theorem dX4_isKnownToAnother_4 : decode cX4_isKnownToAnother 4 = .ok (.if_icmp .ge 35, 3) := by decide +kernel
theorem dX4_isKnownToAnother_7 : decode cX4_isKnownToAnother 7 = .ok (.aload_n 0, 1) := by decide +kernel
theorem dX4_isKnownToAnother_8 : decode cX4_isKnownToAnother 8 = .ok (.getfield 17, 3) := by decide +kernel
theorem dX4_isKnownToAnother_11 : decode cX4_isKnownToAnother 11 = .ok (.iload_n 2, 1) := by decide +kernel
theorem dX4_isKnownToAnother_12 : decode cX4_isKnownToAnother 12 = .ok (.aaload, 1) := by decide +kernel
theorem dX4_isKnownToAnother_13 : decode cX4_isKnownToAnother 13 = .ok (.astore_n 3, 1) := by decide +kernel
theorem dX4_isKnownToAnother_14 : decode cX4_isKnownToAnother 14 = .ok (.aload_n 3, 1) := by decide +kernel
theorem dX4_isKnownToAnother_15 : decode cX4_isKnownToAnother 15 = .ok (.ifnull 18, 3) := by decide +kernel
theorem dX4_isKnownToAnother_18 : decode cX4_isKnownToAnother 18 = .ok (.aload_n 3, 1) := by decide +kernel
theorem dX4_isKnownToAnother_19 : decode cX4_isKnownToAnother 19 = .ok (.aload_n 1, 1) := by decide +kernel
theorem dX4_isKnownToAnother_20 : decode cX4_isKnownToAnother 20 = .ok (.if_acmp .eq 13, 3) := by decide +kernel
theorem dX4_isKnownToAnother_23 : decode cX4_isKnownToAnother 23 = .ok (.aload_n 3, 1) := by decide +kernel
theorem dX4_isKnownToAnother_24 : decode cX4_isKnownToAnother 24 = .ok (.aload_n 1, 1) := by decide +kernel
theorem dX4_isKnownToAnother_25 : decode cX4_isKnownToAnother 25 = .ok (.invokevirtual 70, 3) := by decide +kernel
theorem dX4_isKnownToAnother_28 : decode cX4_isKnownToAnother 28 = .ok (.ifCond .eq 5, 3) := by decide +kernel
theorem dX4_isKnownToAnother_31 : decode cX4_isKnownToAnother 31 = .ok (.iconst 1, 1) := by decide +kernel
theorem dX4_isKnownToAnother_32 : decode cX4_isKnownToAnother 32 = .ok (.ireturn, 1) := by decide +kernel
theorem dX4_isKnownToAnother_33 : decode cX4_isKnownToAnother 33 = .ok (.iinc 2 1, 3) := by decide +kernel
theorem dX4_isKnownToAnother_36 : decode cX4_isKnownToAnother 36 = .ok (.goto (-34), 3) := by decide +kernel
theorem dX4_isKnownToAnother_39 : decode cX4_isKnownToAnother 39 = .ok (.iconst 0, 1) := by decide +kernel
theorem dX4_isKnownToAnother_40 : decode cX4_isKnownToAnother 40 = .ok (.ireturn, 1) := by decide +kernel
theorem dX4_listByRank_0 : decode cX4_listByRank 0 = .ok (.iconst 0, 1) := by decide +kernel
theorem dX4_listByRank_1 : decode cX4_listByRank 1 = .ok (.istore_n 3, 1) := by decide +kernel
theorem dX4_listByRank_2 : decode cX4_listByRank 2 = .ok (.iload_n 3, 1) := by decide +kernel
theorem dX4_listByRank_3 : decode cX4_listByRank 3 = .ok (.iconst 5, 1) := by decide +kernel
theorem dX4_listByRank_4 : decode cX4_listByRank 4 = .ok (.if_icmp .ge 61, 3) := by decide +kernel
theorem dX4_listByRank_7 : decode cX4_listByRank 7 = .ok (.aload_n 0, 1) := by decide +kernel
theorem dX4_listByRank_8 : decode cX4_listByRank 8 = .ok (.getfield 20, 3) := by decide +kernel
theorem dX4_listByRank_11 : decode cX4_listByRank 11 = .ok (.iload_n 3, 1) := by decide +kernel
theorem dX4_listByRank_12 : decode cX4_listByRank 12 = .ok (.aaload, 1) := by decide +kernel
theorem dX4_listByRank_13 : decode cX4_listByRank 13 = .ok (.astore 4, 2) := by decide +kernel
theorem dX4_listByRank_15 : decode cX4_listByRank 15 = .ok (.aload 4, 2) := by decide +kernel
theorem dX4_listByRank_17 : decode cX4_listByRank 17 = .ok (.ifnull 42, 3) := by decide +kernel
theorem dX4_listByRank_20 : decode cX4_listByRank 20 = .ok (.aload 4, 2) := by decide +kernel
theorem dX4_listByRank_22 : decode cX4_listByRank 22 = .ok (.getfield 33, 3) := by decide +kernel
theorem dX4_listByRank_25 : decode cX4_listByRank 25 = .ok (.iload_n 1, 1) := by decide +kernel
theorem dX4_listByRank_26 : decode cX4_listByRank 26 = .ok (.if_icmp .ne 7, 3) := by decide +kernel
theorem dX4_listByRank_29 : decode cX4_listByRank 29 = .ok (.iconst 1, 1) := by decide +kernel
theorem dX4_listByRank_30 : decode cX4_listByRank 30 = .ok (.goto 4, 3) := by decide +kernel
theorem dX4_listByRank_33 : decode cX4_listByRank 33 = .ok (.iconst 0, 1) := by decide +kernel
theorem dX4_listByRank_34 : decode cX4_listByRank 34 = .ok (.iload_n 2, 1) := by decide +kernel
theorem dX4_listByRank_35 : decode cX4_listByRank 35 = .ok (.if_icmp .ne 24, 3) := by decide +kernel
theorem dX4_listByRank_38 : decode cX4_listByRank 38 = .ok (.aload_n 0, 1) := by decide +kernel
theorem dX4_listByRank_39 : decode cX4_listByRank 39 = .ok (.getfield 23, 3) := by decide +kernel
theorem dX4_listByRank_42 : decode cX4_listByRank 42 = .ok (.aload_n 0, 1) := by decide +kernel
theorem dX4_listByRank_43 : decode cX4_listByRank 43 = .ok (.getfield 51, 3) := by decide +kernel
theorem dX4_listByRank_46 : decode cX4_listByRank 46 = .ok (.aload 4, 2) := by decide +kernel
theorem dX4_listByRank_48 : decode cX4_listByRank 48 = .ok (.aastore, 1) := by decide +kernel
theorem dX4_listByRank_49 : decode cX4_listByRank 49 = .ok (.aload_n 0, 1) := by decide +kernel
theorem dX4_listByRank_50 : decode cX4_listByRank 50 = .ok (.dup, 1) := by decide +kernel
theorem dX4_listByRank_51 : decode cX4_listByRank 51 = .ok (.getfield 51, 3) := by decide +kernel
theorem dX4_listByRank_54 : decode cX4_listByRank 54 = .ok (.iconst 1, 1) := by decide +kernel
theorem dX4_listByRank_55 : decode cX4_listByRank 55 = .ok (.iadd, 1) := by decide +kernel
theorem dX4_listByRank_56 : decode cX4_listByRank 56 = .ok (.putfield 51, 3) := by decide +kernel
theorem dX4_listByRank_59 : decode cX4_listByRank 59 = .ok (.iinc 3 1, 3) := by decide +kernel
theorem dX4_listByRank_62 : decode cX4_listByRank 62 = .ok (.goto (-60), 3) := by decide +kernel
theorem dX4_listByRank_65 : decode cX4_listByRank 65 = .ok (.return_, 1) := by decide +kernel
theorem dX4_open_0 : decode cX4_open 0 = .ok (.iconst 0, 1) := by decide +kernel
theorem dX4_open_1 : decode cX4_open 1 = .ok (.istore_n 3, 1) := by decide +kernel
theorem dX4_open_2 : decode cX4_open 2 = .ok (.iload_n 3, 1) := by decide +kernel
theorem dX4_open_3 : decode cX4_open 3 = .ok (.iconst 5, 1) := by decide +kernel
theorem dX4_open_4 : decode cX4_open 4 = .ok (.if_icmp .ge 22, 3) := by decide +kernel
theorem dX4_open_7 : decode cX4_open 7 = .ok (.aload_n 0, 1) := by decide +kernel
theorem dX4_open_8 : decode cX4_open 8 = .ok (.getfield 17, 3) := by decide +kernel
theorem dX4_open_11 : decode cX4_open 11 = .ok (.iload_n 3, 1) := by decide +kernel
theorem dX4_open_12 : decode cX4_open 12 = .ok (.aload_n 0, 1) := by decide +kernel
theorem dX4_open_13 : decode cX4_open 13 = .ok (.iload_n 1, 1) := by decide +kernel
theorem dX4_open_14 : decode cX4_open 14 = .ok (.iload_n 3, 1) := by decide +kernel
theorem dX4_open_15 : decode cX4_open 15 = .ok (.aload_n 2, 1) := by decide +kernel
theorem dX4_open_16 : decode cX4_open 16 = .ok (.invokevirtual 29, 3) := by decide +kernel
theorem dX4_open_19 : decode cX4_open 19 = .ok (.aastore, 1) := by decide +kernel
theorem dX4_open_20 : decode cX4_open 20 = .ok (.iinc 3 1, 3) := by decide +kernel
theorem dX4_open_23 : decode cX4_open 23 = .ok (.goto (-21), 3) := by decide +kernel
theorem dX4_open_26 : decode cX4_open 26 = .ok (.iconst 0, 1) := by decide +kernel
theorem dX4_open_27 : decode cX4_open 27 = .ok (.istore_n 3, 1) := by decide +kernel
theorem dX4_open_28 : decode cX4_open 28 = .ok (.iconst 0, 1) := by decide +kernel
theorem dX4_open_29 : decode cX4_open 29 = .ok (.istore 4, 2) := by decide +kernel
theorem dX4_open_31 : decode cX4_open 31 = .ok (.iload 4, 2) := by decide +kernel
theorem dX4_open_33 : decode cX4_open 33 = .ok (.iconst 5, 1) := by decide +kernel
theorem dX4_open_34 : decode cX4_open 34 = .ok (.if_icmp .ge 72, 3) := by decide +kernel
theorem dX4_open_37 : decode cX4_open 37 = .ok (.aload_n 0, 1) := by decide +kernel
theorem dX4_open_38 : decode cX4_open 38 = .ok (.getfield 17, 3) := by decide +kernel
theorem dX4_open_41 : decode cX4_open 41 = .ok (.iload 4, 2) := by decide +kernel
theorem dX4_open_43 : decode cX4_open 43 = .ok (.aaload, 1) := by decide +kernel
theorem dX4_open_44 : decode cX4_open 44 = .ok (.astore 5, 2) := by decide +kernel
theorem dX4_open_46 : decode cX4_open 46 = .ok (.aload 5, 2) := by decide +kernel
theorem dX4_open_48 : decode cX4_open 48 = .ok (.ifnull 16, 3) := by decide +kernel
theorem dX4_open_51 : decode cX4_open 51 = .ok (.aload_n 0, 1) := by decide +kernel
theorem dX4_open_52 : decode cX4_open 52 = .ok (.aload 5, 2) := by decide +kernel
theorem dX4_open_54 : decode cX4_open 54 = .ok (.invokevirtual 47, 3) := by decide +kernel
theorem dX4_open_57 : decode cX4_open 57 = .ok (.ifCond .ne 7, 3) := by decide +kernel
theorem dX4_open_60 : decode cX4_open 60 = .ok (.iconst 1, 1) := by decide +kernel
theorem dX4_open_61 : decode cX4_open 61 = .ok (.goto 4, 3) := by decide +kernel
theorem dX4_open_64 : decode cX4_open 64 = .ok (.iconst 0, 1) := by decide +kernel
theorem dX4_open_65 : decode cX4_open 65 = .ok (.istore 6, 2) := by decide +kernel
theorem dX4_open_67 : decode cX4_open 67 = .ok (.aload_n 0, 1) := by decide +kernel
theorem dX4_open_68 : decode cX4_open 68 = .ok (.getfield 20, 3) := by decide +kernel
theorem dX4_open_71 : decode cX4_open 71 = .ok (.iload 4, 2) := by decide +kernel
theorem dX4_open_73 : decode cX4_open 73 = .ok (.iload 6, 2) := by decide +kernel
theorem dX4_open_75 : decode cX4_open 75 = .ok (.ifCond .eq 8, 3) := by decide +kernel
theorem dX4_open_78 : decode cX4_open 78 = .ok (.aload 5, 2) := by decide +kernel
theorem dX4_open_80 : decode cX4_open 80 = .ok (.goto 4, 3) := by decide +kernel
theorem dX4_open_83 : decode cX4_open 83 = .ok (.aconst_null, 1) := by decide +kernel
theorem dX4_open_84 : decode cX4_open 84 = .ok (.aastore, 1) := by decide +kernel
theorem dX4_open_85 : decode cX4_open 85 = .ok (.iload 6, 2) := by decide +kernel
theorem dX4_open_87 : decode cX4_open 87 = .ok (.ifCond .eq 13, 3) := by decide +kernel
theorem dX4_open_90 : decode cX4_open 90 = .ok (.iload_n 3, 1) := by decide +kernel
theorem dX4_open_91 : decode cX4_open 91 = .ok (.aload 5, 2) := by decide +kernel
theorem dX4_open_93 : decode cX4_open 93 = .ok (.getfield 33, 3) := by decide +kernel
theorem dX4_open_96 : decode cX4_open 96 = .ok (.invokestatic 37, 3) := by decide +kernel
theorem dX4_open_99 : decode cX4_open 99 = .ok (.istore_n 3, 1) := by decide +kernel
theorem dX4_open_100 : decode cX4_open 100 = .ok (.iinc 4 1, 3) := by decide +kernel
theorem dX4_open_103 : decode cX4_open 103 = .ok (.goto (-72), 3) := by decide +kernel
theorem dX4_open_106 : decode cX4_open 106 = .ok (.aload_n 0, 1) := by decide +kernel
theorem dX4_open_107 : decode cX4_open 107 = .ok (.iconst 0, 1) := by decide +kernel
theorem dX4_open_108 : decode cX4_open 108 = .ok (.putfield 51, 3) := by decide +kernel
theorem dX4_open_111 : decode cX4_open 111 = .ok (.aload_n 0, 1) := by decide +kernel
theorem dX4_open_112 : decode cX4_open 112 = .ok (.iload_n 3, 1) := by decide +kernel
theorem dX4_open_113 : decode cX4_open 113 = .ok (.iconst 1, 1) := by decide +kernel
theorem dX4_open_114 : decode cX4_open 114 = .ok (.invokevirtual 54, 3) := by decide +kernel
theorem dX4_open_117 : decode cX4_open 117 = .ok (.aload_n 0, 1) := by decide +kernel
theorem dX4_open_118 : decode cX4_open 118 = .ok (.aload_n 0, 1) := by decide +kernel
theorem dX4_open_119 : decode cX4_open 119 = .ok (.getfield 51, 3) := by decide +kernel
theorem dX4_open_122 : decode cX4_open 122 = .ok (.putfield 58, 3) := by decide +kernel
theorem dX4_open_125 : decode cX4_open 125 = .ok (.aload_n 0, 1) := by decide +kernel
theorem dX4_open_126 : decode cX4_open 126 = .ok (.iload_n 3, 1) := by decide +kernel
theorem dX4_open_127 : decode cX4_open 127 = .ok (.iconst 0, 1) := by decide +kernel
theorem dX4_open_128 : decode cX4_open 128 = .ok (.invokevirtual 54, 3) := by decide +kernel
theorem dX4_open_131 : decode cX4_open 131 = .ok (.return_, 1) := by decide +kernel
theorem dX4_shownMeasure_0 : decode cX4_shownMeasure 0 = .ok (.aload_n 0, 1) := by decide +kernel
theorem dX4_shownMeasure_1 : decode cX4_shownMeasure 1 = .ok (.getfield 58, 3) := by decide +kernel
theorem dX4_shownMeasure_4 : decode cX4_shownMeasure 4 = .ok (.ifCond .ne 7, 3) := by decide +kernel
theorem dX4_shownMeasure_7 : decode cX4_shownMeasure 7 = .ok (.aconst_null, 1) := by decide +kernel
theorem dX4_shownMeasure_8 : decode cX4_shownMeasure 8 = .ok (.goto 14, 3) := by decide +kernel
theorem dX4_shownMeasure_11 : decode cX4_shownMeasure 11 = .ok (.aload_n 0, 1) := by decide +kernel
theorem dX4_shownMeasure_12 : decode cX4_shownMeasure 12 = .ok (.getfield 23, 3) := by decide +kernel
theorem dX4_shownMeasure_15 : decode cX4_shownMeasure 15 = .ok (.aload_n 0, 1) := by decide +kernel
theorem dX4_shownMeasure_16 : decode cX4_shownMeasure 16 = .ok (.getfield 58, 3) := by decide +kernel
theorem dX4_shownMeasure_19 : decode cX4_shownMeasure 19 = .ok (.iconst 1, 1) := by decide +kernel
theorem dX4_shownMeasure_20 : decode cX4_shownMeasure 20 = .ok (.isub, 1) := by decide +kernel
theorem dX4_shownMeasure_21 : decode cX4_shownMeasure 21 = .ok (.aaload, 1) := by decide +kernel
theorem dX4_shownMeasure_22 : decode cX4_shownMeasure 22 = .ok (.areturn, 1) := by decide +kernel
theorem dX4_isInConflict_0 : decode cX4_isInConflict 0 = .ok (.iconst 1, 1) := by decide +kernel
theorem dX4_isInConflict_1 : decode cX4_isInConflict 1 = .ok (.istore_n 1, 1) := by decide +kernel
theorem dX4_isInConflict_2 : decode cX4_isInConflict 2 = .ok (.iload_n 1, 1) := by decide +kernel
theorem dX4_isInConflict_3 : decode cX4_isInConflict 3 = .ok (.aload_n 0, 1) := by decide +kernel
theorem dX4_isInConflict_4 : decode cX4_isInConflict 4 = .ok (.getfield 58, 3) := by decide +kernel
theorem dX4_isInConflict_7 : decode cX4_isInConflict 7 = .ok (.if_icmp .ge 32, 3) := by decide +kernel
theorem dX4_isInConflict_10 : decode cX4_isInConflict 10 = .ok (.aload_n 0, 1) := by decide +kernel
theorem dX4_isInConflict_11 : decode cX4_isInConflict 11 = .ok (.getfield 23, 3) := by decide +kernel
theorem dX4_isInConflict_14 : decode cX4_isInConflict 14 = .ok (.iload_n 1, 1) := by decide +kernel
theorem dX4_isInConflict_15 : decode cX4_isInConflict 15 = .ok (.aaload, 1) := by decide +kernel
theorem dX4_isInConflict_16 : decode cX4_isInConflict 16 = .ok (.getfield 61, 3) := by decide +kernel
theorem dX4_isInConflict_19 : decode cX4_isInConflict 19 = .ok (.aload_n 0, 1) := by decide +kernel
theorem dX4_isInConflict_20 : decode cX4_isInConflict 20 = .ok (.getfield 23, 3) := by decide +kernel
theorem dX4_isInConflict_23 : decode cX4_isInConflict 23 = .ok (.iconst 0, 1) := by decide +kernel
theorem dX4_isInConflict_24 : decode cX4_isInConflict 24 = .ok (.aaload, 1) := by decide +kernel
theorem dX4_isInConflict_25 : decode cX4_isInConflict 25 = .ok (.getfield 61, 3) := by decide +kernel
theorem dX4_isInConflict_28 : decode cX4_isInConflict 28 = .ok (.if_icmp .eq 5, 3) := by decide +kernel
theorem dX4_isInConflict_31 : decode cX4_isInConflict 31 = .ok (.iconst 1, 1) := by decide +kernel
theorem dX4_isInConflict_32 : decode cX4_isInConflict 32 = .ok (.ireturn, 1) := by decide +kernel
theorem dX4_isInConflict_33 : decode cX4_isInConflict 33 = .ok (.iinc 1 1, 3) := by decide +kernel
theorem dX4_isInConflict_36 : decode cX4_isInConflict 36 = .ok (.goto (-34), 3) := by decide +kernel
theorem dX4_isInConflict_39 : decode cX4_isInConflict 39 = .ok (.iconst 0, 1) := by decide +kernel
theorem dX4_isInConflict_40 : decode cX4_isInConflict 40 = .ok (.ireturn, 1) := by decide +kernel
theorem dX4_codeAt_0 : decode cX4_codeAt 0 = .ok (.iload_n 1, 1) := by decide +kernel
theorem dX4_codeAt_1 : decode cX4_codeAt 1 = .ok (.aload_n 0, 1) := by decide +kernel
theorem dX4_codeAt_2 : decode cX4_codeAt 2 = .ok (.getfield 51, 3) := by decide +kernel
theorem dX4_codeAt_5 : decode cX4_codeAt 5 = .ok (.if_icmp .lt 5, 3) := by decide +kernel
theorem dX4_codeAt_8 : decode cX4_codeAt 8 = .ok (.iconst (-1), 1) := by decide +kernel
theorem dX4_codeAt_9 : decode cX4_codeAt 9 = .ok (.ireturn, 1) := by decide +kernel
theorem dX4_codeAt_10 : decode cX4_codeAt 10 = .ok (.bipush 100, 2) := by decide +kernel
theorem dX4_codeAt_12 : decode cX4_codeAt 12 = .ok (.aload_n 0, 1) := by decide +kernel
theorem dX4_codeAt_13 : decode cX4_codeAt 13 = .ok (.getfield 23, 3) := by decide +kernel
theorem dX4_codeAt_16 : decode cX4_codeAt 16 = .ok (.iload_n 1, 1) := by decide +kernel
theorem dX4_codeAt_17 : decode cX4_codeAt 17 = .ok (.aaload, 1) := by decide +kernel
theorem dX4_codeAt_18 : decode cX4_codeAt 18 = .ok (.getfield 64, 3) := by decide +kernel
theorem dX4_codeAt_21 : decode cX4_codeAt 21 = .ok (.imul, 1) := by decide +kernel
theorem dX4_codeAt_22 : decode cX4_codeAt 22 = .ok (.aload_n 0, 1) := by decide +kernel
theorem dX4_codeAt_23 : decode cX4_codeAt 23 = .ok (.getfield 23, 3) := by decide +kernel
theorem dX4_codeAt_26 : decode cX4_codeAt 26 = .ok (.iload_n 1, 1) := by decide +kernel
theorem dX4_codeAt_27 : decode cX4_codeAt 27 = .ok (.aaload, 1) := by decide +kernel
theorem dX4_codeAt_28 : decode cX4_codeAt 28 = .ok (.getfield 67, 3) := by decide +kernel
theorem dX4_codeAt_31 : decode cX4_codeAt 31 = .ok (.iadd, 1) := by decide +kernel
theorem dX4_codeAt_32 : decode cX4_codeAt 32 = .ok (.istore_n 2, 1) := by decide +kernel
theorem dX4_codeAt_33 : decode cX4_codeAt 33 = .ok (.iload_n 1, 1) := by decide +kernel
theorem dX4_codeAt_34 : decode cX4_codeAt 34 = .ok (.aload_n 0, 1) := by decide +kernel
theorem dX4_codeAt_35 : decode cX4_codeAt 35 = .ok (.getfield 58, 3) := by decide +kernel
theorem dX4_codeAt_38 : decode cX4_codeAt 38 = .ok (.if_icmp .ge 7, 3) := by decide +kernel
theorem dX4_codeAt_41 : decode cX4_codeAt 41 = .ok (.iload_n 2, 1) := by decide +kernel
theorem dX4_codeAt_42 : decode cX4_codeAt 42 = .ok (.goto 8, 3) := by decide +kernel
theorem dX4_codeAt_45 : decode cX4_codeAt 45 = .ok (.iload_n 2, 1) := by decide +kernel
theorem dX4_codeAt_46 : decode cX4_codeAt 46 = .ok (.sipush 1000, 3) := by decide +kernel
theorem dX4_codeAt_49 : decode cX4_codeAt 49 = .ok (.iadd, 1) := by decide +kernel
theorem dX4_codeAt_50 : decode cX4_codeAt 50 = .ok (.ireturn, 1) := by decide +kernel
theorem dX4_greatestRank_0 : decode cX4_greatestRank 0 = .ok (.iconst 0, 1) := by decide +kernel
theorem dX4_greatestRank_1 : decode cX4_greatestRank 1 = .ok (.istore_n 3, 1) := by decide +kernel
theorem dX4_greatestRank_2 : decode cX4_greatestRank 2 = .ok (.iconst 0, 1) := by decide +kernel
theorem dX4_greatestRank_3 : decode cX4_greatestRank 3 = .ok (.istore 4, 2) := by decide +kernel
theorem dX4_greatestRank_5 : decode cX4_greatestRank 5 = .ok (.iload 4, 2) := by decide +kernel
theorem dX4_greatestRank_7 : decode cX4_greatestRank 7 = .ok (.iconst 5, 1) := by decide +kernel
theorem dX4_greatestRank_8 : decode cX4_greatestRank 8 = .ok (.if_icmp .ge 44, 3) := by decide +kernel
theorem dX4_greatestRank_11 : decode cX4_greatestRank 11 = .ok (.aload_n 0, 1) := by decide +kernel
theorem dX4_greatestRank_12 : decode cX4_greatestRank 12 = .ok (.iload_n 1, 1) := by decide +kernel
theorem dX4_greatestRank_13 : decode cX4_greatestRank 13 = .ok (.iload 4, 2) := by decide +kernel
theorem dX4_greatestRank_15 : decode cX4_greatestRank 15 = .ok (.aload_n 2, 1) := by decide +kernel
theorem dX4_greatestRank_16 : decode cX4_greatestRank 16 = .ok (.invokevirtual 29, 3) := by decide +kernel
theorem dX4_greatestRank_19 : decode cX4_greatestRank 19 = .ok (.astore 5, 2) := by decide +kernel
theorem dX4_greatestRank_21 : decode cX4_greatestRank 21 = .ok (.aload 5, 2) := by decide +kernel
theorem dX4_greatestRank_23 : decode cX4_greatestRank 23 = .ok (.ifnull 23, 3) := by decide +kernel
theorem dX4_greatestRank_26 : decode cX4_greatestRank 26 = .ok (.iload_n 3, 1) := by decide +kernel
theorem dX4_greatestRank_27 : decode cX4_greatestRank 27 = .ok (.aload 5, 2) := by decide +kernel
theorem dX4_greatestRank_29 : decode cX4_greatestRank 29 = .ok (.getfield 33, 3) := by decide +kernel
theorem dX4_greatestRank_32 : decode cX4_greatestRank 32 = .ok (.invokestatic 37, 3) := by decide +kernel
theorem dX4_greatestRank_35 : decode cX4_greatestRank 35 = .ok (.istore_n 3, 1) := by decide +kernel
theorem dX4_greatestRank_36 : decode cX4_greatestRank 36 = .ok (.aload 5, 2) := by decide +kernel
theorem dX4_greatestRank_38 : decode cX4_greatestRank 38 = .ok (.getfield 43, 3) := by decide +kernel
theorem dX4_greatestRank_41 : decode cX4_greatestRank 41 = .ok (.astore 5, 2) := by decide +kernel
theorem dX4_greatestRank_43 : decode cX4_greatestRank 43 = .ok (.goto (-22), 3) := by decide +kernel
theorem dX4_greatestRank_46 : decode cX4_greatestRank 46 = .ok (.iinc 4 1, 3) := by decide +kernel
theorem dX4_greatestRank_49 : decode cX4_greatestRank 49 = .ok (.goto (-44), 3) := by decide +kernel
theorem dX4_greatestRank_52 : decode cX4_greatestRank 52 = .ok (.iload_n 3, 1) := by decide +kernel
theorem dX4_greatestRank_53 : decode cX4_greatestRank 53 = .ok (.ireturn, 1) := by decide +kernel
