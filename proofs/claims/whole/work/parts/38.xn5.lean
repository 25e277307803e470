theorem tg_15 : (Cond.initialized "ForestTablets$Lend") ∈ lw_g := lw_gi (List.mem_of_getElem? (i := 15) (by decide +kernel)) rfl
theorem tg_58 : (Cond.classLink "ForestTablets$Lending" (9 : Nat) "ForestTablets$Lend") ∈ lw_g := lw_gi (List.mem_of_getElem? (i := 58) (by decide +kernel)) rfl
theorem tg_70 : (Cond.classLink "ForestTablets$Notebook" (9 : Nat) "ForestTablets$Measure") ∈ lw_g := lw_gi (List.mem_of_getElem? (i := 70) (by decide +kernel)) rfl
theorem tg_307 : (Cond.methodLink "ForestTablets" (93 : Nat) ({ cls := "ForestTablets$Crew", name := "addEntry", desc := "(I)I" } : Jvm.MethodName)) ∈ lw_g := lw_gi (List.mem_of_getElem? (i := 307) (by decide +kernel)) rfl
theorem tg_308 : (Cond.instanceMethod ({ cls := "ForestTablets$Crew", name := "addEntry", desc := "(I)I" } : Jvm.MethodName)) ∈ lw_g := lw_gi (List.mem_of_getElem? (i := 308) (by decide +kernel)) rfl
theorem tg_309 : (Cond.selects "ForestTablets$Crew" ({ cls := "ForestTablets$Crew", name := "addEntry", desc := "(I)I" } : Jvm.MethodName) ({ cls := "ForestTablets$Crew", name := "addEntry", desc := "(I)I" } : Jvm.MethodName)) ∈ lw_g := lw_gi (List.mem_of_getElem? (i := 309) (by decide +kernel)) rfl
theorem tg_310 : (Cond.code ({ cls := "ForestTablets$Crew", name := "addEntry", desc := "(I)I" } : Jvm.MethodName) prog_2_method_4_code (2 : Nat) (Option.some FieldType.int)) ∈ lw_g := lw_gi (List.mem_of_getElem? (i := 310) (by decide +kernel)) rfl
theorem tg_322 : (Cond.instantiable "ForestTablets$Lend" (5 : Nat)) ∈ lw_g := lw_gi (List.mem_of_getElem? (i := 322) (by decide +kernel)) rfl
theorem tg_323 : (Cond.methodLink "ForestTablets$Lending" (21 : Nat) ({ cls := "ForestTablets$Lend", name := "<init>", desc := "(IIILForestTablets$Lend;)V" } : Jvm.MethodName)) ∈ lw_g := lw_gi (List.mem_of_getElem? (i := 323) (by decide +kernel)) rfl
theorem tg_324 : (Cond.instanceMethod ({ cls := "ForestTablets$Lend", name := "<init>", desc := "(IIILForestTablets$Lend;)V" } : Jvm.MethodName)) ∈ lw_g := lw_gi (List.mem_of_getElem? (i := 324) (by decide +kernel)) rfl
theorem tg_325 : (Cond.code ({ cls := "ForestTablets$Lend", name := "<init>", desc := "(IIILForestTablets$Lend;)V" } : Jvm.MethodName) prog_3_method_1_code (5 : Nat) (Option.none : Option FieldType)) ∈ lw_g := lw_gi (List.mem_of_getElem? (i := 325) (by decide +kernel)) rfl
theorem tg_326 : (Cond.methodLink "ForestTablets$Lend" (1 : Nat) ({ cls := "java/lang/Object", name := "<init>", desc := "()V" } : Jvm.MethodName)) ∈ lw_g := lw_gi (List.mem_of_getElem? (i := 326) (by decide +kernel)) rfl
theorem tg_327 : (Cond.fieldLink "ForestTablets$Lend" (7 : Nat) "ForestTablets$Lend" "number" "I") ∈ lw_g := lw_gi (List.mem_of_getElem? (i := 327) (by decide +kernel)) rfl
theorem tg_329 : (Cond.fieldLink "ForestTablets$Lend" (13 : Nat) "ForestTablets$Lend" "entry" "I") ∈ lw_g := lw_gi (List.mem_of_getElem? (i := 329) (by decide +kernel)) rfl
theorem tg_331 : (Cond.fieldLink "ForestTablets$Lend" (16 : Nat) "ForestTablets$Lend" "tablet" "I") ∈ lw_g := lw_gi (List.mem_of_getElem? (i := 331) (by decide +kernel)) rfl
theorem tg_333 : (Cond.fieldLink "ForestTablets$Lend" (19 : Nat) "ForestTablets$Lend" "earlier" "LForestTablets$Lend;") ∈ lw_g := lw_gi (List.mem_of_getElem? (i := 333) (by decide +kernel)) rfl
theorem tg_388 : (Cond.methodLink "ForestTablets" (218 : Nat) ({ cls := "[I", name := "clone", desc := "()Ljava/lang/Object;" } : Jvm.MethodName)) ∈ lw_g := lw_gi (List.mem_of_getElem? (i := 388) (by decide +kernel)) rfl
theorem tg_389 : (Cond.sameMethod "[I" "java/lang/Object" "clone" "()Ljava/lang/Object;") ∈ lw_g := lw_gi (List.mem_of_getElem? (i := 389) (by decide +kernel)) rfl
theorem tg_390 : (Cond.native ({ cls := "java/lang/Object", name := "clone", desc := "()Ljava/lang/Object;" } : Jvm.MethodName)) ∈ lw_g := lw_gi (List.mem_of_getElem? (i := 390) (by decide +kernel)) rfl
theorem tg_391 : (Cond.instanceMethod ({ cls := "java/lang/Object", name := "clone", desc := "()Ljava/lang/Object;" } : Jvm.MethodName)) ∈ lw_g := lw_gi (List.mem_of_getElem? (i := 391) (by decide +kernel)) rfl
theorem tg_392 : (Cond.selects "[I" ({ cls := "[I", name := "clone", desc := "()Ljava/lang/Object;" } : Jvm.MethodName) ({ cls := "java/lang/Object", name := "clone", desc := "()Ljava/lang/Object;" } : Jvm.MethodName)) ∈ lw_g := lw_gi (List.mem_of_getElem? (i := 392) (by decide +kernel)) rfl
theorem tg_394 : (Cond.classLink "ForestTablets" (219 : Nat) "[I") ∈ lw_g := lw_gi (List.mem_of_getElem? (i := 394) (by decide +kernel)) rfl
theorem tg_395 : (Cond.methodLink "ForestTablets" (223 : Nat) ({ cls := "ForestTablets$Notebook", name := "add", desc := "(IIIII[I)V" } : Jvm.MethodName)) ∈ lw_g := lw_gi (List.mem_of_getElem? (i := 395) (by decide +kernel)) rfl
theorem tg_396 : (Cond.instanceMethod ({ cls := "ForestTablets$Notebook", name := "add", desc := "(IIIII[I)V" } : Jvm.MethodName)) ∈ lw_g := lw_gi (List.mem_of_getElem? (i := 396) (by decide +kernel)) rfl
theorem tg_397 : (Cond.selects "ForestTablets$Notebook" ({ cls := "ForestTablets$Notebook", name := "add", desc := "(IIIII[I)V" } : Jvm.MethodName) ({ cls := "ForestTablets$Notebook", name := "add", desc := "(IIIII[I)V" } : Jvm.MethodName)) ∈ lw_g := lw_gi (List.mem_of_getElem? (i := 397) (by decide +kernel)) rfl
theorem tg_398 : (Cond.code ({ cls := "ForestTablets$Notebook", name := "add", desc := "(IIIII[I)V" } : Jvm.MethodName) prog_6_method_2_code (8 : Nat) (Option.none : Option FieldType)) ∈ lw_g := lw_gi (List.mem_of_getElem? (i := 398) (by decide +kernel)) rfl
theorem tg_399 : (Cond.instantiable "ForestTablets$Measure" (6 : Nat)) ∈ lw_g := lw_gi (List.mem_of_getElem? (i := 399) (by decide +kernel)) rfl
theorem tg_400 : (Cond.methodLink "ForestTablets$Notebook" (26 : Nat) ({ cls := "ForestTablets$Measure", name := "<init>", desc := "(IIII[ILForestTablets$Measure;)V" } : Jvm.MethodName)) ∈ lw_g := lw_gi (List.mem_of_getElem? (i := 400) (by decide +kernel)) rfl
theorem tg_401 : (Cond.instanceMethod ({ cls := "ForestTablets$Measure", name := "<init>", desc := "(IIII[ILForestTablets$Measure;)V" } : Jvm.MethodName)) ∈ lw_g := lw_gi (List.mem_of_getElem? (i := 401) (by decide +kernel)) rfl
theorem tg_402 : (Cond.code ({ cls := "ForestTablets$Measure", name := "<init>", desc := "(IIII[ILForestTablets$Measure;)V" } : Jvm.MethodName) prog_5_method_1_code (7 : Nat) (Option.none : Option FieldType)) ∈ lw_g := lw_gi (List.mem_of_getElem? (i := 402) (by decide +kernel)) rfl
theorem tg_403 : (Cond.methodLink "ForestTablets$Measure" (1 : Nat) ({ cls := "java/lang/Object", name := "<init>", desc := "()V" } : Jvm.MethodName)) ∈ lw_g := lw_gi (List.mem_of_getElem? (i := 403) (by decide +kernel)) rfl
theorem tg_408 : (Cond.fieldLink "ForestTablets$Measure" (16 : Nat) "ForestTablets$Measure" "value" "I") ∈ lw_g := lw_gi (List.mem_of_getElem? (i := 408) (by decide +kernel)) rfl
theorem tg_411 : (Cond.fieldLink "ForestTablets$Measure" (19 : Nat) "ForestTablets$Measure" "rank" "I") ∈ lw_g := lw_gi (List.mem_of_getElem? (i := 411) (by decide +kernel)) rfl
theorem tg_414 : (Cond.fieldLink "ForestTablets$Measure" (26 : Nat) "ForestTablets$Measure" "earlier" "LForestTablets$Measure;") ∈ lw_g := lw_gi (List.mem_of_getElem? (i := 414) (by decide +kernel)) rfl
abbrev cX1_init : ByteArray := prog_3_method_1_code
def yX1_init : MethodName := ⟨RX1, "<init>", "(IIILForestTablets$Lend;)V"⟩
def wsX1_init : List Cond := .code yX1_init cX1_init 5 none :: lw_g
abbrev cX3_init : ByteArray := prog_5_method_1_code
def yX3_init : MethodName := ⟨RX3, "<init>", "(IIII[ILForestTablets$Measure;)V"⟩
def wsX3_init : List Cond := .code yX3_init cX3_init 7 none :: lw_g
abbrev cX2_addLend : ByteArray := prog_4_method_2_code
def yX2_addLend : MethodName := ⟨RX2, "addLend", "(III)I"⟩
def wsX2_addLend : List Cond := .code yX2_addLend cX2_addLend 6 (some FieldType.int) :: lw_g
abbrev cX4_add : ByteArray := prog_6_method_2_code
def yX4_add : MethodName := ⟨RX4, "add", "(IIIII[I)V"⟩
def wsX4_add : List Cond := .code yX4_add cX4_add 8 none :: lw_g
abbrev cX8_write : ByteArray := prog_1_method_27_code
def yX8_write : MethodName := ⟨RX8, "write", "(IIII)I"⟩
def wsX8_write : List Cond := .code yX8_write cX8_write 7 (some FieldType.int) :: lw_g
theorem slX8_write : Cond.selects RX8 yX8_write yX8_write ∈ lw_g := lw_gs (q := (yX8_write, 8)) (by decide +kernel)
theorem dX1_init_0 : decode cX1_init 0 = .ok (.aload_n 0, 1) := by decide +kernel
theorem dX1_init_1 : decode cX1_init 1 = .ok (.invokespecial 1, 3) := by decide +kernel
theorem dX1_init_4 : decode cX1_init 4 = .ok (.aload_n 0, 1) := by decide +kernel
theorem dX1_init_5 : decode cX1_init 5 = .ok (.iload_n 1, 1) := by decide +kernel
theorem dX1_init_6 : decode cX1_init 6 = .ok (.putfield 7, 3) := by decide +kernel
theorem dX1_init_9 : decode cX1_init 9 = .ok (.aload_n 0, 1) := by decide +kernel
theorem dX1_init_10 : decode cX1_init 10 = .ok (.iload_n 2, 1) := by decide +kernel
theorem dX1_init_11 : decode cX1_init 11 = .ok (.putfield 13, 3) := by decide +kernel
theorem dX1_init_14 : decode cX1_init 14 = .ok (.aload_n 0, 1) := by decide +kernel
theorem dX1_init_15 : decode cX1_init 15 = .ok (.iload_n 3, 1) := by decide +kernel
theorem dX1_init_16 : decode cX1_init 16 = .ok (.putfield 16, 3) := by decide +kernel
theorem dX1_init_19 : decode cX1_init 19 = .ok (.aload_n 0, 1) := by decide +kernel
theorem dX1_init_20 : decode cX1_init 20 = .ok (.aload 4, 2) := by decide +kernel
theorem dX1_init_22 : decode cX1_init 22 = .ok (.putfield 19, 3) := by decide +kernel
theorem dX1_init_25 : decode cX1_init 25 = .ok (.return_, 1) := by decide +kernel
theorem dX3_init_0 : decode cX3_init 0 = .ok (.aload_n 0, 1) := by decide +kernel
theorem dX3_init_1 : decode cX3_init 1 = .ok (.invokespecial 1, 3) := by decide +kernel
theorem dX3_init_4 : decode cX3_init 4 = .ok (.aload_n 0, 1) := by decide +kernel
theorem dX3_init_5 : decode cX3_init 5 = .ok (.iload_n 1, 1) := by decide +kernel
theorem dX3_init_6 : decode cX3_init 6 = .ok (.putfield 7, 3) := by decide +kernel
theorem dX3_init_9 : decode cX3_init 9 = .ok (.aload_n 0, 1) := by decide +kernel
theorem dX3_init_10 : decode cX3_init 10 = .ok (.iload_n 2, 1) := by decide +kernel
theorem dX3_init_11 : decode cX3_init 11 = .ok (.putfield 13, 3) := by decide +kernel
theorem dX3_init_14 : decode cX3_init 14 = .ok (.aload_n 0, 1) := by decide +kernel
theorem dX3_init_15 : decode cX3_init 15 = .ok (.iload_n 3, 1) := by decide +kernel
theorem dX3_init_16 : decode cX3_init 16 = .ok (.putfield 16, 3) := by decide +kernel
theorem dX3_init_19 : decode cX3_init 19 = .ok (.aload_n 0, 1) := by decide +kernel
theorem dX3_init_20 : decode cX3_init 20 = .ok (.iload 4, 2) := by decide +kernel
theorem dX3_init_22 : decode cX3_init 22 = .ok (.putfield 19, 3) := by decide +kernel
theorem dX3_init_25 : decode cX3_init 25 = .ok (.aload_n 0, 1) := by decide +kernel
theorem dX3_init_26 : decode cX3_init 26 = .ok (.aload 5, 2) := by decide +kernel
theorem dX3_init_28 : decode cX3_init 28 = .ok (.putfield 22, 3) := by decide +kernel
theorem dX3_init_31 : decode cX3_init 31 = .ok (.aload_n 0, 1) := by decide +kernel
theorem dX3_init_32 : decode cX3_init 32 = .ok (.aload 6, 2) := by decide +kernel
theorem dX3_init_34 : decode cX3_init 34 = .ok (.putfield 26, 3) := by decide +kernel
theorem dX3_init_37 : decode cX3_init 37 = .ok (.return_, 1) := by decide +kernel
theorem dX2_addLend_0 : decode cX2_addLend 0 = .ok (.aload_n 0, 1) := by decide +kernel
theorem dX2_addLend_1 : decode cX2_addLend 1 = .ok (.getfield 11, 3) := by decide +kernel
theorem dX2_addLend_4 : decode cX2_addLend 4 = .ok (.iload_n 1, 1) := by decide +kernel
theorem dX2_addLend_5 : decode cX2_addLend 5 = .ok (.aaload, 1) := by decide +kernel
theorem dX2_addLend_6 : decode cX2_addLend 6 = .ok (.astore 4, 2) := by decide +kernel
theorem dX2_addLend_8 : decode cX2_addLend 8 = .ok (.aload 4, 2) := by decide +kernel
theorem dX2_addLend_10 : decode cX2_addLend 10 = .ok (.ifnonnull 7, 3) := by decide +kernel
theorem dX2_addLend_13 : decode cX2_addLend 13 = .ok (.iconst 1, 1) := by decide +kernel
theorem dX2_addLend_14 : decode cX2_addLend 14 = .ok (.goto 10, 3) := by decide +kernel
theorem dX2_addLend_17 : decode cX2_addLend 17 = .ok (.aload 4, 2) := by decide +kernel
theorem dX2_addLend_19 : decode cX2_addLend 19 = .ok (.getfield 17, 3) := by decide +kernel
theorem dX2_addLend_22 : decode cX2_addLend 22 = .ok (.iconst 1, 1) := by decide +kernel
theorem dX2_addLend_23 : decode cX2_addLend 23 = .ok (.iadd, 1) := by decide +kernel
theorem dX2_addLend_24 : decode cX2_addLend 24 = .ok (.istore 5, 2) := by decide +kernel
theorem dX2_addLend_26 : decode cX2_addLend 26 = .ok (.aload_n 0, 1) := by decide +kernel
theorem dX2_addLend_27 : decode cX2_addLend 27 = .ok (.getfield 11, 3) := by decide +kernel
theorem dX2_addLend_30 : decode cX2_addLend 30 = .ok (.iload_n 1, 1) := by decide +kernel
theorem dX2_addLend_31 : decode cX2_addLend 31 = .ok (.new 9, 3) := by decide +kernel
theorem dX2_addLend_34 : decode cX2_addLend 34 = .ok (.dup, 1) := by decide +kernel
theorem dX2_addLend_35 : decode cX2_addLend 35 = .ok (.iload 5, 2) := by decide +kernel
theorem dX2_addLend_37 : decode cX2_addLend 37 = .ok (.iload_n 3, 1) := by decide +kernel
theorem dX2_addLend_38 : decode cX2_addLend 38 = .ok (.iload_n 2, 1) := by decide +kernel
theorem dX2_addLend_39 : decode cX2_addLend 39 = .ok (.aload 4, 2) := by decide +kernel
theorem dX2_addLend_41 : decode cX2_addLend 41 = .ok (.invokespecial 21, 3) := by decide +kernel
theorem dX2_addLend_44 : decode cX2_addLend 44 = .ok (.aastore, 1) := by decide +kernel
theorem dX2_addLend_45 : decode cX2_addLend 45 = .ok (.iload 5, 2) := by decide +kernel
theorem dX2_addLend_47 : decode cX2_addLend 47 = .ok (.ireturn, 1) := by decide +kernel
theorem dX4_add_0 : decode cX4_add 0 = .ok (.iload_n 1, 1) := by decide +kernel
theorem dX4_add_1 : decode cX4_add 1 = .ok (.iconst 5, 1) := by decide +kernel
theorem dX4_add_2 : decode cX4_add 2 = .ok (.imul, 1) := by decide +kernel
theorem dX4_add_3 : decode cX4_add 3 = .ok (.iload_n 2, 1) := by decide +kernel
theorem dX4_add_4 : decode cX4_add 4 = .ok (.iadd, 1) := by decide +kernel
theorem dX4_add_5 : decode cX4_add 5 = .ok (.istore 7, 2) := by decide +kernel
theorem dX4_add_7 : decode cX4_add 7 = .ok (.aload_n 0, 1) := by decide +kernel
theorem dX4_add_8 : decode cX4_add 8 = .ok (.getfield 11, 3) := by decide +kernel
theorem dX4_add_11 : decode cX4_add 11 = .ok (.iload 7, 2) := by decide +kernel
theorem dX4_add_13 : decode cX4_add 13 = .ok (.new 9, 3) := by decide +kernel
theorem dX4_add_16 : decode cX4_add 16 = .ok (.dup, 1) := by decide +kernel
theorem dX4_add_17 : decode cX4_add 17 = .ok (.iload_n 2, 1) := by decide +kernel
theorem dX4_add_18 : decode cX4_add 18 = .ok (.iload_n 3, 1) := by decide +kernel
theorem dX4_add_19 : decode cX4_add 19 = .ok (.iload 4, 2) := by decide +kernel
theorem dX4_add_21 : decode cX4_add 21 = .ok (.iload 5, 2) := by decide +kernel
theorem dX4_add_23 : decode cX4_add 23 = .ok (.aload 6, 2) := by decide +kernel
theorem dX4_add_25 : decode cX4_add 25 = .ok (.aload_n 0, 1) := by decide +kernel
theorem dX4_add_26 : decode cX4_add 26 = .ok (.getfield 11, 3) := by decide +kernel
theorem dX4_add_29 : decode cX4_add 29 = .ok (.iload 7, 2) := by decide +kernel
theorem dX4_add_31 : decode cX4_add 31 = .ok (.aaload, 1) := by decide +kernel
theorem dX4_add_32 : decode cX4_add 32 = .ok (.invokespecial 26, 3) := by decide +kernel
theorem dX4_add_35 : decode cX4_add 35 = .ok (.aastore, 1) := by decide +kernel
theorem dX4_add_36 : decode cX4_add 36 = .ok (.return_, 1) := by decide +kernel
theorem dX8_write_0 : decode cX8_write 0 = .ok (.aload_n 0, 1) := by decide +kernel
theorem dX8_write_1 : decode cX8_write 1 = .ok (.getfield 12, 3) := by decide +kernel
theorem dX8_write_4 : decode cX8_write 4 = .ok (.getfield 79, 3) := by decide +kernel
theorem dX8_write_7 : decode cX8_write 7 = .ok (.iload_n 1, 1) := by decide +kernel
theorem dX8_write_8 : decode cX8_write 8 = .ok (.aaload, 1) := by decide +kernel
theorem dX8_write_9 : decode cX8_write 9 = .ok (.invokevirtual 218, 3) := by decide +kernel
theorem dX8_write_12 : decode cX8_write 12 = .ok (.checkcast 219, 3) := by decide +kernel
theorem dX8_write_15 : decode cX8_write 15 = .ok (.astore 5, 2) := by decide +kernel
theorem dX8_write_17 : decode cX8_write 17 = .ok (.aload_n 0, 1) := by decide +kernel
theorem dX8_write_18 : decode cX8_write 18 = .ok (.getfield 12, 3) := by decide +kernel
theorem dX8_write_21 : decode cX8_write 21 = .ok (.iload_n 1, 1) := by decide +kernel
theorem dX8_write_22 : decode cX8_write 22 = .ok (.invokevirtual 93, 3) := by decide +kernel
theorem dX8_write_25 : decode cX8_write 25 = .ok (.istore 6, 2) := by decide +kernel
theorem dX8_write_27 : decode cX8_write 27 = .ok (.aload_n 0, 1) := by decide +kernel
theorem dX8_write_28 : decode cX8_write 28 = .ok (.getfield 26, 3) := by decide +kernel
theorem dX8_write_31 : decode cX8_write 31 = .ok (.iload_n 2, 1) := by decide +kernel
theorem dX8_write_32 : decode cX8_write 32 = .ok (.iload_n 1, 1) := by decide +kernel
theorem dX8_write_33 : decode cX8_write 33 = .ok (.iload 6, 2) := by decide +kernel
theorem dX8_write_35 : decode cX8_write 35 = .ok (.iload_n 3, 1) := by decide +kernel
theorem dX8_write_36 : decode cX8_write 36 = .ok (.iload 4, 2) := by decide +kernel
theorem dX8_write_38 : decode cX8_write 38 = .ok (.aload 5, 2) := by decide +kernel
theorem dX8_write_40 : decode cX8_write 40 = .ok (.invokevirtual 223, 3) := by decide +kernel
theorem dX8_write_43 : decode cX8_write 43 = .ok (.iload 6, 2) := by decide +kernel
theorem dX8_write_45 : decode cX8_write 45 = .ok (.ireturn, 1) := by decide +kernel
