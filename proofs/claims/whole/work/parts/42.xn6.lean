theorem tg_12 : (Cond.initialized "java/lang/IllegalArgumentException") ∈ lw_g := lw_gi (List.mem_of_getElem? (i := 12) (by decide +kernel)) rfl
theorem tg_13 : (Cond.initialized "java/lang/IllegalStateException") ∈ lw_g := lw_gi (List.mem_of_getElem? (i := 13) (by decide +kernel)) rfl
theorem tg_98 : (Cond.fieldLink "ForestTablets" (66 : Nat) "ForestTablets$Tariff" "factor" "[I") ∈ lw_g := lw_gi (List.mem_of_getElem? (i := 98) (by decide +kernel)) rfl
theorem tg_100 : (Cond.fieldLink "ForestTablets" (69 : Nat) "ForestTablets$Tariff" "low" "[I") ∈ lw_g := lw_gi (List.mem_of_getElem? (i := 100) (by decide +kernel)) rfl
theorem tg_102 : (Cond.fieldLink "ForestTablets" (72 : Nat) "ForestTablets$Tariff" "high" "[I") ∈ lw_g := lw_gi (List.mem_of_getElem? (i := 102) (by decide +kernel)) rfl
theorem tg_193 : (Cond.methodLink "ForestTablets" (62 : Nat) ({ cls := "ForestTablets", name := "require", desc := "(Z)V" } : Jvm.MethodName)) ∈ lw_g := lw_gi (List.mem_of_getElem? (i := 193) (by decide +kernel)) rfl
theorem tg_194 : (Cond.static ({ cls := "ForestTablets", name := "require", desc := "(Z)V" } : Jvm.MethodName)) ∈ lw_g := lw_gi (List.mem_of_getElem? (i := 194) (by decide +kernel)) rfl
theorem tg_195 : (Cond.code ({ cls := "ForestTablets", name := "require", desc := "(Z)V" } : Jvm.MethodName) prog_1_method_19_code (1 : Nat) (Option.none : Option FieldType)) ∈ lw_g := lw_gi (List.mem_of_getElem? (i := 195) (by decide +kernel)) rfl
theorem tg_196 : (Cond.classLink "ForestTablets" (206 : Nat) "java/lang/IllegalArgumentException") ∈ lw_g := lw_gi (List.mem_of_getElem? (i := 196) (by decide +kernel)) rfl
theorem tg_274 : (Cond.methodLink "ForestTablets" (75 : Nat) ({ cls := "ForestTablets", name := "isTablet", desc := "(I)Z" } : Jvm.MethodName)) ∈ lw_g := lw_gi (List.mem_of_getElem? (i := 274) (by decide +kernel)) rfl
theorem tg_275 : (Cond.static ({ cls := "ForestTablets", name := "isTablet", desc := "(I)Z" } : Jvm.MethodName)) ∈ lw_g := lw_gi (List.mem_of_getElem? (i := 275) (by decide +kernel)) rfl
theorem tg_276 : (Cond.code ({ cls := "ForestTablets", name := "isTablet", desc := "(I)Z" } : Jvm.MethodName) prog_1_method_22_code (1 : Nat) (Option.some FieldType.boolean)) ∈ lw_g := lw_gi (List.mem_of_getElem? (i := 276) (by decide +kernel)) rfl
theorem tg_285 : (Cond.methodLink "ForestTablets" (87 : Nat) ({ cls := "ForestTablets", name := "allow", desc := "(Z)V" } : Jvm.MethodName)) ∈ lw_g := lw_gi (List.mem_of_getElem? (i := 285) (by decide +kernel)) rfl
theorem tg_286 : (Cond.static ({ cls := "ForestTablets", name := "allow", desc := "(Z)V" } : Jvm.MethodName)) ∈ lw_g := lw_gi (List.mem_of_getElem? (i := 286) (by decide +kernel)) rfl
theorem tg_287 : (Cond.code ({ cls := "ForestTablets", name := "allow", desc := "(Z)V" } : Jvm.MethodName) prog_1_method_20_code (1 : Nat) (Option.none : Option FieldType)) ∈ lw_g := lw_gi (List.mem_of_getElem? (i := 287) (by decide +kernel)) rfl
theorem tg_288 : (Cond.classLink "ForestTablets" (209 : Nat) "java/lang/IllegalStateException") ∈ lw_g := lw_gi (List.mem_of_getElem? (i := 288) (by decide +kernel)) rfl
theorem tg_303 : (Cond.methodLink "ForestTablets" (90 : Nat) ({ cls := "ForestTablets$Crew", name := "hasRoom", desc := "(I)Z" } : Jvm.MethodName)) ∈ lw_g := lw_gi (List.mem_of_getElem? (i := 303) (by decide +kernel)) rfl
theorem tg_304 : (Cond.instanceMethod ({ cls := "ForestTablets$Crew", name := "hasRoom", desc := "(I)Z" } : Jvm.MethodName)) ∈ lw_g := lw_gi (List.mem_of_getElem? (i := 304) (by decide +kernel)) rfl
theorem tg_305 : (Cond.selects "ForestTablets$Crew" ({ cls := "ForestTablets$Crew", name := "hasRoom", desc := "(I)Z" } : Jvm.MethodName) ({ cls := "ForestTablets$Crew", name := "hasRoom", desc := "(I)Z" } : Jvm.MethodName)) ∈ lw_g := lw_gi (List.mem_of_getElem? (i := 305) (by decide +kernel)) rfl
theorem tg_306 : (Cond.code ({ cls := "ForestTablets$Crew", name := "hasRoom", desc := "(I)Z" } : Jvm.MethodName) prog_2_method_3_code (2 : Nat) (Option.some FieldType.boolean)) ∈ lw_g := lw_gi (List.mem_of_getElem? (i := 306) (by decide +kernel)) rfl
theorem tg_318 : (Cond.methodLink "ForestTablets" (97 : Nat) ({ cls := "ForestTablets$Lending", name := "addLend", desc := "(III)I" } : Jvm.MethodName)) ∈ lw_g := lw_gi (List.mem_of_getElem? (i := 318) (by decide +kernel)) rfl
theorem tg_319 : (Cond.instanceMethod ({ cls := "ForestTablets$Lending", name := "addLend", desc := "(III)I" } : Jvm.MethodName)) ∈ lw_g := lw_gi (List.mem_of_getElem? (i := 319) (by decide +kernel)) rfl
theorem tg_320 : (Cond.selects "ForestTablets$Lending" ({ cls := "ForestTablets$Lending", name := "addLend", desc := "(III)I" } : Jvm.MethodName) ({ cls := "ForestTablets$Lending", name := "addLend", desc := "(III)I" } : Jvm.MethodName)) ∈ lw_g := lw_gi (List.mem_of_getElem? (i := 320) (by decide +kernel)) rfl
theorem tg_321 : (Cond.code ({ cls := "ForestTablets$Lending", name := "addLend", desc := "(III)I" } : Jvm.MethodName) prog_4_method_2_code (6 : Nat) (Option.some FieldType.int)) ∈ lw_g := lw_gi (List.mem_of_getElem? (i := 321) (by decide +kernel)) rfl
theorem tg_336 : (Cond.fieldLink "ForestTablets" (105 : Nat) "ForestTablets$Lend" "back" "I") ∈ lw_g := lw_gi (List.mem_of_getElem? (i := 336) (by decide +kernel)) rfl
theorem tg_355 : (Cond.methodLink "ForestTablets" (101 : Nat) ({ cls := "ForestTablets$Lending", name := "lastKnown", desc := "(I[I)LForestTablets$Lend;" } : Jvm.MethodName)) ∈ lw_g := lw_gi (List.mem_of_getElem? (i := 355) (by decide +kernel)) rfl
theorem tg_363 : (Cond.methodLink "ForestTablets" (111 : Nat) ({ cls := "ForestTablets", name := "isField", desc := "(III)Z" } : Jvm.MethodName)) ∈ lw_g := lw_gi (List.mem_of_getElem? (i := 363) (by decide +kernel)) rfl
theorem tg_364 : (Cond.static ({ cls := "ForestTablets", name := "isField", desc := "(III)Z" } : Jvm.MethodName)) ∈ lw_g := lw_gi (List.mem_of_getElem? (i := 364) (by decide +kernel)) rfl
theorem tg_365 : (Cond.code ({ cls := "ForestTablets", name := "isField", desc := "(III)Z" } : Jvm.MethodName) prog_1_method_23_code (3 : Nat) (Option.some FieldType.boolean)) ∈ lw_g := lw_gi (List.mem_of_getElem? (i := 365) (by decide +kernel)) rfl
theorem tg_366 : (Cond.methodLink "ForestTablets" (115 : Nat) ({ cls := "ForestTablets", name := "fieldAllows", desc := "(II)Z" } : Jvm.MethodName)) ∈ lw_g := lw_gi (List.mem_of_getElem? (i := 366) (by decide +kernel)) rfl
theorem tg_367 : (Cond.static ({ cls := "ForestTablets", name := "fieldAllows", desc := "(II)Z" } : Jvm.MethodName)) ∈ lw_g := lw_gi (List.mem_of_getElem? (i := 367) (by decide +kernel)) rfl
theorem tg_368 : (Cond.code ({ cls := "ForestTablets", name := "fieldAllows", desc := "(II)Z" } : Jvm.MethodName) prog_1_method_24_code (2 : Nat) (Option.some FieldType.boolean)) ∈ lw_g := lw_gi (List.mem_of_getElem? (i := 368) (by decide +kernel)) rfl
theorem tg_376 : (Cond.methodLink "ForestTablets" (121 : Nat) ({ cls := "ForestTablets", name := "rankFor", desc := "(II)I" } : Jvm.MethodName)) ∈ lw_g := lw_gi (List.mem_of_getElem? (i := 376) (by decide +kernel)) rfl
theorem tg_378 : (Cond.instanceMethod ({ cls := "ForestTablets", name := "rankFor", desc := "(II)I" } : Jvm.MethodName)) ∈ lw_g := lw_gi (List.mem_of_getElem? (i := 378) (by decide +kernel)) rfl
theorem tg_379 : (Cond.code ({ cls := "ForestTablets", name := "rankFor", desc := "(II)I" } : Jvm.MethodName) prog_1_method_26_code (4 : Nat) (Option.some FieldType.int)) ∈ lw_g := lw_gi (List.mem_of_getElem? (i := 379) (by decide +kernel)) rfl
theorem tg_384 : (Cond.methodLink "ForestTablets" (125 : Nat) ({ cls := "ForestTablets", name := "write", desc := "(IIII)I" } : Jvm.MethodName)) ∈ lw_g := lw_gi (List.mem_of_getElem? (i := 384) (by decide +kernel)) rfl
theorem tg_386 : (Cond.instanceMethod ({ cls := "ForestTablets", name := "write", desc := "(IIII)I" } : Jvm.MethodName)) ∈ lw_g := lw_gi (List.mem_of_getElem? (i := 386) (by decide +kernel)) rfl
theorem tg_387 : (Cond.code ({ cls := "ForestTablets", name := "write", desc := "(IIII)I" } : Jvm.MethodName) prog_1_method_27_code (7 : Nat) (Option.some FieldType.int)) ∈ lw_g := lw_gi (List.mem_of_getElem? (i := 387) (by decide +kernel)) rfl
abbrev cX8_require : ByteArray := prog_1_method_19_code
def yX8_require : MethodName := ⟨RX8, "require", "(Z)V"⟩
def wsX8_require : List Cond := .code yX8_require cX8_require 1 none :: lw_g
abbrev cX8_allow : ByteArray := prog_1_method_20_code
def yX8_allow : MethodName := ⟨RX8, "allow", "(Z)V"⟩
def wsX8_allow : List Cond := .code yX8_allow cX8_allow 1 none :: lw_g
abbrev cX8_known : ByteArray := prog_1_method_12_code
def yX8_known : MethodName := ⟨RX8, "known", "(II)I"⟩
def wsX8_known : List Cond := .code yX8_known cX8_known 3 (some FieldType.int) :: lw_g
abbrev cX8_stand : ByteArray := prog_1_method_3_code
def yX8_stand : MethodName := ⟨RX8, "stand", "(II)V"⟩
def wsX8_stand : List Cond := .code yX8_stand cX8_stand 3 none :: lw_g
abbrev cX8_holder : ByteArray := prog_1_method_13_code
def yX8_holder : MethodName := ⟨RX8, "holder", "(III)I"⟩
def wsX8_holder : List Cond := .code yX8_holder cX8_holder 4 (some FieldType.int) :: lw_g
abbrev cX8_lend : ByteArray := prog_1_method_4_code
def yX8_lend : MethodName := ⟨RX8, "lend", "(II)I"⟩
def wsX8_lend : List Cond := .code yX8_lend cX8_lend 3 (some FieldType.int) :: lw_g
abbrev cX8_giveBack : ByteArray := prog_1_method_5_code
def yX8_giveBack : MethodName := ⟨RX8, "giveBack", "(II)I"⟩
def wsX8_giveBack : List Cond := .code yX8_giveBack cX8_giveBack 5 (some FieldType.int) :: lw_g
abbrev cX8_enter : ByteArray := prog_1_method_6_code
def yX8_enter : MethodName := ⟨RX8, "enter", "(IIIII)I"⟩
def wsX8_enter : List Cond := .code yX8_enter cX8_enter 6 (some FieldType.int) :: lw_g
abbrev cX8_species : ByteArray := prog_1_method_2_code
def yX8_species : MethodName := ⟨RX8, "species", "(IIII)V"⟩
def wsX8_species : List Cond := .code yX8_species cX8_species 5 none :: lw_g

theorem dX8_require_0 : decode cX8_require 0 = .ok (.iload_n 0, 1) := by decide +kernel
theorem dX8_require_1 : decode cX8_require 1 = .ok (.ifCond .ne 11, 3) := by decide +kernel
theorem dX8_require_4 : decode cX8_require 4 = .ok (.new 206, 3) := by decide +kernel
theorem dX8_require_7 : decode cX8_require 7 = .ok (.dup, 1) := by decide +kernel
theorem dX8_require_8 : decode cX8_require 8 = .ok (.invokespecial 208, 3) := by decide +kernel
theorem dX8_require_11 : decode cX8_require 11 = .ok (.athrow, 1) := by decide +kernel
theorem dX8_require_12 : decode cX8_require 12 = .ok (.return_, 1) := by decide +kernel
theorem dX8_allow_0 : decode cX8_allow 0 = .ok (.iload_n 0, 1) := by decide +kernel
theorem dX8_allow_1 : decode cX8_allow 1 = .ok (.ifCond .ne 11, 3) := by decide +kernel
theorem dX8_allow_4 : decode cX8_allow 4 = .ok (.new 209, 3) := by decide +kernel
theorem dX8_allow_7 : decode cX8_allow 7 = .ok (.dup, 1) := by decide +kernel
theorem dX8_allow_8 : decode cX8_allow 8 = .ok (.invokespecial 211, 3) := by decide +kernel
theorem dX8_allow_11 : decode cX8_allow 11 = .ok (.athrow, 1) := by decide +kernel
theorem dX8_allow_12 : decode cX8_allow 12 = .ok (.return_, 1) := by decide +kernel
theorem dX8_known_0 : decode cX8_known 0 = .ok (.iload_n 1, 1) := by decide +kernel
theorem dX8_known_1 : decode cX8_known 1 = .ok (.iconst 5, 1) := by decide +kernel
theorem dX8_known_2 : decode cX8_known 2 = .ok (.invokestatic 58, 3) := by decide +kernel
theorem dX8_known_5 : decode cX8_known 5 = .ok (.ifCond .eq 15, 3) := by decide +kernel
theorem dX8_known_8 : decode cX8_known 8 = .ok (.iload_n 2, 1) := by decide +kernel
theorem dX8_known_9 : decode cX8_known 9 = .ok (.iconst 5, 1) := by decide +kernel
theorem dX8_known_10 : decode cX8_known 10 = .ok (.invokestatic 58, 3) := by decide +kernel
theorem dX8_known_13 : decode cX8_known 13 = .ok (.ifCond .eq 7, 3) := by decide +kernel
theorem dX8_known_16 : decode cX8_known 16 = .ok (.iconst 1, 1) := by decide +kernel
theorem dX8_known_17 : decode cX8_known 17 = .ok (.goto 4, 3) := by decide +kernel
theorem dX8_known_20 : decode cX8_known 20 = .ok (.iconst 0, 1) := by decide +kernel
theorem dX8_known_21 : decode cX8_known 21 = .ok (.invokestatic 62, 3) := by decide +kernel
theorem dX8_known_24 : decode cX8_known 24 = .ok (.aload_n 0, 1) := by decide +kernel
theorem dX8_known_25 : decode cX8_known 25 = .ok (.getfield 12, 3) := by decide +kernel
theorem dX8_known_28 : decode cX8_known 28 = .ok (.getfield 79, 3) := by decide +kernel
theorem dX8_known_31 : decode cX8_known 31 = .ok (.iload_n 1, 1) := by decide +kernel
theorem dX8_known_32 : decode cX8_known 32 = .ok (.aaload, 1) := by decide +kernel
theorem dX8_known_33 : decode cX8_known 33 = .ok (.iload_n 2, 1) := by decide +kernel
theorem dX8_known_34 : decode cX8_known 34 = .ok (.iaload, 1) := by decide +kernel
theorem dX8_known_35 : decode cX8_known 35 = .ok (.ireturn, 1) := by decide +kernel
theorem dX8_stand_0 : decode cX8_stand 0 = .ok (.iload_n 1, 1) := by decide +kernel
theorem dX8_stand_1 : decode cX8_stand 1 = .ok (.bipush 6, 2) := by decide +kernel
theorem dX8_stand_3 : decode cX8_stand 3 = .ok (.invokestatic 58, 3) := by decide +kernel
theorem dX8_stand_6 : decode cX8_stand 6 = .ok (.ifCond .eq 15, 3) := by decide +kernel
theorem dX8_stand_9 : decode cX8_stand 9 = .ok (.iload_n 2, 1) := by decide +kernel
theorem dX8_stand_10 : decode cX8_stand 10 = .ok (.iconst 3, 1) := by decide +kernel
theorem dX8_stand_11 : decode cX8_stand 11 = .ok (.invokestatic 58, 3) := by decide +kernel
theorem dX8_stand_14 : decode cX8_stand 14 = .ok (.ifCond .eq 7, 3) := by decide +kernel
theorem dX8_stand_17 : decode cX8_stand 17 = .ok (.iconst 1, 1) := by decide +kernel
theorem dX8_stand_18 : decode cX8_stand 18 = .ok (.goto 4, 3) := by decide +kernel
theorem dX8_stand_21 : decode cX8_stand 21 = .ok (.iconst 0, 1) := by decide +kernel
theorem dX8_stand_22 : decode cX8_stand 22 = .ok (.invokestatic 62, 3) := by decide +kernel
theorem dX8_stand_25 : decode cX8_stand 25 = .ok (.aload_n 0, 1) := by decide +kernel
theorem dX8_stand_26 : decode cX8_stand 26 = .ok (.getfield 51, 3) := by decide +kernel
theorem dX8_stand_29 : decode cX8_stand 29 = .ok (.iload_n 1, 1) := by decide +kernel
theorem dX8_stand_30 : decode cX8_stand 30 = .ok (.iload_n 2, 1) := by decide +kernel
theorem dX8_stand_31 : decode cX8_stand 31 = .ok (.iastore, 1) := by decide +kernel
theorem dX8_stand_32 : decode cX8_stand 32 = .ok (.return_, 1) := by decide +kernel
theorem dX8_holder_0 : decode cX8_holder 0 = .ok (.iload_n 1, 1) := by decide +kernel
theorem dX8_holder_1 : decode cX8_holder 1 = .ok (.iconst 5, 1) := by decide +kernel
theorem dX8_holder_2 : decode cX8_holder 2 = .ok (.invokestatic 58, 3) := by decide +kernel
theorem dX8_holder_5 : decode cX8_holder 5 = .ok (.ifCond .eq 24, 3) := by decide +kernel
theorem dX8_holder_8 : decode cX8_holder 8 = .ok (.iload_n 2, 1) := by decide +kernel
theorem dX8_holder_9 : decode cX8_holder 9 = .ok (.bipush 6, 2) := by decide +kernel
theorem dX8_holder_11 : decode cX8_holder 11 = .ok (.invokestatic 58, 3) := by decide +kernel
theorem dX8_holder_14 : decode cX8_holder 14 = .ok (.ifCond .eq 15, 3) := by decide +kernel
theorem dX8_holder_17 : decode cX8_holder 17 = .ok (.iload_n 3, 1) := by decide +kernel
theorem dX8_holder_18 : decode cX8_holder 18 = .ok (.iconst 2, 1) := by decide +kernel
theorem dX8_holder_19 : decode cX8_holder 19 = .ok (.invokestatic 58, 3) := by decide +kernel
theorem dX8_holder_22 : decode cX8_holder 22 = .ok (.ifCond .eq 7, 3) := by decide +kernel
theorem dX8_holder_25 : decode cX8_holder 25 = .ok (.iconst 1, 1) := by decide +kernel
theorem dX8_holder_26 : decode cX8_holder 26 = .ok (.goto 4, 3) := by decide +kernel
theorem dX8_holder_29 : decode cX8_holder 29 = .ok (.iconst 0, 1) := by decide +kernel
theorem dX8_holder_30 : decode cX8_holder 30 = .ok (.invokestatic 62, 3) := by decide +kernel
theorem dX8_holder_33 : decode cX8_holder 33 = .ok (.iload_n 3, 1) := by decide +kernel
theorem dX8_holder_34 : decode cX8_holder 34 = .ok (.ifCond .ne 21, 3) := by decide +kernel
theorem dX8_holder_37 : decode cX8_holder 37 = .ok (.aload_n 0, 1) := by decide +kernel
theorem dX8_holder_38 : decode cX8_holder 38 = .ok (.getfield 19, 3) := by decide +kernel
theorem dX8_holder_41 : decode cX8_holder 41 = .ok (.iload_n 2, 1) := by decide +kernel
theorem dX8_holder_42 : decode cX8_holder 42 = .ok (.aload_n 0, 1) := by decide +kernel
theorem dX8_holder_43 : decode cX8_holder 43 = .ok (.getfield 12, 3) := by decide +kernel
theorem dX8_holder_46 : decode cX8_holder 46 = .ok (.getfield 79, 3) := by decide +kernel
theorem dX8_holder_49 : decode cX8_holder 49 = .ok (.iload_n 1, 1) := by decide +kernel
theorem dX8_holder_50 : decode cX8_holder 50 = .ok (.aaload, 1) := by decide +kernel
theorem dX8_holder_51 : decode cX8_holder 51 = .ok (.invokevirtual 83, 3) := by decide +kernel
theorem dX8_holder_54 : decode cX8_holder 54 = .ok (.ireturn, 1) := by decide +kernel
theorem dX8_holder_55 : decode cX8_holder 55 = .ok (.aload_n 0, 1) := by decide +kernel
theorem dX8_holder_56 : decode cX8_holder 56 = .ok (.getfield 19, 3) := by decide +kernel
theorem dX8_holder_59 : decode cX8_holder 59 = .ok (.iload_n 2, 1) := by decide +kernel
theorem dX8_holder_60 : decode cX8_holder 60 = .ok (.aload_n 0, 1) := by decide +kernel
theorem dX8_holder_61 : decode cX8_holder 61 = .ok (.getfield 12, 3) := by decide +kernel
theorem dX8_holder_64 : decode cX8_holder 64 = .ok (.getfield 79, 3) := by decide +kernel
theorem dX8_holder_67 : decode cX8_holder 67 = .ok (.iload_n 1, 1) := by decide +kernel
theorem dX8_holder_68 : decode cX8_holder 68 = .ok (.aaload, 1) := by decide +kernel
theorem dX8_holder_69 : decode cX8_holder 69 = .ok (.invokevirtual 158, 3) := by decide +kernel
theorem dX8_holder_72 : decode cX8_holder 72 = .ok (.ireturn, 1) := by decide +kernel
theorem dX8_lend_0 : decode cX8_lend 0 = .ok (.iload_n 1, 1) := by decide +kernel
theorem dX8_lend_1 : decode cX8_lend 1 = .ok (.bipush 6, 2) := by decide +kernel
theorem dX8_lend_3 : decode cX8_lend 3 = .ok (.invokestatic 58, 3) := by decide +kernel
theorem dX8_lend_6 : decode cX8_lend 6 = .ok (.ifCond .eq 14, 3) := by decide +kernel
theorem dX8_lend_9 : decode cX8_lend 9 = .ok (.iload_n 2, 1) := by decide +kernel
theorem dX8_lend_10 : decode cX8_lend 10 = .ok (.invokestatic 75, 3) := by decide +kernel
theorem dX8_lend_13 : decode cX8_lend 13 = .ok (.ifCond .eq 7, 3) := by decide +kernel
theorem dX8_lend_16 : decode cX8_lend 16 = .ok (.iconst 1, 1) := by decide +kernel
theorem dX8_lend_17 : decode cX8_lend 17 = .ok (.goto 4, 3) := by decide +kernel
theorem dX8_lend_20 : decode cX8_lend 20 = .ok (.iconst 0, 1) := by decide +kernel
theorem dX8_lend_21 : decode cX8_lend 21 = .ok (.invokestatic 62, 3) := by decide +kernel
theorem dX8_lend_24 : decode cX8_lend 24 = .ok (.aload_n 0, 1) := by decide +kernel
theorem dX8_lend_25 : decode cX8_lend 25 = .ok (.getfield 19, 3) := by decide +kernel
theorem dX8_lend_28 : decode cX8_lend 28 = .ok (.iload_n 1, 1) := by decide +kernel
theorem dX8_lend_29 : decode cX8_lend 29 = .ok (.aload_n 0, 1) := by decide +kernel
theorem dX8_lend_30 : decode cX8_lend 30 = .ok (.getfield 12, 3) := by decide +kernel
theorem dX8_lend_33 : decode cX8_lend 33 = .ok (.getfield 79, 3) := by decide +kernel
theorem dX8_lend_36 : decode cX8_lend 36 = .ok (.iconst 0, 1) := by decide +kernel
theorem dX8_lend_37 : decode cX8_lend 37 = .ok (.aaload, 1) := by decide +kernel
theorem dX8_lend_38 : decode cX8_lend 38 = .ok (.invokevirtual 83, 3) := by decide +kernel
theorem dX8_lend_41 : decode cX8_lend 41 = .ok (.iconst (-1), 1) := by decide +kernel
theorem dX8_lend_42 : decode cX8_lend 42 = .ok (.if_icmp .ne 7, 3) := by decide +kernel
theorem dX8_lend_45 : decode cX8_lend 45 = .ok (.iconst 1, 1) := by decide +kernel
theorem dX8_lend_46 : decode cX8_lend 46 = .ok (.goto 4, 3) := by decide +kernel
theorem dX8_lend_49 : decode cX8_lend 49 = .ok (.iconst 0, 1) := by decide +kernel
theorem dX8_lend_50 : decode cX8_lend 50 = .ok (.invokestatic 87, 3) := by decide +kernel
theorem dX8_lend_53 : decode cX8_lend 53 = .ok (.aload_n 0, 1) := by decide +kernel
theorem dX8_lend_54 : decode cX8_lend 54 = .ok (.getfield 12, 3) := by decide +kernel
theorem dX8_lend_57 : decode cX8_lend 57 = .ok (.iconst 0, 1) := by decide +kernel
theorem dX8_lend_58 : decode cX8_lend 58 = .ok (.invokevirtual 90, 3) := by decide +kernel
theorem dX8_lend_61 : decode cX8_lend 61 = .ok (.invokestatic 87, 3) := by decide +kernel
theorem dX8_lend_64 : decode cX8_lend 64 = .ok (.aload_n 0, 1) := by decide +kernel
theorem dX8_lend_65 : decode cX8_lend 65 = .ok (.getfield 19, 3) := by decide +kernel
theorem dX8_lend_68 : decode cX8_lend 68 = .ok (.iload_n 1, 1) := by decide +kernel
theorem dX8_lend_69 : decode cX8_lend 69 = .ok (.iload_n 2, 1) := by decide +kernel
theorem dX8_lend_70 : decode cX8_lend 70 = .ok (.aload_n 0, 1) := by decide +kernel
theorem dX8_lend_71 : decode cX8_lend 71 = .ok (.getfield 12, 3) := by decide +kernel
theorem dX8_lend_74 : decode cX8_lend 74 = .ok (.iconst 0, 1) := by decide +kernel
theorem dX8_lend_75 : decode cX8_lend 75 = .ok (.invokevirtual 93, 3) := by decide +kernel
theorem dX8_lend_78 : decode cX8_lend 78 = .ok (.invokevirtual 97, 3) := by decide +kernel
theorem dX8_lend_81 : decode cX8_lend 81 = .ok (.ireturn, 1) := by decide +kernel
theorem dX8_giveBack_0 : decode cX8_giveBack 0 = .ok (.iload_n 1, 1) := by decide +kernel
theorem dX8_giveBack_1 : decode cX8_giveBack 1 = .ok (.invokestatic 75, 3) := by decide +kernel
theorem dX8_giveBack_4 : decode cX8_giveBack 4 = .ok (.ifCond .eq 16, 3) := by decide +kernel
theorem dX8_giveBack_7 : decode cX8_giveBack 7 = .ok (.iload_n 2, 1) := by decide +kernel
theorem dX8_giveBack_8 : decode cX8_giveBack 8 = .ok (.bipush 6, 2) := by decide +kernel
theorem dX8_giveBack_10 : decode cX8_giveBack 10 = .ok (.invokestatic 58, 3) := by decide +kernel
theorem dX8_giveBack_13 : decode cX8_giveBack 13 = .ok (.ifCond .eq 7, 3) := by decide +kernel
theorem dX8_giveBack_16 : decode cX8_giveBack 16 = .ok (.iconst 1, 1) := by decide +kernel
theorem dX8_giveBack_17 : decode cX8_giveBack 17 = .ok (.goto 4, 3) := by decide +kernel
theorem dX8_giveBack_20 : decode cX8_giveBack 20 = .ok (.iconst 0, 1) := by decide +kernel
theorem dX8_giveBack_21 : decode cX8_giveBack 21 = .ok (.invokestatic 62, 3) := by decide +kernel
theorem dX8_giveBack_24 : decode cX8_giveBack 24 = .ok (.aload_n 0, 1) := by decide +kernel
theorem dX8_giveBack_25 : decode cX8_giveBack 25 = .ok (.getfield 19, 3) := by decide +kernel
theorem dX8_giveBack_28 : decode cX8_giveBack 28 = .ok (.iload_n 2, 1) := by decide +kernel
theorem dX8_giveBack_29 : decode cX8_giveBack 29 = .ok (.aload_n 0, 1) := by decide +kernel
theorem dX8_giveBack_30 : decode cX8_giveBack 30 = .ok (.getfield 12, 3) := by decide +kernel
theorem dX8_giveBack_33 : decode cX8_giveBack 33 = .ok (.getfield 79, 3) := by decide +kernel
theorem dX8_giveBack_36 : decode cX8_giveBack 36 = .ok (.iload_n 1, 1) := by decide +kernel
theorem dX8_giveBack_37 : decode cX8_giveBack 37 = .ok (.aaload, 1) := by decide +kernel
theorem dX8_giveBack_38 : decode cX8_giveBack 38 = .ok (.invokevirtual 101, 3) := by decide +kernel
theorem dX8_giveBack_41 : decode cX8_giveBack 41 = .ok (.astore_n 3, 1) := by decide +kernel
theorem dX8_giveBack_42 : decode cX8_giveBack 42 = .ok (.aload_n 0, 1) := by decide +kernel
theorem dX8_giveBack_43 : decode cX8_giveBack 43 = .ok (.getfield 19, 3) := by decide +kernel
theorem dX8_giveBack_46 : decode cX8_giveBack 46 = .ok (.iload_n 2, 1) := by decide +kernel
theorem dX8_giveBack_47 : decode cX8_giveBack 47 = .ok (.aload_n 0, 1) := by decide +kernel
theorem dX8_giveBack_48 : decode cX8_giveBack 48 = .ok (.getfield 12, 3) := by decide +kernel
theorem dX8_giveBack_51 : decode cX8_giveBack 51 = .ok (.getfield 79, 3) := by decide +kernel
theorem dX8_giveBack_54 : decode cX8_giveBack 54 = .ok (.iload_n 1, 1) := by decide +kernel
theorem dX8_giveBack_55 : decode cX8_giveBack 55 = .ok (.aaload, 1) := by decide +kernel
theorem dX8_giveBack_56 : decode cX8_giveBack 56 = .ok (.invokevirtual 83, 3) := by decide +kernel
theorem dX8_giveBack_59 : decode cX8_giveBack 59 = .ok (.iload_n 1, 1) := by decide +kernel
theorem dX8_giveBack_60 : decode cX8_giveBack 60 = .ok (.if_icmp .ne 7, 3) := by decide +kernel
theorem dX8_giveBack_63 : decode cX8_giveBack 63 = .ok (.iconst 1, 1) := by decide +kernel
theorem dX8_giveBack_64 : decode cX8_giveBack 64 = .ok (.goto 4, 3) := by decide +kernel
theorem dX8_giveBack_67 : decode cX8_giveBack 67 = .ok (.iconst 0, 1) := by decide +kernel
theorem dX8_giveBack_68 : decode cX8_giveBack 68 = .ok (.invokestatic 87, 3) := by decide +kernel
theorem dX8_giveBack_71 : decode cX8_giveBack 71 = .ok (.aload_n 0, 1) := by decide +kernel
theorem dX8_giveBack_72 : decode cX8_giveBack 72 = .ok (.getfield 12, 3) := by decide +kernel
theorem dX8_giveBack_75 : decode cX8_giveBack 75 = .ok (.iload_n 1, 1) := by decide +kernel
theorem dX8_giveBack_76 : decode cX8_giveBack 76 = .ok (.invokevirtual 90, 3) := by decide +kernel
theorem dX8_giveBack_79 : decode cX8_giveBack 79 = .ok (.invokestatic 87, 3) := by decide +kernel
theorem dX8_giveBack_82 : decode cX8_giveBack 82 = .ok (.aload_n 0, 1) := by decide +kernel
theorem dX8_giveBack_83 : decode cX8_giveBack 83 = .ok (.getfield 12, 3) := by decide +kernel
theorem dX8_giveBack_86 : decode cX8_giveBack 86 = .ok (.iload_n 1, 1) := by decide +kernel
theorem dX8_giveBack_87 : decode cX8_giveBack 87 = .ok (.invokevirtual 93, 3) := by decide +kernel
theorem dX8_giveBack_90 : decode cX8_giveBack 90 = .ok (.istore 4, 2) := by decide +kernel
theorem dX8_giveBack_92 : decode cX8_giveBack 92 = .ok (.aload_n 3, 1) := by decide +kernel
theorem dX8_giveBack_93 : decode cX8_giveBack 93 = .ok (.ifnull 9, 3) := by decide +kernel
theorem dX8_giveBack_96 : decode cX8_giveBack 96 = .ok (.aload_n 3, 1) := by decide +kernel
theorem dX8_giveBack_97 : decode cX8_giveBack 97 = .ok (.iload 4, 2) := by decide +kernel
theorem dX8_giveBack_99 : decode cX8_giveBack 99 = .ok (.putfield 105, 3) := by decide +kernel
theorem dX8_giveBack_102 : decode cX8_giveBack 102 = .ok (.iload 4, 2) := by decide +kernel
theorem dX8_giveBack_104 : decode cX8_giveBack 104 = .ok (.ireturn, 1) := by decide +kernel
theorem dX8_enter_0 : decode cX8_enter 0 = .ok (.iload_n 1, 1) := by decide +kernel
theorem dX8_enter_1 : decode cX8_enter 1 = .ok (.iconst 5, 1) := by decide +kernel
theorem dX8_enter_2 : decode cX8_enter 2 = .ok (.invokestatic 58, 3) := by decide +kernel
theorem dX8_enter_5 : decode cX8_enter 5 = .ok (.ifCond .eq 17, 3) := by decide +kernel
theorem dX8_enter_8 : decode cX8_enter 8 = .ok (.iload_n 2, 1) := by decide +kernel
theorem dX8_enter_9 : decode cX8_enter 9 = .ok (.iload_n 3, 1) := by decide +kernel
theorem dX8_enter_10 : decode cX8_enter 10 = .ok (.iload 4, 2) := by decide +kernel
theorem dX8_enter_12 : decode cX8_enter 12 = .ok (.invokestatic 111, 3) := by decide +kernel
theorem dX8_enter_15 : decode cX8_enter 15 = .ok (.ifCond .eq 7, 3) := by decide +kernel
theorem dX8_enter_18 : decode cX8_enter 18 = .ok (.iconst 1, 1) := by decide +kernel
theorem dX8_enter_19 : decode cX8_enter 19 = .ok (.goto 4, 3) := by decide +kernel
theorem dX8_enter_22 : decode cX8_enter 22 = .ok (.iconst 0, 1) := by decide +kernel
theorem dX8_enter_23 : decode cX8_enter 23 = .ok (.invokestatic 62, 3) := by decide +kernel
theorem dX8_enter_26 : decode cX8_enter 26 = .ok (.iload 4, 2) := by decide +kernel
theorem dX8_enter_28 : decode cX8_enter 28 = .ok (.iload 5, 2) := by decide +kernel
theorem dX8_enter_30 : decode cX8_enter 30 = .ok (.invokestatic 115, 3) := by decide +kernel
theorem dX8_enter_33 : decode cX8_enter 33 = .ok (.invokestatic 62, 3) := by decide +kernel
theorem dX8_enter_36 : decode cX8_enter 36 = .ok (.aload_n 0, 1) := by decide +kernel
theorem dX8_enter_37 : decode cX8_enter 37 = .ok (.getfield 12, 3) := by decide +kernel
theorem dX8_enter_40 : decode cX8_enter 40 = .ok (.iload_n 1, 1) := by decide +kernel
theorem dX8_enter_41 : decode cX8_enter 41 = .ok (.invokevirtual 90, 3) := by decide +kernel
theorem dX8_enter_44 : decode cX8_enter 44 = .ok (.invokestatic 87, 3) := by decide +kernel
theorem dX8_enter_47 : decode cX8_enter 47 = .ok (.aload_n 0, 1) := by decide +kernel
theorem dX8_enter_48 : decode cX8_enter 48 = .ok (.iload_n 1, 1) := by decide +kernel
theorem dX8_enter_49 : decode cX8_enter 49 = .ok (.iload_n 2, 1) := by decide +kernel
theorem dX8_enter_50 : decode cX8_enter 50 = .ok (.iload_n 3, 1) := by decide +kernel
theorem dX8_enter_51 : decode cX8_enter 51 = .ok (.iload 4, 2) := by decide +kernel
theorem dX8_enter_53 : decode cX8_enter 53 = .ok (.invokestatic 118, 3) := by decide +kernel
theorem dX8_enter_56 : decode cX8_enter 56 = .ok (.iload 5, 2) := by decide +kernel
theorem dX8_enter_58 : decode cX8_enter 58 = .ok (.aload_n 0, 1) := by decide +kernel
theorem dX8_enter_59 : decode cX8_enter 59 = .ok (.iload_n 1, 1) := by decide +kernel
theorem dX8_enter_60 : decode cX8_enter 60 = .ok (.iload_n 2, 1) := by decide +kernel
theorem dX8_enter_61 : decode cX8_enter 61 = .ok (.invokevirtual 121, 3) := by decide +kernel
theorem dX8_enter_64 : decode cX8_enter 64 = .ok (.invokevirtual 125, 3) := by decide +kernel
theorem dX8_enter_67 : decode cX8_enter 67 = .ok (.ireturn, 1) := by decide +kernel
theorem dX8_species_0 : decode cX8_species 0 = .ok (.iload_n 1, 1) := by decide +kernel
theorem dX8_species_1 : decode cX8_species 1 = .ok (.iconst 4, 1) := by decide +kernel
theorem dX8_species_2 : decode cX8_species 2 = .ok (.invokestatic 58, 3) := by decide +kernel
theorem dX8_species_5 : decode cX8_species 5 = .ok (.invokestatic 62, 3) := by decide +kernel
theorem dX8_species_8 : decode cX8_species 8 = .ok (.iload_n 2, 1) := by decide +kernel
theorem dX8_species_9 : decode cX8_species 9 = .ok (.iconst 1, 1) := by decide +kernel
theorem dX8_species_10 : decode cX8_species 10 = .ok (.if_icmp .lt 13, 3) := by decide +kernel
theorem dX8_species_13 : decode cX8_species 13 = .ok (.iload_n 2, 1) := by decide +kernel
theorem dX8_species_14 : decode cX8_species 14 = .ok (.bipush 100, 2) := by decide +kernel
theorem dX8_species_16 : decode cX8_species 16 = .ok (.if_icmp .gt 7, 3) := by decide +kernel
theorem dX8_species_19 : decode cX8_species 19 = .ok (.iconst 1, 1) := by decide +kernel
theorem dX8_species_20 : decode cX8_species 20 = .ok (.goto 4, 3) := by decide +kernel
theorem dX8_species_23 : decode cX8_species 23 = .ok (.iconst 0, 1) := by decide +kernel
theorem dX8_species_24 : decode cX8_species 24 = .ok (.invokestatic 62, 3) := by decide +kernel
theorem dX8_species_27 : decode cX8_species 27 = .ok (.iconst 0, 1) := by decide +kernel
theorem dX8_species_28 : decode cX8_species 28 = .ok (.iload_n 3, 1) := by decide +kernel
theorem dX8_species_29 : decode cX8_species 29 = .ok (.if_icmp .gt 21, 3) := by decide +kernel
theorem dX8_species_32 : decode cX8_species 32 = .ok (.iload_n 3, 1) := by decide +kernel
theorem dX8_species_33 : decode cX8_species 33 = .ok (.iload 4, 2) := by decide +kernel
theorem dX8_species_35 : decode cX8_species 35 = .ok (.if_icmp .gt 15, 3) := by decide +kernel
theorem dX8_species_38 : decode cX8_species 38 = .ok (.iload 4, 2) := by decide +kernel
theorem dX8_species_40 : decode cX8_species 40 = .ok (.sipush 1000, 3) := by decide +kernel
theorem dX8_species_43 : decode cX8_species 43 = .ok (.if_icmp .gt 7, 3) := by decide +kernel
theorem dX8_species_46 : decode cX8_species 46 = .ok (.iconst 1, 1) := by decide +kernel
theorem dX8_species_47 : decode cX8_species 47 = .ok (.goto 4, 3) := by decide +kernel
theorem dX8_species_50 : decode cX8_species 50 = .ok (.iconst 0, 1) := by decide +kernel
theorem dX8_species_51 : decode cX8_species 51 = .ok (.invokestatic 62, 3) := by decide +kernel
theorem dX8_species_54 : decode cX8_species 54 = .ok (.aload_n 0, 1) := by decide +kernel
theorem dX8_species_55 : decode cX8_species 55 = .ok (.getfield 33, 3) := by decide +kernel
theorem dX8_species_58 : decode cX8_species 58 = .ok (.getfield 66, 3) := by decide +kernel
theorem dX8_species_61 : decode cX8_species 61 = .ok (.iload_n 1, 1) := by decide +kernel
theorem dX8_species_62 : decode cX8_species 62 = .ok (.iload_n 2, 1) := by decide +kernel
theorem dX8_species_63 : decode cX8_species 63 = .ok (.iastore, 1) := by decide +kernel
theorem dX8_species_64 : decode cX8_species 64 = .ok (.aload_n 0, 1) := by decide +kernel
theorem dX8_species_65 : decode cX8_species 65 = .ok (.getfield 33, 3) := by decide +kernel
theorem dX8_species_68 : decode cX8_species 68 = .ok (.getfield 69, 3) := by decide +kernel
theorem dX8_species_71 : decode cX8_species 71 = .ok (.iload_n 1, 1) := by decide +kernel
theorem dX8_species_72 : decode cX8_species 72 = .ok (.iload_n 3, 1) := by decide +kernel
theorem dX8_species_73 : decode cX8_species 73 = .ok (.iastore, 1) := by decide +kernel
theorem dX8_species_74 : decode cX8_species 74 = .ok (.aload_n 0, 1) := by decide +kernel
theorem dX8_species_75 : decode cX8_species 75 = .ok (.getfield 33, 3) := by decide +kernel
theorem dX8_species_78 : decode cX8_species 78 = .ok (.getfield 72, 3) := by decide +kernel
theorem dX8_species_81 : decode cX8_species 81 = .ok (.iload_n 1, 1) := by decide +kernel
theorem dX8_species_82 : decode cX8_species 82 = .ok (.iload 4, 2) := by decide +kernel
theorem dX8_species_84 : decode cX8_species 84 = .ok (.iastore, 1) := by decide +kernel
theorem dX8_species_85 : decode cX8_species 85 = .ok (.return_, 1) := by decide +kernel
