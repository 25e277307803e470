theorem tg_18 : (Cond.initialized "java/util/NoSuchElementException") ∈ lw_g := lw_gi (List.mem_of_getElem? (i := 18) (by decide +kernel)) rfl
theorem tg_39 : (Cond.fieldLink "ForestTablets" (142 : Nat) "ForestTablets$Crew" "first" "I") ∈ lw_g := lw_gi (List.mem_of_getElem? (i := 39) (by decide +kernel)) rfl
theorem tg_41 : (Cond.fieldLink "ForestTablets" (145 : Nat) "ForestTablets$Crew" "second" "I") ∈ lw_g := lw_gi (List.mem_of_getElem? (i := 41) (by decide +kernel)) rfl
theorem tg_118 : (Cond.fieldLink "ForestTablets" (181 : Nat) "ForestTablets$PlotSums" "volume" "J") ∈ lw_g := lw_gi (List.mem_of_getElem? (i := 118) (by decide +kernel)) rfl
theorem tg_120 : (Cond.fieldLink "ForestTablets" (185 : Nat) "ForestTablets$PlotSums" "squares" "J") ∈ lw_g := lw_gi (List.mem_of_getElem? (i := 120) (by decide +kernel)) rfl
theorem tg_125 : (Cond.fieldLink "ForestTablets" (191 : Nat) "ForestTablets$PlotSums" "implausible" "I") ∈ lw_g := lw_gi (List.mem_of_getElem? (i := 125) (by decide +kernel)) rfl
theorem tg_142 : (Cond.fieldLink "ForestTablets" (197 : Nat) "ForestTablets$StandSums" "volume" "J") ∈ lw_g := lw_gi (List.mem_of_getElem? (i := 142) (by decide +kernel)) rfl
theorem tg_145 : (Cond.fieldLink "ForestTablets" (202 : Nat) "ForestTablets$StandSums" "missing" "I") ∈ lw_g := lw_gi (List.mem_of_getElem? (i := 145) (by decide +kernel)) rfl
theorem tg_147 : (Cond.fieldLink "ForestTablets" (203 : Nat) "ForestTablets$StandSums" "plots" "I") ∈ lw_g := lw_gi (List.mem_of_getElem? (i := 147) (by decide +kernel)) rfl
theorem tg_437 : (Cond.methodLink "ForestTablets" (129 : Nat) ({ cls := "ForestTablets", name := "spotInConflict", desc := "(II)I" } : Jvm.MethodName)) ∈ lw_g := lw_gi (List.mem_of_getElem? (i := 437) (by decide +kernel)) rfl
theorem tg_439 : (Cond.instanceMethod ({ cls := "ForestTablets", name := "spotInConflict", desc := "(II)I" } : Jvm.MethodName)) ∈ lw_g := lw_gi (List.mem_of_getElem? (i := 439) (by decide +kernel)) rfl
theorem tg_440 : (Cond.code ({ cls := "ForestTablets", name := "spotInConflict", desc := "(II)I" } : Jvm.MethodName) prog_1_method_28_code (5 : Nat) (Option.some FieldType.int)) ∈ lw_g := lw_gi (List.mem_of_getElem? (i := 440) (by decide +kernel)) rfl
theorem tg_468 : (Cond.classLink "ForestTablets" (132 : Nat) "java/util/NoSuchElementException") ∈ lw_g := lw_gi (List.mem_of_getElem? (i := 468) (by decide +kernel)) rfl
theorem tg_483 : (Cond.methodLink "ForestTablets" (135 : Nat) ({ cls := "ForestTablets$Notebook", name := "greatestRank", desc := "(I[I)I" } : Jvm.MethodName)) ∈ lw_g := lw_gi (List.mem_of_getElem? (i := 483) (by decide +kernel)) rfl
theorem tg_484 : (Cond.instanceMethod ({ cls := "ForestTablets$Notebook", name := "greatestRank", desc := "(I[I)I" } : Jvm.MethodName)) ∈ lw_g := lw_gi (List.mem_of_getElem? (i := 484) (by decide +kernel)) rfl
theorem tg_485 : (Cond.selects "ForestTablets$Notebook" ({ cls := "ForestTablets$Notebook", name := "greatestRank", desc := "(I[I)I" } : Jvm.MethodName) ({ cls := "ForestTablets$Notebook", name := "greatestRank", desc := "(I[I)I" } : Jvm.MethodName)) ∈ lw_g := lw_gi (List.mem_of_getElem? (i := 485) (by decide +kernel)) rfl
theorem tg_486 : (Cond.code ({ cls := "ForestTablets$Notebook", name := "greatestRank", desc := "(I[I)I" } : Jvm.MethodName) prog_6_method_3_code (6 : Nat) (Option.some FieldType.int)) ∈ lw_g := lw_gi (List.mem_of_getElem? (i := 486) (by decide +kernel)) rfl
theorem tg_494 : (Cond.methodLink "ForestTablets" (138 : Nat) ({ cls := "ForestTablets$Crew", name := "isMeeting", desc := "()Z" } : Jvm.MethodName)) ∈ lw_g := lw_gi (List.mem_of_getElem? (i := 494) (by decide +kernel)) rfl
theorem tg_495 : (Cond.instanceMethod ({ cls := "ForestTablets$Crew", name := "isMeeting", desc := "()Z" } : Jvm.MethodName)) ∈ lw_g := lw_gi (List.mem_of_getElem? (i := 495) (by decide +kernel)) rfl
theorem tg_496 : (Cond.selects "ForestTablets$Crew" ({ cls := "ForestTablets$Crew", name := "isMeeting", desc := "()Z" } : Jvm.MethodName) ({ cls := "ForestTablets$Crew", name := "isMeeting", desc := "()Z" } : Jvm.MethodName)) ∈ lw_g := lw_gi (List.mem_of_getElem? (i := 496) (by decide +kernel)) rfl
theorem tg_497 : (Cond.code ({ cls := "ForestTablets$Crew", name := "isMeeting", desc := "()Z" } : Jvm.MethodName) prog_2_method_2_code (1 : Nat) (Option.some FieldType.boolean)) ∈ lw_g := lw_gi (List.mem_of_getElem? (i := 497) (by decide +kernel)) rfl
theorem tg_505 : (Cond.methodLink "ForestTablets" (148 : Nat) ({ cls := "ForestTablets$Crew", name := "carry", desc := "(II)Z" } : Jvm.MethodName)) ∈ lw_g := lw_gi (List.mem_of_getElem? (i := 505) (by decide +kernel)) rfl
theorem tg_506 : (Cond.instanceMethod ({ cls := "ForestTablets$Crew", name := "carry", desc := "(II)Z" } : Jvm.MethodName)) ∈ lw_g := lw_gi (List.mem_of_getElem? (i := 506) (by decide +kernel)) rfl
theorem tg_507 : (Cond.selects "ForestTablets$Crew" ({ cls := "ForestTablets$Crew", name := "carry", desc := "(II)Z" } : Jvm.MethodName) ({ cls := "ForestTablets$Crew", name := "carry", desc := "(II)Z" } : Jvm.MethodName)) ∈ lw_g := lw_gi (List.mem_of_getElem? (i := 507) (by decide +kernel)) rfl
theorem tg_508 : (Cond.code ({ cls := "ForestTablets$Crew", name := "carry", desc := "(II)Z" } : Jvm.MethodName) prog_2_method_5_code (4 : Nat) (Option.some FieldType.boolean)) ∈ lw_g := lw_gi (List.mem_of_getElem? (i := 508) (by decide +kernel)) rfl
theorem tg_516 : (Cond.methodLink "ForestTablets" (151 : Nat) ({ cls := "ForestTablets$Crew", name := "endMeeting", desc := "()V" } : Jvm.MethodName)) ∈ lw_g := lw_gi (List.mem_of_getElem? (i := 516) (by decide +kernel)) rfl
theorem tg_517 : (Cond.instanceMethod ({ cls := "ForestTablets$Crew", name := "endMeeting", desc := "()V" } : Jvm.MethodName)) ∈ lw_g := lw_gi (List.mem_of_getElem? (i := 517) (by decide +kernel)) rfl
theorem tg_518 : (Cond.selects "ForestTablets$Crew" ({ cls := "ForestTablets$Crew", name := "endMeeting", desc := "()V" } : Jvm.MethodName) ({ cls := "ForestTablets$Crew", name := "endMeeting", desc := "()V" } : Jvm.MethodName)) ∈ lw_g := lw_gi (List.mem_of_getElem? (i := 518) (by decide +kernel)) rfl
theorem tg_519 : (Cond.code ({ cls := "ForestTablets$Crew", name := "endMeeting", desc := "()V" } : Jvm.MethodName) prog_2_method_6_code (1 : Nat) (Option.none : Option FieldType)) ∈ lw_g := lw_gi (List.mem_of_getElem? (i := 519) (by decide +kernel)) rfl
theorem tg_527 : (Cond.methodLink "ForestTablets" (154 : Nat) ({ cls := "ForestTablets$Crew", name := "forget", desc := "(I)V" } : Jvm.MethodName)) ∈ lw_g := lw_gi (List.mem_of_getElem? (i := 527) (by decide +kernel)) rfl
theorem tg_528 : (Cond.instanceMethod ({ cls := "ForestTablets$Crew", name := "forget", desc := "(I)V" } : Jvm.MethodName)) ∈ lw_g := lw_gi (List.mem_of_getElem? (i := 528) (by decide +kernel)) rfl
theorem tg_529 : (Cond.selects "ForestTablets$Crew" ({ cls := "ForestTablets$Crew", name := "forget", desc := "(I)V" } : Jvm.MethodName) ({ cls := "ForestTablets$Crew", name := "forget", desc := "(I)V" } : Jvm.MethodName)) ∈ lw_g := lw_gi (List.mem_of_getElem? (i := 529) (by decide +kernel)) rfl
theorem tg_530 : (Cond.code ({ cls := "ForestTablets$Crew", name := "forget", desc := "(I)V" } : Jvm.MethodName) prog_2_method_8_code (2 : Nat) (Option.none : Option FieldType)) ∈ lw_g := lw_gi (List.mem_of_getElem? (i := 530) (by decide +kernel)) rfl
theorem tg_563 : (Cond.methodLink "ForestTablets" (174 : Nat) ({ cls := "ForestTablets$Notebook", name := "codeAt", desc := "(I)I" } : Jvm.MethodName)) ∈ lw_g := lw_gi (List.mem_of_getElem? (i := 563) (by decide +kernel)) rfl
theorem tg_564 : (Cond.instanceMethod ({ cls := "ForestTablets$Notebook", name := "codeAt", desc := "(I)I" } : Jvm.MethodName)) ∈ lw_g := lw_gi (List.mem_of_getElem? (i := 564) (by decide +kernel)) rfl
theorem tg_565 : (Cond.selects "ForestTablets$Notebook" ({ cls := "ForestTablets$Notebook", name := "codeAt", desc := "(I)I" } : Jvm.MethodName) ({ cls := "ForestTablets$Notebook", name := "codeAt", desc := "(I)I" } : Jvm.MethodName)) ∈ lw_g := lw_gi (List.mem_of_getElem? (i := 565) (by decide +kernel)) rfl
theorem tg_566 : (Cond.code ({ cls := "ForestTablets$Notebook", name := "codeAt", desc := "(I)I" } : Jvm.MethodName) prog_6_method_7_code (3 : Nat) (Option.some FieldType.int)) ∈ lw_g := lw_gi (List.mem_of_getElem? (i := 566) (by decide +kernel)) rfl
theorem tg_613 : (Cond.methodLink "ForestTablets" (194 : Nat) ({ cls := "ForestTablets", name := "reckonStand", desc := "(II)V" } : Jvm.MethodName)) ∈ lw_g := lw_gi (List.mem_of_getElem? (i := 613) (by decide +kernel)) rfl
theorem tg_615 : (Cond.instanceMethod ({ cls := "ForestTablets", name := "reckonStand", desc := "(II)V" } : Jvm.MethodName)) ∈ lw_g := lw_gi (List.mem_of_getElem? (i := 615) (by decide +kernel)) rfl
theorem tg_616 : (Cond.code ({ cls := "ForestTablets", name := "reckonStand", desc := "(II)V" } : Jvm.MethodName) prog_1_method_29_code (4 : Nat) (Option.none : Option FieldType)) ∈ lw_g := lw_gi (List.mem_of_getElem? (i := 616) (by decide +kernel)) rfl
theorem tg_625 : (Cond.methodLink "ForestTablets" (198 : Nat) ({ cls := "ForestTablets$StandSums", name := "error", desc := "()J" } : Jvm.MethodName)) ∈ lw_g := lw_gi (List.mem_of_getElem? (i := 625) (by decide +kernel)) rfl
theorem tg_626 : (Cond.instanceMethod ({ cls := "ForestTablets$StandSums", name := "error", desc := "()J" } : Jvm.MethodName)) ∈ lw_g := lw_gi (List.mem_of_getElem? (i := 626) (by decide +kernel)) rfl
theorem tg_627 : (Cond.selects "ForestTablets$StandSums" ({ cls := "ForestTablets$StandSums", name := "error", desc := "()J" } : Jvm.MethodName) ({ cls := "ForestTablets$StandSums", name := "error", desc := "()J" } : Jvm.MethodName)) ∈ lw_g := lw_gi (List.mem_of_getElem? (i := 627) (by decide +kernel)) rfl
theorem tg_628 : (Cond.code ({ cls := "ForestTablets$StandSums", name := "error", desc := "()J" } : Jvm.MethodName) prog_8_method_4_code (3 : Nat) (Option.some FieldType.long)) ∈ lw_g := lw_gi (List.mem_of_getElem? (i := 628) (by decide +kernel)) rfl
abbrev cX8_meet : ByteArray := prog_1_method_8_code
def yX8_meet : MethodName := ⟨RX8, "meet", "(II)V"⟩
def wsX8_meet : List Cond := .code yX8_meet cX8_meet 3 none :: lw_g
abbrev cX8_swap : ByteArray := prog_1_method_9_code
def yX8_swap : MethodName := ⟨RX8, "swap", "()Z"⟩
def wsX8_swap : List Cond := .code yX8_swap cX8_swap 1 (some FieldType.boolean) :: lw_g
abbrev cX8_part : ByteArray := prog_1_method_10_code
def yX8_part : MethodName := ⟨RX8, "part", "()V"⟩
def wsX8_part : List Cond := .code yX8_part cX8_part 1 none :: lw_g
abbrev cX8_crash : ByteArray := prog_1_method_11_code
def yX8_crash : MethodName := ⟨RX8, "crash", "(I)V"⟩
def wsX8_crash : List Cond := .code yX8_crash cX8_crash 2 none :: lw_g
abbrev cX8_value : ByteArray := prog_1_method_14_code
def yX8_value : MethodName := ⟨RX8, "value", "(IIII)I"⟩
def wsX8_value : List Cond := .code yX8_value cX8_value 6 (some FieldType.int) :: lw_g
abbrev cX8_candidate : ByteArray := prog_1_method_15_code
def yX8_candidate : MethodName := ⟨RX8, "candidate", "(IIIII)I"⟩
def wsX8_candidate : List Cond := .code yX8_candidate cX8_candidate 6 (some FieldType.int) :: lw_g
abbrev cX8_conflict : ByteArray := prog_1_method_16_code
def yX8_conflict : MethodName := ⟨RX8, "conflict", "(II)I"⟩
def wsX8_conflict : List Cond := .code yX8_conflict cX8_conflict 5 (some FieldType.int) :: lw_g
abbrev cX8_plot : ByteArray := prog_1_method_17_code
def yX8_plot : MethodName := ⟨RX8, "plot", "(III)J"⟩
def wsX8_plot : List Cond := .code yX8_plot cX8_plot 4 (some FieldType.long) :: lw_g
abbrev cX8_total : ByteArray := prog_1_method_18_code
def yX8_total : MethodName := ⟨RX8, "total", "(III)J"⟩
def wsX8_total : List Cond := .code yX8_total cX8_total 4 (some FieldType.long) :: lw_g
abbrev cX8_resolve : ByteArray := prog_1_method_7_code
def yX8_resolve : MethodName := ⟨RX8, "resolve", "(II)I"⟩
def wsX8_resolve : List Cond := .code yX8_resolve cX8_resolve 4 (some FieldType.int) :: lw_g

theorem dX8_meet_0 : decode cX8_meet 0 = .ok (.iload_n 1, 1) := by decide +kernel
theorem dX8_meet_1 : decode cX8_meet 1 = .ok (.iconst 5, 1) := by decide +kernel
theorem dX8_meet_2 : decode cX8_meet 2 = .ok (.invokestatic 58, 3) := by decide +kernel
theorem dX8_meet_5 : decode cX8_meet 5 = .ok (.ifCond .eq 20, 3) := by decide +kernel
theorem dX8_meet_8 : decode cX8_meet 8 = .ok (.iload_n 2, 1) := by decide +kernel
theorem dX8_meet_9 : decode cX8_meet 9 = .ok (.iconst 5, 1) := by decide +kernel
theorem dX8_meet_10 : decode cX8_meet 10 = .ok (.invokestatic 58, 3) := by decide +kernel
theorem dX8_meet_13 : decode cX8_meet 13 = .ok (.ifCond .eq 12, 3) := by decide +kernel
theorem dX8_meet_16 : decode cX8_meet 16 = .ok (.iload_n 1, 1) := by decide +kernel
theorem dX8_meet_17 : decode cX8_meet 17 = .ok (.iload_n 2, 1) := by decide +kernel
theorem dX8_meet_18 : decode cX8_meet 18 = .ok (.if_icmp .eq 7, 3) := by decide +kernel
theorem dX8_meet_21 : decode cX8_meet 21 = .ok (.iconst 1, 1) := by decide +kernel
theorem dX8_meet_22 : decode cX8_meet 22 = .ok (.goto 4, 3) := by decide +kernel
theorem dX8_meet_25 : decode cX8_meet 25 = .ok (.iconst 0, 1) := by decide +kernel
theorem dX8_meet_26 : decode cX8_meet 26 = .ok (.invokestatic 62, 3) := by decide +kernel
theorem dX8_meet_29 : decode cX8_meet 29 = .ok (.aload_n 0, 1) := by decide +kernel
theorem dX8_meet_30 : decode cX8_meet 30 = .ok (.getfield 12, 3) := by decide +kernel
theorem dX8_meet_33 : decode cX8_meet 33 = .ok (.invokevirtual 138, 3) := by decide +kernel
theorem dX8_meet_36 : decode cX8_meet 36 = .ok (.ifCond .ne 7, 3) := by decide +kernel
theorem dX8_meet_39 : decode cX8_meet 39 = .ok (.iconst 1, 1) := by decide +kernel
theorem dX8_meet_40 : decode cX8_meet 40 = .ok (.goto 4, 3) := by decide +kernel
theorem dX8_meet_43 : decode cX8_meet 43 = .ok (.iconst 0, 1) := by decide +kernel
theorem dX8_meet_44 : decode cX8_meet 44 = .ok (.invokestatic 87, 3) := by decide +kernel
theorem dX8_meet_47 : decode cX8_meet 47 = .ok (.aload_n 0, 1) := by decide +kernel
theorem dX8_meet_48 : decode cX8_meet 48 = .ok (.getfield 12, 3) := by decide +kernel
theorem dX8_meet_51 : decode cX8_meet 51 = .ok (.iload_n 1, 1) := by decide +kernel
theorem dX8_meet_52 : decode cX8_meet 52 = .ok (.putfield 142, 3) := by decide +kernel
theorem dX8_meet_55 : decode cX8_meet 55 = .ok (.aload_n 0, 1) := by decide +kernel
theorem dX8_meet_56 : decode cX8_meet 56 = .ok (.getfield 12, 3) := by decide +kernel
theorem dX8_meet_59 : decode cX8_meet 59 = .ok (.iload_n 2, 1) := by decide +kernel
theorem dX8_meet_60 : decode cX8_meet 60 = .ok (.putfield 145, 3) := by decide +kernel
theorem dX8_meet_63 : decode cX8_meet 63 = .ok (.return_, 1) := by decide +kernel
theorem dX8_swap_0 : decode cX8_swap 0 = .ok (.aload_n 0, 1) := by decide +kernel
theorem dX8_swap_1 : decode cX8_swap 1 = .ok (.getfield 12, 3) := by decide +kernel
theorem dX8_swap_4 : decode cX8_swap 4 = .ok (.invokevirtual 138, 3) := by decide +kernel
theorem dX8_swap_7 : decode cX8_swap 7 = .ok (.invokestatic 87, 3) := by decide +kernel
theorem dX8_swap_10 : decode cX8_swap 10 = .ok (.aload_n 0, 1) := by decide +kernel
theorem dX8_swap_11 : decode cX8_swap 11 = .ok (.getfield 12, 3) := by decide +kernel
theorem dX8_swap_14 : decode cX8_swap 14 = .ok (.aload_n 0, 1) := by decide +kernel
theorem dX8_swap_15 : decode cX8_swap 15 = .ok (.getfield 12, 3) := by decide +kernel
theorem dX8_swap_18 : decode cX8_swap 18 = .ok (.getfield 142, 3) := by decide +kernel
theorem dX8_swap_21 : decode cX8_swap 21 = .ok (.aload_n 0, 1) := by decide +kernel
theorem dX8_swap_22 : decode cX8_swap 22 = .ok (.getfield 12, 3) := by decide +kernel
theorem dX8_swap_25 : decode cX8_swap 25 = .ok (.getfield 145, 3) := by decide +kernel
theorem dX8_swap_28 : decode cX8_swap 28 = .ok (.invokevirtual 148, 3) := by decide +kernel
theorem dX8_swap_31 : decode cX8_swap 31 = .ok (.ifCond .ne 27, 3) := by decide +kernel
theorem dX8_swap_34 : decode cX8_swap 34 = .ok (.aload_n 0, 1) := by decide +kernel
theorem dX8_swap_35 : decode cX8_swap 35 = .ok (.getfield 12, 3) := by decide +kernel
theorem dX8_swap_38 : decode cX8_swap 38 = .ok (.aload_n 0, 1) := by decide +kernel
theorem dX8_swap_39 : decode cX8_swap 39 = .ok (.getfield 12, 3) := by decide +kernel
theorem dX8_swap_42 : decode cX8_swap 42 = .ok (.getfield 145, 3) := by decide +kernel
theorem dX8_swap_45 : decode cX8_swap 45 = .ok (.aload_n 0, 1) := by decide +kernel
theorem dX8_swap_46 : decode cX8_swap 46 = .ok (.getfield 12, 3) := by decide +kernel
theorem dX8_swap_49 : decode cX8_swap 49 = .ok (.getfield 142, 3) := by decide +kernel
theorem dX8_swap_52 : decode cX8_swap 52 = .ok (.invokevirtual 148, 3) := by decide +kernel
theorem dX8_swap_55 : decode cX8_swap 55 = .ok (.ifCond .eq 7, 3) := by decide +kernel
theorem dX8_swap_58 : decode cX8_swap 58 = .ok (.iconst 1, 1) := by decide +kernel
theorem dX8_swap_59 : decode cX8_swap 59 = .ok (.goto 4, 3) := by decide +kernel
theorem dX8_swap_62 : decode cX8_swap 62 = .ok (.iconst 0, 1) := by decide +kernel
theorem dX8_swap_63 : decode cX8_swap 63 = .ok (.ireturn, 1) := by decide +kernel
theorem dX8_part_0 : decode cX8_part 0 = .ok (.aload_n 0, 1) := by decide +kernel
theorem dX8_part_1 : decode cX8_part 1 = .ok (.getfield 12, 3) := by decide +kernel
theorem dX8_part_4 : decode cX8_part 4 = .ok (.invokevirtual 138, 3) := by decide +kernel
theorem dX8_part_7 : decode cX8_part 7 = .ok (.invokestatic 87, 3) := by decide +kernel
theorem dX8_part_10 : decode cX8_part 10 = .ok (.aload_n 0, 1) := by decide +kernel
theorem dX8_part_11 : decode cX8_part 11 = .ok (.getfield 12, 3) := by decide +kernel
theorem dX8_part_14 : decode cX8_part 14 = .ok (.invokevirtual 151, 3) := by decide +kernel
theorem dX8_part_17 : decode cX8_part 17 = .ok (.return_, 1) := by decide +kernel
theorem dX8_crash_0 : decode cX8_crash 0 = .ok (.iload_n 1, 1) := by decide +kernel
theorem dX8_crash_1 : decode cX8_crash 1 = .ok (.iconst 5, 1) := by decide +kernel
theorem dX8_crash_2 : decode cX8_crash 2 = .ok (.invokestatic 58, 3) := by decide +kernel
theorem dX8_crash_5 : decode cX8_crash 5 = .ok (.invokestatic 62, 3) := by decide +kernel
theorem dX8_crash_8 : decode cX8_crash 8 = .ok (.aload_n 0, 1) := by decide +kernel
theorem dX8_crash_9 : decode cX8_crash 9 = .ok (.getfield 12, 3) := by decide +kernel
theorem dX8_crash_12 : decode cX8_crash 12 = .ok (.iload_n 1, 1) := by decide +kernel
theorem dX8_crash_13 : decode cX8_crash 13 = .ok (.invokevirtual 154, 3) := by decide +kernel
theorem dX8_crash_16 : decode cX8_crash 16 = .ok (.iload_n 1, 1) := by decide +kernel
theorem dX8_crash_17 : decode cX8_crash 17 = .ok (.aload_n 0, 1) := by decide +kernel
theorem dX8_crash_18 : decode cX8_crash 18 = .ok (.getfield 12, 3) := by decide +kernel
theorem dX8_crash_21 : decode cX8_crash 21 = .ok (.getfield 142, 3) := by decide +kernel
theorem dX8_crash_24 : decode cX8_crash 24 = .ok (.if_icmp .eq 14, 3) := by decide +kernel
theorem dX8_crash_27 : decode cX8_crash 27 = .ok (.iload_n 1, 1) := by decide +kernel
theorem dX8_crash_28 : decode cX8_crash 28 = .ok (.aload_n 0, 1) := by decide +kernel
theorem dX8_crash_29 : decode cX8_crash 29 = .ok (.getfield 12, 3) := by decide +kernel
theorem dX8_crash_32 : decode cX8_crash 32 = .ok (.getfield 145, 3) := by decide +kernel
theorem dX8_crash_35 : decode cX8_crash 35 = .ok (.if_icmp .ne 10, 3) := by decide +kernel
theorem dX8_crash_38 : decode cX8_crash 38 = .ok (.aload_n 0, 1) := by decide +kernel
theorem dX8_crash_39 : decode cX8_crash 39 = .ok (.getfield 12, 3) := by decide +kernel
theorem dX8_crash_42 : decode cX8_crash 42 = .ok (.invokevirtual 151, 3) := by decide +kernel
theorem dX8_crash_45 : decode cX8_crash 45 = .ok (.return_, 1) := by decide +kernel
theorem dX8_value_0 : decode cX8_value 0 = .ok (.iload_n 1, 1) := by decide +kernel
theorem dX8_value_1 : decode cX8_value 1 = .ok (.iconst 5, 1) := by decide +kernel
theorem dX8_value_2 : decode cX8_value 2 = .ok (.invokestatic 58, 3) := by decide +kernel
theorem dX8_value_5 : decode cX8_value 5 = .ok (.ifCond .eq 17, 3) := by decide +kernel
theorem dX8_value_8 : decode cX8_value 8 = .ok (.iload_n 2, 1) := by decide +kernel
theorem dX8_value_9 : decode cX8_value 9 = .ok (.iload_n 3, 1) := by decide +kernel
theorem dX8_value_10 : decode cX8_value 10 = .ok (.iload 4, 2) := by decide +kernel
theorem dX8_value_12 : decode cX8_value 12 = .ok (.invokestatic 111, 3) := by decide +kernel
theorem dX8_value_15 : decode cX8_value 15 = .ok (.ifCond .eq 7, 3) := by decide +kernel
theorem dX8_value_18 : decode cX8_value 18 = .ok (.iconst 1, 1) := by decide +kernel
theorem dX8_value_19 : decode cX8_value 19 = .ok (.goto 4, 3) := by decide +kernel
theorem dX8_value_22 : decode cX8_value 22 = .ok (.iconst 0, 1) := by decide +kernel
theorem dX8_value_23 : decode cX8_value 23 = .ok (.invokestatic 62, 3) := by decide +kernel
theorem dX8_value_26 : decode cX8_value 26 = .ok (.aload_n 0, 1) := by decide +kernel
theorem dX8_value_27 : decode cX8_value 27 = .ok (.getfield 26, 3) := by decide +kernel
theorem dX8_value_30 : decode cX8_value 30 = .ok (.iload_n 2, 1) := by decide +kernel
theorem dX8_value_31 : decode cX8_value 31 = .ok (.iload_n 3, 1) := by decide +kernel
theorem dX8_value_32 : decode cX8_value 32 = .ok (.iload 4, 2) := by decide +kernel
theorem dX8_value_34 : decode cX8_value 34 = .ok (.invokestatic 118, 3) := by decide +kernel
theorem dX8_value_37 : decode cX8_value 37 = .ok (.aload_n 0, 1) := by decide +kernel
theorem dX8_value_38 : decode cX8_value 38 = .ok (.getfield 12, 3) := by decide +kernel
theorem dX8_value_41 : decode cX8_value 41 = .ok (.getfield 79, 3) := by decide +kernel
theorem dX8_value_44 : decode cX8_value 44 = .ok (.iload_n 1, 1) := by decide +kernel
theorem dX8_value_45 : decode cX8_value 45 = .ok (.aaload, 1) := by decide +kernel
theorem dX8_value_46 : decode cX8_value 46 = .ok (.invokevirtual 161, 3) := by decide +kernel
theorem dX8_value_49 : decode cX8_value 49 = .ok (.aload_n 0, 1) := by decide +kernel
theorem dX8_value_50 : decode cX8_value 50 = .ok (.getfield 26, 3) := by decide +kernel
theorem dX8_value_53 : decode cX8_value 53 = .ok (.invokevirtual 165, 3) := by decide +kernel
theorem dX8_value_56 : decode cX8_value 56 = .ok (.astore 5, 2) := by decide +kernel
theorem dX8_value_58 : decode cX8_value 58 = .ok (.aload 5, 2) := by decide +kernel
theorem dX8_value_60 : decode cX8_value 60 = .ok (.ifnonnull 11, 3) := by decide +kernel
theorem dX8_value_63 : decode cX8_value 63 = .ok (.new 132, 3) := by decide +kernel
theorem dX8_value_66 : decode cX8_value 66 = .ok (.dup, 1) := by decide +kernel
theorem dX8_value_67 : decode cX8_value 67 = .ok (.invokespecial 134, 3) := by decide +kernel
theorem dX8_value_70 : decode cX8_value 70 = .ok (.athrow, 1) := by decide +kernel
theorem dX8_value_71 : decode cX8_value 71 = .ok (.aload 5, 2) := by decide +kernel
theorem dX8_value_73 : decode cX8_value 73 = .ok (.getfield 169, 3) := by decide +kernel
theorem dX8_value_76 : decode cX8_value 76 = .ok (.ireturn, 1) := by decide +kernel
theorem dX8_candidate_0 : decode cX8_candidate 0 = .ok (.iload_n 1, 1) := by decide +kernel
theorem dX8_candidate_1 : decode cX8_candidate 1 = .ok (.iconst 5, 1) := by decide +kernel
theorem dX8_candidate_2 : decode cX8_candidate 2 = .ok (.invokestatic 58, 3) := by decide +kernel
theorem dX8_candidate_5 : decode cX8_candidate 5 = .ok (.ifCond .eq 22, 3) := by decide +kernel
theorem dX8_candidate_8 : decode cX8_candidate 8 = .ok (.iload_n 2, 1) := by decide +kernel
theorem dX8_candidate_9 : decode cX8_candidate 9 = .ok (.iload_n 3, 1) := by decide +kernel
theorem dX8_candidate_10 : decode cX8_candidate 10 = .ok (.iload 4, 2) := by decide +kernel
theorem dX8_candidate_12 : decode cX8_candidate 12 = .ok (.invokestatic 111, 3) := by decide +kernel
theorem dX8_candidate_15 : decode cX8_candidate 15 = .ok (.ifCond .eq 12, 3) := by decide +kernel
theorem dX8_candidate_18 : decode cX8_candidate 18 = .ok (.iload 5, 2) := by decide +kernel
theorem dX8_candidate_20 : decode cX8_candidate 20 = .ok (.ifCond .lt 7, 3) := by decide +kernel
theorem dX8_candidate_23 : decode cX8_candidate 23 = .ok (.iconst 1, 1) := by decide +kernel
theorem dX8_candidate_24 : decode cX8_candidate 24 = .ok (.goto 4, 3) := by decide +kernel
theorem dX8_candidate_27 : decode cX8_candidate 27 = .ok (.iconst 0, 1) := by decide +kernel
theorem dX8_candidate_28 : decode cX8_candidate 28 = .ok (.invokestatic 62, 3) := by decide +kernel
theorem dX8_candidate_31 : decode cX8_candidate 31 = .ok (.aload_n 0, 1) := by decide +kernel
theorem dX8_candidate_32 : decode cX8_candidate 32 = .ok (.getfield 26, 3) := by decide +kernel
theorem dX8_candidate_35 : decode cX8_candidate 35 = .ok (.iload_n 2, 1) := by decide +kernel
theorem dX8_candidate_36 : decode cX8_candidate 36 = .ok (.iload_n 3, 1) := by decide +kernel
theorem dX8_candidate_37 : decode cX8_candidate 37 = .ok (.iload 4, 2) := by decide +kernel
theorem dX8_candidate_39 : decode cX8_candidate 39 = .ok (.invokestatic 118, 3) := by decide +kernel
theorem dX8_candidate_42 : decode cX8_candidate 42 = .ok (.aload_n 0, 1) := by decide +kernel
theorem dX8_candidate_43 : decode cX8_candidate 43 = .ok (.getfield 12, 3) := by decide +kernel
theorem dX8_candidate_46 : decode cX8_candidate 46 = .ok (.getfield 79, 3) := by decide +kernel
theorem dX8_candidate_49 : decode cX8_candidate 49 = .ok (.iload_n 1, 1) := by decide +kernel
theorem dX8_candidate_50 : decode cX8_candidate 50 = .ok (.aaload, 1) := by decide +kernel
theorem dX8_candidate_51 : decode cX8_candidate 51 = .ok (.invokevirtual 161, 3) := by decide +kernel
theorem dX8_candidate_54 : decode cX8_candidate 54 = .ok (.aload_n 0, 1) := by decide +kernel
theorem dX8_candidate_55 : decode cX8_candidate 55 = .ok (.getfield 26, 3) := by decide +kernel
theorem dX8_candidate_58 : decode cX8_candidate 58 = .ok (.iload 5, 2) := by decide +kernel
theorem dX8_candidate_60 : decode cX8_candidate 60 = .ok (.invokevirtual 174, 3) := by decide +kernel
theorem dX8_candidate_63 : decode cX8_candidate 63 = .ok (.ireturn, 1) := by decide +kernel
theorem dX8_conflict_0 : decode cX8_conflict 0 = .ok (.iload_n 1, 1) := by decide +kernel
theorem dX8_conflict_1 : decode cX8_conflict 1 = .ok (.iconst 5, 1) := by decide +kernel
theorem dX8_conflict_2 : decode cX8_conflict 2 = .ok (.invokestatic 58, 3) := by decide +kernel
theorem dX8_conflict_5 : decode cX8_conflict 5 = .ok (.ifCond .eq 11, 3) := by decide +kernel
theorem dX8_conflict_8 : decode cX8_conflict 8 = .ok (.iload_n 2, 1) := by decide +kernel
theorem dX8_conflict_9 : decode cX8_conflict 9 = .ok (.ifCond .lt 7, 3) := by decide +kernel
theorem dX8_conflict_12 : decode cX8_conflict 12 = .ok (.iconst 1, 1) := by decide +kernel
theorem dX8_conflict_13 : decode cX8_conflict 13 = .ok (.goto 4, 3) := by decide +kernel
theorem dX8_conflict_16 : decode cX8_conflict 16 = .ok (.iconst 0, 1) := by decide +kernel
theorem dX8_conflict_17 : decode cX8_conflict 17 = .ok (.invokestatic 62, 3) := by decide +kernel
theorem dX8_conflict_20 : decode cX8_conflict 20 = .ok (.aload_n 0, 1) := by decide +kernel
theorem dX8_conflict_21 : decode cX8_conflict 21 = .ok (.iload_n 1, 1) := by decide +kernel
theorem dX8_conflict_22 : decode cX8_conflict 22 = .ok (.iload_n 2, 1) := by decide +kernel
theorem dX8_conflict_23 : decode cX8_conflict 23 = .ok (.invokevirtual 129, 3) := by decide +kernel
theorem dX8_conflict_26 : decode cX8_conflict 26 = .ok (.istore_n 3, 1) := by decide +kernel
theorem dX8_conflict_27 : decode cX8_conflict 27 = .ok (.iload_n 3, 1) := by decide +kernel
theorem dX8_conflict_28 : decode cX8_conflict 28 = .ok (.iconst (-1), 1) := by decide +kernel
theorem dX8_conflict_29 : decode cX8_conflict 29 = .ok (.if_icmp .ne 5, 3) := by decide +kernel
theorem dX8_conflict_32 : decode cX8_conflict 32 = .ok (.iconst (-1), 1) := by decide +kernel
theorem dX8_conflict_33 : decode cX8_conflict 33 = .ok (.ireturn, 1) := by decide +kernel
theorem dX8_conflict_34 : decode cX8_conflict 34 = .ok (.iload_n 3, 1) := by decide +kernel
theorem dX8_conflict_35 : decode cX8_conflict 35 = .ok (.iconst 3, 1) := by decide +kernel
theorem dX8_conflict_36 : decode cX8_conflict 36 = .ok (.idiv, 1) := by decide +kernel
theorem dX8_conflict_37 : decode cX8_conflict 37 = .ok (.istore 4, 2) := by decide +kernel
theorem dX8_conflict_39 : decode cX8_conflict 39 = .ok (.bipush 100, 2) := by decide +kernel
theorem dX8_conflict_41 : decode cX8_conflict 41 = .ok (.iload 4, 2) := by decide +kernel
theorem dX8_conflict_43 : decode cX8_conflict 43 = .ok (.iconst 4, 1) := by decide +kernel
theorem dX8_conflict_44 : decode cX8_conflict 44 = .ok (.idiv, 1) := by decide +kernel
theorem dX8_conflict_45 : decode cX8_conflict 45 = .ok (.imul, 1) := by decide +kernel
theorem dX8_conflict_46 : decode cX8_conflict 46 = .ok (.bipush 10, 2) := by decide +kernel
theorem dX8_conflict_48 : decode cX8_conflict 48 = .ok (.iload 4, 2) := by decide +kernel
theorem dX8_conflict_50 : decode cX8_conflict 50 = .ok (.iconst 4, 1) := by decide +kernel
theorem dX8_conflict_51 : decode cX8_conflict 51 = .ok (.irem, 1) := by decide +kernel
theorem dX8_conflict_52 : decode cX8_conflict 52 = .ok (.imul, 1) := by decide +kernel
theorem dX8_conflict_53 : decode cX8_conflict 53 = .ok (.iadd, 1) := by decide +kernel
theorem dX8_conflict_54 : decode cX8_conflict 54 = .ok (.iload_n 3, 1) := by decide +kernel
theorem dX8_conflict_55 : decode cX8_conflict 55 = .ok (.iconst 3, 1) := by decide +kernel
theorem dX8_conflict_56 : decode cX8_conflict 56 = .ok (.irem, 1) := by decide +kernel
theorem dX8_conflict_57 : decode cX8_conflict 57 = .ok (.iadd, 1) := by decide +kernel
theorem dX8_conflict_58 : decode cX8_conflict 58 = .ok (.ireturn, 1) := by decide +kernel
theorem dX8_plot_0 : decode cX8_plot 0 = .ok (.iload_n 1, 1) := by decide +kernel
theorem dX8_plot_1 : decode cX8_plot 1 = .ok (.iconst 5, 1) := by decide +kernel
theorem dX8_plot_2 : decode cX8_plot 2 = .ok (.invokestatic 58, 3) := by decide +kernel
theorem dX8_plot_5 : decode cX8_plot 5 = .ok (.ifCond .eq 24, 3) := by decide +kernel
theorem dX8_plot_8 : decode cX8_plot 8 = .ok (.iload_n 2, 1) := by decide +kernel
theorem dX8_plot_9 : decode cX8_plot 9 = .ok (.bipush 6, 2) := by decide +kernel
theorem dX8_plot_11 : decode cX8_plot 11 = .ok (.invokestatic 58, 3) := by decide +kernel
theorem dX8_plot_14 : decode cX8_plot 14 = .ok (.ifCond .eq 15, 3) := by decide +kernel
theorem dX8_plot_17 : decode cX8_plot 17 = .ok (.iload_n 3, 1) := by decide +kernel
theorem dX8_plot_18 : decode cX8_plot 18 = .ok (.iconst 4, 1) := by decide +kernel
theorem dX8_plot_19 : decode cX8_plot 19 = .ok (.invokestatic 58, 3) := by decide +kernel
theorem dX8_plot_22 : decode cX8_plot 22 = .ok (.ifCond .eq 7, 3) := by decide +kernel
theorem dX8_plot_25 : decode cX8_plot 25 = .ok (.iconst 1, 1) := by decide +kernel
theorem dX8_plot_26 : decode cX8_plot 26 = .ok (.goto 4, 3) := by decide +kernel
theorem dX8_plot_29 : decode cX8_plot 29 = .ok (.iconst 0, 1) := by decide +kernel
theorem dX8_plot_30 : decode cX8_plot 30 = .ok (.invokestatic 62, 3) := by decide +kernel
theorem dX8_plot_33 : decode cX8_plot 33 = .ok (.aload_n 0, 1) := by decide +kernel
theorem dX8_plot_34 : decode cX8_plot 34 = .ok (.iload_n 1, 1) := by decide +kernel
theorem dX8_plot_35 : decode cX8_plot 35 = .ok (.iload_n 2, 1) := by decide +kernel
theorem dX8_plot_36 : decode cX8_plot 36 = .ok (.invokevirtual 177, 3) := by decide +kernel
theorem dX8_plot_39 : decode cX8_plot 39 = .ok (.iload_n 3, 1) := by decide +kernel
theorem dX8_plot_40 : decode cX8_plot 40 = .ok (.tableswitch 53 0 2 #[28, 36, 44], 28) := by decide +kernel
theorem dX8_plot_68 : decode cX8_plot 68 = .ok (.aload_n 0, 1) := by decide +kernel
theorem dX8_plot_69 : decode cX8_plot 69 = .ok (.getfield 40, 3) := by decide +kernel
theorem dX8_plot_72 : decode cX8_plot 72 = .ok (.getfield 181, 3) := by decide +kernel
theorem dX8_plot_75 : decode cX8_plot 75 = .ok (.lreturn, 1) := by decide +kernel
theorem dX8_plot_76 : decode cX8_plot 76 = .ok (.aload_n 0, 1) := by decide +kernel
theorem dX8_plot_77 : decode cX8_plot 77 = .ok (.getfield 40, 3) := by decide +kernel
theorem dX8_plot_80 : decode cX8_plot 80 = .ok (.getfield 185, 3) := by decide +kernel
theorem dX8_plot_83 : decode cX8_plot 83 = .ok (.lreturn, 1) := by decide +kernel
theorem dX8_plot_84 : decode cX8_plot 84 = .ok (.aload_n 0, 1) := by decide +kernel
theorem dX8_plot_85 : decode cX8_plot 85 = .ok (.getfield 40, 3) := by decide +kernel
theorem dX8_plot_88 : decode cX8_plot 88 = .ok (.getfield 188, 3) := by decide +kernel
theorem dX8_plot_91 : decode cX8_plot 91 = .ok (.i2l, 1) := by decide +kernel
theorem dX8_plot_92 : decode cX8_plot 92 = .ok (.lreturn, 1) := by decide +kernel
theorem dX8_plot_93 : decode cX8_plot 93 = .ok (.aload_n 0, 1) := by decide +kernel
theorem dX8_plot_94 : decode cX8_plot 94 = .ok (.getfield 40, 3) := by decide +kernel
theorem dX8_plot_97 : decode cX8_plot 97 = .ok (.getfield 191, 3) := by decide +kernel
theorem dX8_plot_100 : decode cX8_plot 100 = .ok (.i2l, 1) := by decide +kernel
theorem dX8_plot_101 : decode cX8_plot 101 = .ok (.lreturn, 1) := by decide +kernel
theorem dX8_total_0 : decode cX8_total 0 = .ok (.iload_n 1, 1) := by decide +kernel
theorem dX8_total_1 : decode cX8_total 1 = .ok (.iconst 5, 1) := by decide +kernel
theorem dX8_total_2 : decode cX8_total 2 = .ok (.invokestatic 58, 3) := by decide +kernel
theorem dX8_total_5 : decode cX8_total 5 = .ok (.ifCond .eq 23, 3) := by decide +kernel
theorem dX8_total_8 : decode cX8_total 8 = .ok (.iload_n 2, 1) := by decide +kernel
theorem dX8_total_9 : decode cX8_total 9 = .ok (.iconst 3, 1) := by decide +kernel
theorem dX8_total_10 : decode cX8_total 10 = .ok (.invokestatic 58, 3) := by decide +kernel
theorem dX8_total_13 : decode cX8_total 13 = .ok (.ifCond .eq 15, 3) := by decide +kernel
theorem dX8_total_16 : decode cX8_total 16 = .ok (.iload_n 3, 1) := by decide +kernel
theorem dX8_total_17 : decode cX8_total 17 = .ok (.iconst 4, 1) := by decide +kernel
theorem dX8_total_18 : decode cX8_total 18 = .ok (.invokestatic 58, 3) := by decide +kernel
theorem dX8_total_21 : decode cX8_total 21 = .ok (.ifCond .eq 7, 3) := by decide +kernel
theorem dX8_total_24 : decode cX8_total 24 = .ok (.iconst 1, 1) := by decide +kernel
theorem dX8_total_25 : decode cX8_total 25 = .ok (.goto 4, 3) := by decide +kernel
theorem dX8_total_28 : decode cX8_total 28 = .ok (.iconst 0, 1) := by decide +kernel
theorem dX8_total_29 : decode cX8_total 29 = .ok (.invokestatic 62, 3) := by decide +kernel
theorem dX8_total_32 : decode cX8_total 32 = .ok (.aload_n 0, 1) := by decide +kernel
theorem dX8_total_33 : decode cX8_total 33 = .ok (.iload_n 1, 1) := by decide +kernel
theorem dX8_total_34 : decode cX8_total 34 = .ok (.iload_n 2, 1) := by decide +kernel
theorem dX8_total_35 : decode cX8_total 35 = .ok (.invokevirtual 194, 3) := by decide +kernel
theorem dX8_total_38 : decode cX8_total 38 = .ok (.iload_n 3, 1) := by decide +kernel
theorem dX8_total_39 : decode cX8_total 39 = .ok (.tableswitch 50 0 2 #[25, 33, 41], 25) := by decide +kernel
theorem dX8_total_64 : decode cX8_total 64 = .ok (.aload_n 0, 1) := by decide +kernel
theorem dX8_total_65 : decode cX8_total 65 = .ok (.getfield 47, 3) := by decide +kernel
theorem dX8_total_68 : decode cX8_total 68 = .ok (.getfield 197, 3) := by decide +kernel
theorem dX8_total_71 : decode cX8_total 71 = .ok (.lreturn, 1) := by decide +kernel
theorem dX8_total_72 : decode cX8_total 72 = .ok (.aload_n 0, 1) := by decide +kernel
theorem dX8_total_73 : decode cX8_total 73 = .ok (.getfield 47, 3) := by decide +kernel
theorem dX8_total_76 : decode cX8_total 76 = .ok (.invokevirtual 198, 3) := by decide +kernel
theorem dX8_total_79 : decode cX8_total 79 = .ok (.lreturn, 1) := by decide +kernel
theorem dX8_total_80 : decode cX8_total 80 = .ok (.aload_n 0, 1) := by decide +kernel
theorem dX8_total_81 : decode cX8_total 81 = .ok (.getfield 47, 3) := by decide +kernel
theorem dX8_total_84 : decode cX8_total 84 = .ok (.getfield 202, 3) := by decide +kernel
theorem dX8_total_87 : decode cX8_total 87 = .ok (.i2l, 1) := by decide +kernel
theorem dX8_total_88 : decode cX8_total 88 = .ok (.lreturn, 1) := by decide +kernel
theorem dX8_total_89 : decode cX8_total 89 = .ok (.aload_n 0, 1) := by decide +kernel
theorem dX8_total_90 : decode cX8_total 90 = .ok (.getfield 47, 3) := by decide +kernel
theorem dX8_total_93 : decode cX8_total 93 = .ok (.getfield 203, 3) := by decide +kernel
theorem dX8_total_96 : decode cX8_total 96 = .ok (.i2l, 1) := by decide +kernel
theorem dX8_total_97 : decode cX8_total 97 = .ok (.lreturn, 1) := by decide +kernel
theorem dX8_resolve_0 : decode cX8_resolve 0 = .ok (.aload_n 0, 1) := by decide +kernel
theorem dX8_resolve_1 : decode cX8_resolve 1 = .ok (.iconst 0, 1) := by decide +kernel
theorem dX8_resolve_2 : decode cX8_resolve 2 = .ok (.iload_n 1, 1) := by decide +kernel
theorem dX8_resolve_3 : decode cX8_resolve 3 = .ok (.invokevirtual 129, 3) := by decide +kernel
theorem dX8_resolve_6 : decode cX8_resolve 6 = .ok (.istore_n 3, 1) := by decide +kernel
theorem dX8_resolve_7 : decode cX8_resolve 7 = .ok (.iload_n 3, 1) := by decide +kernel
theorem dX8_resolve_8 : decode cX8_resolve 8 = .ok (.iconst (-1), 1) := by decide +kernel
theorem dX8_resolve_9 : decode cX8_resolve 9 = .ok (.if_icmp .ne 11, 3) := by decide +kernel
theorem dX8_resolve_12 : decode cX8_resolve 12 = .ok (.new 132, 3) := by decide +kernel
theorem dX8_resolve_15 : decode cX8_resolve 15 = .ok (.dup, 1) := by decide +kernel
theorem dX8_resolve_16 : decode cX8_resolve 16 = .ok (.invokespecial 134, 3) := by decide +kernel
theorem dX8_resolve_19 : decode cX8_resolve 19 = .ok (.athrow, 1) := by decide +kernel
theorem dX8_resolve_20 : decode cX8_resolve 20 = .ok (.iload_n 3, 1) := by decide +kernel
theorem dX8_resolve_21 : decode cX8_resolve 21 = .ok (.iconst 3, 1) := by decide +kernel
theorem dX8_resolve_22 : decode cX8_resolve 22 = .ok (.irem, 1) := by decide +kernel
theorem dX8_resolve_23 : decode cX8_resolve 23 = .ok (.iload_n 2, 1) := by decide +kernel
theorem dX8_resolve_24 : decode cX8_resolve 24 = .ok (.invokestatic 115, 3) := by decide +kernel
theorem dX8_resolve_27 : decode cX8_resolve 27 = .ok (.invokestatic 62, 3) := by decide +kernel
theorem dX8_resolve_30 : decode cX8_resolve 30 = .ok (.aload_n 0, 1) := by decide +kernel
theorem dX8_resolve_31 : decode cX8_resolve 31 = .ok (.getfield 12, 3) := by decide +kernel
theorem dX8_resolve_34 : decode cX8_resolve 34 = .ok (.iconst 0, 1) := by decide +kernel
theorem dX8_resolve_35 : decode cX8_resolve 35 = .ok (.invokevirtual 90, 3) := by decide +kernel
theorem dX8_resolve_38 : decode cX8_resolve 38 = .ok (.invokestatic 87, 3) := by decide +kernel
theorem dX8_resolve_41 : decode cX8_resolve 41 = .ok (.aload_n 0, 1) := by decide +kernel
theorem dX8_resolve_42 : decode cX8_resolve 42 = .ok (.iconst 0, 1) := by decide +kernel
theorem dX8_resolve_43 : decode cX8_resolve 43 = .ok (.iload_n 3, 1) := by decide +kernel
theorem dX8_resolve_44 : decode cX8_resolve 44 = .ok (.iload_n 2, 1) := by decide +kernel
theorem dX8_resolve_45 : decode cX8_resolve 45 = .ok (.aload_n 0, 1) := by decide +kernel
theorem dX8_resolve_46 : decode cX8_resolve 46 = .ok (.getfield 26, 3) := by decide +kernel
theorem dX8_resolve_49 : decode cX8_resolve 49 = .ok (.iload_n 3, 1) := by decide +kernel
theorem dX8_resolve_50 : decode cX8_resolve 50 = .ok (.aload_n 0, 1) := by decide +kernel
theorem dX8_resolve_51 : decode cX8_resolve 51 = .ok (.getfield 12, 3) := by decide +kernel
theorem dX8_resolve_54 : decode cX8_resolve 54 = .ok (.getfield 79, 3) := by decide +kernel
theorem dX8_resolve_57 : decode cX8_resolve 57 = .ok (.iconst 0, 1) := by decide +kernel
theorem dX8_resolve_58 : decode cX8_resolve 58 = .ok (.aaload, 1) := by decide +kernel
theorem dX8_resolve_59 : decode cX8_resolve 59 = .ok (.invokevirtual 135, 3) := by decide +kernel
theorem dX8_resolve_62 : decode cX8_resolve 62 = .ok (.iconst 1, 1) := by decide +kernel
theorem dX8_resolve_63 : decode cX8_resolve 63 = .ok (.iadd, 1) := by decide +kernel
theorem dX8_resolve_64 : decode cX8_resolve 64 = .ok (.invokevirtual 125, 3) := by decide +kernel
theorem dX8_resolve_67 : decode cX8_resolve 67 = .ok (.ireturn, 1) := by decide +kernel
