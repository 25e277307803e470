theorem tg_650 : (Cond.fieldLink "ForestTabletsModel" (44 : Nat) "ForestTabletsModel" "factors" "[I") ∈ lw_g := lw_gi (List.mem_of_getElem? (i := 650) (by decide +kernel)) rfl
theorem tg_651 : (Cond.fieldLink "ForestTabletsModel" (47 : Nat) "ForestTabletsModel" "lows" "[I") ∈ lw_g := lw_gi (List.mem_of_getElem? (i := 651) (by decide +kernel)) rfl
theorem tg_652 : (Cond.fieldLink "ForestTabletsModel" (50 : Nat) "ForestTabletsModel" "highs" "[I") ∈ lw_g := lw_gi (List.mem_of_getElem? (i := 652) (by decide +kernel)) rfl
theorem tg_653 : (Cond.fieldLink "ForestTabletsModel" (53 : Nat) "ForestTabletsModel" "stands" "[I") ∈ lw_g := lw_gi (List.mem_of_getElem? (i := 653) (by decide +kernel)) rfl
theorem tg_695 : (Cond.methodLink "ForestTabletsModel" (59 : Nat) ({ cls := "ForestTabletsModel", name := "in", desc := "(III)Z" } : Jvm.MethodName)) ∈ lw_g := lw_gi (List.mem_of_getElem? (i := 695) (by decide +kernel)) rfl
theorem tg_696 : (Cond.static ({ cls := "ForestTabletsModel", name := "in", desc := "(III)Z" } : Jvm.MethodName)) ∈ lw_g := lw_gi (List.mem_of_getElem? (i := 696) (by decide +kernel)) rfl
theorem tg_697 : (Cond.code ({ cls := "ForestTabletsModel", name := "in", desc := "(III)Z" } : Jvm.MethodName) prog_11_method_3_code (3 : Nat) (Option.some FieldType.boolean)) ∈ lw_g := lw_gi (List.mem_of_getElem? (i := 697) (by decide +kernel)) rfl
theorem tg_698 : (Cond.methodLink "ForestTabletsModel" (63 : Nat) ({ cls := "ForestTabletsModel", name := "fails", desc := "(ZI)Z" } : Jvm.MethodName)) ∈ lw_g := lw_gi (List.mem_of_getElem? (i := 698) (by decide +kernel)) rfl
theorem tg_700 : (Cond.instanceMethod ({ cls := "ForestTabletsModel", name := "fails", desc := "(ZI)Z" } : Jvm.MethodName)) ∈ lw_g := lw_gi (List.mem_of_getElem? (i := 700) (by decide +kernel)) rfl
theorem tg_701 : (Cond.code ({ cls := "ForestTabletsModel", name := "fails", desc := "(ZI)Z" } : Jvm.MethodName) prog_11_method_4_code (3 : Nat) (Option.some FieldType.boolean)) ∈ lw_g := lw_gi (List.mem_of_getElem? (i := 701) (by decide +kernel)) rfl
theorem tg_710 : (Cond.methodLink "ForestTabletsModel" (81 : Nat) ({ cls := "ForestTabletsModel", name := "holds", desc := "(II)I" } : Jvm.MethodName)) ∈ lw_g := lw_gi (List.mem_of_getElem? (i := 710) (by decide +kernel)) rfl
theorem tg_712 : (Cond.instanceMethod ({ cls := "ForestTabletsModel", name := "holds", desc := "(II)I" } : Jvm.MethodName)) ∈ lw_g := lw_gi (List.mem_of_getElem? (i := 712) (by decide +kernel)) rfl
theorem tg_713 : (Cond.code ({ cls := "ForestTabletsModel", name := "holds", desc := "(II)I" } : Jvm.MethodName) prog_11_method_10_code (7 : Nat) (Option.some FieldType.int)) ∈ lw_g := lw_gi (List.mem_of_getElem? (i := 713) (by decide +kernel)) rfl
theorem tg_726 : (Cond.methodLink "ForestTabletsModel" (84 : Nat) ({ cls := "ForestTabletsModel", name := "enters", desc := "(IIIIII)I" } : Jvm.MethodName)) ∈ lw_g := lw_gi (List.mem_of_getElem? (i := 726) (by decide +kernel)) rfl
theorem tg_728 : (Cond.instanceMethod ({ cls := "ForestTabletsModel", name := "enters", desc := "(IIIIII)I" } : Jvm.MethodName)) ∈ lw_g := lw_gi (List.mem_of_getElem? (i := 728) (by decide +kernel)) rfl
theorem tg_729 : (Cond.code ({ cls := "ForestTabletsModel", name := "enters", desc := "(IIIIII)I" } : Jvm.MethodName) prog_11_method_12_code (9 : Nat) (Option.some FieldType.int)) ∈ lw_g := lw_gi (List.mem_of_getElem? (i := 729) (by decide +kernel)) rfl
theorem tg_742 : (Cond.methodLink "ForestTabletsModel" (88 : Nat) ({ cls := "ForestTabletsModel", name := "isField", desc := "(III)Z" } : Jvm.MethodName)) ∈ lw_g := lw_gi (List.mem_of_getElem? (i := 742) (by decide +kernel)) rfl
theorem tg_743 : (Cond.static ({ cls := "ForestTabletsModel", name := "isField", desc := "(III)Z" } : Jvm.MethodName)) ∈ lw_g := lw_gi (List.mem_of_getElem? (i := 743) (by decide +kernel)) rfl
theorem tg_744 : (Cond.code ({ cls := "ForestTabletsModel", name := "isField", desc := "(III)Z" } : Jvm.MethodName) prog_11_method_16_code (3 : Nat) (Option.some FieldType.boolean)) ∈ lw_g := lw_gi (List.mem_of_getElem? (i := 744) (by decide +kernel)) rfl
theorem tg_745 : (Cond.methodLink "ForestTabletsModel" (91 : Nat) ({ cls := "ForestTabletsModel", name := "isValue", desc := "(II)Z" } : Jvm.MethodName)) ∈ lw_g := lw_gi (List.mem_of_getElem? (i := 745) (by decide +kernel)) rfl
theorem tg_746 : (Cond.static ({ cls := "ForestTabletsModel", name := "isValue", desc := "(II)Z" } : Jvm.MethodName)) ∈ lw_g := lw_gi (List.mem_of_getElem? (i := 746) (by decide +kernel)) rfl
theorem tg_747 : (Cond.code ({ cls := "ForestTabletsModel", name := "isValue", desc := "(II)Z" } : Jvm.MethodName) prog_11_method_15_code (2 : Nat) (Option.some FieldType.boolean)) ∈ lw_g := lw_gi (List.mem_of_getElem? (i := 747) (by decide +kernel)) rfl
abbrev cX9_isField : ByteArray := prog_11_method_16_code
def yX9_isField : MethodName := ⟨RX9, "isField", "(III)Z"⟩
def wsX9_isField : List Cond := .code yX9_isField cX9_isField 3 (some FieldType.boolean) :: lw_g
abbrev cX9_isValue : ByteArray := prog_11_method_15_code
def yX9_isValue : MethodName := ⟨RX9, "isValue", "(II)Z"⟩
def wsX9_isValue : List Cond := .code yX9_isValue cX9_isValue 2 (some FieldType.boolean) :: lw_g
abbrev cX9_thrown : ByteArray := prog_11_method_2_code
def yX9_thrown : MethodName := ⟨RX9, "thrown", "()I"⟩
def wsX9_thrown : List Cond := .code yX9_thrown cX9_thrown 1 (some FieldType.int) :: lw_g
abbrev cX9_species : ByteArray := prog_11_method_5_code
def yX9_species : MethodName := ⟨RX9, "species", "(IIII)V"⟩
def wsX9_species : List Cond := .code yX9_species cX9_species 6 none :: lw_g
abbrev cX9_stand : ByteArray := prog_11_method_6_code
def yX9_stand : MethodName := ⟨RX9, "stand", "(II)V"⟩
def wsX9_stand : List Cond := .code yX9_stand cX9_stand 3 none :: lw_g
abbrev cX9_lend : ByteArray := prog_11_method_13_code
def yX9_lend : MethodName := ⟨RX9, "lend", "(II)I"⟩
def wsX9_lend : List Cond := .code yX9_lend cX9_lend 6 (some FieldType.int) :: lw_g
abbrev cX9_giveBack : ByteArray := prog_11_method_14_code
def yX9_giveBack : MethodName := ⟨RX9, "giveBack", "(II)I"⟩
def wsX9_giveBack : List Cond := .code yX9_giveBack cX9_giveBack 4 (some FieldType.int) :: lw_g
abbrev cX9_enter : ByteArray := prog_11_method_17_code
def yX9_enter : MethodName := ⟨RX9, "enter", "(IIIII)I"⟩
def wsX9_enter : List Cond := .code yX9_enter cX9_enter 8 (some FieldType.int) :: lw_g

theorem dX9_isField_0 : decode cX9_isField 0 = .ok (.iload_n 0, 1) := by decide +kernel
theorem dX9_isField_1 : decode cX9_isField 1 = .ok (.iconst 0, 1) := by decide +kernel
theorem dX9_isField_2 : decode cX9_isField 2 = .ok (.iconst 5, 1) := by decide +kernel
theorem dX9_isField_3 : decode cX9_isField 3 = .ok (.invokestatic 59, 3) := by decide +kernel
theorem dX9_isField_6 : decode cX9_isField 6 = .ok (.ifCond .eq 25, 3) := by decide +kernel
theorem dX9_isField_9 : decode cX9_isField 9 = .ok (.iload_n 1, 1) := by decide +kernel
theorem dX9_isField_10 : decode cX9_isField 10 = .ok (.iconst 0, 1) := by decide +kernel
theorem dX9_isField_11 : decode cX9_isField 11 = .ok (.iconst 3, 1) := by decide +kernel
theorem dX9_isField_12 : decode cX9_isField 12 = .ok (.invokestatic 59, 3) := by decide +kernel
theorem dX9_isField_15 : decode cX9_isField 15 = .ok (.ifCond .eq 16, 3) := by decide +kernel
theorem dX9_isField_18 : decode cX9_isField 18 = .ok (.iload_n 2, 1) := by decide +kernel
theorem dX9_isField_19 : decode cX9_isField 19 = .ok (.iconst 0, 1) := by decide +kernel
theorem dX9_isField_20 : decode cX9_isField 20 = .ok (.iconst 2, 1) := by decide +kernel
theorem dX9_isField_21 : decode cX9_isField 21 = .ok (.invokestatic 59, 3) := by decide +kernel
theorem dX9_isField_24 : decode cX9_isField 24 = .ok (.ifCond .eq 7, 3) := by decide +kernel
theorem dX9_isField_27 : decode cX9_isField 27 = .ok (.iconst 1, 1) := by decide +kernel
theorem dX9_isField_28 : decode cX9_isField 28 = .ok (.goto 4, 3) := by decide +kernel
theorem dX9_isField_31 : decode cX9_isField 31 = .ok (.iconst 0, 1) := by decide +kernel
theorem dX9_isField_32 : decode cX9_isField 32 = .ok (.ireturn, 1) := by decide +kernel
theorem dX9_isValue_0 : decode cX9_isValue 0 = .ok (.iload_n 0, 1) := by decide +kernel
theorem dX9_isValue_1 : decode cX9_isValue 1 = .ok (.ifCond .ne 12, 3) := by decide +kernel
theorem dX9_isValue_4 : decode cX9_isValue 4 = .ok (.iload_n 1, 1) := by decide +kernel
theorem dX9_isValue_5 : decode cX9_isValue 5 = .ok (.iconst 0, 1) := by decide +kernel
theorem dX9_isValue_6 : decode cX9_isValue 6 = .ok (.iconst 3, 1) := by decide +kernel
theorem dX9_isValue_7 : decode cX9_isValue 7 = .ok (.invokestatic 59, 3) := by decide +kernel
theorem dX9_isValue_10 : decode cX9_isValue 10 = .ok (.goto 23, 3) := by decide +kernel
theorem dX9_isValue_13 : decode cX9_isValue 13 = .ok (.iload_n 1, 1) := by decide +kernel
theorem dX9_isValue_14 : decode cX9_isValue 14 = .ok (.bipush 10, 2) := by decide +kernel
theorem dX9_isValue_16 : decode cX9_isValue 16 = .ok (.iload_n 0, 1) := by decide +kernel
theorem dX9_isValue_17 : decode cX9_isValue 17 = .ok (.iconst 1, 1) := by decide +kernel
theorem dX9_isValue_18 : decode cX9_isValue 18 = .ok (.if_icmp .ne 9, 3) := by decide +kernel
theorem dX9_isValue_21 : decode cX9_isValue 21 = .ok (.sipush 2000, 3) := by decide +kernel
theorem dX9_isValue_24 : decode cX9_isValue 24 = .ok (.goto 6, 3) := by decide +kernel
theorem dX9_isValue_27 : decode cX9_isValue 27 = .ok (.sipush 600, 3) := by decide +kernel
theorem dX9_isValue_30 : decode cX9_isValue 30 = .ok (.invokestatic 59, 3) := by decide +kernel
theorem dX9_isValue_33 : decode cX9_isValue 33 = .ok (.ireturn, 1) := by decide +kernel
theorem dX9_thrown_0 : decode cX9_thrown 0 = .ok (.aload_n 0, 1) := by decide +kernel
theorem dX9_thrown_1 : decode cX9_thrown 1 = .ok (.getfield 56, 3) := by decide +kernel
theorem dX9_thrown_4 : decode cX9_thrown 4 = .ok (.ireturn, 1) := by decide +kernel
theorem dX9_species_0 : decode cX9_species 0 = .ok (.iload_n 1, 1) := by decide +kernel
theorem dX9_species_1 : decode cX9_species 1 = .ok (.iconst 0, 1) := by decide +kernel
theorem dX9_species_2 : decode cX9_species 2 = .ok (.iconst 3, 1) := by decide +kernel
theorem dX9_species_3 : decode cX9_species 3 = .ok (.invokestatic 59, 3) := by decide +kernel
theorem dX9_species_6 : decode cX9_species 6 = .ok (.ifCond .eq 31, 3) := by decide +kernel
theorem dX9_species_9 : decode cX9_species 9 = .ok (.iload_n 2, 1) := by decide +kernel
theorem dX9_species_10 : decode cX9_species 10 = .ok (.iconst 1, 1) := by decide +kernel
theorem dX9_species_11 : decode cX9_species 11 = .ok (.bipush 100, 2) := by decide +kernel
theorem dX9_species_13 : decode cX9_species 13 = .ok (.invokestatic 59, 3) := by decide +kernel
theorem dX9_species_16 : decode cX9_species 16 = .ok (.ifCond .eq 21, 3) := by decide +kernel
theorem dX9_species_19 : decode cX9_species 19 = .ok (.iload_n 3, 1) := by decide +kernel
theorem dX9_species_20 : decode cX9_species 20 = .ok (.ifCond .lt 17, 3) := by decide +kernel
theorem dX9_species_23 : decode cX9_species 23 = .ok (.iload_n 3, 1) := by decide +kernel
theorem dX9_species_24 : decode cX9_species 24 = .ok (.iload 4, 2) := by decide +kernel
theorem dX9_species_26 : decode cX9_species 26 = .ok (.if_icmp .gt 11, 3) := by decide +kernel
theorem dX9_species_29 : decode cX9_species 29 = .ok (.iload 4, 2) := by decide +kernel
theorem dX9_species_31 : decode cX9_species 31 = .ok (.sipush 1000, 3) := by decide +kernel
theorem dX9_species_34 : decode cX9_species 34 = .ok (.if_icmp .le 7, 3) := by decide +kernel
theorem dX9_species_37 : decode cX9_species 37 = .ok (.iconst 1, 1) := by decide +kernel
theorem dX9_species_38 : decode cX9_species 38 = .ok (.goto 4, 3) := by decide +kernel
theorem dX9_species_41 : decode cX9_species 41 = .ok (.iconst 0, 1) := by decide +kernel
theorem dX9_species_42 : decode cX9_species 42 = .ok (.istore 5, 2) := by decide +kernel
theorem dX9_species_44 : decode cX9_species 44 = .ok (.aload_n 0, 1) := by decide +kernel
theorem dX9_species_45 : decode cX9_species 45 = .ok (.iload 5, 2) := by decide +kernel
theorem dX9_species_47 : decode cX9_species 47 = .ok (.iconst 1, 1) := by decide +kernel
theorem dX9_species_48 : decode cX9_species 48 = .ok (.invokevirtual 63, 3) := by decide +kernel
theorem dX9_species_51 : decode cX9_species 51 = .ok (.ifCond .eq 4, 3) := by decide +kernel
theorem dX9_species_54 : decode cX9_species 54 = .ok (.return_, 1) := by decide +kernel
theorem dX9_species_55 : decode cX9_species 55 = .ok (.aload_n 0, 1) := by decide +kernel
theorem dX9_species_56 : decode cX9_species 56 = .ok (.getfield 44, 3) := by decide +kernel
theorem dX9_species_59 : decode cX9_species 59 = .ok (.iload_n 1, 1) := by decide +kernel
theorem dX9_species_60 : decode cX9_species 60 = .ok (.iload_n 2, 1) := by decide +kernel
theorem dX9_species_61 : decode cX9_species 61 = .ok (.iastore, 1) := by decide +kernel
theorem dX9_species_62 : decode cX9_species 62 = .ok (.aload_n 0, 1) := by decide +kernel
theorem dX9_species_63 : decode cX9_species 63 = .ok (.getfield 47, 3) := by decide +kernel
theorem dX9_species_66 : decode cX9_species 66 = .ok (.iload_n 1, 1) := by decide +kernel
theorem dX9_species_67 : decode cX9_species 67 = .ok (.iload_n 3, 1) := by decide +kernel
theorem dX9_species_68 : decode cX9_species 68 = .ok (.iastore, 1) := by decide +kernel
theorem dX9_species_69 : decode cX9_species 69 = .ok (.aload_n 0, 1) := by decide +kernel
theorem dX9_species_70 : decode cX9_species 70 = .ok (.getfield 50, 3) := by decide +kernel
theorem dX9_species_73 : decode cX9_species 73 = .ok (.iload_n 1, 1) := by decide +kernel
theorem dX9_species_74 : decode cX9_species 74 = .ok (.iload 4, 2) := by decide +kernel
theorem dX9_species_76 : decode cX9_species 76 = .ok (.iastore, 1) := by decide +kernel
theorem dX9_species_77 : decode cX9_species 77 = .ok (.return_, 1) := by decide +kernel
theorem dX9_stand_0 : decode cX9_stand 0 = .ok (.aload_n 0, 1) := by decide +kernel
theorem dX9_stand_1 : decode cX9_stand 1 = .ok (.iload_n 1, 1) := by decide +kernel
theorem dX9_stand_2 : decode cX9_stand 2 = .ok (.iconst 0, 1) := by decide +kernel
theorem dX9_stand_3 : decode cX9_stand 3 = .ok (.iconst 5, 1) := by decide +kernel
theorem dX9_stand_4 : decode cX9_stand 4 = .ok (.invokestatic 59, 3) := by decide +kernel
theorem dX9_stand_7 : decode cX9_stand 7 = .ok (.ifCond .eq 12, 3) := by decide +kernel
theorem dX9_stand_10 : decode cX9_stand 10 = .ok (.iload_n 2, 1) := by decide +kernel
theorem dX9_stand_11 : decode cX9_stand 11 = .ok (.iconst 0, 1) := by decide +kernel
theorem dX9_stand_12 : decode cX9_stand 12 = .ok (.iconst 2, 1) := by decide +kernel
theorem dX9_stand_13 : decode cX9_stand 13 = .ok (.invokestatic 59, 3) := by decide +kernel
theorem dX9_stand_16 : decode cX9_stand 16 = .ok (.ifCond .ne 7, 3) := by decide +kernel
theorem dX9_stand_19 : decode cX9_stand 19 = .ok (.iconst 1, 1) := by decide +kernel
theorem dX9_stand_20 : decode cX9_stand 20 = .ok (.goto 4, 3) := by decide +kernel
theorem dX9_stand_23 : decode cX9_stand 23 = .ok (.iconst 0, 1) := by decide +kernel
theorem dX9_stand_24 : decode cX9_stand 24 = .ok (.iconst 1, 1) := by decide +kernel
theorem dX9_stand_25 : decode cX9_stand 25 = .ok (.invokevirtual 63, 3) := by decide +kernel
theorem dX9_stand_28 : decode cX9_stand 28 = .ok (.ifCond .ne 10, 3) := by decide +kernel
theorem dX9_stand_31 : decode cX9_stand 31 = .ok (.aload_n 0, 1) := by decide +kernel
theorem dX9_stand_32 : decode cX9_stand 32 = .ok (.getfield 53, 3) := by decide +kernel
theorem dX9_stand_35 : decode cX9_stand 35 = .ok (.iload_n 1, 1) := by decide +kernel
theorem dX9_stand_36 : decode cX9_stand 36 = .ok (.iload_n 2, 1) := by decide +kernel
theorem dX9_stand_37 : decode cX9_stand 37 = .ok (.iastore, 1) := by decide +kernel
theorem dX9_stand_38 : decode cX9_stand 38 = .ok (.return_, 1) := by decide +kernel
theorem dX9_lend_0 : decode cX9_lend 0 = .ok (.iload_n 1, 1) := by decide +kernel
theorem dX9_lend_1 : decode cX9_lend 1 = .ok (.iconst 0, 1) := by decide +kernel
theorem dX9_lend_2 : decode cX9_lend 2 = .ok (.iconst 5, 1) := by decide +kernel
theorem dX9_lend_3 : decode cX9_lend 3 = .ok (.invokestatic 59, 3) := by decide +kernel
theorem dX9_lend_6 : decode cX9_lend 6 = .ok (.ifCond .eq 12, 3) := by decide +kernel
theorem dX9_lend_9 : decode cX9_lend 9 = .ok (.iload_n 2, 1) := by decide +kernel
theorem dX9_lend_10 : decode cX9_lend 10 = .ok (.iconst 1, 1) := by decide +kernel
theorem dX9_lend_11 : decode cX9_lend 11 = .ok (.iconst 4, 1) := by decide +kernel
theorem dX9_lend_12 : decode cX9_lend 12 = .ok (.invokestatic 59, 3) := by decide +kernel
theorem dX9_lend_15 : decode cX9_lend 15 = .ok (.ifCond .ne 7, 3) := by decide +kernel
theorem dX9_lend_18 : decode cX9_lend 18 = .ok (.iconst 1, 1) := by decide +kernel
theorem dX9_lend_19 : decode cX9_lend 19 = .ok (.goto 4, 3) := by decide +kernel
theorem dX9_lend_22 : decode cX9_lend 22 = .ok (.iconst 0, 1) := by decide +kernel
theorem dX9_lend_23 : decode cX9_lend 23 = .ok (.istore_n 3, 1) := by decide +kernel
theorem dX9_lend_24 : decode cX9_lend 24 = .ok (.aload_n 0, 1) := by decide +kernel
theorem dX9_lend_25 : decode cX9_lend 25 = .ok (.iload_n 3, 1) := by decide +kernel
theorem dX9_lend_26 : decode cX9_lend 26 = .ok (.iconst 1, 1) := by decide +kernel
theorem dX9_lend_27 : decode cX9_lend 27 = .ok (.invokevirtual 63, 3) := by decide +kernel
theorem dX9_lend_30 : decode cX9_lend 30 = .ok (.ifCond .ne 36, 3) := by decide +kernel
theorem dX9_lend_33 : decode cX9_lend 33 = .ok (.aload_n 0, 1) := by decide +kernel
theorem dX9_lend_34 : decode cX9_lend 34 = .ok (.aload_n 0, 1) := by decide +kernel
theorem dX9_lend_35 : decode cX9_lend 35 = .ok (.iconst 0, 1) := by decide +kernel
theorem dX9_lend_36 : decode cX9_lend 36 = .ok (.iload_n 1, 1) := by decide +kernel
theorem dX9_lend_37 : decode cX9_lend 37 = .ok (.invokevirtual 81, 3) := by decide +kernel
theorem dX9_lend_40 : decode cX9_lend 40 = .ok (.ifCond .ge 14, 3) := by decide +kernel
theorem dX9_lend_43 : decode cX9_lend 43 = .ok (.aload_n 0, 1) := by decide +kernel
theorem dX9_lend_44 : decode cX9_lend 44 = .ok (.getfield 7, 3) := by decide +kernel
theorem dX9_lend_47 : decode cX9_lend 47 = .ok (.iconst 0, 1) := by decide +kernel
theorem dX9_lend_48 : decode cX9_lend 48 = .ok (.iaload, 1) := by decide +kernel
theorem dX9_lend_49 : decode cX9_lend 49 = .ok (.bipush 40, 2) := by decide +kernel
theorem dX9_lend_51 : decode cX9_lend 51 = .ok (.if_icmp .ne 7, 3) := by decide +kernel
theorem dX9_lend_54 : decode cX9_lend 54 = .ok (.iconst 1, 1) := by decide +kernel
theorem dX9_lend_55 : decode cX9_lend 55 = .ok (.goto 4, 3) := by decide +kernel
theorem dX9_lend_58 : decode cX9_lend 58 = .ok (.iconst 0, 1) := by decide +kernel
theorem dX9_lend_59 : decode cX9_lend 59 = .ok (.iconst 2, 1) := by decide +kernel
theorem dX9_lend_60 : decode cX9_lend 60 = .ok (.invokevirtual 63, 3) := by decide +kernel
theorem dX9_lend_63 : decode cX9_lend 63 = .ok (.ifCond .eq 5, 3) := by decide +kernel
theorem dX9_lend_66 : decode cX9_lend 66 = .ok (.iconst 0, 1) := by decide +kernel
theorem dX9_lend_67 : decode cX9_lend 67 = .ok (.ireturn, 1) := by decide +kernel
theorem dX9_lend_68 : decode cX9_lend 68 = .ok (.aload_n 0, 1) := by decide +kernel
theorem dX9_lend_69 : decode cX9_lend 69 = .ok (.iconst 0, 1) := by decide +kernel
theorem dX9_lend_70 : decode cX9_lend 70 = .ok (.iload_n 1, 1) := by decide +kernel
theorem dX9_lend_71 : decode cX9_lend 71 = .ok (.invokevirtual 70, 3) := by decide +kernel
theorem dX9_lend_74 : decode cX9_lend 74 = .ok (.iconst 1, 1) := by decide +kernel
theorem dX9_lend_75 : decode cX9_lend 75 = .ok (.iadd, 1) := by decide +kernel
theorem dX9_lend_76 : decode cX9_lend 76 = .ok (.istore 4, 2) := by decide +kernel
theorem dX9_lend_78 : decode cX9_lend 78 = .ok (.aload_n 0, 1) := by decide +kernel
theorem dX9_lend_79 : decode cX9_lend 79 = .ok (.iconst 0, 1) := by decide +kernel
theorem dX9_lend_80 : decode cX9_lend 80 = .ok (.iconst 0, 1) := by decide +kernel
theorem dX9_lend_81 : decode cX9_lend 81 = .ok (.iload_n 1, 1) := by decide +kernel
theorem dX9_lend_82 : decode cX9_lend 82 = .ok (.iconst 0, 1) := by decide +kernel
theorem dX9_lend_83 : decode cX9_lend 83 = .ok (.iload_n 2, 1) := by decide +kernel
theorem dX9_lend_84 : decode cX9_lend 84 = .ok (.iload 4, 2) := by decide +kernel
theorem dX9_lend_86 : decode cX9_lend 86 = .ok (.invokevirtual 84, 3) := by decide +kernel
theorem dX9_lend_89 : decode cX9_lend 89 = .ok (.istore 5, 2) := by decide +kernel
theorem dX9_lend_91 : decode cX9_lend 91 = .ok (.iload 5, 2) := by decide +kernel
theorem dX9_lend_93 : decode cX9_lend 93 = .ok (.ifCond .le 8, 3) := by decide +kernel
theorem dX9_lend_96 : decode cX9_lend 96 = .ok (.iload 4, 2) := by decide +kernel
theorem dX9_lend_98 : decode cX9_lend 98 = .ok (.goto 4, 3) := by decide +kernel
theorem dX9_lend_101 : decode cX9_lend 101 = .ok (.iconst 0, 1) := by decide +kernel
theorem dX9_lend_102 : decode cX9_lend 102 = .ok (.ireturn, 1) := by decide +kernel
theorem dX9_giveBack_0 : decode cX9_giveBack 0 = .ok (.iload_n 1, 1) := by decide +kernel
theorem dX9_giveBack_1 : decode cX9_giveBack 1 = .ok (.iconst 1, 1) := by decide +kernel
theorem dX9_giveBack_2 : decode cX9_giveBack 2 = .ok (.iconst 4, 1) := by decide +kernel
theorem dX9_giveBack_3 : decode cX9_giveBack 3 = .ok (.invokestatic 59, 3) := by decide +kernel
theorem dX9_giveBack_6 : decode cX9_giveBack 6 = .ok (.ifCond .eq 12, 3) := by decide +kernel
theorem dX9_giveBack_9 : decode cX9_giveBack 9 = .ok (.iload_n 2, 1) := by decide +kernel
theorem dX9_giveBack_10 : decode cX9_giveBack 10 = .ok (.iconst 0, 1) := by decide +kernel
theorem dX9_giveBack_11 : decode cX9_giveBack 11 = .ok (.iconst 5, 1) := by decide +kernel
theorem dX9_giveBack_12 : decode cX9_giveBack 12 = .ok (.invokestatic 59, 3) := by decide +kernel
theorem dX9_giveBack_15 : decode cX9_giveBack 15 = .ok (.ifCond .ne 7, 3) := by decide +kernel
theorem dX9_giveBack_18 : decode cX9_giveBack 18 = .ok (.iconst 1, 1) := by decide +kernel
theorem dX9_giveBack_19 : decode cX9_giveBack 19 = .ok (.goto 4, 3) := by decide +kernel
theorem dX9_giveBack_22 : decode cX9_giveBack 22 = .ok (.iconst 0, 1) := by decide +kernel
theorem dX9_giveBack_23 : decode cX9_giveBack 23 = .ok (.istore_n 3, 1) := by decide +kernel
theorem dX9_giveBack_24 : decode cX9_giveBack 24 = .ok (.aload_n 0, 1) := by decide +kernel
theorem dX9_giveBack_25 : decode cX9_giveBack 25 = .ok (.iload_n 3, 1) := by decide +kernel
theorem dX9_giveBack_26 : decode cX9_giveBack 26 = .ok (.iconst 1, 1) := by decide +kernel
theorem dX9_giveBack_27 : decode cX9_giveBack 27 = .ok (.invokevirtual 63, 3) := by decide +kernel
theorem dX9_giveBack_30 : decode cX9_giveBack 30 = .ok (.ifCond .ne 37, 3) := by decide +kernel
theorem dX9_giveBack_33 : decode cX9_giveBack 33 = .ok (.aload_n 0, 1) := by decide +kernel
theorem dX9_giveBack_34 : decode cX9_giveBack 34 = .ok (.aload_n 0, 1) := by decide +kernel
theorem dX9_giveBack_35 : decode cX9_giveBack 35 = .ok (.iload_n 1, 1) := by decide +kernel
theorem dX9_giveBack_36 : decode cX9_giveBack 36 = .ok (.iload_n 2, 1) := by decide +kernel
theorem dX9_giveBack_37 : decode cX9_giveBack 37 = .ok (.invokevirtual 81, 3) := by decide +kernel
theorem dX9_giveBack_40 : decode cX9_giveBack 40 = .ok (.iload_n 1, 1) := by decide +kernel
theorem dX9_giveBack_41 : decode cX9_giveBack 41 = .ok (.if_icmp .ne 14, 3) := by decide +kernel
theorem dX9_giveBack_44 : decode cX9_giveBack 44 = .ok (.aload_n 0, 1) := by decide +kernel
theorem dX9_giveBack_45 : decode cX9_giveBack 45 = .ok (.getfield 7, 3) := by decide +kernel
theorem dX9_giveBack_48 : decode cX9_giveBack 48 = .ok (.iload_n 1, 1) := by decide +kernel
theorem dX9_giveBack_49 : decode cX9_giveBack 49 = .ok (.iaload, 1) := by decide +kernel
theorem dX9_giveBack_50 : decode cX9_giveBack 50 = .ok (.bipush 40, 2) := by decide +kernel
theorem dX9_giveBack_52 : decode cX9_giveBack 52 = .ok (.if_icmp .ne 7, 3) := by decide +kernel
theorem dX9_giveBack_55 : decode cX9_giveBack 55 = .ok (.iconst 1, 1) := by decide +kernel
theorem dX9_giveBack_56 : decode cX9_giveBack 56 = .ok (.goto 4, 3) := by decide +kernel
theorem dX9_giveBack_59 : decode cX9_giveBack 59 = .ok (.iconst 0, 1) := by decide +kernel
theorem dX9_giveBack_60 : decode cX9_giveBack 60 = .ok (.iconst 2, 1) := by decide +kernel
theorem dX9_giveBack_61 : decode cX9_giveBack 61 = .ok (.invokevirtual 63, 3) := by decide +kernel
theorem dX9_giveBack_64 : decode cX9_giveBack 64 = .ok (.ifCond .eq 5, 3) := by decide +kernel
theorem dX9_giveBack_67 : decode cX9_giveBack 67 = .ok (.iconst 0, 1) := by decide +kernel
theorem dX9_giveBack_68 : decode cX9_giveBack 68 = .ok (.ireturn, 1) := by decide +kernel
theorem dX9_giveBack_69 : decode cX9_giveBack 69 = .ok (.aload_n 0, 1) := by decide +kernel
theorem dX9_giveBack_70 : decode cX9_giveBack 70 = .ok (.iload_n 1, 1) := by decide +kernel
theorem dX9_giveBack_71 : decode cX9_giveBack 71 = .ok (.iconst 1, 1) := by decide +kernel
theorem dX9_giveBack_72 : decode cX9_giveBack 72 = .ok (.iload_n 2, 1) := by decide +kernel
theorem dX9_giveBack_73 : decode cX9_giveBack 73 = .ok (.iconst 0, 1) := by decide +kernel
theorem dX9_giveBack_74 : decode cX9_giveBack 74 = .ok (.aload_n 0, 1) := by decide +kernel
theorem dX9_giveBack_75 : decode cX9_giveBack 75 = .ok (.iload_n 1, 1) := by decide +kernel
theorem dX9_giveBack_76 : decode cX9_giveBack 76 = .ok (.iload_n 2, 1) := by decide +kernel
theorem dX9_giveBack_77 : decode cX9_giveBack 77 = .ok (.invokevirtual 70, 3) := by decide +kernel
theorem dX9_giveBack_80 : decode cX9_giveBack 80 = .ok (.iconst 0, 1) := by decide +kernel
theorem dX9_giveBack_81 : decode cX9_giveBack 81 = .ok (.invokevirtual 84, 3) := by decide +kernel
theorem dX9_giveBack_84 : decode cX9_giveBack 84 = .ok (.ireturn, 1) := by decide +kernel
theorem dX9_enter_0 : decode cX9_enter 0 = .ok (.iload_n 1, 1) := by decide +kernel
theorem dX9_enter_1 : decode cX9_enter 1 = .ok (.iconst 0, 1) := by decide +kernel
theorem dX9_enter_2 : decode cX9_enter 2 = .ok (.iconst 4, 1) := by decide +kernel
theorem dX9_enter_3 : decode cX9_enter 3 = .ok (.invokestatic 59, 3) := by decide +kernel
theorem dX9_enter_6 : decode cX9_enter 6 = .ok (.ifCond .eq 23, 3) := by decide +kernel
theorem dX9_enter_9 : decode cX9_enter 9 = .ok (.iload_n 2, 1) := by decide +kernel
theorem dX9_enter_10 : decode cX9_enter 10 = .ok (.iload_n 3, 1) := by decide +kernel
theorem dX9_enter_11 : decode cX9_enter 11 = .ok (.iload 4, 2) := by decide +kernel
theorem dX9_enter_13 : decode cX9_enter 13 = .ok (.invokestatic 88, 3) := by decide +kernel
theorem dX9_enter_16 : decode cX9_enter 16 = .ok (.ifCond .eq 13, 3) := by decide +kernel
theorem dX9_enter_19 : decode cX9_enter 19 = .ok (.iload 4, 2) := by decide +kernel
theorem dX9_enter_21 : decode cX9_enter 21 = .ok (.iload 5, 2) := by decide +kernel
theorem dX9_enter_23 : decode cX9_enter 23 = .ok (.invokestatic 91, 3) := by decide +kernel
theorem dX9_enter_26 : decode cX9_enter 26 = .ok (.ifCond .ne 7, 3) := by decide +kernel
theorem dX9_enter_29 : decode cX9_enter 29 = .ok (.iconst 1, 1) := by decide +kernel
theorem dX9_enter_30 : decode cX9_enter 30 = .ok (.goto 4, 3) := by decide +kernel
theorem dX9_enter_33 : decode cX9_enter 33 = .ok (.iconst 0, 1) := by decide +kernel
theorem dX9_enter_34 : decode cX9_enter 34 = .ok (.istore 6, 2) := by decide +kernel
theorem dX9_enter_36 : decode cX9_enter 36 = .ok (.aload_n 0, 1) := by decide +kernel
theorem dX9_enter_37 : decode cX9_enter 37 = .ok (.iload 6, 2) := by decide +kernel
theorem dX9_enter_39 : decode cX9_enter 39 = .ok (.iconst 1, 1) := by decide +kernel
theorem dX9_enter_40 : decode cX9_enter 40 = .ok (.invokevirtual 63, 3) := by decide +kernel
theorem dX9_enter_43 : decode cX9_enter 43 = .ok (.ifCond .ne 27, 3) := by decide +kernel
theorem dX9_enter_46 : decode cX9_enter 46 = .ok (.aload_n 0, 1) := by decide +kernel
theorem dX9_enter_47 : decode cX9_enter 47 = .ok (.aload_n 0, 1) := by decide +kernel
theorem dX9_enter_48 : decode cX9_enter 48 = .ok (.getfield 7, 3) := by decide +kernel
theorem dX9_enter_51 : decode cX9_enter 51 = .ok (.iload_n 1, 1) := by decide +kernel
theorem dX9_enter_52 : decode cX9_enter 52 = .ok (.iaload, 1) := by decide +kernel
theorem dX9_enter_53 : decode cX9_enter 53 = .ok (.bipush 40, 2) := by decide +kernel
theorem dX9_enter_55 : decode cX9_enter 55 = .ok (.if_icmp .ne 7, 3) := by decide +kernel
theorem dX9_enter_58 : decode cX9_enter 58 = .ok (.iconst 1, 1) := by decide +kernel
theorem dX9_enter_59 : decode cX9_enter 59 = .ok (.goto 4, 3) := by decide +kernel
theorem dX9_enter_62 : decode cX9_enter 62 = .ok (.iconst 0, 1) := by decide +kernel
theorem dX9_enter_63 : decode cX9_enter 63 = .ok (.iconst 2, 1) := by decide +kernel
theorem dX9_enter_64 : decode cX9_enter 64 = .ok (.invokevirtual 63, 3) := by decide +kernel
theorem dX9_enter_67 : decode cX9_enter 67 = .ok (.ifCond .eq 5, 3) := by decide +kernel
theorem dX9_enter_70 : decode cX9_enter 70 = .ok (.iconst 0, 1) := by decide +kernel
theorem dX9_enter_71 : decode cX9_enter 71 = .ok (.ireturn, 1) := by decide +kernel
theorem dX9_enter_72 : decode cX9_enter 72 = .ok (.aload_n 0, 1) := by decide +kernel
theorem dX9_enter_73 : decode cX9_enter 73 = .ok (.iload_n 1, 1) := by decide +kernel
theorem dX9_enter_74 : decode cX9_enter 74 = .ok (.iload_n 2, 1) := by decide +kernel
theorem dX9_enter_75 : decode cX9_enter 75 = .ok (.invokevirtual 81, 3) := by decide +kernel
theorem dX9_enter_78 : decode cX9_enter 78 = .ok (.iload_n 1, 1) := by decide +kernel
theorem dX9_enter_79 : decode cX9_enter 79 = .ok (.if_icmp .ne 12, 3) := by decide +kernel
theorem dX9_enter_82 : decode cX9_enter 82 = .ok (.aload_n 0, 1) := by decide +kernel
theorem dX9_enter_83 : decode cX9_enter 83 = .ok (.iload_n 1, 1) := by decide +kernel
theorem dX9_enter_84 : decode cX9_enter 84 = .ok (.iload_n 2, 1) := by decide +kernel
theorem dX9_enter_85 : decode cX9_enter 85 = .ok (.invokevirtual 70, 3) := by decide +kernel
theorem dX9_enter_88 : decode cX9_enter 88 = .ok (.goto 4, 3) := by decide +kernel
theorem dX9_enter_91 : decode cX9_enter 91 = .ok (.iconst 0, 1) := by decide +kernel
theorem dX9_enter_92 : decode cX9_enter 92 = .ok (.istore 7, 2) := by decide +kernel
theorem dX9_enter_94 : decode cX9_enter 94 = .ok (.aload_n 0, 1) := by decide +kernel
theorem dX9_enter_95 : decode cX9_enter 95 = .ok (.iload_n 1, 1) := by decide +kernel
theorem dX9_enter_96 : decode cX9_enter 96 = .ok (.iconst 2, 1) := by decide +kernel
theorem dX9_enter_97 : decode cX9_enter 97 = .ok (.iload_n 2, 1) := by decide +kernel
theorem dX9_enter_98 : decode cX9_enter 98 = .ok (.iconst 3, 1) := by decide +kernel
theorem dX9_enter_99 : decode cX9_enter 99 = .ok (.iload_n 3, 1) := by decide +kernel
theorem dX9_enter_100 : decode cX9_enter 100 = .ok (.imul, 1) := by decide +kernel
theorem dX9_enter_101 : decode cX9_enter 101 = .ok (.iload 4, 2) := by decide +kernel
theorem dX9_enter_103 : decode cX9_enter 103 = .ok (.iadd, 1) := by decide +kernel
theorem dX9_enter_104 : decode cX9_enter 104 = .ok (.iload 5, 2) := by decide +kernel
theorem dX9_enter_106 : decode cX9_enter 106 = .ok (.iload 7, 2) := by decide +kernel
theorem dX9_enter_108 : decode cX9_enter 108 = .ok (.invokevirtual 84, 3) := by decide +kernel
theorem dX9_enter_111 : decode cX9_enter 111 = .ok (.ireturn, 1) := by decide +kernel
