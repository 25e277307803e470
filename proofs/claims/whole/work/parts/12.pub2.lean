/-! Small rows for the walks behind. -/
theorem tb_rt_s {v r : Int64} {n : Nat} (h : ¬ n = 0) : tb_rt v n r = tb_rt v (n - 1) (tb_rtS v (n - 1) r) := by
  cases n with
  | zero => exact absurd rfl h
  | succ n => rfl
theorem tb_nI0 {j : Nat} (h : j < 2147483648) : (nI j = 0) = (j = 0) := propext (nI_eq (b := 0) h (by decide))
theorem tb_nIn {a b : Nat} (ha : a < 2147483648) (hb : b < 2147483648) : (nI a = nI b) = (a = b) := propext (nI_eq ha hb)
theorem tb_dec (x : Nat) : nI x + Int32.ofInt (-1) = tb_m1 x := by
  unfold tb_m1
  rw [Int32.sub_eq_add_neg]
  rfl
theorem tg_752 : (Cond.methodLink "ForestTabletsModel" (112 : Nat) ({ cls := "ForestTabletsModel", name := "inConflict", desc := "(II)I" } : Jvm.MethodName)) ∈ lw_g := lw_gi (List.mem_of_getElem? (i := 752) (by decide +kernel)) rfl
theorem tg_754 : (Cond.instanceMethod ({ cls := "ForestTabletsModel", name := "inConflict", desc := "(II)I" } : Jvm.MethodName)) ∈ lw_g := lw_gi (List.mem_of_getElem? (i := 754) (by decide +kernel)) rfl
theorem tg_755 : (Cond.code ({ cls := "ForestTabletsModel", name := "inConflict", desc := "(II)I" } : Jvm.MethodName) prog_11_method_23_code (5 : Nat) (Option.some FieldType.int)) ∈ lw_g := lw_gi (List.mem_of_getElem? (i := 755) (by decide +kernel)) rfl
theorem tg_784 : (Cond.methodLink "ForestTabletsModel" (115 : Nat) ({ cls := "ForestTabletsModel", name := "carries", desc := "(II)Z" } : Jvm.MethodName)) ∈ lw_g := lw_gi (List.mem_of_getElem? (i := 784) (by decide +kernel)) rfl
theorem tg_786 : (Cond.instanceMethod ({ cls := "ForestTabletsModel", name := "carries", desc := "(II)Z" } : Jvm.MethodName)) ∈ lw_g := lw_gi (List.mem_of_getElem? (i := 786) (by decide +kernel)) rfl
theorem tg_787 : (Cond.code ({ cls := "ForestTabletsModel", name := "carries", desc := "(II)Z" } : Jvm.MethodName) prog_11_method_26_code (4 : Nat) (Option.some FieldType.boolean)) ∈ lw_g := lw_gi (List.mem_of_getElem? (i := 787) (by decide +kernel)) rfl
theorem tg_792 : (Cond.methodLink "ForestTabletsModel" (118 : Nat) ({ cls := "ForestTabletsModel", name := "ends", desc := "()V" } : Jvm.MethodName)) ∈ lw_g := lw_gi (List.mem_of_getElem? (i := 792) (by decide +kernel)) rfl
theorem tg_794 : (Cond.instanceMethod ({ cls := "ForestTabletsModel", name := "ends", desc := "()V" } : Jvm.MethodName)) ∈ lw_g := lw_gi (List.mem_of_getElem? (i := 794) (by decide +kernel)) rfl
theorem tg_795 : (Cond.code ({ cls := "ForestTabletsModel", name := "ends", desc := "()V" } : Jvm.MethodName) prog_11_method_28_code (1 : Nat) (Option.none : Option FieldType)) ∈ lw_g := lw_gi (List.mem_of_getElem? (i := 795) (by decide +kernel)) rfl
abbrev cX9_known : ByteArray := prog_11_method_31_code
def yX9_known : MethodName := ⟨RX9, "known", "(II)I"⟩
def wsX9_known : List Cond := .code yX9_known cX9_known 3 (some FieldType.int) :: lw_g
abbrev cX9_holder : ByteArray := prog_11_method_32_code
def yX9_holder : MethodName := ⟨RX9, "holder", "(III)I"⟩
def wsX9_holder : List Cond := .code yX9_holder cX9_holder 4 (some FieldType.int) :: lw_g
abbrev cX9_value : ByteArray := prog_11_method_33_code
def yX9_value : MethodName := ⟨RX9, "value", "(IIII)I"⟩
def wsX9_value : List Cond := .code yX9_value cX9_value 6 (some FieldType.int) :: lw_g
abbrev cX9_conflict : ByteArray := prog_11_method_35_code
def yX9_conflict : MethodName := ⟨RX9, "conflict", "(II)I"⟩
def wsX9_conflict : List Cond := .code yX9_conflict cX9_conflict 4 (some FieldType.int) :: lw_g
abbrev cX9_meet : ByteArray := prog_11_method_25_code
def yX9_meet : MethodName := ⟨RX9, "meet", "(II)V"⟩
def wsX9_meet : List Cond := .code yX9_meet cX9_meet 4 none :: lw_g
abbrev cX9_swap : ByteArray := prog_11_method_27_code
def yX9_swap : MethodName := ⟨RX9, "swap", "()Z"⟩
def wsX9_swap : List Cond := .code yX9_swap cX9_swap 1 (some FieldType.boolean) :: lw_g
abbrev cX9_part : ByteArray := prog_11_method_29_code
def yX9_part : MethodName := ⟨RX9, "part", "()V"⟩
def wsX9_part : List Cond := .code yX9_part cX9_part 1 none :: lw_g
abbrev cX9_crash : ByteArray := prog_11_method_30_code
def yX9_crash : MethodName := ⟨RX9, "crash", "(I)V"⟩
def wsX9_crash : List Cond := .code yX9_crash cX9_crash 3 none :: lw_g
abbrev cX9_resolve : ByteArray := prog_11_method_24_code
def yX9_resolve : MethodName := ⟨RX9, "resolve", "(II)I"⟩
def wsX9_resolve : List Cond := .code yX9_resolve cX9_resolve 7 (some FieldType.int) :: lw_g
abbrev cX9_root : ByteArray := prog_11_method_39_code
def yX9_root : MethodName := ⟨RX9, "root", "(J)J"⟩
def wsX9_root : List Cond := .code yX9_root cX9_root 7 (some FieldType.long) :: lw_g

theorem dX9_known_0 : decode cX9_known 0 = .ok (.aload_n 0, 1) := by decide +kernel
theorem dX9_known_1 : decode cX9_known 1 = .ok (.iload_n 1, 1) := by decide +kernel
theorem dX9_known_2 : decode cX9_known 2 = .ok (.iconst 0, 1) := by decide +kernel
theorem dX9_known_3 : decode cX9_known 3 = .ok (.iconst 4, 1) := by decide +kernel
theorem dX9_known_4 : decode cX9_known 4 = .ok (.invokestatic 59, 3) := by decide +kernel
theorem dX9_known_7 : decode cX9_known 7 = .ok (.ifCond .eq 12, 3) := by decide +kernel
theorem dX9_known_10 : decode cX9_known 10 = .ok (.iload_n 2, 1) := by decide +kernel
theorem dX9_known_11 : decode cX9_known 11 = .ok (.iconst 0, 1) := by decide +kernel
theorem dX9_known_12 : decode cX9_known 12 = .ok (.iconst 4, 1) := by decide +kernel
theorem dX9_known_13 : decode cX9_known 13 = .ok (.invokestatic 59, 3) := by decide +kernel
theorem dX9_known_16 : decode cX9_known 16 = .ok (.ifCond .ne 7, 3) := by decide +kernel
theorem dX9_known_19 : decode cX9_known 19 = .ok (.iconst 1, 1) := by decide +kernel
theorem dX9_known_20 : decode cX9_known 20 = .ok (.goto 4, 3) := by decide +kernel
theorem dX9_known_23 : decode cX9_known 23 = .ok (.iconst 0, 1) := by decide +kernel
theorem dX9_known_24 : decode cX9_known 24 = .ok (.iconst 1, 1) := by decide +kernel
theorem dX9_known_25 : decode cX9_known 25 = .ok (.invokevirtual 63, 3) := by decide +kernel
theorem dX9_known_28 : decode cX9_known 28 = .ok (.ifCond .eq 7, 3) := by decide +kernel
theorem dX9_known_31 : decode cX9_known 31 = .ok (.iconst 0, 1) := by decide +kernel
theorem dX9_known_32 : decode cX9_known 32 = .ok (.goto 13, 3) := by decide +kernel
theorem dX9_known_35 : decode cX9_known 35 = .ok (.aload_n 0, 1) := by decide +kernel
theorem dX9_known_36 : decode cX9_known 36 = .ok (.getfield 31, 3) := by decide +kernel
theorem dX9_known_39 : decode cX9_known 39 = .ok (.iconst 5, 1) := by decide +kernel
theorem dX9_known_40 : decode cX9_known 40 = .ok (.iload_n 1, 1) := by decide +kernel
theorem dX9_known_41 : decode cX9_known 41 = .ok (.imul, 1) := by decide +kernel
theorem dX9_known_42 : decode cX9_known 42 = .ok (.iload_n 2, 1) := by decide +kernel
theorem dX9_known_43 : decode cX9_known 43 = .ok (.iadd, 1) := by decide +kernel
theorem dX9_known_44 : decode cX9_known 44 = .ok (.iaload, 1) := by decide +kernel
theorem dX9_known_45 : decode cX9_known 45 = .ok (.ireturn, 1) := by decide +kernel
theorem dX9_holder_0 : decode cX9_holder 0 = .ok (.aload_n 0, 1) := by decide +kernel
theorem dX9_holder_1 : decode cX9_holder 1 = .ok (.iload_n 1, 1) := by decide +kernel
theorem dX9_holder_2 : decode cX9_holder 2 = .ok (.iconst 0, 1) := by decide +kernel
theorem dX9_holder_3 : decode cX9_holder 3 = .ok (.iconst 4, 1) := by decide +kernel
theorem dX9_holder_4 : decode cX9_holder 4 = .ok (.invokestatic 59, 3) := by decide +kernel
theorem dX9_holder_7 : decode cX9_holder 7 = .ok (.ifCond .eq 21, 3) := by decide +kernel
theorem dX9_holder_10 : decode cX9_holder 10 = .ok (.iload_n 2, 1) := by decide +kernel
theorem dX9_holder_11 : decode cX9_holder 11 = .ok (.iconst 0, 1) := by decide +kernel
theorem dX9_holder_12 : decode cX9_holder 12 = .ok (.iconst 5, 1) := by decide +kernel
theorem dX9_holder_13 : decode cX9_holder 13 = .ok (.invokestatic 59, 3) := by decide +kernel
theorem dX9_holder_16 : decode cX9_holder 16 = .ok (.ifCond .eq 12, 3) := by decide +kernel
theorem dX9_holder_19 : decode cX9_holder 19 = .ok (.iload_n 3, 1) := by decide +kernel
theorem dX9_holder_20 : decode cX9_holder 20 = .ok (.iconst 0, 1) := by decide +kernel
theorem dX9_holder_21 : decode cX9_holder 21 = .ok (.iconst 1, 1) := by decide +kernel
theorem dX9_holder_22 : decode cX9_holder 22 = .ok (.invokestatic 59, 3) := by decide +kernel
theorem dX9_holder_25 : decode cX9_holder 25 = .ok (.ifCond .ne 7, 3) := by decide +kernel
theorem dX9_holder_28 : decode cX9_holder 28 = .ok (.iconst 1, 1) := by decide +kernel
theorem dX9_holder_29 : decode cX9_holder 29 = .ok (.goto 4, 3) := by decide +kernel
theorem dX9_holder_32 : decode cX9_holder 32 = .ok (.iconst 0, 1) := by decide +kernel
theorem dX9_holder_33 : decode cX9_holder 33 = .ok (.iconst 1, 1) := by decide +kernel
theorem dX9_holder_34 : decode cX9_holder 34 = .ok (.invokevirtual 63, 3) := by decide +kernel
theorem dX9_holder_37 : decode cX9_holder 37 = .ok (.ifCond .eq 5, 3) := by decide +kernel
theorem dX9_holder_40 : decode cX9_holder 40 = .ok (.iconst 0, 1) := by decide +kernel
theorem dX9_holder_41 : decode cX9_holder 41 = .ok (.ireturn, 1) := by decide +kernel
theorem dX9_holder_42 : decode cX9_holder 42 = .ok (.iload_n 3, 1) := by decide +kernel
theorem dX9_holder_43 : decode cX9_holder 43 = .ok (.ifCond .ne 12, 3) := by decide +kernel
theorem dX9_holder_46 : decode cX9_holder 46 = .ok (.aload_n 0, 1) := by decide +kernel
theorem dX9_holder_47 : decode cX9_holder 47 = .ok (.iload_n 1, 1) := by decide +kernel
theorem dX9_holder_48 : decode cX9_holder 48 = .ok (.iload_n 2, 1) := by decide +kernel
theorem dX9_holder_49 : decode cX9_holder 49 = .ok (.invokevirtual 81, 3) := by decide +kernel
theorem dX9_holder_52 : decode cX9_holder 52 = .ok (.goto 9, 3) := by decide +kernel
theorem dX9_holder_55 : decode cX9_holder 55 = .ok (.aload_n 0, 1) := by decide +kernel
theorem dX9_holder_56 : decode cX9_holder 56 = .ok (.iload_n 1, 1) := by decide +kernel
theorem dX9_holder_57 : decode cX9_holder 57 = .ok (.iload_n 2, 1) := by decide +kernel
theorem dX9_holder_58 : decode cX9_holder 58 = .ok (.invokevirtual 70, 3) := by decide +kernel
theorem dX9_holder_61 : decode cX9_holder 61 = .ok (.ireturn, 1) := by decide +kernel
theorem dX9_value_0 : decode cX9_value 0 = .ok (.aload_n 0, 1) := by decide +kernel
theorem dX9_value_1 : decode cX9_value 1 = .ok (.iload_n 1, 1) := by decide +kernel
theorem dX9_value_2 : decode cX9_value 2 = .ok (.iconst 0, 1) := by decide +kernel
theorem dX9_value_3 : decode cX9_value 3 = .ok (.iconst 4, 1) := by decide +kernel
theorem dX9_value_4 : decode cX9_value 4 = .ok (.invokestatic 59, 3) := by decide +kernel
theorem dX9_value_7 : decode cX9_value 7 = .ok (.ifCond .eq 13, 3) := by decide +kernel
theorem dX9_value_10 : decode cX9_value 10 = .ok (.iload_n 2, 1) := by decide +kernel
theorem dX9_value_11 : decode cX9_value 11 = .ok (.iload_n 3, 1) := by decide +kernel
theorem dX9_value_12 : decode cX9_value 12 = .ok (.iload 4, 2) := by decide +kernel
theorem dX9_value_14 : decode cX9_value 14 = .ok (.invokestatic 88, 3) := by decide +kernel
theorem dX9_value_17 : decode cX9_value 17 = .ok (.ifCond .ne 7, 3) := by decide +kernel
theorem dX9_value_20 : decode cX9_value 20 = .ok (.iconst 1, 1) := by decide +kernel
theorem dX9_value_21 : decode cX9_value 21 = .ok (.goto 4, 3) := by decide +kernel
theorem dX9_value_24 : decode cX9_value 24 = .ok (.iconst 0, 1) := by decide +kernel
theorem dX9_value_25 : decode cX9_value 25 = .ok (.iconst 1, 1) := by decide +kernel
theorem dX9_value_26 : decode cX9_value 26 = .ok (.invokevirtual 63, 3) := by decide +kernel
theorem dX9_value_29 : decode cX9_value 29 = .ok (.ifCond .eq 5, 3) := by decide +kernel
theorem dX9_value_32 : decode cX9_value 32 = .ok (.iconst 0, 1) := by decide +kernel
theorem dX9_value_33 : decode cX9_value 33 = .ok (.ireturn, 1) := by decide +kernel
theorem dX9_value_34 : decode cX9_value 34 = .ok (.aload_n 0, 1) := by decide +kernel
theorem dX9_value_35 : decode cX9_value 35 = .ok (.iload_n 1, 1) := by decide +kernel
theorem dX9_value_36 : decode cX9_value 36 = .ok (.iload_n 2, 1) := by decide +kernel
theorem dX9_value_37 : decode cX9_value 37 = .ok (.iconst 3, 1) := by decide +kernel
theorem dX9_value_38 : decode cX9_value 38 = .ok (.iload_n 3, 1) := by decide +kernel
theorem dX9_value_39 : decode cX9_value 39 = .ok (.imul, 1) := by decide +kernel
theorem dX9_value_40 : decode cX9_value 40 = .ok (.iload 4, 2) := by decide +kernel
theorem dX9_value_42 : decode cX9_value 42 = .ok (.iadd, 1) := by decide +kernel
theorem dX9_value_43 : decode cX9_value 43 = .ok (.invokevirtual 106, 3) := by decide +kernel
theorem dX9_value_46 : decode cX9_value 46 = .ok (.istore 5, 2) := by decide +kernel
theorem dX9_value_48 : decode cX9_value 48 = .ok (.aload_n 0, 1) := by decide +kernel
theorem dX9_value_49 : decode cX9_value 49 = .ok (.iload 5, 2) := by decide +kernel
theorem dX9_value_51 : decode cX9_value 51 = .ok (.ifCond .ge 7, 3) := by decide +kernel
theorem dX9_value_54 : decode cX9_value 54 = .ok (.iconst 1, 1) := by decide +kernel
theorem dX9_value_55 : decode cX9_value 55 = .ok (.goto 4, 3) := by decide +kernel
theorem dX9_value_58 : decode cX9_value 58 = .ok (.iconst 0, 1) := by decide +kernel
theorem dX9_value_59 : decode cX9_value 59 = .ok (.iconst 2, 1) := by decide +kernel
theorem dX9_value_60 : decode cX9_value 60 = .ok (.invokevirtual 63, 3) := by decide +kernel
theorem dX9_value_63 : decode cX9_value 63 = .ok (.ifCond .eq 7, 3) := by decide +kernel
theorem dX9_value_66 : decode cX9_value 66 = .ok (.iconst 0, 1) := by decide +kernel
theorem dX9_value_67 : decode cX9_value 67 = .ok (.goto 10, 3) := by decide +kernel
theorem dX9_value_70 : decode cX9_value 70 = .ok (.aload_n 0, 1) := by decide +kernel
theorem dX9_value_71 : decode cX9_value 71 = .ok (.getfield 22, 3) := by decide +kernel
theorem dX9_value_74 : decode cX9_value 74 = .ok (.iload 5, 2) := by decide +kernel
theorem dX9_value_76 : decode cX9_value 76 = .ok (.iaload, 1) := by decide +kernel
theorem dX9_value_77 : decode cX9_value 77 = .ok (.ireturn, 1) := by decide +kernel
theorem dX9_conflict_0 : decode cX9_conflict 0 = .ok (.aload_n 0, 1) := by decide +kernel
theorem dX9_conflict_1 : decode cX9_conflict 1 = .ok (.iload_n 1, 1) := by decide +kernel
theorem dX9_conflict_2 : decode cX9_conflict 2 = .ok (.iconst 0, 1) := by decide +kernel
theorem dX9_conflict_3 : decode cX9_conflict 3 = .ok (.iconst 4, 1) := by decide +kernel
theorem dX9_conflict_4 : decode cX9_conflict 4 = .ok (.invokestatic 59, 3) := by decide +kernel
theorem dX9_conflict_7 : decode cX9_conflict 7 = .ok (.ifCond .eq 7, 3) := by decide +kernel
theorem dX9_conflict_10 : decode cX9_conflict 10 = .ok (.iload_n 2, 1) := by decide +kernel
theorem dX9_conflict_11 : decode cX9_conflict 11 = .ok (.ifCond .ge 7, 3) := by decide +kernel
theorem dX9_conflict_14 : decode cX9_conflict 14 = .ok (.iconst 1, 1) := by decide +kernel
theorem dX9_conflict_15 : decode cX9_conflict 15 = .ok (.goto 4, 3) := by decide +kernel
theorem dX9_conflict_18 : decode cX9_conflict 18 = .ok (.iconst 0, 1) := by decide +kernel
theorem dX9_conflict_19 : decode cX9_conflict 19 = .ok (.iconst 1, 1) := by decide +kernel
theorem dX9_conflict_20 : decode cX9_conflict 20 = .ok (.invokevirtual 63, 3) := by decide +kernel
theorem dX9_conflict_23 : decode cX9_conflict 23 = .ok (.ifCond .eq 5, 3) := by decide +kernel
theorem dX9_conflict_26 : decode cX9_conflict 26 = .ok (.iconst 0, 1) := by decide +kernel
theorem dX9_conflict_27 : decode cX9_conflict 27 = .ok (.ireturn, 1) := by decide +kernel
theorem dX9_conflict_28 : decode cX9_conflict 28 = .ok (.aload_n 0, 1) := by decide +kernel
theorem dX9_conflict_29 : decode cX9_conflict 29 = .ok (.iload_n 1, 1) := by decide +kernel
theorem dX9_conflict_30 : decode cX9_conflict 30 = .ok (.iload_n 2, 1) := by decide +kernel
theorem dX9_conflict_31 : decode cX9_conflict 31 = .ok (.invokevirtual 112, 3) := by decide +kernel
theorem dX9_conflict_34 : decode cX9_conflict 34 = .ok (.istore_n 3, 1) := by decide +kernel
theorem dX9_conflict_35 : decode cX9_conflict 35 = .ok (.iload_n 3, 1) := by decide +kernel
theorem dX9_conflict_36 : decode cX9_conflict 36 = .ok (.ifCond .ge 7, 3) := by decide +kernel
theorem dX9_conflict_39 : decode cX9_conflict 39 = .ok (.iconst (-1), 1) := by decide +kernel
theorem dX9_conflict_40 : decode cX9_conflict 40 = .ok (.goto 24, 3) := by decide +kernel
theorem dX9_conflict_43 : decode cX9_conflict 43 = .ok (.bipush 100, 2) := by decide +kernel
theorem dX9_conflict_45 : decode cX9_conflict 45 = .ok (.iload_n 3, 1) := by decide +kernel
theorem dX9_conflict_46 : decode cX9_conflict 46 = .ok (.bipush 12, 2) := by decide +kernel
theorem dX9_conflict_48 : decode cX9_conflict 48 = .ok (.idiv, 1) := by decide +kernel
theorem dX9_conflict_49 : decode cX9_conflict 49 = .ok (.imul, 1) := by decide +kernel
theorem dX9_conflict_50 : decode cX9_conflict 50 = .ok (.bipush 10, 2) := by decide +kernel
theorem dX9_conflict_52 : decode cX9_conflict 52 = .ok (.iload_n 3, 1) := by decide +kernel
theorem dX9_conflict_53 : decode cX9_conflict 53 = .ok (.bipush 12, 2) := by decide +kernel
theorem dX9_conflict_55 : decode cX9_conflict 55 = .ok (.irem, 1) := by decide +kernel
theorem dX9_conflict_56 : decode cX9_conflict 56 = .ok (.iconst 3, 1) := by decide +kernel
theorem dX9_conflict_57 : decode cX9_conflict 57 = .ok (.idiv, 1) := by decide +kernel
theorem dX9_conflict_58 : decode cX9_conflict 58 = .ok (.imul, 1) := by decide +kernel
theorem dX9_conflict_59 : decode cX9_conflict 59 = .ok (.iadd, 1) := by decide +kernel
theorem dX9_conflict_60 : decode cX9_conflict 60 = .ok (.iload_n 3, 1) := by decide +kernel
theorem dX9_conflict_61 : decode cX9_conflict 61 = .ok (.iconst 3, 1) := by decide +kernel
theorem dX9_conflict_62 : decode cX9_conflict 62 = .ok (.irem, 1) := by decide +kernel
theorem dX9_conflict_63 : decode cX9_conflict 63 = .ok (.iadd, 1) := by decide +kernel
theorem dX9_conflict_64 : decode cX9_conflict 64 = .ok (.ireturn, 1) := by decide +kernel
theorem dX9_meet_0 : decode cX9_meet 0 = .ok (.iload_n 1, 1) := by decide +kernel
theorem dX9_meet_1 : decode cX9_meet 1 = .ok (.iconst 0, 1) := by decide +kernel
theorem dX9_meet_2 : decode cX9_meet 2 = .ok (.iconst 4, 1) := by decide +kernel
theorem dX9_meet_3 : decode cX9_meet 3 = .ok (.invokestatic 59, 3) := by decide +kernel
theorem dX9_meet_6 : decode cX9_meet 6 = .ok (.ifCond .eq 17, 3) := by decide +kernel
theorem dX9_meet_9 : decode cX9_meet 9 = .ok (.iload_n 2, 1) := by decide +kernel
theorem dX9_meet_10 : decode cX9_meet 10 = .ok (.iconst 0, 1) := by decide +kernel
theorem dX9_meet_11 : decode cX9_meet 11 = .ok (.iconst 4, 1) := by decide +kernel
theorem dX9_meet_12 : decode cX9_meet 12 = .ok (.invokestatic 59, 3) := by decide +kernel
theorem dX9_meet_15 : decode cX9_meet 15 = .ok (.ifCond .eq 8, 3) := by decide +kernel
theorem dX9_meet_18 : decode cX9_meet 18 = .ok (.iload_n 1, 1) := by decide +kernel
theorem dX9_meet_19 : decode cX9_meet 19 = .ok (.iload_n 2, 1) := by decide +kernel
theorem dX9_meet_20 : decode cX9_meet 20 = .ok (.if_icmp .ne 7, 3) := by decide +kernel
theorem dX9_meet_23 : decode cX9_meet 23 = .ok (.iconst 1, 1) := by decide +kernel
theorem dX9_meet_24 : decode cX9_meet 24 = .ok (.goto 4, 3) := by decide +kernel
theorem dX9_meet_27 : decode cX9_meet 27 = .ok (.iconst 0, 1) := by decide +kernel
theorem dX9_meet_28 : decode cX9_meet 28 = .ok (.istore_n 3, 1) := by decide +kernel
theorem dX9_meet_29 : decode cX9_meet 29 = .ok (.aload_n 0, 1) := by decide +kernel
theorem dX9_meet_30 : decode cX9_meet 30 = .ok (.iload_n 3, 1) := by decide +kernel
theorem dX9_meet_31 : decode cX9_meet 31 = .ok (.iconst 1, 1) := by decide +kernel
theorem dX9_meet_32 : decode cX9_meet 32 = .ok (.invokevirtual 63, 3) := by decide +kernel
theorem dX9_meet_35 : decode cX9_meet 35 = .ok (.ifCond .ne 23, 3) := by decide +kernel
theorem dX9_meet_38 : decode cX9_meet 38 = .ok (.aload_n 0, 1) := by decide +kernel
theorem dX9_meet_39 : decode cX9_meet 39 = .ok (.aload_n 0, 1) := by decide +kernel
theorem dX9_meet_40 : decode cX9_meet 40 = .ok (.getfield 37, 3) := by decide +kernel
theorem dX9_meet_43 : decode cX9_meet 43 = .ok (.ifCond .lt 7, 3) := by decide +kernel
theorem dX9_meet_46 : decode cX9_meet 46 = .ok (.iconst 1, 1) := by decide +kernel
theorem dX9_meet_47 : decode cX9_meet 47 = .ok (.goto 4, 3) := by decide +kernel
theorem dX9_meet_50 : decode cX9_meet 50 = .ok (.iconst 0, 1) := by decide +kernel
theorem dX9_meet_51 : decode cX9_meet 51 = .ok (.iconst 2, 1) := by decide +kernel
theorem dX9_meet_52 : decode cX9_meet 52 = .ok (.invokevirtual 63, 3) := by decide +kernel
theorem dX9_meet_55 : decode cX9_meet 55 = .ok (.ifCond .eq 4, 3) := by decide +kernel
theorem dX9_meet_58 : decode cX9_meet 58 = .ok (.return_, 1) := by decide +kernel
theorem dX9_meet_59 : decode cX9_meet 59 = .ok (.aload_n 0, 1) := by decide +kernel
theorem dX9_meet_60 : decode cX9_meet 60 = .ok (.iload_n 1, 1) := by decide +kernel
theorem dX9_meet_61 : decode cX9_meet 61 = .ok (.putfield 37, 3) := by decide +kernel
theorem dX9_meet_64 : decode cX9_meet 64 = .ok (.aload_n 0, 1) := by decide +kernel
theorem dX9_meet_65 : decode cX9_meet 65 = .ok (.iload_n 2, 1) := by decide +kernel
theorem dX9_meet_66 : decode cX9_meet 66 = .ok (.putfield 41, 3) := by decide +kernel
theorem dX9_meet_69 : decode cX9_meet 69 = .ok (.return_, 1) := by decide +kernel
theorem dX9_swap_0 : decode cX9_swap 0 = .ok (.aload_n 0, 1) := by decide +kernel
theorem dX9_swap_1 : decode cX9_swap 1 = .ok (.aload_n 0, 1) := by decide +kernel
theorem dX9_swap_2 : decode cX9_swap 2 = .ok (.getfield 37, 3) := by decide +kernel
theorem dX9_swap_5 : decode cX9_swap 5 = .ok (.ifCond .ge 7, 3) := by decide +kernel
theorem dX9_swap_8 : decode cX9_swap 8 = .ok (.iconst 1, 1) := by decide +kernel
theorem dX9_swap_9 : decode cX9_swap 9 = .ok (.goto 4, 3) := by decide +kernel
theorem dX9_swap_12 : decode cX9_swap 12 = .ok (.iconst 0, 1) := by decide +kernel
theorem dX9_swap_13 : decode cX9_swap 13 = .ok (.iconst 1, 1) := by decide +kernel
theorem dX9_swap_14 : decode cX9_swap 14 = .ok (.invokevirtual 63, 3) := by decide +kernel
theorem dX9_swap_17 : decode cX9_swap 17 = .ok (.ifCond .eq 5, 3) := by decide +kernel
theorem dX9_swap_20 : decode cX9_swap 20 = .ok (.iconst 0, 1) := by decide +kernel
theorem dX9_swap_21 : decode cX9_swap 21 = .ok (.ireturn, 1) := by decide +kernel
theorem dX9_swap_22 : decode cX9_swap 22 = .ok (.aload_n 0, 1) := by decide +kernel
theorem dX9_swap_23 : decode cX9_swap 23 = .ok (.aload_n 0, 1) := by decide +kernel
theorem dX9_swap_24 : decode cX9_swap 24 = .ok (.getfield 37, 3) := by decide +kernel
theorem dX9_swap_27 : decode cX9_swap 27 = .ok (.aload_n 0, 1) := by decide +kernel
theorem dX9_swap_28 : decode cX9_swap 28 = .ok (.getfield 41, 3) := by decide +kernel
theorem dX9_swap_31 : decode cX9_swap 31 = .ok (.invokevirtual 115, 3) := by decide +kernel
theorem dX9_swap_34 : decode cX9_swap 34 = .ok (.ifCond .ne 18, 3) := by decide +kernel
theorem dX9_swap_37 : decode cX9_swap 37 = .ok (.aload_n 0, 1) := by decide +kernel
theorem dX9_swap_38 : decode cX9_swap 38 = .ok (.aload_n 0, 1) := by decide +kernel
theorem dX9_swap_39 : decode cX9_swap 39 = .ok (.getfield 41, 3) := by decide +kernel
theorem dX9_swap_42 : decode cX9_swap 42 = .ok (.aload_n 0, 1) := by decide +kernel
theorem dX9_swap_43 : decode cX9_swap 43 = .ok (.getfield 37, 3) := by decide +kernel
theorem dX9_swap_46 : decode cX9_swap 46 = .ok (.invokevirtual 115, 3) := by decide +kernel
theorem dX9_swap_49 : decode cX9_swap 49 = .ok (.ifCond .eq 7, 3) := by decide +kernel
theorem dX9_swap_52 : decode cX9_swap 52 = .ok (.iconst 1, 1) := by decide +kernel
theorem dX9_swap_53 : decode cX9_swap 53 = .ok (.goto 4, 3) := by decide +kernel
theorem dX9_swap_56 : decode cX9_swap 56 = .ok (.iconst 0, 1) := by decide +kernel
theorem dX9_swap_57 : decode cX9_swap 57 = .ok (.ireturn, 1) := by decide +kernel
theorem dX9_part_0 : decode cX9_part 0 = .ok (.aload_n 0, 1) := by decide +kernel
theorem dX9_part_1 : decode cX9_part 1 = .ok (.aload_n 0, 1) := by decide +kernel
theorem dX9_part_2 : decode cX9_part 2 = .ok (.getfield 37, 3) := by decide +kernel
theorem dX9_part_5 : decode cX9_part 5 = .ok (.ifCond .ge 7, 3) := by decide +kernel
theorem dX9_part_8 : decode cX9_part 8 = .ok (.iconst 1, 1) := by decide +kernel
theorem dX9_part_9 : decode cX9_part 9 = .ok (.goto 4, 3) := by decide +kernel
theorem dX9_part_12 : decode cX9_part 12 = .ok (.iconst 0, 1) := by decide +kernel
theorem dX9_part_13 : decode cX9_part 13 = .ok (.iconst 1, 1) := by decide +kernel
theorem dX9_part_14 : decode cX9_part 14 = .ok (.invokevirtual 63, 3) := by decide +kernel
theorem dX9_part_17 : decode cX9_part 17 = .ok (.ifCond .eq 4, 3) := by decide +kernel
theorem dX9_part_20 : decode cX9_part 20 = .ok (.return_, 1) := by decide +kernel
theorem dX9_part_21 : decode cX9_part 21 = .ok (.aload_n 0, 1) := by decide +kernel
theorem dX9_part_22 : decode cX9_part 22 = .ok (.aload_n 0, 1) := by decide +kernel
theorem dX9_part_23 : decode cX9_part 23 = .ok (.getfield 37, 3) := by decide +kernel
theorem dX9_part_26 : decode cX9_part 26 = .ok (.invokevirtual 77, 3) := by decide +kernel
theorem dX9_part_29 : decode cX9_part 29 = .ok (.aload_n 0, 1) := by decide +kernel
theorem dX9_part_30 : decode cX9_part 30 = .ok (.aload_n 0, 1) := by decide +kernel
theorem dX9_part_31 : decode cX9_part 31 = .ok (.getfield 41, 3) := by decide +kernel
theorem dX9_part_34 : decode cX9_part 34 = .ok (.invokevirtual 77, 3) := by decide +kernel
theorem dX9_part_37 : decode cX9_part 37 = .ok (.aload_n 0, 1) := by decide +kernel
theorem dX9_part_38 : decode cX9_part 38 = .ok (.invokevirtual 118, 3) := by decide +kernel
theorem dX9_part_41 : decode cX9_part 41 = .ok (.return_, 1) := by decide +kernel
theorem dX9_crash_0 : decode cX9_crash 0 = .ok (.aload_n 0, 1) := by decide +kernel
theorem dX9_crash_1 : decode cX9_crash 1 = .ok (.iload_n 1, 1) := by decide +kernel
theorem dX9_crash_2 : decode cX9_crash 2 = .ok (.iconst 0, 1) := by decide +kernel
theorem dX9_crash_3 : decode cX9_crash 3 = .ok (.iconst 4, 1) := by decide +kernel
theorem dX9_crash_4 : decode cX9_crash 4 = .ok (.invokestatic 59, 3) := by decide +kernel
theorem dX9_crash_7 : decode cX9_crash 7 = .ok (.ifCond .ne 7, 3) := by decide +kernel
theorem dX9_crash_10 : decode cX9_crash 10 = .ok (.iconst 1, 1) := by decide +kernel
theorem dX9_crash_11 : decode cX9_crash 11 = .ok (.goto 4, 3) := by decide +kernel
theorem dX9_crash_14 : decode cX9_crash 14 = .ok (.iconst 0, 1) := by decide +kernel
theorem dX9_crash_15 : decode cX9_crash 15 = .ok (.iconst 1, 1) := by decide +kernel
theorem dX9_crash_16 : decode cX9_crash 16 = .ok (.invokevirtual 63, 3) := by decide +kernel
theorem dX9_crash_19 : decode cX9_crash 19 = .ok (.ifCond .eq 4, 3) := by decide +kernel
theorem dX9_crash_22 : decode cX9_crash 22 = .ok (.return_, 1) := by decide +kernel
theorem dX9_crash_23 : decode cX9_crash 23 = .ok (.iload_n 1, 1) := by decide +kernel
theorem dX9_crash_24 : decode cX9_crash 24 = .ok (.aload_n 0, 1) := by decide +kernel
theorem dX9_crash_25 : decode cX9_crash 25 = .ok (.getfield 37, 3) := by decide +kernel
theorem dX9_crash_28 : decode cX9_crash 28 = .ok (.if_icmp .eq 11, 3) := by decide +kernel
theorem dX9_crash_31 : decode cX9_crash 31 = .ok (.iload_n 1, 1) := by decide +kernel
theorem dX9_crash_32 : decode cX9_crash 32 = .ok (.aload_n 0, 1) := by decide +kernel
theorem dX9_crash_33 : decode cX9_crash 33 = .ok (.getfield 41, 3) := by decide +kernel
theorem dX9_crash_36 : decode cX9_crash 36 = .ok (.if_icmp .ne 30, 3) := by decide +kernel
theorem dX9_crash_39 : decode cX9_crash 39 = .ok (.aload_n 0, 1) := by decide +kernel
theorem dX9_crash_40 : decode cX9_crash 40 = .ok (.iload_n 1, 1) := by decide +kernel
theorem dX9_crash_41 : decode cX9_crash 41 = .ok (.aload_n 0, 1) := by decide +kernel
theorem dX9_crash_42 : decode cX9_crash 42 = .ok (.getfield 37, 3) := by decide +kernel
theorem dX9_crash_45 : decode cX9_crash 45 = .ok (.if_icmp .ne 10, 3) := by decide +kernel
theorem dX9_crash_48 : decode cX9_crash 48 = .ok (.aload_n 0, 1) := by decide +kernel
theorem dX9_crash_49 : decode cX9_crash 49 = .ok (.getfield 41, 3) := by decide +kernel
theorem dX9_crash_52 : decode cX9_crash 52 = .ok (.goto 7, 3) := by decide +kernel
theorem dX9_crash_55 : decode cX9_crash 55 = .ok (.aload_n 0, 1) := by decide +kernel
theorem dX9_crash_56 : decode cX9_crash 56 = .ok (.getfield 37, 3) := by decide +kernel
theorem dX9_crash_59 : decode cX9_crash 59 = .ok (.invokevirtual 77, 3) := by decide +kernel
theorem dX9_crash_62 : decode cX9_crash 62 = .ok (.aload_n 0, 1) := by decide +kernel
theorem dX9_crash_63 : decode cX9_crash 63 = .ok (.invokevirtual 118, 3) := by decide +kernel
theorem dX9_crash_66 : decode cX9_crash 66 = .ok (.iconst 0, 1) := by decide +kernel
theorem dX9_crash_67 : decode cX9_crash 67 = .ok (.istore_n 2, 1) := by decide +kernel
theorem dX9_crash_68 : decode cX9_crash 68 = .ok (.iload_n 2, 1) := by decide +kernel
theorem dX9_crash_69 : decode cX9_crash 69 = .ok (.iconst 5, 1) := by decide +kernel
theorem dX9_crash_70 : decode cX9_crash 70 = .ok (.if_icmp .ge 43, 3) := by decide +kernel
theorem dX9_crash_73 : decode cX9_crash 73 = .ok (.aload_n 0, 1) := by decide +kernel
theorem dX9_crash_74 : decode cX9_crash 74 = .ok (.getfield 31, 3) := by decide +kernel
theorem dX9_crash_77 : decode cX9_crash 77 = .ok (.iconst 5, 1) := by decide +kernel
theorem dX9_crash_78 : decode cX9_crash 78 = .ok (.iload_n 1, 1) := by decide +kernel
theorem dX9_crash_79 : decode cX9_crash 79 = .ok (.imul, 1) := by decide +kernel
theorem dX9_crash_80 : decode cX9_crash 80 = .ok (.iload_n 2, 1) := by decide +kernel
theorem dX9_crash_81 : decode cX9_crash 81 = .ok (.iadd, 1) := by decide +kernel
theorem dX9_crash_82 : decode cX9_crash 82 = .ok (.iload_n 2, 1) := by decide +kernel
theorem dX9_crash_83 : decode cX9_crash 83 = .ok (.iload_n 1, 1) := by decide +kernel
theorem dX9_crash_84 : decode cX9_crash 84 = .ok (.if_icmp .ne 12, 3) := by decide +kernel
theorem dX9_crash_87 : decode cX9_crash 87 = .ok (.aload_n 0, 1) := by decide +kernel
theorem dX9_crash_88 : decode cX9_crash 88 = .ok (.getfield 7, 3) := by decide +kernel
theorem dX9_crash_91 : decode cX9_crash 91 = .ok (.iload_n 2, 1) := by decide +kernel
theorem dX9_crash_92 : decode cX9_crash 92 = .ok (.iaload, 1) := by decide +kernel
theorem dX9_crash_93 : decode cX9_crash 93 = .ok (.goto 13, 3) := by decide +kernel
theorem dX9_crash_96 : decode cX9_crash 96 = .ok (.aload_n 0, 1) := by decide +kernel
theorem dX9_crash_97 : decode cX9_crash 97 = .ok (.getfield 34, 3) := by decide +kernel
theorem dX9_crash_100 : decode cX9_crash 100 = .ok (.iconst 5, 1) := by decide +kernel
theorem dX9_crash_101 : decode cX9_crash 101 = .ok (.iload_n 1, 1) := by decide +kernel
theorem dX9_crash_102 : decode cX9_crash 102 = .ok (.imul, 1) := by decide +kernel
theorem dX9_crash_103 : decode cX9_crash 103 = .ok (.iload_n 2, 1) := by decide +kernel
theorem dX9_crash_104 : decode cX9_crash 104 = .ok (.iadd, 1) := by decide +kernel
theorem dX9_crash_105 : decode cX9_crash 105 = .ok (.iaload, 1) := by decide +kernel
theorem dX9_crash_106 : decode cX9_crash 106 = .ok (.iastore, 1) := by decide +kernel
theorem dX9_crash_107 : decode cX9_crash 107 = .ok (.iinc 2 1, 3) := by decide +kernel
theorem dX9_crash_110 : decode cX9_crash 110 = .ok (.goto (-42), 3) := by decide +kernel
theorem dX9_crash_113 : decode cX9_crash 113 = .ok (.return_, 1) := by decide +kernel
theorem dX9_resolve_0 : decode cX9_resolve 0 = .ok (.aload_n 0, 1) := by decide +kernel
theorem dX9_resolve_1 : decode cX9_resolve 1 = .ok (.iconst 0, 1) := by decide +kernel
theorem dX9_resolve_2 : decode cX9_resolve 2 = .ok (.iload_n 1, 1) := by decide +kernel
theorem dX9_resolve_3 : decode cX9_resolve 3 = .ok (.invokevirtual 112, 3) := by decide +kernel
theorem dX9_resolve_6 : decode cX9_resolve 6 = .ok (.istore_n 3, 1) := by decide +kernel
theorem dX9_resolve_7 : decode cX9_resolve 7 = .ok (.iload_n 3, 1) := by decide +kernel
theorem dX9_resolve_8 : decode cX9_resolve 8 = .ok (.ifCond .ge 7, 3) := by decide +kernel
theorem dX9_resolve_11 : decode cX9_resolve 11 = .ok (.iconst 1, 1) := by decide +kernel
theorem dX9_resolve_12 : decode cX9_resolve 12 = .ok (.goto 4, 3) := by decide +kernel
theorem dX9_resolve_15 : decode cX9_resolve 15 = .ok (.iconst 0, 1) := by decide +kernel
theorem dX9_resolve_16 : decode cX9_resolve 16 = .ok (.istore 4, 2) := by decide +kernel
theorem dX9_resolve_18 : decode cX9_resolve 18 = .ok (.aload_n 0, 1) := by decide +kernel
theorem dX9_resolve_19 : decode cX9_resolve 19 = .ok (.iload 4, 2) := by decide +kernel
theorem dX9_resolve_21 : decode cX9_resolve 21 = .ok (.iconst 1, 1) := by decide +kernel
theorem dX9_resolve_22 : decode cX9_resolve 22 = .ok (.invokevirtual 63, 3) := by decide +kernel
theorem dX9_resolve_25 : decode cX9_resolve 25 = .ok (.ifCond .ne 50, 3) := by decide +kernel
theorem dX9_resolve_28 : decode cX9_resolve 28 = .ok (.aload_n 0, 1) := by decide +kernel
theorem dX9_resolve_29 : decode cX9_resolve 29 = .ok (.iload_n 3, 1) := by decide +kernel
theorem dX9_resolve_30 : decode cX9_resolve 30 = .ok (.iconst 3, 1) := by decide +kernel
theorem dX9_resolve_31 : decode cX9_resolve 31 = .ok (.irem, 1) := by decide +kernel
theorem dX9_resolve_32 : decode cX9_resolve 32 = .ok (.iload_n 2, 1) := by decide +kernel
theorem dX9_resolve_33 : decode cX9_resolve 33 = .ok (.invokestatic 91, 3) := by decide +kernel
theorem dX9_resolve_36 : decode cX9_resolve 36 = .ok (.ifCond .ne 7, 3) := by decide +kernel
theorem dX9_resolve_39 : decode cX9_resolve 39 = .ok (.iconst 1, 1) := by decide +kernel
theorem dX9_resolve_40 : decode cX9_resolve 40 = .ok (.goto 4, 3) := by decide +kernel
theorem dX9_resolve_43 : decode cX9_resolve 43 = .ok (.iconst 0, 1) := by decide +kernel
theorem dX9_resolve_44 : decode cX9_resolve 44 = .ok (.iconst 2, 1) := by decide +kernel
theorem dX9_resolve_45 : decode cX9_resolve 45 = .ok (.invokevirtual 63, 3) := by decide +kernel
theorem dX9_resolve_48 : decode cX9_resolve 48 = .ok (.ifCond .ne 27, 3) := by decide +kernel
theorem dX9_resolve_51 : decode cX9_resolve 51 = .ok (.aload_n 0, 1) := by decide +kernel
theorem dX9_resolve_52 : decode cX9_resolve 52 = .ok (.aload_n 0, 1) := by decide +kernel
theorem dX9_resolve_53 : decode cX9_resolve 53 = .ok (.getfield 7, 3) := by decide +kernel
theorem dX9_resolve_56 : decode cX9_resolve 56 = .ok (.iconst 0, 1) := by decide +kernel
theorem dX9_resolve_57 : decode cX9_resolve 57 = .ok (.iaload, 1) := by decide +kernel
theorem dX9_resolve_58 : decode cX9_resolve 58 = .ok (.bipush 40, 2) := by decide +kernel
theorem dX9_resolve_60 : decode cX9_resolve 60 = .ok (.if_icmp .ne 7, 3) := by decide +kernel
theorem dX9_resolve_63 : decode cX9_resolve 63 = .ok (.iconst 1, 1) := by decide +kernel
theorem dX9_resolve_64 : decode cX9_resolve 64 = .ok (.goto 4, 3) := by decide +kernel
theorem dX9_resolve_67 : decode cX9_resolve 67 = .ok (.iconst 0, 1) := by decide +kernel
theorem dX9_resolve_68 : decode cX9_resolve 68 = .ok (.iconst 3, 1) := by decide +kernel
theorem dX9_resolve_69 : decode cX9_resolve 69 = .ok (.invokevirtual 63, 3) := by decide +kernel
theorem dX9_resolve_72 : decode cX9_resolve 72 = .ok (.ifCond .eq 5, 3) := by decide +kernel
theorem dX9_resolve_75 : decode cX9_resolve 75 = .ok (.iconst 0, 1) := by decide +kernel
theorem dX9_resolve_76 : decode cX9_resolve 76 = .ok (.ireturn, 1) := by decide +kernel
theorem dX9_resolve_77 : decode cX9_resolve 77 = .ok (.iconst 0, 1) := by decide +kernel
theorem dX9_resolve_78 : decode cX9_resolve 78 = .ok (.istore 5, 2) := by decide +kernel
theorem dX9_resolve_80 : decode cX9_resolve 80 = .ok (.iconst 0, 1) := by decide +kernel
theorem dX9_resolve_81 : decode cX9_resolve 81 = .ok (.istore 6, 2) := by decide +kernel
theorem dX9_resolve_83 : decode cX9_resolve 83 = .ok (.iload 6, 2) := by decide +kernel
theorem dX9_resolve_85 : decode cX9_resolve 85 = .ok (.sipush 200, 3) := by decide +kernel
theorem dX9_resolve_88 : decode cX9_resolve 88 = .ok (.if_icmp .ge 53, 3) := by decide +kernel
theorem dX9_resolve_91 : decode cX9_resolve 91 = .ok (.aload_n 0, 1) := by decide +kernel
theorem dX9_resolve_92 : decode cX9_resolve 92 = .ok (.iconst 0, 1) := by decide +kernel
theorem dX9_resolve_93 : decode cX9_resolve 93 = .ok (.iload_n 3, 1) := by decide +kernel
theorem dX9_resolve_94 : decode cX9_resolve 94 = .ok (.bipush 12, 2) := by decide +kernel
theorem dX9_resolve_96 : decode cX9_resolve 96 = .ok (.idiv, 1) := by decide +kernel
theorem dX9_resolve_97 : decode cX9_resolve 97 = .ok (.iload_n 3, 1) := by decide +kernel
theorem dX9_resolve_98 : decode cX9_resolve 98 = .ok (.bipush 12, 2) := by decide +kernel
theorem dX9_resolve_100 : decode cX9_resolve 100 = .ok (.irem, 1) := by decide +kernel
theorem dX9_resolve_101 : decode cX9_resolve 101 = .ok (.iload 6, 2) := by decide +kernel
theorem dX9_resolve_103 : decode cX9_resolve 103 = .ok (.invokevirtual 95, 3) := by decide +kernel
theorem dX9_resolve_106 : decode cX9_resolve 106 = .ok (.ifCond .eq 25, 3) := by decide +kernel
theorem dX9_resolve_109 : decode cX9_resolve 109 = .ok (.aload_n 0, 1) := by decide +kernel
theorem dX9_resolve_110 : decode cX9_resolve 110 = .ok (.getfield 25, 3) := by decide +kernel
theorem dX9_resolve_113 : decode cX9_resolve 113 = .ok (.iload 6, 2) := by decide +kernel
theorem dX9_resolve_115 : decode cX9_resolve 115 = .ok (.iaload, 1) := by decide +kernel
theorem dX9_resolve_116 : decode cX9_resolve 116 = .ok (.iload 5, 2) := by decide +kernel
theorem dX9_resolve_118 : decode cX9_resolve 118 = .ok (.if_icmp .le 13, 3) := by decide +kernel
theorem dX9_resolve_121 : decode cX9_resolve 121 = .ok (.aload_n 0, 1) := by decide +kernel
theorem dX9_resolve_122 : decode cX9_resolve 122 = .ok (.getfield 25, 3) := by decide +kernel
theorem dX9_resolve_125 : decode cX9_resolve 125 = .ok (.iload 6, 2) := by decide +kernel
theorem dX9_resolve_127 : decode cX9_resolve 127 = .ok (.iaload, 1) := by decide +kernel
theorem dX9_resolve_128 : decode cX9_resolve 128 = .ok (.goto 5, 3) := by decide +kernel
theorem dX9_resolve_131 : decode cX9_resolve 131 = .ok (.iload 5, 2) := by decide +kernel
theorem dX9_resolve_133 : decode cX9_resolve 133 = .ok (.istore 5, 2) := by decide +kernel
theorem dX9_resolve_135 : decode cX9_resolve 135 = .ok (.iinc 6 1, 3) := by decide +kernel
theorem dX9_resolve_138 : decode cX9_resolve 138 = .ok (.goto (-55), 3) := by decide +kernel
theorem dX9_resolve_141 : decode cX9_resolve 141 = .ok (.aload_n 0, 1) := by decide +kernel
theorem dX9_resolve_142 : decode cX9_resolve 142 = .ok (.iconst 0, 1) := by decide +kernel
theorem dX9_resolve_143 : decode cX9_resolve 143 = .ok (.iconst 2, 1) := by decide +kernel
theorem dX9_resolve_144 : decode cX9_resolve 144 = .ok (.iload_n 3, 1) := by decide +kernel
theorem dX9_resolve_145 : decode cX9_resolve 145 = .ok (.bipush 12, 2) := by decide +kernel
theorem dX9_resolve_147 : decode cX9_resolve 147 = .ok (.idiv, 1) := by decide +kernel
theorem dX9_resolve_148 : decode cX9_resolve 148 = .ok (.iload_n 3, 1) := by decide +kernel
theorem dX9_resolve_149 : decode cX9_resolve 149 = .ok (.bipush 12, 2) := by decide +kernel
theorem dX9_resolve_151 : decode cX9_resolve 151 = .ok (.irem, 1) := by decide +kernel
theorem dX9_resolve_152 : decode cX9_resolve 152 = .ok (.iload_n 2, 1) := by decide +kernel
theorem dX9_resolve_153 : decode cX9_resolve 153 = .ok (.iload 5, 2) := by decide +kernel
theorem dX9_resolve_155 : decode cX9_resolve 155 = .ok (.iconst 1, 1) := by decide +kernel
theorem dX9_resolve_156 : decode cX9_resolve 156 = .ok (.iadd, 1) := by decide +kernel
theorem dX9_resolve_157 : decode cX9_resolve 157 = .ok (.invokevirtual 84, 3) := by decide +kernel
theorem dX9_resolve_160 : decode cX9_resolve 160 = .ok (.ireturn, 1) := by decide +kernel
theorem dX9_root_0 : decode cX9_root 0 = .ok (.lconst 0, 1) := by decide +kernel
theorem dX9_root_1 : decode cX9_root 1 = .ok (.lstore_n 2, 1) := by decide +kernel
theorem dX9_root_2 : decode cX9_root 2 = .ok (.bipush 30, 2) := by decide +kernel
theorem dX9_root_4 : decode cX9_root 4 = .ok (.istore 4, 2) := by decide +kernel
theorem dX9_root_6 : decode cX9_root 6 = .ok (.iload 4, 2) := by decide +kernel
theorem dX9_root_8 : decode cX9_root 8 = .ok (.ifCond .lt 34, 3) := by decide +kernel
theorem dX9_root_11 : decode cX9_root 11 = .ok (.lload_n 2, 1) := by decide +kernel
theorem dX9_root_12 : decode cX9_root 12 = .ok (.lconst 1, 1) := by decide +kernel
theorem dX9_root_13 : decode cX9_root 13 = .ok (.iload 4, 2) := by decide +kernel
theorem dX9_root_15 : decode cX9_root 15 = .ok (.lshl, 1) := by decide +kernel
theorem dX9_root_16 : decode cX9_root 16 = .ok (.ladd, 1) := by decide +kernel
theorem dX9_root_17 : decode cX9_root 17 = .ok (.lstore 5, 2) := by decide +kernel
theorem dX9_root_19 : decode cX9_root 19 = .ok (.lload 5, 2) := by decide +kernel
theorem dX9_root_21 : decode cX9_root 21 = .ok (.lload 5, 2) := by decide +kernel
theorem dX9_root_23 : decode cX9_root 23 = .ok (.lmul, 1) := by decide +kernel
theorem dX9_root_24 : decode cX9_root 24 = .ok (.lload_n 0, 1) := by decide +kernel
theorem dX9_root_25 : decode cX9_root 25 = .ok (.lcmp, 1) := by decide +kernel
theorem dX9_root_26 : decode cX9_root 26 = .ok (.ifCond .gt 8, 3) := by decide +kernel
theorem dX9_root_29 : decode cX9_root 29 = .ok (.lload 5, 2) := by decide +kernel
theorem dX9_root_31 : decode cX9_root 31 = .ok (.goto 4, 3) := by decide +kernel
theorem dX9_root_34 : decode cX9_root 34 = .ok (.lload_n 2, 1) := by decide +kernel
theorem dX9_root_35 : decode cX9_root 35 = .ok (.lstore_n 2, 1) := by decide +kernel
theorem dX9_root_36 : decode cX9_root 36 = .ok (.iinc 4 (-1), 3) := by decide +kernel
theorem dX9_root_39 : decode cX9_root 39 = .ok (.goto (-33), 3) := by decide +kernel
theorem dX9_root_42 : decode cX9_root 42 = .ok (.lload_n 2, 1) := by decide +kernel
theorem dX9_root_43 : decode cX9_root 43 = .ok (.lreturn, 1) := by decide +kernel
