theorem dX9_in_0 : decode cX9_in 0 = .ok (.iload_n 0, 1) := by decide +kernel
theorem dX9_in_1 : decode cX9_in 1 = .ok (.iload_n 1, 1) := by decide +kernel
theorem dX9_in_2 : decode cX9_in 2 = .ok (.if_icmp .lt 12, 3) := by decide +kernel
theorem dX9_in_5 : decode cX9_in 5 = .ok (.iload_n 0, 1) := by decide +kernel
theorem dX9_in_6 : decode cX9_in 6 = .ok (.iload_n 2, 1) := by decide +kernel
theorem dX9_in_7 : decode cX9_in 7 = .ok (.if_icmp .gt 7, 3) := by decide +kernel
theorem dX9_in_10 : decode cX9_in 10 = .ok (.iconst 1, 1) := by decide +kernel
theorem dX9_in_11 : decode cX9_in 11 = .ok (.goto 4, 3) := by decide +kernel
theorem dX9_in_14 : decode cX9_in 14 = .ok (.iconst 0, 1) := by decide +kernel
theorem dX9_in_15 : decode cX9_in 15 = .ok (.ireturn, 1) := by decide +kernel
theorem dX9_fails_0 : decode cX9_fails 0 = .ok (.aload_n 0, 1) := by decide +kernel
theorem dX9_fails_1 : decode cX9_fails 1 = .ok (.iload_n 1, 1) := by decide +kernel
theorem dX9_fails_2 : decode cX9_fails 2 = .ok (.ifCond .eq 7, 3) := by decide +kernel
theorem dX9_fails_5 : decode cX9_fails 5 = .ok (.iload_n 2, 1) := by decide +kernel
theorem dX9_fails_6 : decode cX9_fails 6 = .ok (.goto 4, 3) := by decide +kernel
theorem dX9_fails_9 : decode cX9_fails 9 = .ok (.iconst 0, 1) := by decide +kernel
theorem dX9_fails_10 : decode cX9_fails 10 = .ok (.putfield 56, 3) := by decide +kernel
theorem dX9_fails_13 : decode cX9_fails 13 = .ok (.iload_n 1, 1) := by decide +kernel
theorem dX9_fails_14 : decode cX9_fails 14 = .ok (.ireturn, 1) := by decide +kernel
theorem dX9_isKnown_0 : decode cX9_isKnown 0 = .ok (.iload_n 3, 1) := by decide +kernel
theorem dX9_isKnown_1 : decode cX9_isKnown 1 = .ok (.aload_n 0, 1) := by decide +kernel
theorem dX9_isKnown_2 : decode cX9_isKnown 2 = .ok (.getfield 31, 3) := by decide +kernel
theorem dX9_isKnown_5 : decode cX9_isKnown 5 = .ok (.iconst 5, 1) := by decide +kernel
theorem dX9_isKnown_6 : decode cX9_isKnown 6 = .ok (.iload_n 1, 1) := by decide +kernel
theorem dX9_isKnown_7 : decode cX9_isKnown 7 = .ok (.imul, 1) := by decide +kernel
theorem dX9_isKnown_8 : decode cX9_isKnown 8 = .ok (.iload_n 2, 1) := by decide +kernel
theorem dX9_isKnown_9 : decode cX9_isKnown 9 = .ok (.iadd, 1) := by decide +kernel
theorem dX9_isKnown_10 : decode cX9_isKnown 10 = .ok (.iaload, 1) := by decide +kernel
theorem dX9_isKnown_11 : decode cX9_isKnown 11 = .ok (.if_icmp .ge 7, 3) := by decide +kernel
theorem dX9_isKnown_14 : decode cX9_isKnown 14 = .ok (.iconst 1, 1) := by decide +kernel
theorem dX9_isKnown_15 : decode cX9_isKnown 15 = .ok (.goto 4, 3) := by decide +kernel
theorem dX9_isKnown_18 : decode cX9_isKnown 18 = .ok (.iconst 0, 1) := by decide +kernel
theorem dX9_isKnown_19 : decode cX9_isKnown 19 = .ok (.ireturn, 1) := by decide +kernel
theorem dX9_lent_0 : decode cX9_lent 0 = .ok (.iconst 0, 1) := by decide +kernel
theorem dX9_lent_1 : decode cX9_lent 1 = .ok (.istore_n 3, 1) := by decide +kernel
theorem dX9_lent_2 : decode cX9_lent 2 = .ok (.iconst 0, 1) := by decide +kernel
theorem dX9_lent_3 : decode cX9_lent 3 = .ok (.istore 4, 2) := by decide +kernel
theorem dX9_lent_5 : decode cX9_lent 5 = .ok (.iload 4, 2) := by decide +kernel
theorem dX9_lent_7 : decode cX9_lent 7 = .ok (.bipush 40, 2) := by decide +kernel
theorem dX9_lent_9 : decode cX9_lent 9 = .ok (.if_icmp .ge 76, 3) := by decide +kernel
theorem dX9_lent_12 : decode cX9_lent 12 = .ok (.aload_n 0, 1) := by decide +kernel
theorem dX9_lent_13 : decode cX9_lent 13 = .ok (.iload_n 1, 1) := by decide +kernel
theorem dX9_lent_14 : decode cX9_lent 14 = .ok (.iconst 0, 1) := by decide +kernel
theorem dX9_lent_15 : decode cX9_lent 15 = .ok (.iload 4, 2) := by decide +kernel
theorem dX9_lent_17 : decode cX9_lent 17 = .ok (.invokevirtual 67, 3) := by decide +kernel
theorem dX9_lent_20 : decode cX9_lent 20 = .ok (.ifCond .eq 28, 3) := by decide +kernel
theorem dX9_lent_23 : decode cX9_lent 23 = .ok (.aload_n 0, 1) := by decide +kernel
theorem dX9_lent_24 : decode cX9_lent 24 = .ok (.getfield 13, 3) := by decide +kernel
theorem dX9_lent_27 : decode cX9_lent 27 = .ok (.iload 4, 2) := by decide +kernel
theorem dX9_lent_29 : decode cX9_lent 29 = .ok (.iaload, 1) := by decide +kernel
theorem dX9_lent_30 : decode cX9_lent 30 = .ok (.ifCond .ne 18, 3) := by decide +kernel
theorem dX9_lent_33 : decode cX9_lent 33 = .ok (.aload_n 0, 1) := by decide +kernel
theorem dX9_lent_34 : decode cX9_lent 34 = .ok (.getfield 16, 3) := by decide +kernel
theorem dX9_lent_37 : decode cX9_lent 37 = .ok (.iload 4, 2) := by decide +kernel
theorem dX9_lent_39 : decode cX9_lent 39 = .ok (.iaload, 1) := by decide +kernel
theorem dX9_lent_40 : decode cX9_lent 40 = .ok (.iload_n 2, 1) := by decide +kernel
theorem dX9_lent_41 : decode cX9_lent 41 = .ok (.if_icmp .ne 7, 3) := by decide +kernel
theorem dX9_lent_44 : decode cX9_lent 44 = .ok (.iconst 1, 1) := by decide +kernel
theorem dX9_lent_45 : decode cX9_lent 45 = .ok (.goto 4, 3) := by decide +kernel
theorem dX9_lent_48 : decode cX9_lent 48 = .ok (.iconst 0, 1) := by decide +kernel
theorem dX9_lent_49 : decode cX9_lent 49 = .ok (.istore 5, 2) := by decide +kernel
theorem dX9_lent_51 : decode cX9_lent 51 = .ok (.iload 5, 2) := by decide +kernel
theorem dX9_lent_53 : decode cX9_lent 53 = .ok (.ifCond .eq 24, 3) := by decide +kernel
theorem dX9_lent_56 : decode cX9_lent 56 = .ok (.aload_n 0, 1) := by decide +kernel
theorem dX9_lent_57 : decode cX9_lent 57 = .ok (.getfield 25, 3) := by decide +kernel
theorem dX9_lent_60 : decode cX9_lent 60 = .ok (.iload 4, 2) := by decide +kernel
theorem dX9_lent_62 : decode cX9_lent 62 = .ok (.iaload, 1) := by decide +kernel
theorem dX9_lent_63 : decode cX9_lent 63 = .ok (.iload_n 3, 1) := by decide +kernel
theorem dX9_lent_64 : decode cX9_lent 64 = .ok (.if_icmp .le 13, 3) := by decide +kernel
theorem dX9_lent_67 : decode cX9_lent 67 = .ok (.aload_n 0, 1) := by decide +kernel
theorem dX9_lent_68 : decode cX9_lent 68 = .ok (.getfield 25, 3) := by decide +kernel
theorem dX9_lent_71 : decode cX9_lent 71 = .ok (.iload 4, 2) := by decide +kernel
theorem dX9_lent_73 : decode cX9_lent 73 = .ok (.iaload, 1) := by decide +kernel
theorem dX9_lent_74 : decode cX9_lent 74 = .ok (.goto 4, 3) := by decide +kernel
theorem dX9_lent_77 : decode cX9_lent 77 = .ok (.iload_n 3, 1) := by decide +kernel
theorem dX9_lent_78 : decode cX9_lent 78 = .ok (.istore_n 3, 1) := by decide +kernel
theorem dX9_lent_79 : decode cX9_lent 79 = .ok (.iinc 4 1, 3) := by decide +kernel
theorem dX9_lent_82 : decode cX9_lent 82 = .ok (.goto (-77), 3) := by decide +kernel
theorem dX9_lent_85 : decode cX9_lent 85 = .ok (.iload_n 3, 1) := by decide +kernel
theorem dX9_lent_86 : decode cX9_lent 86 = .ok (.ireturn, 1) := by decide +kernel
theorem dX9_isBack_0 : decode cX9_isBack 0 = .ok (.iconst 0, 1) := by decide +kernel
theorem dX9_isBack_1 : decode cX9_isBack 1 = .ok (.istore 4, 2) := by decide +kernel
theorem dX9_isBack_3 : decode cX9_isBack 3 = .ok (.iconst 0, 1) := by decide +kernel
theorem dX9_isBack_4 : decode cX9_isBack 4 = .ok (.istore 5, 2) := by decide +kernel
theorem dX9_isBack_6 : decode cX9_isBack 6 = .ok (.iload 5, 2) := by decide +kernel
theorem dX9_isBack_8 : decode cX9_isBack 8 = .ok (.sipush 200, 3) := by decide +kernel
theorem dX9_isBack_11 : decode cX9_isBack 11 = .ok (.if_icmp .ge 72, 3) := by decide +kernel
theorem dX9_isBack_14 : decode cX9_isBack 14 = .ok (.iload 4, 2) := by decide +kernel
theorem dX9_isBack_16 : decode cX9_isBack 16 = .ok (.ifCond .ne 54, 3) := by decide +kernel
theorem dX9_isBack_19 : decode cX9_isBack 19 = .ok (.aload_n 0, 1) := by decide +kernel
theorem dX9_isBack_20 : decode cX9_isBack 20 = .ok (.iload_n 1, 1) := by decide +kernel
theorem dX9_isBack_21 : decode cX9_isBack 21 = .ok (.iload 5, 2) := by decide +kernel
theorem dX9_isBack_23 : decode cX9_isBack 23 = .ok (.bipush 40, 2) := by decide +kernel
theorem dX9_isBack_25 : decode cX9_isBack 25 = .ok (.idiv, 1) := by decide +kernel
theorem dX9_isBack_26 : decode cX9_isBack 26 = .ok (.iload 5, 2) := by decide +kernel
theorem dX9_isBack_28 : decode cX9_isBack 28 = .ok (.bipush 40, 2) := by decide +kernel
theorem dX9_isBack_30 : decode cX9_isBack 30 = .ok (.irem, 1) := by decide +kernel
theorem dX9_isBack_31 : decode cX9_isBack 31 = .ok (.invokevirtual 67, 3) := by decide +kernel
theorem dX9_isBack_34 : decode cX9_isBack 34 = .ok (.ifCond .eq 40, 3) := by decide +kernel
theorem dX9_isBack_37 : decode cX9_isBack 37 = .ok (.aload_n 0, 1) := by decide +kernel
theorem dX9_isBack_38 : decode cX9_isBack 38 = .ok (.getfield 13, 3) := by decide +kernel
theorem dX9_isBack_41 : decode cX9_isBack 41 = .ok (.iload 5, 2) := by decide +kernel
theorem dX9_isBack_43 : decode cX9_isBack 43 = .ok (.iaload, 1) := by decide +kernel
theorem dX9_isBack_44 : decode cX9_isBack 44 = .ok (.iconst 1, 1) := by decide +kernel
theorem dX9_isBack_45 : decode cX9_isBack 45 = .ok (.if_icmp .ne 29, 3) := by decide +kernel
theorem dX9_isBack_48 : decode cX9_isBack 48 = .ok (.aload_n 0, 1) := by decide +kernel
theorem dX9_isBack_49 : decode cX9_isBack 49 = .ok (.getfield 16, 3) := by decide +kernel
theorem dX9_isBack_52 : decode cX9_isBack 52 = .ok (.iload 5, 2) := by decide +kernel
theorem dX9_isBack_54 : decode cX9_isBack 54 = .ok (.iaload, 1) := by decide +kernel
theorem dX9_isBack_55 : decode cX9_isBack 55 = .ok (.iload_n 2, 1) := by decide +kernel
theorem dX9_isBack_56 : decode cX9_isBack 56 = .ok (.if_icmp .ne 18, 3) := by decide +kernel
theorem dX9_isBack_59 : decode cX9_isBack 59 = .ok (.aload_n 0, 1) := by decide +kernel
theorem dX9_isBack_60 : decode cX9_isBack 60 = .ok (.getfield 22, 3) := by decide +kernel
theorem dX9_isBack_63 : decode cX9_isBack 63 = .ok (.iload 5, 2) := by decide +kernel
theorem dX9_isBack_65 : decode cX9_isBack 65 = .ok (.iaload, 1) := by decide +kernel
theorem dX9_isBack_66 : decode cX9_isBack 66 = .ok (.iload_n 3, 1) := by decide +kernel
theorem dX9_isBack_67 : decode cX9_isBack 67 = .ok (.if_icmp .ne 7, 3) := by decide +kernel
theorem dX9_isBack_70 : decode cX9_isBack 70 = .ok (.iconst 1, 1) := by decide +kernel
theorem dX9_isBack_71 : decode cX9_isBack 71 = .ok (.goto 4, 3) := by decide +kernel
theorem dX9_isBack_74 : decode cX9_isBack 74 = .ok (.iconst 0, 1) := by decide +kernel
theorem dX9_isBack_75 : decode cX9_isBack 75 = .ok (.istore 4, 2) := by decide +kernel
theorem dX9_isBack_77 : decode cX9_isBack 77 = .ok (.iinc 5 1, 3) := by decide +kernel
theorem dX9_isBack_80 : decode cX9_isBack 80 = .ok (.goto (-74), 3) := by decide +kernel
theorem dX9_isBack_83 : decode cX9_isBack 83 = .ok (.iload 4, 2) := by decide +kernel
theorem dX9_isBack_85 : decode cX9_isBack 85 = .ok (.ireturn, 1) := by decide +kernel
theorem dX9_holds_0 : decode cX9_holds 0 = .ok (.aload_n 0, 1) := by decide +kernel
theorem dX9_holds_1 : decode cX9_holds 1 = .ok (.iload_n 1, 1) := by decide +kernel
theorem dX9_holds_2 : decode cX9_holds 2 = .ok (.iload_n 2, 1) := by decide +kernel
theorem dX9_holds_3 : decode cX9_holds 3 = .ok (.invokevirtual 70, 3) := by decide +kernel
theorem dX9_holds_6 : decode cX9_holds 6 = .ok (.istore_n 3, 1) := by decide +kernel
theorem dX9_holds_7 : decode cX9_holds 7 = .ok (.iload_n 3, 1) := by decide +kernel
theorem dX9_holds_8 : decode cX9_holds 8 = .ok (.ifCond .eq 13, 3) := by decide +kernel
theorem dX9_holds_11 : decode cX9_holds 11 = .ok (.aload_n 0, 1) := by decide +kernel
theorem dX9_holds_12 : decode cX9_holds 12 = .ok (.iload_n 1, 1) := by decide +kernel
theorem dX9_holds_13 : decode cX9_holds 13 = .ok (.iload_n 2, 1) := by decide +kernel
theorem dX9_holds_14 : decode cX9_holds 14 = .ok (.iload_n 3, 1) := by decide +kernel
theorem dX9_holds_15 : decode cX9_holds 15 = .ok (.invokevirtual 74, 3) := by decide +kernel
theorem dX9_holds_18 : decode cX9_holds 18 = .ok (.ifCond .eq 5, 3) := by decide +kernel
theorem dX9_holds_21 : decode cX9_holds 21 = .ok (.iconst (-1), 1) := by decide +kernel
theorem dX9_holds_22 : decode cX9_holds 22 = .ok (.ireturn, 1) := by decide +kernel
theorem dX9_holds_23 : decode cX9_holds 23 = .ok (.iconst (-1), 1) := by decide +kernel
theorem dX9_holds_24 : decode cX9_holds 24 = .ok (.istore 4, 2) := by decide +kernel
theorem dX9_holds_26 : decode cX9_holds 26 = .ok (.iconst 0, 1) := by decide +kernel
theorem dX9_holds_27 : decode cX9_holds 27 = .ok (.istore 5, 2) := by decide +kernel
theorem dX9_holds_29 : decode cX9_holds 29 = .ok (.iload 5, 2) := by decide +kernel
theorem dX9_holds_31 : decode cX9_holds 31 = .ok (.bipush 40, 2) := by decide +kernel
theorem dX9_holds_33 : decode cX9_holds 33 = .ok (.if_icmp .ge 78, 3) := by decide +kernel
theorem dX9_holds_36 : decode cX9_holds 36 = .ok (.aload_n 0, 1) := by decide +kernel
theorem dX9_holds_37 : decode cX9_holds 37 = .ok (.iload_n 1, 1) := by decide +kernel
theorem dX9_holds_38 : decode cX9_holds 38 = .ok (.iconst 0, 1) := by decide +kernel
theorem dX9_holds_39 : decode cX9_holds 39 = .ok (.iload 5, 2) := by decide +kernel
theorem dX9_holds_41 : decode cX9_holds 41 = .ok (.invokevirtual 67, 3) := by decide +kernel
theorem dX9_holds_44 : decode cX9_holds 44 = .ok (.ifCond .eq 39, 3) := by decide +kernel
theorem dX9_holds_47 : decode cX9_holds 47 = .ok (.aload_n 0, 1) := by decide +kernel
theorem dX9_holds_48 : decode cX9_holds 48 = .ok (.getfield 13, 3) := by decide +kernel
theorem dX9_holds_51 : decode cX9_holds 51 = .ok (.iload 5, 2) := by decide +kernel
theorem dX9_holds_53 : decode cX9_holds 53 = .ok (.iaload, 1) := by decide +kernel
theorem dX9_holds_54 : decode cX9_holds 54 = .ok (.ifCond .ne 29, 3) := by decide +kernel
theorem dX9_holds_57 : decode cX9_holds 57 = .ok (.aload_n 0, 1) := by decide +kernel
theorem dX9_holds_58 : decode cX9_holds 58 = .ok (.getfield 16, 3) := by decide +kernel
theorem dX9_holds_61 : decode cX9_holds 61 = .ok (.iload 5, 2) := by decide +kernel
theorem dX9_holds_63 : decode cX9_holds 63 = .ok (.iaload, 1) := by decide +kernel
theorem dX9_holds_64 : decode cX9_holds 64 = .ok (.iload_n 2, 1) := by decide +kernel
theorem dX9_holds_65 : decode cX9_holds 65 = .ok (.if_icmp .ne 18, 3) := by decide +kernel
theorem dX9_holds_68 : decode cX9_holds 68 = .ok (.aload_n 0, 1) := by decide +kernel
theorem dX9_holds_69 : decode cX9_holds 69 = .ok (.getfield 25, 3) := by decide +kernel
theorem dX9_holds_72 : decode cX9_holds 72 = .ok (.iload 5, 2) := by decide +kernel
theorem dX9_holds_74 : decode cX9_holds 74 = .ok (.iaload, 1) := by decide +kernel
theorem dX9_holds_75 : decode cX9_holds 75 = .ok (.iload_n 3, 1) := by decide +kernel
theorem dX9_holds_76 : decode cX9_holds 76 = .ok (.if_icmp .ne 7, 3) := by decide +kernel
theorem dX9_holds_79 : decode cX9_holds 79 = .ok (.iconst 1, 1) := by decide +kernel
theorem dX9_holds_80 : decode cX9_holds 80 = .ok (.goto 4, 3) := by decide +kernel
theorem dX9_holds_83 : decode cX9_holds 83 = .ok (.iconst 0, 1) := by decide +kernel
theorem dX9_holds_84 : decode cX9_holds 84 = .ok (.istore 6, 2) := by decide +kernel
theorem dX9_holds_86 : decode cX9_holds 86 = .ok (.iload 6, 2) := by decide +kernel
theorem dX9_holds_88 : decode cX9_holds 88 = .ok (.ifCond .eq 13, 3) := by decide +kernel
theorem dX9_holds_91 : decode cX9_holds 91 = .ok (.aload_n 0, 1) := by decide +kernel
theorem dX9_holds_92 : decode cX9_holds 92 = .ok (.getfield 22, 3) := by decide +kernel
theorem dX9_holds_95 : decode cX9_holds 95 = .ok (.iload 5, 2) := by decide +kernel
theorem dX9_holds_97 : decode cX9_holds 97 = .ok (.iaload, 1) := by decide +kernel
theorem dX9_holds_98 : decode cX9_holds 98 = .ok (.goto 5, 3) := by decide +kernel
theorem dX9_holds_101 : decode cX9_holds 101 = .ok (.iload 4, 2) := by decide +kernel
theorem dX9_holds_103 : decode cX9_holds 103 = .ok (.istore 4, 2) := by decide +kernel
theorem dX9_holds_105 : decode cX9_holds 105 = .ok (.iinc 5 1, 3) := by decide +kernel
theorem dX9_holds_108 : decode cX9_holds 108 = .ok (.goto (-79), 3) := by decide +kernel
theorem dX9_holds_111 : decode cX9_holds 111 = .ok (.iload 4, 2) := by decide +kernel
theorem dX9_holds_113 : decode cX9_holds 113 = .ok (.ireturn, 1) := by decide +kernel
theorem dX9_keep_0 : decode cX9_keep 0 = .ok (.iconst 0, 1) := by decide +kernel
theorem dX9_keep_1 : decode cX9_keep 1 = .ok (.istore_n 2, 1) := by decide +kernel
theorem dX9_keep_2 : decode cX9_keep 2 = .ok (.iload_n 2, 1) := by decide +kernel
theorem dX9_keep_3 : decode cX9_keep 3 = .ok (.iconst 5, 1) := by decide +kernel
theorem dX9_keep_4 : decode cX9_keep 4 = .ok (.if_icmp .ge 29, 3) := by decide +kernel
theorem dX9_keep_7 : decode cX9_keep 7 = .ok (.aload_n 0, 1) := by decide +kernel
theorem dX9_keep_8 : decode cX9_keep 8 = .ok (.getfield 34, 3) := by decide +kernel
theorem dX9_keep_11 : decode cX9_keep 11 = .ok (.iconst 5, 1) := by decide +kernel
theorem dX9_keep_12 : decode cX9_keep 12 = .ok (.iload_n 1, 1) := by decide +kernel
theorem dX9_keep_13 : decode cX9_keep 13 = .ok (.imul, 1) := by decide +kernel
theorem dX9_keep_14 : decode cX9_keep 14 = .ok (.iload_n 2, 1) := by decide +kernel
theorem dX9_keep_15 : decode cX9_keep 15 = .ok (.iadd, 1) := by decide +kernel
theorem dX9_keep_16 : decode cX9_keep 16 = .ok (.aload_n 0, 1) := by decide +kernel
theorem dX9_keep_17 : decode cX9_keep 17 = .ok (.getfield 31, 3) := by decide +kernel
theorem dX9_keep_20 : decode cX9_keep 20 = .ok (.iconst 5, 1) := by decide +kernel
theorem dX9_keep_21 : decode cX9_keep 21 = .ok (.iload_n 1, 1) := by decide +kernel
theorem dX9_keep_22 : decode cX9_keep 22 = .ok (.imul, 1) := by decide +kernel
theorem dX9_keep_23 : decode cX9_keep 23 = .ok (.iload_n 2, 1) := by decide +kernel
theorem dX9_keep_24 : decode cX9_keep 24 = .ok (.iadd, 1) := by decide +kernel
theorem dX9_keep_25 : decode cX9_keep 25 = .ok (.iaload, 1) := by decide +kernel
theorem dX9_keep_26 : decode cX9_keep 26 = .ok (.iastore, 1) := by decide +kernel
theorem dX9_keep_27 : decode cX9_keep 27 = .ok (.iinc 2 1, 3) := by decide +kernel
theorem dX9_keep_30 : decode cX9_keep 30 = .ok (.goto (-28), 3) := by decide +kernel
theorem dX9_keep_33 : decode cX9_keep 33 = .ok (.return_, 1) := by decide +kernel
theorem dX9_enters_0 : decode cX9_enters 0 = .ok (.bipush 40, 2) := by decide +kernel
theorem dX9_enters_2 : decode cX9_enters 2 = .ok (.iload_n 1, 1) := by decide +kernel
theorem dX9_enters_3 : decode cX9_enters 3 = .ok (.imul, 1) := by decide +kernel
theorem dX9_enters_4 : decode cX9_enters 4 = .ok (.aload_n 0, 1) := by decide +kernel
theorem dX9_enters_5 : decode cX9_enters 5 = .ok (.getfield 7, 3) := by decide +kernel
theorem dX9_enters_8 : decode cX9_enters 8 = .ok (.iload_n 1, 1) := by decide +kernel
theorem dX9_enters_9 : decode cX9_enters 9 = .ok (.iaload, 1) := by decide +kernel
theorem dX9_enters_10 : decode cX9_enters 10 = .ok (.iadd, 1) := by decide +kernel
theorem dX9_enters_11 : decode cX9_enters 11 = .ok (.istore 7, 2) := by decide +kernel
theorem dX9_enters_13 : decode cX9_enters 13 = .ok (.aload_n 0, 1) := by decide +kernel
theorem dX9_enters_14 : decode cX9_enters 14 = .ok (.getfield 13, 3) := by decide +kernel
theorem dX9_enters_17 : decode cX9_enters 17 = .ok (.iload 7, 2) := by decide +kernel
theorem dX9_enters_19 : decode cX9_enters 19 = .ok (.iload_n 2, 1) := by decide +kernel
theorem dX9_enters_20 : decode cX9_enters 20 = .ok (.iastore, 1) := by decide +kernel
theorem dX9_enters_21 : decode cX9_enters 21 = .ok (.aload_n 0, 1) := by decide +kernel
theorem dX9_enters_22 : decode cX9_enters 22 = .ok (.getfield 16, 3) := by decide +kernel
theorem dX9_enters_25 : decode cX9_enters 25 = .ok (.iload 7, 2) := by decide +kernel
theorem dX9_enters_27 : decode cX9_enters 27 = .ok (.iload_n 3, 1) := by decide +kernel
theorem dX9_enters_28 : decode cX9_enters 28 = .ok (.iastore, 1) := by decide +kernel
theorem dX9_enters_29 : decode cX9_enters 29 = .ok (.aload_n 0, 1) := by decide +kernel
theorem dX9_enters_30 : decode cX9_enters 30 = .ok (.getfield 19, 3) := by decide +kernel
theorem dX9_enters_33 : decode cX9_enters 33 = .ok (.iload 7, 2) := by decide +kernel
theorem dX9_enters_35 : decode cX9_enters 35 = .ok (.iload 4, 2) := by decide +kernel
theorem dX9_enters_37 : decode cX9_enters 37 = .ok (.iastore, 1) := by decide +kernel
theorem dX9_enters_38 : decode cX9_enters 38 = .ok (.aload_n 0, 1) := by decide +kernel
theorem dX9_enters_39 : decode cX9_enters 39 = .ok (.getfield 22, 3) := by decide +kernel
theorem dX9_enters_42 : decode cX9_enters 42 = .ok (.iload 7, 2) := by decide +kernel
theorem dX9_enters_44 : decode cX9_enters 44 = .ok (.iload 5, 2) := by decide +kernel
theorem dX9_enters_46 : decode cX9_enters 46 = .ok (.iastore, 1) := by decide +kernel
theorem dX9_enters_47 : decode cX9_enters 47 = .ok (.aload_n 0, 1) := by decide +kernel
theorem dX9_enters_48 : decode cX9_enters 48 = .ok (.getfield 25, 3) := by decide +kernel
theorem dX9_enters_51 : decode cX9_enters 51 = .ok (.iload 7, 2) := by decide +kernel
theorem dX9_enters_53 : decode cX9_enters 53 = .ok (.iload 6, 2) := by decide +kernel
theorem dX9_enters_55 : decode cX9_enters 55 = .ok (.iastore, 1) := by decide +kernel
theorem dX9_enters_56 : decode cX9_enters 56 = .ok (.iconst 0, 1) := by decide +kernel
theorem dX9_enters_57 : decode cX9_enters 57 = .ok (.istore 8, 2) := by decide +kernel
theorem dX9_enters_59 : decode cX9_enters 59 = .ok (.iload 8, 2) := by decide +kernel
theorem dX9_enters_61 : decode cX9_enters 61 = .ok (.iconst 5, 1) := by decide +kernel
theorem dX9_enters_62 : decode cX9_enters 62 = .ok (.if_icmp .ge 32, 3) := by decide +kernel
theorem dX9_enters_65 : decode cX9_enters 65 = .ok (.aload_n 0, 1) := by decide +kernel
theorem dX9_enters_66 : decode cX9_enters 66 = .ok (.getfield 28, 3) := by decide +kernel
theorem dX9_enters_69 : decode cX9_enters 69 = .ok (.iconst 5, 1) := by decide +kernel
theorem dX9_enters_70 : decode cX9_enters 70 = .ok (.iload 7, 2) := by decide +kernel
theorem dX9_enters_72 : decode cX9_enters 72 = .ok (.imul, 1) := by decide +kernel
theorem dX9_enters_73 : decode cX9_enters 73 = .ok (.iload 8, 2) := by decide +kernel
theorem dX9_enters_75 : decode cX9_enters 75 = .ok (.iadd, 1) := by decide +kernel
theorem dX9_enters_76 : decode cX9_enters 76 = .ok (.aload_n 0, 1) := by decide +kernel
theorem dX9_enters_77 : decode cX9_enters 77 = .ok (.getfield 31, 3) := by decide +kernel
theorem dX9_enters_80 : decode cX9_enters 80 = .ok (.iconst 5, 1) := by decide +kernel
theorem dX9_enters_81 : decode cX9_enters 81 = .ok (.iload_n 1, 1) := by decide +kernel
theorem dX9_enters_82 : decode cX9_enters 82 = .ok (.imul, 1) := by decide +kernel
theorem dX9_enters_83 : decode cX9_enters 83 = .ok (.iload 8, 2) := by decide +kernel
theorem dX9_enters_85 : decode cX9_enters 85 = .ok (.iadd, 1) := by decide +kernel
theorem dX9_enters_86 : decode cX9_enters 86 = .ok (.iaload, 1) := by decide +kernel
theorem dX9_enters_87 : decode cX9_enters 87 = .ok (.iastore, 1) := by decide +kernel
theorem dX9_enters_88 : decode cX9_enters 88 = .ok (.iinc 8 1, 3) := by decide +kernel
theorem dX9_enters_91 : decode cX9_enters 91 = .ok (.goto (-32), 3) := by decide +kernel
theorem dX9_enters_94 : decode cX9_enters 94 = .ok (.aload_n 0, 1) := by decide +kernel
theorem dX9_enters_95 : decode cX9_enters 95 = .ok (.getfield 7, 3) := by decide +kernel
theorem dX9_enters_98 : decode cX9_enters 98 = .ok (.iload_n 1, 1) := by decide +kernel
theorem dX9_enters_99 : decode cX9_enters 99 = .ok (.dup2, 1) := by decide +kernel
theorem dX9_enters_100 : decode cX9_enters 100 = .ok (.iaload, 1) := by decide +kernel
theorem dX9_enters_101 : decode cX9_enters 101 = .ok (.iconst 1, 1) := by decide +kernel
theorem dX9_enters_102 : decode cX9_enters 102 = .ok (.iadd, 1) := by decide +kernel
theorem dX9_enters_103 : decode cX9_enters 103 = .ok (.iastore, 1) := by decide +kernel
theorem dX9_enters_104 : decode cX9_enters 104 = .ok (.aload_n 0, 1) := by decide +kernel
theorem dX9_enters_105 : decode cX9_enters 105 = .ok (.getfield 31, 3) := by decide +kernel
theorem dX9_enters_108 : decode cX9_enters 108 = .ok (.iconst 5, 1) := by decide +kernel
theorem dX9_enters_109 : decode cX9_enters 109 = .ok (.iload_n 1, 1) := by decide +kernel
theorem dX9_enters_110 : decode cX9_enters 110 = .ok (.imul, 1) := by decide +kernel
theorem dX9_enters_111 : decode cX9_enters 111 = .ok (.iload_n 1, 1) := by decide +kernel
theorem dX9_enters_112 : decode cX9_enters 112 = .ok (.iadd, 1) := by decide +kernel
theorem dX9_enters_113 : decode cX9_enters 113 = .ok (.dup2, 1) := by decide +kernel
theorem dX9_enters_114 : decode cX9_enters 114 = .ok (.iaload, 1) := by decide +kernel
theorem dX9_enters_115 : decode cX9_enters 115 = .ok (.iconst 1, 1) := by decide +kernel
theorem dX9_enters_116 : decode cX9_enters 116 = .ok (.iadd, 1) := by decide +kernel
theorem dX9_enters_117 : decode cX9_enters 117 = .ok (.iastore, 1) := by decide +kernel
theorem dX9_enters_118 : decode cX9_enters 118 = .ok (.aload_n 0, 1) := by decide +kernel
theorem dX9_enters_119 : decode cX9_enters 119 = .ok (.iload_n 1, 1) := by decide +kernel
theorem dX9_enters_120 : decode cX9_enters 120 = .ok (.invokevirtual 77, 3) := by decide +kernel
theorem dX9_enters_123 : decode cX9_enters 123 = .ok (.aload_n 0, 1) := by decide +kernel
theorem dX9_enters_124 : decode cX9_enters 124 = .ok (.getfield 7, 3) := by decide +kernel
theorem dX9_enters_127 : decode cX9_enters 127 = .ok (.iload_n 1, 1) := by decide +kernel
theorem dX9_enters_128 : decode cX9_enters 128 = .ok (.iaload, 1) := by decide +kernel
theorem dX9_enters_129 : decode cX9_enters 129 = .ok (.ireturn, 1) := by decide +kernel
theorem dX9_isOf_0 : decode cX9_isOf 0 = .ok (.aload_n 0, 1) := by decide +kernel
theorem dX9_isOf_1 : decode cX9_isOf 1 = .ok (.iload_n 1, 1) := by decide +kernel
theorem dX9_isOf_2 : decode cX9_isOf 2 = .ok (.iload 4, 2) := by decide +kernel
theorem dX9_isOf_4 : decode cX9_isOf 4 = .ok (.bipush 40, 2) := by decide +kernel
theorem dX9_isOf_6 : decode cX9_isOf 6 = .ok (.idiv, 1) := by decide +kernel
theorem dX9_isOf_7 : decode cX9_isOf 7 = .ok (.iload 4, 2) := by decide +kernel
theorem dX9_isOf_9 : decode cX9_isOf 9 = .ok (.bipush 40, 2) := by decide +kernel
theorem dX9_isOf_11 : decode cX9_isOf 11 = .ok (.irem, 1) := by decide +kernel
theorem dX9_isOf_12 : decode cX9_isOf 12 = .ok (.invokevirtual 67, 3) := by decide +kernel
theorem dX9_isOf_15 : decode cX9_isOf 15 = .ok (.ifCond .eq 40, 3) := by decide +kernel
theorem dX9_isOf_18 : decode cX9_isOf 18 = .ok (.aload_n 0, 1) := by decide +kernel
theorem dX9_isOf_19 : decode cX9_isOf 19 = .ok (.getfield 13, 3) := by decide +kernel
theorem dX9_isOf_22 : decode cX9_isOf 22 = .ok (.iload 4, 2) := by decide +kernel
theorem dX9_isOf_24 : decode cX9_isOf 24 = .ok (.iaload, 1) := by decide +kernel
theorem dX9_isOf_25 : decode cX9_isOf 25 = .ok (.iconst 2, 1) := by decide +kernel
theorem dX9_isOf_26 : decode cX9_isOf 26 = .ok (.if_icmp .ne 29, 3) := by decide +kernel
theorem dX9_isOf_29 : decode cX9_isOf 29 = .ok (.aload_n 0, 1) := by decide +kernel
theorem dX9_isOf_30 : decode cX9_isOf 30 = .ok (.getfield 16, 3) := by decide +kernel
theorem dX9_isOf_33 : decode cX9_isOf 33 = .ok (.iload 4, 2) := by decide +kernel
theorem dX9_isOf_35 : decode cX9_isOf 35 = .ok (.iaload, 1) := by decide +kernel
theorem dX9_isOf_36 : decode cX9_isOf 36 = .ok (.iload_n 2, 1) := by decide +kernel
theorem dX9_isOf_37 : decode cX9_isOf 37 = .ok (.if_icmp .ne 18, 3) := by decide +kernel
theorem dX9_isOf_40 : decode cX9_isOf 40 = .ok (.aload_n 0, 1) := by decide +kernel
theorem dX9_isOf_41 : decode cX9_isOf 41 = .ok (.getfield 19, 3) := by decide +kernel
theorem dX9_isOf_44 : decode cX9_isOf 44 = .ok (.iload 4, 2) := by decide +kernel
theorem dX9_isOf_46 : decode cX9_isOf 46 = .ok (.iaload, 1) := by decide +kernel
theorem dX9_isOf_47 : decode cX9_isOf 47 = .ok (.iload_n 3, 1) := by decide +kernel
theorem dX9_isOf_48 : decode cX9_isOf 48 = .ok (.if_icmp .ne 7, 3) := by decide +kernel
theorem dX9_isOf_51 : decode cX9_isOf 51 = .ok (.iconst 1, 1) := by decide +kernel
theorem dX9_isOf_52 : decode cX9_isOf 52 = .ok (.goto 4, 3) := by decide +kernel
theorem dX9_isOf_55 : decode cX9_isOf 55 = .ok (.iconst 0, 1) := by decide +kernel
theorem dX9_isOf_56 : decode cX9_isOf 56 = .ok (.ireturn, 1) := by decide +kernel
theorem dX9_isLast_0 : decode cX9_isLast 0 = .ok (.aload_n 0, 1) := by decide +kernel
theorem dX9_isLast_1 : decode cX9_isLast 1 = .ok (.iload_n 1, 1) := by decide +kernel
theorem dX9_isLast_2 : decode cX9_isLast 2 = .ok (.iload_n 2, 1) := by decide +kernel
theorem dX9_isLast_3 : decode cX9_isLast 3 = .ok (.iload_n 3, 1) := by decide +kernel
theorem dX9_isLast_4 : decode cX9_isLast 4 = .ok (.iload 4, 2) := by decide +kernel
theorem dX9_isLast_6 : decode cX9_isLast 6 = .ok (.invokevirtual 95, 3) := by decide +kernel
theorem dX9_isLast_9 : decode cX9_isLast 9 = .ok (.istore 5, 2) := by decide +kernel
theorem dX9_isLast_11 : decode cX9_isLast 11 = .ok (.iconst 0, 1) := by decide +kernel
theorem dX9_isLast_12 : decode cX9_isLast 12 = .ok (.istore 6, 2) := by decide +kernel
theorem dX9_isLast_14 : decode cX9_isLast 14 = .ok (.iload 6, 2) := by decide +kernel
theorem dX9_isLast_16 : decode cX9_isLast 16 = .ok (.sipush 200, 3) := by decide +kernel
theorem dX9_isLast_19 : decode cX9_isLast 19 = .ok (.if_icmp .ge 63, 3) := by decide +kernel
theorem dX9_isLast_22 : decode cX9_isLast 22 = .ok (.iload 5, 2) := by decide +kernel
theorem dX9_isLast_24 : decode cX9_isLast 24 = .ok (.ifCond .eq 58, 3) := by decide +kernel
theorem dX9_isLast_27 : decode cX9_isLast 27 = .ok (.iload 6, 2) := by decide +kernel
theorem dX9_isLast_29 : decode cX9_isLast 29 = .ok (.iload 4, 2) := by decide +kernel
theorem dX9_isLast_31 : decode cX9_isLast 31 = .ok (.if_icmp .eq 38, 3) := by decide +kernel
theorem dX9_isLast_34 : decode cX9_isLast 34 = .ok (.aload_n 0, 1) := by decide +kernel
theorem dX9_isLast_35 : decode cX9_isLast 35 = .ok (.iload_n 1, 1) := by decide +kernel
theorem dX9_isLast_36 : decode cX9_isLast 36 = .ok (.iload_n 2, 1) := by decide +kernel
theorem dX9_isLast_37 : decode cX9_isLast 37 = .ok (.iload_n 3, 1) := by decide +kernel
theorem dX9_isLast_38 : decode cX9_isLast 38 = .ok (.iload 6, 2) := by decide +kernel
theorem dX9_isLast_40 : decode cX9_isLast 40 = .ok (.invokevirtual 95, 3) := by decide +kernel
theorem dX9_isLast_43 : decode cX9_isLast 43 = .ok (.ifCond .eq 26, 3) := by decide +kernel
theorem dX9_isLast_46 : decode cX9_isLast 46 = .ok (.aload_n 0, 1) := by decide +kernel
theorem dX9_isLast_47 : decode cX9_isLast 47 = .ok (.getfield 28, 3) := by decide +kernel
theorem dX9_isLast_50 : decode cX9_isLast 50 = .ok (.iconst 5, 1) := by decide +kernel
theorem dX9_isLast_51 : decode cX9_isLast 51 = .ok (.iload 6, 2) := by decide +kernel
theorem dX9_isLast_53 : decode cX9_isLast 53 = .ok (.imul, 1) := by decide +kernel
theorem dX9_isLast_54 : decode cX9_isLast 54 = .ok (.iload 4, 2) := by decide +kernel
theorem dX9_isLast_56 : decode cX9_isLast 56 = .ok (.bipush 40, 2) := by decide +kernel
theorem dX9_isLast_58 : decode cX9_isLast 58 = .ok (.idiv, 1) := by decide +kernel
theorem dX9_isLast_59 : decode cX9_isLast 59 = .ok (.iadd, 1) := by decide +kernel
theorem dX9_isLast_60 : decode cX9_isLast 60 = .ok (.iaload, 1) := by decide +kernel
theorem dX9_isLast_61 : decode cX9_isLast 61 = .ok (.iload 4, 2) := by decide +kernel
theorem dX9_isLast_63 : decode cX9_isLast 63 = .ok (.bipush 40, 2) := by decide +kernel
theorem dX9_isLast_65 : decode cX9_isLast 65 = .ok (.irem, 1) := by decide +kernel
theorem dX9_isLast_66 : decode cX9_isLast 66 = .ok (.if_icmp .gt 7, 3) := by decide +kernel
theorem dX9_isLast_69 : decode cX9_isLast 69 = .ok (.iconst 1, 1) := by decide +kernel
theorem dX9_isLast_70 : decode cX9_isLast 70 = .ok (.goto 4, 3) := by decide +kernel
theorem dX9_isLast_73 : decode cX9_isLast 73 = .ok (.iconst 0, 1) := by decide +kernel
theorem dX9_isLast_74 : decode cX9_isLast 74 = .ok (.istore 5, 2) := by decide +kernel
theorem dX9_isLast_76 : decode cX9_isLast 76 = .ok (.iinc 6 1, 3) := by decide +kernel
theorem dX9_isLast_79 : decode cX9_isLast 79 = .ok (.goto (-65), 3) := by decide +kernel
theorem dX9_isLast_82 : decode cX9_isLast 82 = .ok (.iload 5, 2) := by decide +kernel
theorem dX9_isLast_84 : decode cX9_isLast 84 = .ok (.ireturn, 1) := by decide +kernel
theorem dX9_rankOf_0 : decode cX9_rankOf 0 = .ok (.iconst (-1), 1) := by decide +kernel
theorem dX9_rankOf_1 : decode cX9_rankOf 1 = .ok (.istore 4, 2) := by decide +kernel
theorem dX9_rankOf_3 : decode cX9_rankOf 3 = .ok (.iconst 0, 1) := by decide +kernel
theorem dX9_rankOf_4 : decode cX9_rankOf 4 = .ok (.istore 5, 2) := by decide +kernel
theorem dX9_rankOf_6 : decode cX9_rankOf 6 = .ok (.iload 5, 2) := by decide +kernel
theorem dX9_rankOf_8 : decode cX9_rankOf 8 = .ok (.sipush 200, 3) := by decide +kernel
theorem dX9_rankOf_11 : decode cX9_rankOf 11 = .ok (.if_icmp .ge 47, 3) := by decide +kernel
theorem dX9_rankOf_14 : decode cX9_rankOf 14 = .ok (.aload_n 0, 1) := by decide +kernel
theorem dX9_rankOf_15 : decode cX9_rankOf 15 = .ok (.iload_n 1, 1) := by decide +kernel
theorem dX9_rankOf_16 : decode cX9_rankOf 16 = .ok (.iload_n 2, 1) := by decide +kernel
theorem dX9_rankOf_17 : decode cX9_rankOf 17 = .ok (.iload_n 3, 1) := by decide +kernel
theorem dX9_rankOf_18 : decode cX9_rankOf 18 = .ok (.iload 5, 2) := by decide +kernel
theorem dX9_rankOf_20 : decode cX9_rankOf 20 = .ok (.invokevirtual 99, 3) := by decide +kernel
theorem dX9_rankOf_23 : decode cX9_rankOf 23 = .ok (.ifCond .eq 25, 3) := by decide +kernel
theorem dX9_rankOf_26 : decode cX9_rankOf 26 = .ok (.aload_n 0, 1) := by decide +kernel
theorem dX9_rankOf_27 : decode cX9_rankOf 27 = .ok (.getfield 25, 3) := by decide +kernel
theorem dX9_rankOf_30 : decode cX9_rankOf 30 = .ok (.iload 5, 2) := by decide +kernel
theorem dX9_rankOf_32 : decode cX9_rankOf 32 = .ok (.iaload, 1) := by decide +kernel
theorem dX9_rankOf_33 : decode cX9_rankOf 33 = .ok (.iload 4, 2) := by decide +kernel
theorem dX9_rankOf_35 : decode cX9_rankOf 35 = .ok (.if_icmp .le 13, 3) := by decide +kernel
theorem dX9_rankOf_38 : decode cX9_rankOf 38 = .ok (.aload_n 0, 1) := by decide +kernel
theorem dX9_rankOf_39 : decode cX9_rankOf 39 = .ok (.getfield 25, 3) := by decide +kernel
theorem dX9_rankOf_42 : decode cX9_rankOf 42 = .ok (.iload 5, 2) := by decide +kernel
theorem dX9_rankOf_44 : decode cX9_rankOf 44 = .ok (.iaload, 1) := by decide +kernel
theorem dX9_rankOf_45 : decode cX9_rankOf 45 = .ok (.goto 5, 3) := by decide +kernel
theorem dX9_rankOf_48 : decode cX9_rankOf 48 = .ok (.iload 4, 2) := by decide +kernel
theorem dX9_rankOf_50 : decode cX9_rankOf 50 = .ok (.istore 4, 2) := by decide +kernel
theorem dX9_rankOf_52 : decode cX9_rankOf 52 = .ok (.iinc 5 1, 3) := by decide +kernel
theorem dX9_rankOf_55 : decode cX9_rankOf 55 = .ok (.goto (-49), 3) := by decide +kernel
theorem dX9_rankOf_58 : decode cX9_rankOf 58 = .ok (.iload 4, 2) := by decide +kernel
theorem dX9_rankOf_60 : decode cX9_rankOf 60 = .ok (.ireturn, 1) := by decide +kernel
theorem dX9_shown_0 : decode cX9_shown 0 = .ok (.aload_n 0, 1) := by decide +kernel
theorem dX9_shown_1 : decode cX9_shown 1 = .ok (.iload_n 1, 1) := by decide +kernel
theorem dX9_shown_2 : decode cX9_shown 2 = .ok (.iload_n 2, 1) := by decide +kernel
theorem dX9_shown_3 : decode cX9_shown 3 = .ok (.iload_n 3, 1) := by decide +kernel
theorem dX9_shown_4 : decode cX9_shown 4 = .ok (.invokevirtual 102, 3) := by decide +kernel
theorem dX9_shown_7 : decode cX9_shown 7 = .ok (.istore 4, 2) := by decide +kernel
theorem dX9_shown_9 : decode cX9_shown 9 = .ok (.iconst (-1), 1) := by decide +kernel
theorem dX9_shown_10 : decode cX9_shown 10 = .ok (.istore 5, 2) := by decide +kernel
theorem dX9_shown_12 : decode cX9_shown 12 = .ok (.iconst 0, 1) := by decide +kernel
theorem dX9_shown_13 : decode cX9_shown 13 = .ok (.istore 6, 2) := by decide +kernel
theorem dX9_shown_15 : decode cX9_shown 15 = .ok (.iload 6, 2) := by decide +kernel
theorem dX9_shown_17 : decode cX9_shown 17 = .ok (.sipush 200, 3) := by decide +kernel
theorem dX9_shown_20 : decode cX9_shown 20 = .ok (.if_icmp .ge 42, 3) := by decide +kernel
theorem dX9_shown_23 : decode cX9_shown 23 = .ok (.aload_n 0, 1) := by decide +kernel
theorem dX9_shown_24 : decode cX9_shown 24 = .ok (.iload_n 1, 1) := by decide +kernel
theorem dX9_shown_25 : decode cX9_shown 25 = .ok (.iload_n 2, 1) := by decide +kernel
theorem dX9_shown_26 : decode cX9_shown 26 = .ok (.iload_n 3, 1) := by decide +kernel
theorem dX9_shown_27 : decode cX9_shown 27 = .ok (.iload 6, 2) := by decide +kernel
theorem dX9_shown_29 : decode cX9_shown 29 = .ok (.invokevirtual 99, 3) := by decide +kernel
theorem dX9_shown_32 : decode cX9_shown 32 = .ok (.ifCond .eq 20, 3) := by decide +kernel
theorem dX9_shown_35 : decode cX9_shown 35 = .ok (.aload_n 0, 1) := by decide +kernel
theorem dX9_shown_36 : decode cX9_shown 36 = .ok (.getfield 25, 3) := by decide +kernel
theorem dX9_shown_39 : decode cX9_shown 39 = .ok (.iload 6, 2) := by decide +kernel
theorem dX9_shown_41 : decode cX9_shown 41 = .ok (.iaload, 1) := by decide +kernel
theorem dX9_shown_42 : decode cX9_shown 42 = .ok (.iload 4, 2) := by decide +kernel
theorem dX9_shown_44 : decode cX9_shown 44 = .ok (.if_icmp .ne 8, 3) := by decide +kernel
theorem dX9_shown_47 : decode cX9_shown 47 = .ok (.iload 6, 2) := by decide +kernel
theorem dX9_shown_49 : decode cX9_shown 49 = .ok (.goto 5, 3) := by decide +kernel
theorem dX9_shown_52 : decode cX9_shown 52 = .ok (.iload 5, 2) := by decide +kernel
theorem dX9_shown_54 : decode cX9_shown 54 = .ok (.istore 5, 2) := by decide +kernel
theorem dX9_shown_56 : decode cX9_shown 56 = .ok (.iinc 6 1, 3) := by decide +kernel
theorem dX9_shown_59 : decode cX9_shown 59 = .ok (.goto (-44), 3) := by decide +kernel
theorem dX9_shown_62 : decode cX9_shown 62 = .ok (.iload 5, 2) := by decide +kernel
theorem dX9_shown_64 : decode cX9_shown 64 = .ok (.ireturn, 1) := by decide +kernel
theorem dX9_isConflict_0 : decode cX9_isConflict 0 = .ok (.aload_n 0, 1) := by decide +kernel
theorem dX9_isConflict_1 : decode cX9_isConflict 1 = .ok (.iload_n 1, 1) := by decide +kernel
theorem dX9_isConflict_2 : decode cX9_isConflict 2 = .ok (.iload_n 2, 1) := by decide +kernel
theorem dX9_isConflict_3 : decode cX9_isConflict 3 = .ok (.iload_n 3, 1) := by decide +kernel
theorem dX9_isConflict_4 : decode cX9_isConflict 4 = .ok (.invokevirtual 106, 3) := by decide +kernel
theorem dX9_isConflict_7 : decode cX9_isConflict 7 = .ok (.istore 4, 2) := by decide +kernel
theorem dX9_isConflict_9 : decode cX9_isConflict 9 = .ok (.iconst 0, 1) := by decide +kernel
theorem dX9_isConflict_10 : decode cX9_isConflict 10 = .ok (.istore 5, 2) := by decide +kernel
theorem dX9_isConflict_12 : decode cX9_isConflict 12 = .ok (.iconst 0, 1) := by decide +kernel
theorem dX9_isConflict_13 : decode cX9_isConflict 13 = .ok (.istore 6, 2) := by decide +kernel
theorem dX9_isConflict_15 : decode cX9_isConflict 15 = .ok (.iload 6, 2) := by decide +kernel
theorem dX9_isConflict_17 : decode cX9_isConflict 17 = .ok (.sipush 200, 3) := by decide +kernel
theorem dX9_isConflict_20 : decode cX9_isConflict 20 = .ok (.if_icmp .ge 72, 3) := by decide +kernel
theorem dX9_isConflict_23 : decode cX9_isConflict 23 = .ok (.iload 4, 2) := by decide +kernel
theorem dX9_isConflict_25 : decode cX9_isConflict 25 = .ok (.ifCond .lt 67, 3) := by decide +kernel
theorem dX9_isConflict_28 : decode cX9_isConflict 28 = .ok (.iload 5, 2) := by decide +kernel
theorem dX9_isConflict_30 : decode cX9_isConflict 30 = .ok (.ifCond .ne 49, 3) := by decide +kernel
theorem dX9_isConflict_33 : decode cX9_isConflict 33 = .ok (.aload_n 0, 1) := by decide +kernel
theorem dX9_isConflict_34 : decode cX9_isConflict 34 = .ok (.iload_n 1, 1) := by decide +kernel
theorem dX9_isConflict_35 : decode cX9_isConflict 35 = .ok (.iload_n 2, 1) := by decide +kernel
theorem dX9_isConflict_36 : decode cX9_isConflict 36 = .ok (.iload_n 3, 1) := by decide +kernel
theorem dX9_isConflict_37 : decode cX9_isConflict 37 = .ok (.iload 6, 2) := by decide +kernel
theorem dX9_isConflict_39 : decode cX9_isConflict 39 = .ok (.invokevirtual 99, 3) := by decide +kernel
theorem dX9_isConflict_42 : decode cX9_isConflict 42 = .ok (.ifCond .eq 41, 3) := by decide +kernel
theorem dX9_isConflict_45 : decode cX9_isConflict 45 = .ok (.aload_n 0, 1) := by decide +kernel
theorem dX9_isConflict_46 : decode cX9_isConflict 46 = .ok (.getfield 25, 3) := by decide +kernel
theorem dX9_isConflict_49 : decode cX9_isConflict 49 = .ok (.iload 6, 2) := by decide +kernel
theorem dX9_isConflict_51 : decode cX9_isConflict 51 = .ok (.iaload, 1) := by decide +kernel
theorem dX9_isConflict_52 : decode cX9_isConflict 52 = .ok (.aload_n 0, 1) := by decide +kernel
theorem dX9_isConflict_53 : decode cX9_isConflict 53 = .ok (.getfield 25, 3) := by decide +kernel
theorem dX9_isConflict_56 : decode cX9_isConflict 56 = .ok (.iload 4, 2) := by decide +kernel
theorem dX9_isConflict_58 : decode cX9_isConflict 58 = .ok (.iaload, 1) := by decide +kernel
theorem dX9_isConflict_59 : decode cX9_isConflict 59 = .ok (.if_icmp .ne 24, 3) := by decide +kernel
theorem dX9_isConflict_62 : decode cX9_isConflict 62 = .ok (.aload_n 0, 1) := by decide +kernel
theorem dX9_isConflict_63 : decode cX9_isConflict 63 = .ok (.getfield 22, 3) := by decide +kernel
theorem dX9_isConflict_66 : decode cX9_isConflict 66 = .ok (.iload 6, 2) := by decide +kernel
theorem dX9_isConflict_68 : decode cX9_isConflict 68 = .ok (.iaload, 1) := by decide +kernel
theorem dX9_isConflict_69 : decode cX9_isConflict 69 = .ok (.aload_n 0, 1) := by decide +kernel
theorem dX9_isConflict_70 : decode cX9_isConflict 70 = .ok (.getfield 22, 3) := by decide +kernel
theorem dX9_isConflict_73 : decode cX9_isConflict 73 = .ok (.iload 4, 2) := by decide +kernel
theorem dX9_isConflict_75 : decode cX9_isConflict 75 = .ok (.iaload, 1) := by decide +kernel
theorem dX9_isConflict_76 : decode cX9_isConflict 76 = .ok (.if_icmp .eq 7, 3) := by decide +kernel
theorem dX9_isConflict_79 : decode cX9_isConflict 79 = .ok (.iconst 1, 1) := by decide +kernel
theorem dX9_isConflict_80 : decode cX9_isConflict 80 = .ok (.goto 4, 3) := by decide +kernel
theorem dX9_isConflict_83 : decode cX9_isConflict 83 = .ok (.iconst 0, 1) := by decide +kernel
theorem dX9_isConflict_84 : decode cX9_isConflict 84 = .ok (.istore 5, 2) := by decide +kernel
theorem dX9_isConflict_86 : decode cX9_isConflict 86 = .ok (.iinc 6 1, 3) := by decide +kernel
theorem dX9_isConflict_89 : decode cX9_isConflict 89 = .ok (.goto (-74), 3) := by decide +kernel
theorem dX9_isConflict_92 : decode cX9_isConflict 92 = .ok (.iload 5, 2) := by decide +kernel
theorem dX9_isConflict_94 : decode cX9_isConflict 94 = .ok (.ireturn, 1) := by decide +kernel
theorem dX9_inConflict_0 : decode cX9_inConflict 0 = .ok (.iconst 0, 1) := by decide +kernel
theorem dX9_inConflict_1 : decode cX9_inConflict 1 = .ok (.istore_n 3, 1) := by decide +kernel
theorem dX9_inConflict_2 : decode cX9_inConflict 2 = .ok (.iconst 0, 1) := by decide +kernel
theorem dX9_inConflict_3 : decode cX9_inConflict 3 = .ok (.istore 4, 2) := by decide +kernel
theorem dX9_inConflict_5 : decode cX9_inConflict 5 = .ok (.iload 4, 2) := by decide +kernel
theorem dX9_inConflict_7 : decode cX9_inConflict 7 = .ok (.bipush 72, 2) := by decide +kernel
theorem dX9_inConflict_9 : decode cX9_inConflict 9 = .ok (.if_icmp .ge 41, 3) := by decide +kernel
theorem dX9_inConflict_12 : decode cX9_inConflict 12 = .ok (.aload_n 0, 1) := by decide +kernel
theorem dX9_inConflict_13 : decode cX9_inConflict 13 = .ok (.iload_n 1, 1) := by decide +kernel
theorem dX9_inConflict_14 : decode cX9_inConflict 14 = .ok (.iload 4, 2) := by decide +kernel
theorem dX9_inConflict_16 : decode cX9_inConflict 16 = .ok (.bipush 12, 2) := by decide +kernel
theorem dX9_inConflict_18 : decode cX9_inConflict 18 = .ok (.idiv, 1) := by decide +kernel
theorem dX9_inConflict_19 : decode cX9_inConflict 19 = .ok (.iload 4, 2) := by decide +kernel
theorem dX9_inConflict_21 : decode cX9_inConflict 21 = .ok (.bipush 12, 2) := by decide +kernel
theorem dX9_inConflict_23 : decode cX9_inConflict 23 = .ok (.irem, 1) := by decide +kernel
theorem dX9_inConflict_24 : decode cX9_inConflict 24 = .ok (.invokevirtual 109, 3) := by decide +kernel
theorem dX9_inConflict_27 : decode cX9_inConflict 27 = .ok (.ifCond .ne 6, 3) := by decide +kernel
theorem dX9_inConflict_30 : decode cX9_inConflict 30 = .ok (.goto 14, 3) := by decide +kernel
theorem dX9_inConflict_33 : decode cX9_inConflict 33 = .ok (.iload_n 3, 1) := by decide +kernel
theorem dX9_inConflict_34 : decode cX9_inConflict 34 = .ok (.iload_n 2, 1) := by decide +kernel
theorem dX9_inConflict_35 : decode cX9_inConflict 35 = .ok (.if_icmp .ne 6, 3) := by decide +kernel
theorem dX9_inConflict_38 : decode cX9_inConflict 38 = .ok (.iload 4, 2) := by decide +kernel
theorem dX9_inConflict_40 : decode cX9_inConflict 40 = .ok (.ireturn, 1) := by decide +kernel
theorem dX9_inConflict_41 : decode cX9_inConflict 41 = .ok (.iinc 3 1, 3) := by decide +kernel
theorem dX9_inConflict_44 : decode cX9_inConflict 44 = .ok (.iinc 4 1, 3) := by decide +kernel
theorem dX9_inConflict_47 : decode cX9_inConflict 47 = .ok (.goto (-42), 3) := by decide +kernel
theorem dX9_inConflict_50 : decode cX9_inConflict 50 = .ok (.iconst (-1), 1) := by decide +kernel
theorem dX9_inConflict_51 : decode cX9_inConflict 51 = .ok (.ireturn, 1) := by decide +kernel
theorem dX9_carries_0 : decode cX9_carries 0 = .ok (.iconst 0, 1) := by decide +kernel
theorem dX9_carries_1 : decode cX9_carries 1 = .ok (.istore_n 3, 1) := by decide +kernel
theorem dX9_carries_2 : decode cX9_carries 2 = .ok (.iload_n 3, 1) := by decide +kernel
theorem dX9_carries_3 : decode cX9_carries 3 = .ok (.iconst 5, 1) := by decide +kernel
theorem dX9_carries_4 : decode cX9_carries 4 = .ok (.if_icmp .ge 48, 3) := by decide +kernel
theorem dX9_carries_7 : decode cX9_carries 7 = .ok (.aload_n 0, 1) := by decide +kernel
theorem dX9_carries_8 : decode cX9_carries 8 = .ok (.getfield 31, 3) := by decide +kernel
theorem dX9_carries_11 : decode cX9_carries 11 = .ok (.iconst 5, 1) := by decide +kernel
theorem dX9_carries_12 : decode cX9_carries 12 = .ok (.iload_n 2, 1) := by decide +kernel
theorem dX9_carries_13 : decode cX9_carries 13 = .ok (.imul, 1) := by decide +kernel
theorem dX9_carries_14 : decode cX9_carries 14 = .ok (.iload_n 3, 1) := by decide +kernel
theorem dX9_carries_15 : decode cX9_carries 15 = .ok (.iadd, 1) := by decide +kernel
theorem dX9_carries_16 : decode cX9_carries 16 = .ok (.iaload, 1) := by decide +kernel
theorem dX9_carries_17 : decode cX9_carries 17 = .ok (.aload_n 0, 1) := by decide +kernel
theorem dX9_carries_18 : decode cX9_carries 18 = .ok (.getfield 31, 3) := by decide +kernel
theorem dX9_carries_21 : decode cX9_carries 21 = .ok (.iconst 5, 1) := by decide +kernel
theorem dX9_carries_22 : decode cX9_carries 22 = .ok (.iload_n 1, 1) := by decide +kernel
theorem dX9_carries_23 : decode cX9_carries 23 = .ok (.imul, 1) := by decide +kernel
theorem dX9_carries_24 : decode cX9_carries 24 = .ok (.iload_n 3, 1) := by decide +kernel
theorem dX9_carries_25 : decode cX9_carries 25 = .ok (.iadd, 1) := by decide +kernel
theorem dX9_carries_26 : decode cX9_carries 26 = .ok (.iaload, 1) := by decide +kernel
theorem dX9_carries_27 : decode cX9_carries 27 = .ok (.if_icmp .ge 19, 3) := by decide +kernel
theorem dX9_carries_30 : decode cX9_carries 30 = .ok (.aload_n 0, 1) := by decide +kernel
theorem dX9_carries_31 : decode cX9_carries 31 = .ok (.getfield 31, 3) := by decide +kernel
theorem dX9_carries_34 : decode cX9_carries 34 = .ok (.iconst 5, 1) := by decide +kernel
theorem dX9_carries_35 : decode cX9_carries 35 = .ok (.iload_n 2, 1) := by decide +kernel
theorem dX9_carries_36 : decode cX9_carries 36 = .ok (.imul, 1) := by decide +kernel
theorem dX9_carries_37 : decode cX9_carries 37 = .ok (.iload_n 3, 1) := by decide +kernel
theorem dX9_carries_38 : decode cX9_carries 38 = .ok (.iadd, 1) := by decide +kernel
theorem dX9_carries_39 : decode cX9_carries 39 = .ok (.dup2, 1) := by decide +kernel
theorem dX9_carries_40 : decode cX9_carries 40 = .ok (.iaload, 1) := by decide +kernel
theorem dX9_carries_41 : decode cX9_carries 41 = .ok (.iconst 1, 1) := by decide +kernel
theorem dX9_carries_42 : decode cX9_carries 42 = .ok (.iadd, 1) := by decide +kernel
theorem dX9_carries_43 : decode cX9_carries 43 = .ok (.iastore, 1) := by decide +kernel
theorem dX9_carries_44 : decode cX9_carries 44 = .ok (.iconst 1, 1) := by decide +kernel
theorem dX9_carries_45 : decode cX9_carries 45 = .ok (.ireturn, 1) := by decide +kernel
theorem dX9_carries_46 : decode cX9_carries 46 = .ok (.iinc 3 1, 3) := by decide +kernel
theorem dX9_carries_49 : decode cX9_carries 49 = .ok (.goto (-47), 3) := by decide +kernel
theorem dX9_carries_52 : decode cX9_carries 52 = .ok (.iconst 0, 1) := by decide +kernel
theorem dX9_carries_53 : decode cX9_carries 53 = .ok (.ireturn, 1) := by decide +kernel
theorem dX9_ends_0 : decode cX9_ends 0 = .ok (.aload_n 0, 1) := by decide +kernel
theorem dX9_ends_1 : decode cX9_ends 1 = .ok (.iconst (-1), 1) := by decide +kernel
theorem dX9_ends_2 : decode cX9_ends 2 = .ok (.putfield 37, 3) := by decide +kernel
theorem dX9_ends_5 : decode cX9_ends 5 = .ok (.aload_n 0, 1) := by decide +kernel
theorem dX9_ends_6 : decode cX9_ends 6 = .ok (.iconst (-1), 1) := by decide +kernel
theorem dX9_ends_7 : decode cX9_ends 7 = .ok (.putfield 41, 3) := by decide +kernel
theorem dX9_ends_10 : decode cX9_ends 10 = .ok (.return_, 1) := by decide +kernel
