theorem tg_6 : (Cond.initialized "ForestTablets$PlotSums") ∈ lw_g := lw_gi (List.mem_of_getElem? (i := 6) (by decide +kernel)) rfl
theorem tg_7 : (Cond.initialized "ForestTablets$StandSums") ∈ lw_g := lw_gi (List.mem_of_getElem? (i := 7) (by decide +kernel)) rfl
theorem tg_36 : (Cond.fieldLink "ForestTablets" (79 : Nat) "ForestTablets$Crew" "known" "[[I") ∈ lw_g := lw_gi (List.mem_of_getElem? (i := 36) (by decide +kernel)) rfl
theorem tg_123 : (Cond.fieldLink "ForestTablets" (188 : Nat) "ForestTablets$PlotSums" "missing" "I") ∈ lw_g := lw_gi (List.mem_of_getElem? (i := 123) (by decide +kernel)) rfl
theorem tg_157 : (Cond.fieldLink "ForestTablets" (12 : Nat) "ForestTablets" "crew" "LForestTablets$Crew;") ∈ lw_g := lw_gi (List.mem_of_getElem? (i := 157) (by decide +kernel)) rfl
theorem tg_158 : (Cond.fieldLink "ForestTablets" (19 : Nat) "ForestTablets" "lending" "LForestTablets$Lending;") ∈ lw_g := lw_gi (List.mem_of_getElem? (i := 158) (by decide +kernel)) rfl
theorem tg_159 : (Cond.fieldLink "ForestTablets" (26 : Nat) "ForestTablets" "notebook" "LForestTablets$Notebook;") ∈ lw_g := lw_gi (List.mem_of_getElem? (i := 159) (by decide +kernel)) rfl
theorem tg_160 : (Cond.fieldLink "ForestTablets" (33 : Nat) "ForestTablets" "tariff" "LForestTablets$Tariff;") ∈ lw_g := lw_gi (List.mem_of_getElem? (i := 160) (by decide +kernel)) rfl
theorem tg_161 : (Cond.fieldLink "ForestTablets" (40 : Nat) "ForestTablets" "sums" "LForestTablets$PlotSums;") ∈ lw_g := lw_gi (List.mem_of_getElem? (i := 161) (by decide +kernel)) rfl
theorem tg_162 : (Cond.fieldLink "ForestTablets" (47 : Nat) "ForestTablets" "standSums" "LForestTablets$StandSums;") ∈ lw_g := lw_gi (List.mem_of_getElem? (i := 162) (by decide +kernel)) rfl
theorem tg_163 : (Cond.fieldLink "ForestTablets" (51 : Nat) "ForestTablets" "standOf" "[I") ∈ lw_g := lw_gi (List.mem_of_getElem? (i := 163) (by decide +kernel)) rfl
theorem tg_164 : (Cond.fieldLink "ForestTablets" (55 : Nat) "ForestTablets" "shownFields" "[I") ∈ lw_g := lw_gi (List.mem_of_getElem? (i := 164) (by decide +kernel)) rfl
theorem tg_277 : (Cond.methodLink "ForestTablets" (83 : Nat) ({ cls := "ForestTablets$Lending", name := "holderOf", desc := "(I[I)I" } : Jvm.MethodName)) ∈ lw_g := lw_gi (List.mem_of_getElem? (i := 277) (by decide +kernel)) rfl
theorem tg_278 : (Cond.instanceMethod ({ cls := "ForestTablets$Lending", name := "holderOf", desc := "(I[I)I" } : Jvm.MethodName)) ∈ lw_g := lw_gi (List.mem_of_getElem? (i := 278) (by decide +kernel)) rfl
theorem tg_279 : (Cond.selects "ForestTablets$Lending" ({ cls := "ForestTablets$Lending", name := "holderOf", desc := "(I[I)I" } : Jvm.MethodName) ({ cls := "ForestTablets$Lending", name := "holderOf", desc := "(I[I)I" } : Jvm.MethodName)) ∈ lw_g := lw_gi (List.mem_of_getElem? (i := 279) (by decide +kernel)) rfl
theorem tg_280 : (Cond.code ({ cls := "ForestTablets$Lending", name := "holderOf", desc := "(I[I)I" } : Jvm.MethodName) prog_4_method_5_code (5 : Nat) (Option.some FieldType.int)) ∈ lw_g := lw_gi (List.mem_of_getElem? (i := 280) (by decide +kernel)) rfl
theorem tg_373 : (Cond.methodLink "ForestTablets" (118 : Nat) ({ cls := "ForestTablets", name := "spotOf", desc := "(III)I" } : Jvm.MethodName)) ∈ lw_g := lw_gi (List.mem_of_getElem? (i := 373) (by decide +kernel)) rfl
theorem tg_374 : (Cond.static ({ cls := "ForestTablets", name := "spotOf", desc := "(III)I" } : Jvm.MethodName)) ∈ lw_g := lw_gi (List.mem_of_getElem? (i := 374) (by decide +kernel)) rfl
theorem tg_375 : (Cond.code ({ cls := "ForestTablets", name := "spotOf", desc := "(III)I" } : Jvm.MethodName) prog_1_method_25_code (3 : Nat) (Option.some FieldType.int)) ∈ lw_g := lw_gi (List.mem_of_getElem? (i := 375) (by decide +kernel)) rfl
theorem tg_380 : (Cond.methodLink "ForestTablets" (158 : Nat) ({ cls := "ForestTablets$Lending", name := "numberOf", desc := "(I[I)I" } : Jvm.MethodName)) ∈ lw_g := lw_gi (List.mem_of_getElem? (i := 380) (by decide +kernel)) rfl
theorem tg_381 : (Cond.instanceMethod ({ cls := "ForestTablets$Lending", name := "numberOf", desc := "(I[I)I" } : Jvm.MethodName)) ∈ lw_g := lw_gi (List.mem_of_getElem? (i := 381) (by decide +kernel)) rfl
theorem tg_382 : (Cond.selects "ForestTablets$Lending" ({ cls := "ForestTablets$Lending", name := "numberOf", desc := "(I[I)I" } : Jvm.MethodName) ({ cls := "ForestTablets$Lending", name := "numberOf", desc := "(I[I)I" } : Jvm.MethodName)) ∈ lw_g := lw_gi (List.mem_of_getElem? (i := 382) (by decide +kernel)) rfl
theorem tg_383 : (Cond.code ({ cls := "ForestTablets$Lending", name := "numberOf", desc := "(I[I)I" } : Jvm.MethodName) prog_4_method_4_code (4 : Nat) (Option.some FieldType.int)) ∈ lw_g := lw_gi (List.mem_of_getElem? (i := 383) (by decide +kernel)) rfl
theorem tg_410 : (Cond.fieldLink "ForestTablets" (169 : Nat) "ForestTablets$Measure" "value" "I") ∈ lw_g := lw_gi (List.mem_of_getElem? (i := 410) (by decide +kernel)) rfl
theorem tg_441 : (Cond.methodLink "ForestTablets" (161 : Nat) ({ cls := "ForestTablets$Notebook", name := "open", desc := "(I[I)V" } : Jvm.MethodName)) ∈ lw_g := lw_gi (List.mem_of_getElem? (i := 441) (by decide +kernel)) rfl
theorem tg_442 : (Cond.instanceMethod ({ cls := "ForestTablets$Notebook", name := "open", desc := "(I[I)V" } : Jvm.MethodName)) ∈ lw_g := lw_gi (List.mem_of_getElem? (i := 442) (by decide +kernel)) rfl
theorem tg_443 : (Cond.selects "ForestTablets$Notebook" ({ cls := "ForestTablets$Notebook", name := "open", desc := "(I[I)V" } : Jvm.MethodName) ({ cls := "ForestTablets$Notebook", name := "open", desc := "(I[I)V" } : Jvm.MethodName)) ∈ lw_g := lw_gi (List.mem_of_getElem? (i := 443) (by decide +kernel)) rfl
theorem tg_444 : (Cond.code ({ cls := "ForestTablets$Notebook", name := "open", desc := "(I[I)V" } : Jvm.MethodName) prog_6_method_4_code (7 : Nat) (Option.none : Option FieldType)) ∈ lw_g := lw_gi (List.mem_of_getElem? (i := 444) (by decide +kernel)) rfl
theorem tg_464 : (Cond.methodLink "ForestTablets" (227 : Nat) ({ cls := "ForestTablets$Notebook", name := "isInConflict", desc := "()Z" } : Jvm.MethodName)) ∈ lw_g := lw_gi (List.mem_of_getElem? (i := 464) (by decide +kernel)) rfl
theorem tg_465 : (Cond.instanceMethod ({ cls := "ForestTablets$Notebook", name := "isInConflict", desc := "()Z" } : Jvm.MethodName)) ∈ lw_g := lw_gi (List.mem_of_getElem? (i := 465) (by decide +kernel)) rfl
theorem tg_466 : (Cond.selects "ForestTablets$Notebook" ({ cls := "ForestTablets$Notebook", name := "isInConflict", desc := "()Z" } : Jvm.MethodName) ({ cls := "ForestTablets$Notebook", name := "isInConflict", desc := "()Z" } : Jvm.MethodName)) ∈ lw_g := lw_gi (List.mem_of_getElem? (i := 466) (by decide +kernel)) rfl
theorem tg_467 : (Cond.code ({ cls := "ForestTablets$Notebook", name := "isInConflict", desc := "()Z" } : Jvm.MethodName) prog_6_method_6_code (2 : Nat) (Option.some FieldType.boolean)) ∈ lw_g := lw_gi (List.mem_of_getElem? (i := 467) (by decide +kernel)) rfl
theorem tg_552 : (Cond.methodLink "ForestTablets" (165 : Nat) ({ cls := "ForestTablets$Notebook", name := "shownMeasure", desc := "()LForestTablets$Measure;" } : Jvm.MethodName)) ∈ lw_g := lw_gi (List.mem_of_getElem? (i := 552) (by decide +kernel)) rfl
theorem tg_553 : (Cond.instanceMethod ({ cls := "ForestTablets$Notebook", name := "shownMeasure", desc := "()LForestTablets$Measure;" } : Jvm.MethodName)) ∈ lw_g := lw_gi (List.mem_of_getElem? (i := 553) (by decide +kernel)) rfl
theorem tg_554 : (Cond.selects "ForestTablets$Notebook" ({ cls := "ForestTablets$Notebook", name := "shownMeasure", desc := "()LForestTablets$Measure;" } : Jvm.MethodName) ({ cls := "ForestTablets$Notebook", name := "shownMeasure", desc := "()LForestTablets$Measure;" } : Jvm.MethodName)) ∈ lw_g := lw_gi (List.mem_of_getElem? (i := 554) (by decide +kernel)) rfl
theorem tg_555 : (Cond.code ({ cls := "ForestTablets$Notebook", name := "shownMeasure", desc := "()LForestTablets$Measure;" } : Jvm.MethodName) prog_6_method_5_code (1 : Nat) (Option.some (FieldType.object "ForestTablets$Measure"))) ∈ lw_g := lw_gi (List.mem_of_getElem? (i := 555) (by decide +kernel)) rfl
theorem tg_581 : (Cond.methodLink "ForestTablets" (177 : Nat) ({ cls := "ForestTablets", name := "reckonPlot", desc := "(II)V" } : Jvm.MethodName)) ∈ lw_g := lw_gi (List.mem_of_getElem? (i := 581) (by decide +kernel)) rfl
theorem tg_583 : (Cond.instanceMethod ({ cls := "ForestTablets", name := "reckonPlot", desc := "(II)V" } : Jvm.MethodName)) ∈ lw_g := lw_gi (List.mem_of_getElem? (i := 583) (by decide +kernel)) rfl
theorem tg_584 : (Cond.code ({ cls := "ForestTablets", name := "reckonPlot", desc := "(II)V" } : Jvm.MethodName) prog_1_method_30_code (5 : Nat) (Option.none : Option FieldType)) ∈ lw_g := lw_gi (List.mem_of_getElem? (i := 584) (by decide +kernel)) rfl
theorem tg_585 : (Cond.methodLink "ForestTablets" (236 : Nat) ({ cls := "ForestTablets$PlotSums", name := "clear", desc := "()V" } : Jvm.MethodName)) ∈ lw_g := lw_gi (List.mem_of_getElem? (i := 585) (by decide +kernel)) rfl
theorem tg_586 : (Cond.instanceMethod ({ cls := "ForestTablets$PlotSums", name := "clear", desc := "()V" } : Jvm.MethodName)) ∈ lw_g := lw_gi (List.mem_of_getElem? (i := 586) (by decide +kernel)) rfl
theorem tg_587 : (Cond.selects "ForestTablets$PlotSums" ({ cls := "ForestTablets$PlotSums", name := "clear", desc := "()V" } : Jvm.MethodName) ({ cls := "ForestTablets$PlotSums", name := "clear", desc := "()V" } : Jvm.MethodName)) ∈ lw_g := lw_gi (List.mem_of_getElem? (i := 587) (by decide +kernel)) rfl
theorem tg_588 : (Cond.code ({ cls := "ForestTablets$PlotSums", name := "clear", desc := "()V" } : Jvm.MethodName) prog_7_method_2_code (1 : Nat) (Option.none : Option FieldType)) ∈ lw_g := lw_gi (List.mem_of_getElem? (i := 588) (by decide +kernel)) rfl
theorem tg_589 : (Cond.methodLink "ForestTablets" (237 : Nat) ({ cls := "ForestTablets", name := "readTree", desc := "(III)I" } : Jvm.MethodName)) ∈ lw_g := lw_gi (List.mem_of_getElem? (i := 589) (by decide +kernel)) rfl
theorem tg_591 : (Cond.instanceMethod ({ cls := "ForestTablets", name := "readTree", desc := "(III)I" } : Jvm.MethodName)) ∈ lw_g := lw_gi (List.mem_of_getElem? (i := 591) (by decide +kernel)) rfl
theorem tg_592 : (Cond.code ({ cls := "ForestTablets", name := "readTree", desc := "(III)I" } : Jvm.MethodName) prog_1_method_31_code (7 : Nat) (Option.some FieldType.int)) ∈ lw_g := lw_gi (List.mem_of_getElem? (i := 592) (by decide +kernel)) rfl
theorem tg_593 : (Cond.methodLink "ForestTablets" (240 : Nat) ({ cls := "ForestTablets$PlotSums", name := "addTree", desc := "(I[ILForestTablets$Tariff;)V" } : Jvm.MethodName)) ∈ lw_g := lw_gi (List.mem_of_getElem? (i := 593) (by decide +kernel)) rfl
theorem tg_594 : (Cond.instanceMethod ({ cls := "ForestTablets$PlotSums", name := "addTree", desc := "(I[ILForestTablets$Tariff;)V" } : Jvm.MethodName)) ∈ lw_g := lw_gi (List.mem_of_getElem? (i := 594) (by decide +kernel)) rfl
theorem tg_595 : (Cond.selects "ForestTablets$PlotSums" ({ cls := "ForestTablets$PlotSums", name := "addTree", desc := "(I[ILForestTablets$Tariff;)V" } : Jvm.MethodName) ({ cls := "ForestTablets$PlotSums", name := "addTree", desc := "(I[ILForestTablets$Tariff;)V" } : Jvm.MethodName)) ∈ lw_g := lw_gi (List.mem_of_getElem? (i := 595) (by decide +kernel)) rfl
theorem tg_596 : (Cond.code ({ cls := "ForestTablets$PlotSums", name := "addTree", desc := "(I[ILForestTablets$Tariff;)V" } : Jvm.MethodName) prog_7_method_3_code (7 : Nat) (Option.none : Option FieldType)) ∈ lw_g := lw_gi (List.mem_of_getElem? (i := 596) (by decide +kernel)) rfl
theorem tg_617 : (Cond.methodLink "ForestTablets" (230 : Nat) ({ cls := "ForestTablets$StandSums", name := "clear", desc := "()V" } : Jvm.MethodName)) ∈ lw_g := lw_gi (List.mem_of_getElem? (i := 617) (by decide +kernel)) rfl
theorem tg_618 : (Cond.instanceMethod ({ cls := "ForestTablets$StandSums", name := "clear", desc := "()V" } : Jvm.MethodName)) ∈ lw_g := lw_gi (List.mem_of_getElem? (i := 618) (by decide +kernel)) rfl
theorem tg_619 : (Cond.selects "ForestTablets$StandSums" ({ cls := "ForestTablets$StandSums", name := "clear", desc := "()V" } : Jvm.MethodName) ({ cls := "ForestTablets$StandSums", name := "clear", desc := "()V" } : Jvm.MethodName)) ∈ lw_g := lw_gi (List.mem_of_getElem? (i := 619) (by decide +kernel)) rfl
theorem tg_620 : (Cond.code ({ cls := "ForestTablets$StandSums", name := "clear", desc := "()V" } : Jvm.MethodName) prog_8_method_2_code (1 : Nat) (Option.none : Option FieldType)) ∈ lw_g := lw_gi (List.mem_of_getElem? (i := 620) (by decide +kernel)) rfl
theorem tg_621 : (Cond.methodLink "ForestTablets" (233 : Nat) ({ cls := "ForestTablets$StandSums", name := "add", desc := "(LForestTablets$PlotSums;)V" } : Jvm.MethodName)) ∈ lw_g := lw_gi (List.mem_of_getElem? (i := 621) (by decide +kernel)) rfl
theorem tg_622 : (Cond.instanceMethod ({ cls := "ForestTablets$StandSums", name := "add", desc := "(LForestTablets$PlotSums;)V" } : Jvm.MethodName)) ∈ lw_g := lw_gi (List.mem_of_getElem? (i := 622) (by decide +kernel)) rfl
theorem tg_623 : (Cond.selects "ForestTablets$StandSums" ({ cls := "ForestTablets$StandSums", name := "add", desc := "(LForestTablets$PlotSums;)V" } : Jvm.MethodName) ({ cls := "ForestTablets$StandSums", name := "add", desc := "(LForestTablets$PlotSums;)V" } : Jvm.MethodName)) ∈ lw_g := lw_gi (List.mem_of_getElem? (i := 623) (by decide +kernel)) rfl
theorem tg_624 : (Cond.code ({ cls := "ForestTablets$StandSums", name := "add", desc := "(LForestTablets$PlotSums;)V" } : Jvm.MethodName) prog_8_method_3_code (2 : Nat) (Option.none : Option FieldType)) ∈ lw_g := lw_gi (List.mem_of_getElem? (i := 624) (by decide +kernel)) rfl
theorem tg_629 : (Cond.methodLink "ForestTablets$StandSums" (27 : Nat) ({ cls := "ForestTablets$StandSums", name := "rootOf", desc := "(J)J" } : Jvm.MethodName)) ∈ lw_g := lw_gi (List.mem_of_getElem? (i := 629) (by decide +kernel)) rfl
theorem tg_630 : (Cond.static ({ cls := "ForestTablets$StandSums", name := "rootOf", desc := "(J)J" } : Jvm.MethodName)) ∈ lw_g := lw_gi (List.mem_of_getElem? (i := 630) (by decide +kernel)) rfl
theorem tg_631 : (Cond.code ({ cls := "ForestTablets$StandSums", name := "rootOf", desc := "(J)J" } : Jvm.MethodName) prog_8_method_5_code (7 : Nat) (Option.some FieldType.long)) ∈ lw_g := lw_gi (List.mem_of_getElem? (i := 631) (by decide +kernel)) rfl
abbrev cX6_error : ByteArray := prog_8_method_4_code
def yX6_error : MethodName := ⟨RX6, "error", "()J"⟩
def wsX6_error : List Cond := .code yX6_error cX6_error 3 (some FieldType.long) :: lw_g
abbrev cX8_rankFor : ByteArray := prog_1_method_26_code
def yX8_rankFor : MethodName := ⟨RX8, "rankFor", "(II)I"⟩
def wsX8_rankFor : List Cond := .code yX8_rankFor cX8_rankFor 4 (some FieldType.int) :: lw_g
abbrev cX8_spotInConflict : ByteArray := prog_1_method_28_code
def yX8_spotInConflict : MethodName := ⟨RX8, "spotInConflict", "(II)I"⟩
def wsX8_spotInConflict : List Cond := .code yX8_spotInConflict cX8_spotInConflict 5 (some FieldType.int) :: lw_g
abbrev cX8_readTree : ByteArray := prog_1_method_31_code
def yX8_readTree : MethodName := ⟨RX8, "readTree", "(III)I"⟩
def wsX8_readTree : List Cond := .code yX8_readTree cX8_readTree 7 (some FieldType.int) :: lw_g
abbrev cX8_reckonPlot : ByteArray := prog_1_method_30_code
def yX8_reckonPlot : MethodName := ⟨RX8, "reckonPlot", "(II)V"⟩
def wsX8_reckonPlot : List Cond := .code yX8_reckonPlot cX8_reckonPlot 5 none :: lw_g
abbrev cX8_reckonStand : ByteArray := prog_1_method_29_code
def yX8_reckonStand : MethodName := ⟨RX8, "reckonStand", "(II)V"⟩
def wsX8_reckonStand : List Cond := .code yX8_reckonStand cX8_reckonStand 4 none :: lw_g
theorem slX8_rankFor : Cond.selects RX8 yX8_rankFor yX8_rankFor ∈ lw_g := lw_gs (q := (yX8_rankFor, 8)) (by decide +kernel)
theorem slX8_spotInConflict : Cond.selects RX8 yX8_spotInConflict yX8_spotInConflict ∈ lw_g := lw_gs (q := (yX8_spotInConflict, 8)) (by decide +kernel)
theorem slX8_readTree : Cond.selects RX8 yX8_readTree yX8_readTree ∈ lw_g := lw_gs (q := (yX8_readTree, 8)) (by decide +kernel)
theorem slX8_reckonPlot : Cond.selects RX8 yX8_reckonPlot yX8_reckonPlot ∈ lw_g := lw_gs (q := (yX8_reckonPlot, 8)) (by decide +kernel)
theorem slX8_reckonStand : Cond.selects RX8 yX8_reckonStand yX8_reckonStand ∈ lw_g := lw_gs (q := (yX8_reckonStand, 8)) (by decide +kernel)
theorem dX6_error_0 : decode cX6_error 0 = .ok (.aload_n 0, 1) := by decide +kernel
theorem dX6_error_1 : decode cX6_error 1 = .ok (.getfield 20, 3) := by decide +kernel
theorem dX6_error_4 : decode cX6_error 4 = .ok (.iconst 2, 1) := by decide +kernel
theorem dX6_error_5 : decode cX6_error 5 = .ok (.if_icmp .ge 5, 3) := by decide +kernel
theorem dX6_error_8 : decode cX6_error 8 = .ok (.lconst 0, 1) := by decide +kernel
theorem dX6_error_9 : decode cX6_error 9 = .ok (.lreturn, 1) := by decide +kernel
theorem dX6_error_10 : decode cX6_error 10 = .ok (.aload_n 0, 1) := by decide +kernel
theorem dX6_error_11 : decode cX6_error 11 = .ok (.getfield 20, 3) := by decide +kernel
theorem dX6_error_14 : decode cX6_error 14 = .ok (.i2l, 1) := by decide +kernel
theorem dX6_error_15 : decode cX6_error 15 = .ok (.lstore_n 1, 1) := by decide +kernel
theorem dX6_error_16 : decode cX6_error 16 = .ok (.lload_n 1, 1) := by decide +kernel
theorem dX6_error_17 : decode cX6_error 17 = .ok (.aload_n 0, 1) := by decide +kernel
theorem dX6_error_18 : decode cX6_error 18 = .ok (.getfield 13, 3) := by decide +kernel
theorem dX6_error_21 : decode cX6_error 21 = .ok (.lmul, 1) := by decide +kernel
theorem dX6_error_22 : decode cX6_error 22 = .ok (.aload_n 0, 1) := by decide +kernel
theorem dX6_error_23 : decode cX6_error 23 = .ok (.getfield 7, 3) := by decide +kernel
theorem dX6_error_26 : decode cX6_error 26 = .ok (.aload_n 0, 1) := by decide +kernel
theorem dX6_error_27 : decode cX6_error 27 = .ok (.getfield 7, 3) := by decide +kernel
theorem dX6_error_30 : decode cX6_error 30 = .ok (.lmul, 1) := by decide +kernel
theorem dX6_error_31 : decode cX6_error 31 = .ok (.lsub, 1) := by decide +kernel
theorem dX6_error_32 : decode cX6_error 32 = .ok (.lload_n 1, 1) := by decide +kernel
theorem dX6_error_33 : decode cX6_error 33 = .ok (.lload_n 1, 1) := by decide +kernel
theorem dX6_error_34 : decode cX6_error 34 = .ok (.lconst 1, 1) := by decide +kernel
theorem dX6_error_35 : decode cX6_error 35 = .ok (.lsub, 1) := by decide +kernel
theorem dX6_error_36 : decode cX6_error 36 = .ok (.lmul, 1) := by decide +kernel
theorem dX6_error_37 : decode cX6_error 37 = .ok (.ldiv, 1) := by decide +kernel
theorem dX6_error_38 : decode cX6_error 38 = .ok (.invokestatic 27, 3) := by decide +kernel
theorem dX6_error_41 : decode cX6_error 41 = .ok (.lreturn, 1) := by decide +kernel
theorem dX8_rankFor_0 : decode cX8_rankFor 0 = .ok (.aload_n 0, 1) := by decide +kernel
theorem dX8_rankFor_1 : decode cX8_rankFor 1 = .ok (.getfield 12, 3) := by decide +kernel
theorem dX8_rankFor_4 : decode cX8_rankFor 4 = .ok (.getfield 79, 3) := by decide +kernel
theorem dX8_rankFor_7 : decode cX8_rankFor 7 = .ok (.iload_n 1, 1) := by decide +kernel
theorem dX8_rankFor_8 : decode cX8_rankFor 8 = .ok (.aaload, 1) := by decide +kernel
theorem dX8_rankFor_9 : decode cX8_rankFor 9 = .ok (.astore_n 3, 1) := by decide +kernel
theorem dX8_rankFor_10 : decode cX8_rankFor 10 = .ok (.aload_n 0, 1) := by decide +kernel
theorem dX8_rankFor_11 : decode cX8_rankFor 11 = .ok (.getfield 19, 3) := by decide +kernel
theorem dX8_rankFor_14 : decode cX8_rankFor 14 = .ok (.iload_n 2, 1) := by decide +kernel
theorem dX8_rankFor_15 : decode cX8_rankFor 15 = .ok (.aload_n 3, 1) := by decide +kernel
theorem dX8_rankFor_16 : decode cX8_rankFor 16 = .ok (.invokevirtual 83, 3) := by decide +kernel
theorem dX8_rankFor_19 : decode cX8_rankFor 19 = .ok (.iload_n 1, 1) := by decide +kernel
theorem dX8_rankFor_20 : decode cX8_rankFor 20 = .ok (.if_icmp .ne 15, 3) := by decide +kernel
theorem dX8_rankFor_23 : decode cX8_rankFor 23 = .ok (.aload_n 0, 1) := by decide +kernel
theorem dX8_rankFor_24 : decode cX8_rankFor 24 = .ok (.getfield 19, 3) := by decide +kernel
theorem dX8_rankFor_27 : decode cX8_rankFor 27 = .ok (.iload_n 2, 1) := by decide +kernel
theorem dX8_rankFor_28 : decode cX8_rankFor 28 = .ok (.aload_n 3, 1) := by decide +kernel
theorem dX8_rankFor_29 : decode cX8_rankFor 29 = .ok (.invokevirtual 158, 3) := by decide +kernel
theorem dX8_rankFor_32 : decode cX8_rankFor 32 = .ok (.goto 4, 3) := by decide +kernel
theorem dX8_rankFor_35 : decode cX8_rankFor 35 = .ok (.iconst 0, 1) := by decide +kernel
theorem dX8_rankFor_36 : decode cX8_rankFor 36 = .ok (.ireturn, 1) := by decide +kernel
theorem dX8_spotInConflict_0 : decode cX8_spotInConflict 0 = .ok (.iconst 0, 1) := by decide +kernel
theorem dX8_spotInConflict_1 : decode cX8_spotInConflict 1 = .ok (.istore_n 3, 1) := by decide +kernel
theorem dX8_spotInConflict_2 : decode cX8_spotInConflict 2 = .ok (.iconst 0, 1) := by decide +kernel
theorem dX8_spotInConflict_3 : decode cX8_spotInConflict 3 = .ok (.istore 4, 2) := by decide +kernel
theorem dX8_spotInConflict_5 : decode cX8_spotInConflict 5 = .ok (.iload 4, 2) := by decide +kernel
theorem dX8_spotInConflict_7 : decode cX8_spotInConflict 7 = .ok (.bipush 72, 2) := by decide +kernel
theorem dX8_spotInConflict_9 : decode cX8_spotInConflict 9 = .ok (.if_icmp .ge 48, 3) := by decide +kernel
theorem dX8_spotInConflict_12 : decode cX8_spotInConflict 12 = .ok (.aload_n 0, 1) := by decide +kernel
theorem dX8_spotInConflict_13 : decode cX8_spotInConflict 13 = .ok (.getfield 26, 3) := by decide +kernel
theorem dX8_spotInConflict_16 : decode cX8_spotInConflict 16 = .ok (.iload 4, 2) := by decide +kernel
theorem dX8_spotInConflict_18 : decode cX8_spotInConflict 18 = .ok (.aload_n 0, 1) := by decide +kernel
theorem dX8_spotInConflict_19 : decode cX8_spotInConflict 19 = .ok (.getfield 12, 3) := by decide +kernel
theorem dX8_spotInConflict_22 : decode cX8_spotInConflict 22 = .ok (.getfield 79, 3) := by decide +kernel
theorem dX8_spotInConflict_25 : decode cX8_spotInConflict 25 = .ok (.iload_n 1, 1) := by decide +kernel
theorem dX8_spotInConflict_26 : decode cX8_spotInConflict 26 = .ok (.aaload, 1) := by decide +kernel
theorem dX8_spotInConflict_27 : decode cX8_spotInConflict 27 = .ok (.invokevirtual 161, 3) := by decide +kernel
theorem dX8_spotInConflict_30 : decode cX8_spotInConflict 30 = .ok (.aload_n 0, 1) := by decide +kernel
theorem dX8_spotInConflict_31 : decode cX8_spotInConflict 31 = .ok (.getfield 26, 3) := by decide +kernel
theorem dX8_spotInConflict_34 : decode cX8_spotInConflict 34 = .ok (.invokevirtual 227, 3) := by decide +kernel
theorem dX8_spotInConflict_37 : decode cX8_spotInConflict 37 = .ok (.ifCond .eq 14, 3) := by decide +kernel
theorem dX8_spotInConflict_40 : decode cX8_spotInConflict 40 = .ok (.iload_n 3, 1) := by decide +kernel
theorem dX8_spotInConflict_41 : decode cX8_spotInConflict 41 = .ok (.iload_n 2, 1) := by decide +kernel
theorem dX8_spotInConflict_42 : decode cX8_spotInConflict 42 = .ok (.if_icmp .ne 6, 3) := by decide +kernel
theorem dX8_spotInConflict_45 : decode cX8_spotInConflict 45 = .ok (.iload 4, 2) := by decide +kernel
theorem dX8_spotInConflict_47 : decode cX8_spotInConflict 47 = .ok (.ireturn, 1) := by decide +kernel
theorem dX8_spotInConflict_48 : decode cX8_spotInConflict 48 = .ok (.iinc 3 1, 3) := by decide +kernel
theorem dX8_spotInConflict_51 : decode cX8_spotInConflict 51 = .ok (.iinc 4 1, 3) := by decide +kernel
theorem dX8_spotInConflict_54 : decode cX8_spotInConflict 54 = .ok (.goto (-49), 3) := by decide +kernel
theorem dX8_spotInConflict_57 : decode cX8_spotInConflict 57 = .ok (.iconst (-1), 1) := by decide +kernel
theorem dX8_spotInConflict_58 : decode cX8_spotInConflict 58 = .ok (.ireturn, 1) := by decide +kernel
theorem dX8_readTree_0 : decode cX8_readTree 0 = .ok (.iconst 0, 1) := by decide +kernel
theorem dX8_readTree_1 : decode cX8_readTree 1 = .ok (.istore 4, 2) := by decide +kernel
theorem dX8_readTree_3 : decode cX8_readTree 3 = .ok (.iconst 0, 1) := by decide +kernel
theorem dX8_readTree_4 : decode cX8_readTree 4 = .ok (.istore 5, 2) := by decide +kernel
theorem dX8_readTree_6 : decode cX8_readTree 6 = .ok (.iload 5, 2) := by decide +kernel
theorem dX8_readTree_8 : decode cX8_readTree 8 = .ok (.iconst 3, 1) := by decide +kernel
theorem dX8_readTree_9 : decode cX8_readTree 9 = .ok (.if_icmp .ge 61, 3) := by decide +kernel
theorem dX8_readTree_12 : decode cX8_readTree 12 = .ok (.aload_n 0, 1) := by decide +kernel
theorem dX8_readTree_13 : decode cX8_readTree 13 = .ok (.getfield 26, 3) := by decide +kernel
theorem dX8_readTree_16 : decode cX8_readTree 16 = .ok (.iload_n 2, 1) := by decide +kernel
theorem dX8_readTree_17 : decode cX8_readTree 17 = .ok (.iload_n 3, 1) := by decide +kernel
theorem dX8_readTree_18 : decode cX8_readTree 18 = .ok (.iload 5, 2) := by decide +kernel
theorem dX8_readTree_20 : decode cX8_readTree 20 = .ok (.invokestatic 118, 3) := by decide +kernel
theorem dX8_readTree_23 : decode cX8_readTree 23 = .ok (.aload_n 0, 1) := by decide +kernel
theorem dX8_readTree_24 : decode cX8_readTree 24 = .ok (.getfield 12, 3) := by decide +kernel
theorem dX8_readTree_27 : decode cX8_readTree 27 = .ok (.getfield 79, 3) := by decide +kernel
theorem dX8_readTree_30 : decode cX8_readTree 30 = .ok (.iload_n 1, 1) := by decide +kernel
theorem dX8_readTree_31 : decode cX8_readTree 31 = .ok (.aaload, 1) := by decide +kernel
theorem dX8_readTree_32 : decode cX8_readTree 32 = .ok (.invokevirtual 161, 3) := by decide +kernel
theorem dX8_readTree_35 : decode cX8_readTree 35 = .ok (.aload_n 0, 1) := by decide +kernel
theorem dX8_readTree_36 : decode cX8_readTree 36 = .ok (.getfield 26, 3) := by decide +kernel
theorem dX8_readTree_39 : decode cX8_readTree 39 = .ok (.invokevirtual 165, 3) := by decide +kernel
theorem dX8_readTree_42 : decode cX8_readTree 42 = .ok (.astore 6, 2) := by decide +kernel
theorem dX8_readTree_44 : decode cX8_readTree 44 = .ok (.aload 6, 2) := by decide +kernel
theorem dX8_readTree_46 : decode cX8_readTree 46 = .ok (.ifnull 18, 3) := by decide +kernel
theorem dX8_readTree_49 : decode cX8_readTree 49 = .ok (.aload_n 0, 1) := by decide +kernel
theorem dX8_readTree_50 : decode cX8_readTree 50 = .ok (.getfield 55, 3) := by decide +kernel
theorem dX8_readTree_53 : decode cX8_readTree 53 = .ok (.iload 5, 2) := by decide +kernel
theorem dX8_readTree_55 : decode cX8_readTree 55 = .ok (.aload 6, 2) := by decide +kernel
theorem dX8_readTree_57 : decode cX8_readTree 57 = .ok (.getfield 169, 3) := by decide +kernel
theorem dX8_readTree_60 : decode cX8_readTree 60 = .ok (.iastore, 1) := by decide +kernel
theorem dX8_readTree_61 : decode cX8_readTree 61 = .ok (.iinc 4 1, 3) := by decide +kernel
theorem dX8_readTree_64 : decode cX8_readTree 64 = .ok (.iinc 5 1, 3) := by decide +kernel
theorem dX8_readTree_67 : decode cX8_readTree 67 = .ok (.goto (-61), 3) := by decide +kernel
theorem dX8_readTree_70 : decode cX8_readTree 70 = .ok (.iload 4, 2) := by decide +kernel
theorem dX8_readTree_72 : decode cX8_readTree 72 = .ok (.ireturn, 1) := by decide +kernel
theorem dX8_reckonPlot_0 : decode cX8_reckonPlot 0 = .ok (.aload_n 0, 1) := by decide +kernel
theorem dX8_reckonPlot_1 : decode cX8_reckonPlot 1 = .ok (.getfield 40, 3) := by decide +kernel
theorem dX8_reckonPlot_4 : decode cX8_reckonPlot 4 = .ok (.invokevirtual 236, 3) := by decide +kernel
theorem dX8_reckonPlot_7 : decode cX8_reckonPlot 7 = .ok (.iconst 0, 1) := by decide +kernel
theorem dX8_reckonPlot_8 : decode cX8_reckonPlot 8 = .ok (.istore_n 3, 1) := by decide +kernel
theorem dX8_reckonPlot_9 : decode cX8_reckonPlot 9 = .ok (.iload_n 3, 1) := by decide +kernel
theorem dX8_reckonPlot_10 : decode cX8_reckonPlot 10 = .ok (.iconst 4, 1) := by decide +kernel
theorem dX8_reckonPlot_11 : decode cX8_reckonPlot 11 = .ok (.if_icmp .ge 61, 3) := by decide +kernel
theorem dX8_reckonPlot_14 : decode cX8_reckonPlot 14 = .ok (.aload_n 0, 1) := by decide +kernel
theorem dX8_reckonPlot_15 : decode cX8_reckonPlot 15 = .ok (.iload_n 1, 1) := by decide +kernel
theorem dX8_reckonPlot_16 : decode cX8_reckonPlot 16 = .ok (.iload_n 2, 1) := by decide +kernel
theorem dX8_reckonPlot_17 : decode cX8_reckonPlot 17 = .ok (.iload_n 3, 1) := by decide +kernel
theorem dX8_reckonPlot_18 : decode cX8_reckonPlot 18 = .ok (.invokevirtual 237, 3) := by decide +kernel
theorem dX8_reckonPlot_21 : decode cX8_reckonPlot 21 = .ok (.istore 4, 2) := by decide +kernel
theorem dX8_reckonPlot_23 : decode cX8_reckonPlot 23 = .ok (.iload 4, 2) := by decide +kernel
theorem dX8_reckonPlot_25 : decode cX8_reckonPlot 25 = .ok (.iconst 3, 1) := by decide +kernel
theorem dX8_reckonPlot_26 : decode cX8_reckonPlot 26 = .ok (.if_icmp .ne 22, 3) := by decide +kernel
theorem dX8_reckonPlot_29 : decode cX8_reckonPlot 29 = .ok (.aload_n 0, 1) := by decide +kernel
theorem dX8_reckonPlot_30 : decode cX8_reckonPlot 30 = .ok (.getfield 40, 3) := by decide +kernel
theorem dX8_reckonPlot_33 : decode cX8_reckonPlot 33 = .ok (.iload_n 3, 1) := by decide +kernel
theorem dX8_reckonPlot_34 : decode cX8_reckonPlot 34 = .ok (.aload_n 0, 1) := by decide +kernel
theorem dX8_reckonPlot_35 : decode cX8_reckonPlot 35 = .ok (.getfield 55, 3) := by decide +kernel
theorem dX8_reckonPlot_38 : decode cX8_reckonPlot 38 = .ok (.aload_n 0, 1) := by decide +kernel
theorem dX8_reckonPlot_39 : decode cX8_reckonPlot 39 = .ok (.getfield 33, 3) := by decide +kernel
theorem dX8_reckonPlot_42 : decode cX8_reckonPlot 42 = .ok (.invokevirtual 240, 3) := by decide +kernel
theorem dX8_reckonPlot_45 : decode cX8_reckonPlot 45 = .ok (.goto 21, 3) := by decide +kernel
theorem dX8_reckonPlot_48 : decode cX8_reckonPlot 48 = .ok (.iload 4, 2) := by decide +kernel
theorem dX8_reckonPlot_50 : decode cX8_reckonPlot 50 = .ok (.ifCond .le 16, 3) := by decide +kernel
theorem dX8_reckonPlot_53 : decode cX8_reckonPlot 53 = .ok (.aload_n 0, 1) := by decide +kernel
theorem dX8_reckonPlot_54 : decode cX8_reckonPlot 54 = .ok (.getfield 40, 3) := by decide +kernel
theorem dX8_reckonPlot_57 : decode cX8_reckonPlot 57 = .ok (.dup, 1) := by decide +kernel
theorem dX8_reckonPlot_58 : decode cX8_reckonPlot 58 = .ok (.getfield 188, 3) := by decide +kernel
theorem dX8_reckonPlot_61 : decode cX8_reckonPlot 61 = .ok (.iconst 1, 1) := by decide +kernel
theorem dX8_reckonPlot_62 : decode cX8_reckonPlot 62 = .ok (.iadd, 1) := by decide +kernel
theorem dX8_reckonPlot_63 : decode cX8_reckonPlot 63 = .ok (.putfield 188, 3) := by decide +kernel
theorem dX8_reckonPlot_66 : decode cX8_reckonPlot 66 = .ok (.iinc 3 1, 3) := by decide +kernel
theorem dX8_reckonPlot_69 : decode cX8_reckonPlot 69 = .ok (.goto (-60), 3) := by decide +kernel
theorem dX8_reckonPlot_72 : decode cX8_reckonPlot 72 = .ok (.return_, 1) := by decide +kernel
theorem dX8_reckonStand_0 : decode cX8_reckonStand 0 = .ok (.aload_n 0, 1) := by decide +kernel
theorem dX8_reckonStand_1 : decode cX8_reckonStand 1 = .ok (.getfield 47, 3) := by decide +kernel
theorem dX8_reckonStand_4 : decode cX8_reckonStand 4 = .ok (.invokevirtual 230, 3) := by decide +kernel
theorem dX8_reckonStand_7 : decode cX8_reckonStand 7 = .ok (.iconst 0, 1) := by decide +kernel
theorem dX8_reckonStand_8 : decode cX8_reckonStand 8 = .ok (.istore_n 3, 1) := by decide +kernel
theorem dX8_reckonStand_9 : decode cX8_reckonStand 9 = .ok (.iload_n 3, 1) := by decide +kernel
theorem dX8_reckonStand_10 : decode cX8_reckonStand 10 = .ok (.bipush 6, 2) := by decide +kernel
theorem dX8_reckonStand_12 : decode cX8_reckonStand 12 = .ok (.if_icmp .ge 36, 3) := by decide +kernel
theorem dX8_reckonStand_15 : decode cX8_reckonStand 15 = .ok (.aload_n 0, 1) := by decide +kernel
theorem dX8_reckonStand_16 : decode cX8_reckonStand 16 = .ok (.getfield 51, 3) := by decide +kernel
theorem dX8_reckonStand_19 : decode cX8_reckonStand 19 = .ok (.iload_n 3, 1) := by decide +kernel
theorem dX8_reckonStand_20 : decode cX8_reckonStand 20 = .ok (.iaload, 1) := by decide +kernel
theorem dX8_reckonStand_21 : decode cX8_reckonStand 21 = .ok (.iload_n 2, 1) := by decide +kernel
theorem dX8_reckonStand_22 : decode cX8_reckonStand 22 = .ok (.if_icmp .ne 20, 3) := by decide +kernel
theorem dX8_reckonStand_25 : decode cX8_reckonStand 25 = .ok (.aload_n 0, 1) := by decide +kernel
theorem dX8_reckonStand_26 : decode cX8_reckonStand 26 = .ok (.iload_n 1, 1) := by decide +kernel
theorem dX8_reckonStand_27 : decode cX8_reckonStand 27 = .ok (.iload_n 3, 1) := by decide +kernel
theorem dX8_reckonStand_28 : decode cX8_reckonStand 28 = .ok (.invokevirtual 177, 3) := by decide +kernel
theorem dX8_reckonStand_31 : decode cX8_reckonStand 31 = .ok (.aload_n 0, 1) := by decide +kernel
theorem dX8_reckonStand_32 : decode cX8_reckonStand 32 = .ok (.getfield 47, 3) := by decide +kernel
theorem dX8_reckonStand_35 : decode cX8_reckonStand 35 = .ok (.aload_n 0, 1) := by decide +kernel
theorem dX8_reckonStand_36 : decode cX8_reckonStand 36 = .ok (.getfield 40, 3) := by decide +kernel
theorem dX8_reckonStand_39 : decode cX8_reckonStand 39 = .ok (.invokevirtual 233, 3) := by decide +kernel
theorem dX8_reckonStand_42 : decode cX8_reckonStand 42 = .ok (.iinc 3 1, 3) := by decide +kernel
theorem dX8_reckonStand_45 : decode cX8_reckonStand 45 = .ok (.goto (-36), 3) := by decide +kernel
theorem dX8_reckonStand_48 : decode cX8_reckonStand 48 = .ok (.return_, 1) := by decide +kernel
