theorem tg_2 : (Cond.initialized "ForestTablets$Crew") ∈ lw_g := lw_gi (List.mem_of_getElem? (i := 2) (by decide +kernel)) rfl
theorem tg_14 : (Cond.initialized "java/lang/System") ∈ lw_g := lw_gi (List.mem_of_getElem? (i := 14) (by decide +kernel)) rfl
theorem tg_35 : (Cond.fieldLink "ForestTablets$Crew" (11 : Nat) "ForestTablets$Crew" "known" "[[I") ∈ lw_g := lw_gi (List.mem_of_getElem? (i := 35) (by decide +kernel)) rfl
theorem tg_37 : (Cond.fieldLink "ForestTablets$Crew" (16 : Nat) "ForestTablets$Crew" "kept" "[[I") ∈ lw_g := lw_gi (List.mem_of_getElem? (i := 37) (by decide +kernel)) rfl
theorem tg_38 : (Cond.fieldLink "ForestTablets$Crew" (19 : Nat) "ForestTablets$Crew" "first" "I") ∈ lw_g := lw_gi (List.mem_of_getElem? (i := 38) (by decide +kernel)) rfl
theorem tg_40 : (Cond.fieldLink "ForestTablets$Crew" (23 : Nat) "ForestTablets$Crew" "second" "I") ∈ lw_g := lw_gi (List.mem_of_getElem? (i := 40) (by decide +kernel)) rfl
theorem tg_42 : (Cond.laysFinal "ForestTablets$Crew" "ForestTablets$Crew" "known" "[[I") ∈ lw_g := lw_gi (List.mem_of_getElem? (i := 42) (by decide +kernel)) rfl
theorem tg_44 : (Cond.laysFinal "ForestTablets$Crew" "ForestTablets$Crew" "kept" "[[I") ∈ lw_g := lw_gi (List.mem_of_getElem? (i := 44) (by decide +kernel)) rfl
theorem tg_46 : (Cond.lays "ForestTablets$Crew" "ForestTablets$Crew" "first" "I") ∈ lw_g := lw_gi (List.mem_of_getElem? (i := 46) (by decide +kernel)) rfl
theorem tg_48 : (Cond.lays "ForestTablets$Crew" "ForestTablets$Crew" "second" "I") ∈ lw_g := lw_gi (List.mem_of_getElem? (i := 48) (by decide +kernel)) rfl
theorem tg_61 : (Cond.laysFinal "ForestTablets$Lending" "ForestTablets$Lending" "newest" "[LForestTablets$Lend;") ∈ lw_g := lw_gi (List.mem_of_getElem? (i := 61) (by decide +kernel)) rfl
theorem tg_78 : (Cond.laysFinal "ForestTablets$Notebook" "ForestTablets$Notebook" "newest" "[LForestTablets$Measure;") ∈ lw_g := lw_gi (List.mem_of_getElem? (i := 78) (by decide +kernel)) rfl
theorem tg_80 : (Cond.laysFinal "ForestTablets$Notebook" "ForestTablets$Notebook" "lastOfAuthor" "[LForestTablets$Measure;") ∈ lw_g := lw_gi (List.mem_of_getElem? (i := 80) (by decide +kernel)) rfl
theorem tg_82 : (Cond.laysFinal "ForestTablets$Notebook" "ForestTablets$Notebook" "unseen" "[LForestTablets$Measure;") ∈ lw_g := lw_gi (List.mem_of_getElem? (i := 82) (by decide +kernel)) rfl
theorem tg_84 : (Cond.laysFinal "ForestTablets$Notebook" "ForestTablets$Notebook" "listed" "[LForestTablets$Measure;") ∈ lw_g := lw_gi (List.mem_of_getElem? (i := 84) (by decide +kernel)) rfl
theorem tg_86 : (Cond.lays "ForestTablets$Notebook" "ForestTablets$Notebook" "candidates" "I") ∈ lw_g := lw_gi (List.mem_of_getElem? (i := 86) (by decide +kernel)) rfl
theorem tg_88 : (Cond.lays "ForestTablets$Notebook" "ForestTablets$Notebook" "size" "I") ∈ lw_g := lw_gi (List.mem_of_getElem? (i := 88) (by decide +kernel)) rfl
theorem tg_103 : (Cond.laysFinal "ForestTablets$Tariff" "ForestTablets$Tariff" "factor" "[I") ∈ lw_g := lw_gi (List.mem_of_getElem? (i := 103) (by decide +kernel)) rfl
theorem tg_105 : (Cond.laysFinal "ForestTablets$Tariff" "ForestTablets$Tariff" "low" "[I") ∈ lw_g := lw_gi (List.mem_of_getElem? (i := 105) (by decide +kernel)) rfl
theorem tg_107 : (Cond.laysFinal "ForestTablets$Tariff" "ForestTablets$Tariff" "high" "[I") ∈ lw_g := lw_gi (List.mem_of_getElem? (i := 107) (by decide +kernel)) rfl
theorem tg_126 : (Cond.lays "ForestTablets$PlotSums" "ForestTablets$PlotSums" "volume" "J") ∈ lw_g := lw_gi (List.mem_of_getElem? (i := 126) (by decide +kernel)) rfl
theorem tg_128 : (Cond.lays "ForestTablets$PlotSums" "ForestTablets$PlotSums" "squares" "J") ∈ lw_g := lw_gi (List.mem_of_getElem? (i := 128) (by decide +kernel)) rfl
theorem tg_130 : (Cond.lays "ForestTablets$PlotSums" "ForestTablets$PlotSums" "missing" "I") ∈ lw_g := lw_gi (List.mem_of_getElem? (i := 130) (by decide +kernel)) rfl
theorem tg_132 : (Cond.lays "ForestTablets$PlotSums" "ForestTablets$PlotSums" "implausible" "I") ∈ lw_g := lw_gi (List.mem_of_getElem? (i := 132) (by decide +kernel)) rfl
theorem tg_148 : (Cond.lays "ForestTablets$StandSums" "ForestTablets$StandSums" "volume" "J") ∈ lw_g := lw_gi (List.mem_of_getElem? (i := 148) (by decide +kernel)) rfl
theorem tg_150 : (Cond.lays "ForestTablets$StandSums" "ForestTablets$StandSums" "volumeSquares" "J") ∈ lw_g := lw_gi (List.mem_of_getElem? (i := 150) (by decide +kernel)) rfl
theorem tg_152 : (Cond.lays "ForestTablets$StandSums" "ForestTablets$StandSums" "missing" "I") ∈ lw_g := lw_gi (List.mem_of_getElem? (i := 152) (by decide +kernel)) rfl
theorem tg_154 : (Cond.lays "ForestTablets$StandSums" "ForestTablets$StandSums" "plots" "I") ∈ lw_g := lw_gi (List.mem_of_getElem? (i := 154) (by decide +kernel)) rfl
theorem tg_165 : (Cond.laysFinal "ForestTablets" "ForestTablets" "crew" "LForestTablets$Crew;") ∈ lw_g := lw_gi (List.mem_of_getElem? (i := 165) (by decide +kernel)) rfl
theorem tg_167 : (Cond.laysFinal "ForestTablets" "ForestTablets" "lending" "LForestTablets$Lending;") ∈ lw_g := lw_gi (List.mem_of_getElem? (i := 167) (by decide +kernel)) rfl
theorem tg_169 : (Cond.laysFinal "ForestTablets" "ForestTablets" "notebook" "LForestTablets$Notebook;") ∈ lw_g := lw_gi (List.mem_of_getElem? (i := 169) (by decide +kernel)) rfl
theorem tg_171 : (Cond.laysFinal "ForestTablets" "ForestTablets" "tariff" "LForestTablets$Tariff;") ∈ lw_g := lw_gi (List.mem_of_getElem? (i := 171) (by decide +kernel)) rfl
theorem tg_173 : (Cond.laysFinal "ForestTablets" "ForestTablets" "sums" "LForestTablets$PlotSums;") ∈ lw_g := lw_gi (List.mem_of_getElem? (i := 173) (by decide +kernel)) rfl
theorem tg_175 : (Cond.laysFinal "ForestTablets" "ForestTablets" "standSums" "LForestTablets$StandSums;") ∈ lw_g := lw_gi (List.mem_of_getElem? (i := 175) (by decide +kernel)) rfl
theorem tg_177 : (Cond.laysFinal "ForestTablets" "ForestTablets" "standOf" "[I") ∈ lw_g := lw_gi (List.mem_of_getElem? (i := 177) (by decide +kernel)) rfl
theorem tg_179 : (Cond.laysFinal "ForestTablets" "ForestTablets" "shownFields" "[I") ∈ lw_g := lw_gi (List.mem_of_getElem? (i := 179) (by decide +kernel)) rfl
theorem tg_311 : (Cond.methodLink "ForestTablets$Crew" (26 : Nat) ({ cls := "ForestTablets$Crew", name := "keepAll", desc := "(I)V" } : Jvm.MethodName)) ∈ lw_g := lw_gi (List.mem_of_getElem? (i := 311) (by decide +kernel)) rfl
theorem tg_312 : (Cond.instanceMethod ({ cls := "ForestTablets$Crew", name := "keepAll", desc := "(I)V" } : Jvm.MethodName)) ∈ lw_g := lw_gi (List.mem_of_getElem? (i := 312) (by decide +kernel)) rfl
theorem tg_313 : (Cond.selects "ForestTablets$Crew" ({ cls := "ForestTablets$Crew", name := "keepAll", desc := "(I)V" } : Jvm.MethodName) ({ cls := "ForestTablets$Crew", name := "keepAll", desc := "(I)V" } : Jvm.MethodName)) ∈ lw_g := lw_gi (List.mem_of_getElem? (i := 313) (by decide +kernel)) rfl
theorem tg_314 : (Cond.code ({ cls := "ForestTablets$Crew", name := "keepAll", desc := "(I)V" } : Jvm.MethodName) prog_2_method_7_code (2 : Nat) (Option.none : Option FieldType)) ∈ lw_g := lw_gi (List.mem_of_getElem? (i := 314) (by decide +kernel)) rfl
theorem tg_315 : (Cond.methodLink "ForestTablets$Crew" (30 : Nat) ({ cls := "java/lang/System", name := "arraycopy", desc := "(Ljava/lang/Object;ILjava/lang/Object;II)V" } : Jvm.MethodName)) ∈ lw_g := lw_gi (List.mem_of_getElem? (i := 315) (by decide +kernel)) rfl
theorem tg_316 : (Cond.static ({ cls := "java/lang/System", name := "arraycopy", desc := "(Ljava/lang/Object;ILjava/lang/Object;II)V" } : Jvm.MethodName)) ∈ lw_g := lw_gi (List.mem_of_getElem? (i := 316) (by decide +kernel)) rfl
theorem tg_317 : (Cond.native ({ cls := "java/lang/System", name := "arraycopy", desc := "(Ljava/lang/Object;ILjava/lang/Object;II)V" } : Jvm.MethodName)) ∈ lw_g := lw_gi (List.mem_of_getElem? (i := 317) (by decide +kernel)) rfl
theorem tg_337 : (Cond.laysFinal "ForestTablets$Lend" "ForestTablets$Lend" "number" "I") ∈ lw_g := lw_gi (List.mem_of_getElem? (i := 337) (by decide +kernel)) rfl
theorem tg_339 : (Cond.laysFinal "ForestTablets$Lend" "ForestTablets$Lend" "entry" "I") ∈ lw_g := lw_gi (List.mem_of_getElem? (i := 339) (by decide +kernel)) rfl
theorem tg_341 : (Cond.laysFinal "ForestTablets$Lend" "ForestTablets$Lend" "tablet" "I") ∈ lw_g := lw_gi (List.mem_of_getElem? (i := 341) (by decide +kernel)) rfl
theorem tg_343 : (Cond.laysFinal "ForestTablets$Lend" "ForestTablets$Lend" "earlier" "LForestTablets$Lend;") ∈ lw_g := lw_gi (List.mem_of_getElem? (i := 343) (by decide +kernel)) rfl
theorem tg_345 : (Cond.lays "ForestTablets$Lend" "ForestTablets$Lend" "back" "I") ∈ lw_g := lw_gi (List.mem_of_getElem? (i := 345) (by decide +kernel)) rfl
theorem tg_416 : (Cond.laysFinal "ForestTablets$Measure" "ForestTablets$Measure" "author" "I") ∈ lw_g := lw_gi (List.mem_of_getElem? (i := 416) (by decide +kernel)) rfl
theorem tg_418 : (Cond.laysFinal "ForestTablets$Measure" "ForestTablets$Measure" "number" "I") ∈ lw_g := lw_gi (List.mem_of_getElem? (i := 418) (by decide +kernel)) rfl
theorem tg_420 : (Cond.laysFinal "ForestTablets$Measure" "ForestTablets$Measure" "value" "I") ∈ lw_g := lw_gi (List.mem_of_getElem? (i := 420) (by decide +kernel)) rfl
theorem tg_422 : (Cond.laysFinal "ForestTablets$Measure" "ForestTablets$Measure" "rank" "I") ∈ lw_g := lw_gi (List.mem_of_getElem? (i := 422) (by decide +kernel)) rfl
theorem tg_424 : (Cond.laysFinal "ForestTablets$Measure" "ForestTablets$Measure" "vector" "[I") ∈ lw_g := lw_gi (List.mem_of_getElem? (i := 424) (by decide +kernel)) rfl
theorem tg_426 : (Cond.laysFinal "ForestTablets$Measure" "ForestTablets$Measure" "earlier" "LForestTablets$Measure;") ∈ lw_g := lw_gi (List.mem_of_getElem? (i := 426) (by decide +kernel)) rfl
theorem inX0 : ∀ w ∈ u_ws RX0 TX0 4, w ∈ lw_g := by
  intro w hw
  rw [show u_ws RX0 TX0 4 = [(Cond.laysFinal "ForestTablets$Crew" "ForestTablets$Crew" "known" "[[I"), (Cond.laysFinal "ForestTablets$Crew" "ForestTablets$Crew" "kept" "[[I"), (Cond.lays "ForestTablets$Crew" "ForestTablets$Crew" "first" "I"), (Cond.lays "ForestTablets$Crew" "ForestTablets$Crew" "second" "I")] from by decide +kernel] at hw
  simp only [List.mem_cons, List.not_mem_nil, or_false] at hw
  rcases hw with rfl | rfl | rfl | rfl
  · exact tg_42
  · exact tg_44
  · exact tg_46
  · exact tg_48
theorem inX1 : ∀ w ∈ u_ws RX1 TX1 5, w ∈ lw_g := by
  intro w hw
  rw [show u_ws RX1 TX1 5 = [(Cond.laysFinal "ForestTablets$Lend" "ForestTablets$Lend" "number" "I"), (Cond.laysFinal "ForestTablets$Lend" "ForestTablets$Lend" "entry" "I"), (Cond.laysFinal "ForestTablets$Lend" "ForestTablets$Lend" "tablet" "I"), (Cond.laysFinal "ForestTablets$Lend" "ForestTablets$Lend" "earlier" "LForestTablets$Lend;"), (Cond.lays "ForestTablets$Lend" "ForestTablets$Lend" "back" "I")] from by decide +kernel] at hw
  simp only [List.mem_cons, List.not_mem_nil, or_false] at hw
  rcases hw with rfl | rfl | rfl | rfl | rfl
  · exact tg_337
  · exact tg_339
  · exact tg_341
  · exact tg_343
  · exact tg_345
theorem inX2 : ∀ w ∈ u_ws RX2 TX2 1, w ∈ lw_g := by
  intro w hw
  rw [show u_ws RX2 TX2 1 = [(Cond.laysFinal "ForestTablets$Lending" "ForestTablets$Lending" "newest" "[LForestTablets$Lend;")] from by decide +kernel] at hw
  simp only [List.mem_cons, List.not_mem_nil, or_false] at hw
  subst hw
  · exact tg_61
theorem inX3 : ∀ w ∈ u_ws RX3 TX3 6, w ∈ lw_g := by
  intro w hw
  rw [show u_ws RX3 TX3 6 = [(Cond.laysFinal "ForestTablets$Measure" "ForestTablets$Measure" "author" "I"), (Cond.laysFinal "ForestTablets$Measure" "ForestTablets$Measure" "number" "I"), (Cond.laysFinal "ForestTablets$Measure" "ForestTablets$Measure" "value" "I"), (Cond.laysFinal "ForestTablets$Measure" "ForestTablets$Measure" "rank" "I"), (Cond.laysFinal "ForestTablets$Measure" "ForestTablets$Measure" "vector" "[I"), (Cond.laysFinal "ForestTablets$Measure" "ForestTablets$Measure" "earlier" "LForestTablets$Measure;")] from by decide +kernel] at hw
  simp only [List.mem_cons, List.not_mem_nil, or_false] at hw
  rcases hw with rfl | rfl | rfl | rfl | rfl | rfl
  · exact tg_416
  · exact tg_418
  · exact tg_420
  · exact tg_422
  · exact tg_424
  · exact tg_426
theorem inX4 : ∀ w ∈ u_ws RX4 TX4 6, w ∈ lw_g := by
  intro w hw
  rw [show u_ws RX4 TX4 6 = [(Cond.laysFinal "ForestTablets$Notebook" "ForestTablets$Notebook" "newest" "[LForestTablets$Measure;"), (Cond.laysFinal "ForestTablets$Notebook" "ForestTablets$Notebook" "lastOfAuthor" "[LForestTablets$Measure;"), (Cond.laysFinal "ForestTablets$Notebook" "ForestTablets$Notebook" "unseen" "[LForestTablets$Measure;"), (Cond.laysFinal "ForestTablets$Notebook" "ForestTablets$Notebook" "listed" "[LForestTablets$Measure;"), (Cond.lays "ForestTablets$Notebook" "ForestTablets$Notebook" "candidates" "I"), (Cond.lays "ForestTablets$Notebook" "ForestTablets$Notebook" "size" "I")] from by decide +kernel] at hw
  simp only [List.mem_cons, List.not_mem_nil, or_false] at hw
  rcases hw with rfl | rfl | rfl | rfl | rfl | rfl
  · exact tg_78
  · exact tg_80
  · exact tg_82
  · exact tg_84
  · exact tg_86
  · exact tg_88
theorem inX5 : ∀ w ∈ u_ws RX5 TX5 4, w ∈ lw_g := by
  intro w hw
  rw [show u_ws RX5 TX5 4 = [(Cond.lays "ForestTablets$PlotSums" "ForestTablets$PlotSums" "volume" "J"), (Cond.lays "ForestTablets$PlotSums" "ForestTablets$PlotSums" "squares" "J"), (Cond.lays "ForestTablets$PlotSums" "ForestTablets$PlotSums" "missing" "I"), (Cond.lays "ForestTablets$PlotSums" "ForestTablets$PlotSums" "implausible" "I")] from by decide +kernel] at hw
  simp only [List.mem_cons, List.not_mem_nil, or_false] at hw
  rcases hw with rfl | rfl | rfl | rfl
  · exact tg_126
  · exact tg_128
  · exact tg_130
  · exact tg_132
theorem inX6 : ∀ w ∈ u_ws RX6 TX6 4, w ∈ lw_g := by
  intro w hw
  rw [show u_ws RX6 TX6 4 = [(Cond.lays "ForestTablets$StandSums" "ForestTablets$StandSums" "volume" "J"), (Cond.lays "ForestTablets$StandSums" "ForestTablets$StandSums" "volumeSquares" "J"), (Cond.lays "ForestTablets$StandSums" "ForestTablets$StandSums" "missing" "I"), (Cond.lays "ForestTablets$StandSums" "ForestTablets$StandSums" "plots" "I")] from by decide +kernel] at hw
  simp only [List.mem_cons, List.not_mem_nil, or_false] at hw
  rcases hw with rfl | rfl | rfl | rfl
  · exact tg_148
  · exact tg_150
  · exact tg_152
  · exact tg_154
theorem inX7 : ∀ w ∈ u_ws RX7 TX7 3, w ∈ lw_g := by
  intro w hw
  rw [show u_ws RX7 TX7 3 = [(Cond.laysFinal "ForestTablets$Tariff" "ForestTablets$Tariff" "factor" "[I"), (Cond.laysFinal "ForestTablets$Tariff" "ForestTablets$Tariff" "low" "[I"), (Cond.laysFinal "ForestTablets$Tariff" "ForestTablets$Tariff" "high" "[I")] from by decide +kernel] at hw
  simp only [List.mem_cons, List.not_mem_nil, or_false] at hw
  rcases hw with rfl | rfl | rfl
  · exact tg_103
  · exact tg_105
  · exact tg_107
theorem inX8 : ∀ w ∈ u_ws RX8 TX8 8, w ∈ lw_g := by
  intro w hw
  rw [show u_ws RX8 TX8 8 = [(Cond.laysFinal "ForestTablets" "ForestTablets" "crew" "LForestTablets$Crew;"), (Cond.laysFinal "ForestTablets" "ForestTablets" "lending" "LForestTablets$Lending;"), (Cond.laysFinal "ForestTablets" "ForestTablets" "notebook" "LForestTablets$Notebook;"), (Cond.laysFinal "ForestTablets" "ForestTablets" "tariff" "LForestTablets$Tariff;"), (Cond.laysFinal "ForestTablets" "ForestTablets" "sums" "LForestTablets$PlotSums;"), (Cond.laysFinal "ForestTablets" "ForestTablets" "standSums" "LForestTablets$StandSums;"), (Cond.laysFinal "ForestTablets" "ForestTablets" "standOf" "[I"), (Cond.laysFinal "ForestTablets" "ForestTablets" "shownFields" "[I")] from by decide +kernel] at hw
  simp only [List.mem_cons, List.not_mem_nil, or_false] at hw
  rcases hw with rfl | rfl | rfl | rfl | rfl | rfl | rfl | rfl
  · exact tg_165
  · exact tg_167
  · exact tg_169
  · exact tg_171
  · exact tg_173
  · exact tg_175
  · exact tg_177
  · exact tg_179
abbrev cX0_isMeeting : ByteArray := prog_2_method_2_code
def yX0_isMeeting : MethodName := ⟨RX0, "isMeeting", "()Z"⟩
def wsX0_isMeeting : List Cond := .code yX0_isMeeting cX0_isMeeting 1 (some FieldType.boolean) :: lw_g
abbrev cX0_hasRoom : ByteArray := prog_2_method_3_code
def yX0_hasRoom : MethodName := ⟨RX0, "hasRoom", "(I)Z"⟩
def wsX0_hasRoom : List Cond := .code yX0_hasRoom cX0_hasRoom 2 (some FieldType.boolean) :: lw_g
abbrev cX0_keepAll : ByteArray := prog_2_method_7_code
def yX0_keepAll : MethodName := ⟨RX0, "keepAll", "(I)V"⟩
def wsX0_keepAll : List Cond := .code yX0_keepAll cX0_keepAll 2 none :: lw_g
abbrev cX0_forget : ByteArray := prog_2_method_8_code
def yX0_forget : MethodName := ⟨RX0, "forget", "(I)V"⟩
def wsX0_forget : List Cond := .code yX0_forget cX0_forget 2 none :: lw_g
abbrev cX0_addEntry : ByteArray := prog_2_method_4_code
def yX0_addEntry : MethodName := ⟨RX0, "addEntry", "(I)I"⟩
def wsX0_addEntry : List Cond := .code yX0_addEntry cX0_addEntry 2 (some FieldType.int) :: lw_g
abbrev cX0_carry : ByteArray := prog_2_method_5_code
def yX0_carry : MethodName := ⟨RX0, "carry", "(II)Z"⟩
def wsX0_carry : List Cond := .code yX0_carry cX0_carry 4 (some FieldType.boolean) :: lw_g
abbrev cX0_endMeeting : ByteArray := prog_2_method_6_code
def yX0_endMeeting : MethodName := ⟨RX0, "endMeeting", "()V"⟩
def wsX0_endMeeting : List Cond := .code yX0_endMeeting cX0_endMeeting 1 none :: lw_g

theorem dX0_isMeeting_0 : decode cX0_isMeeting 0 = .ok (.aload_n 0, 1) := by decide +kernel
theorem dX0_isMeeting_1 : decode cX0_isMeeting 1 = .ok (.getfield 19, 3) := by decide +kernel
theorem dX0_isMeeting_4 : decode cX0_isMeeting 4 = .ok (.iconst (-1), 1) := by decide +kernel
theorem dX0_isMeeting_5 : decode cX0_isMeeting 5 = .ok (.if_icmp .eq 7, 3) := by decide +kernel
theorem dX0_isMeeting_8 : decode cX0_isMeeting 8 = .ok (.iconst 1, 1) := by decide +kernel
theorem dX0_isMeeting_9 : decode cX0_isMeeting 9 = .ok (.goto 4, 3) := by decide +kernel
theorem dX0_isMeeting_12 : decode cX0_isMeeting 12 = .ok (.iconst 0, 1) := by decide +kernel
theorem dX0_isMeeting_13 : decode cX0_isMeeting 13 = .ok (.ireturn, 1) := by decide +kernel
theorem dX0_hasRoom_0 : decode cX0_hasRoom 0 = .ok (.aload_n 0, 1) := by decide +kernel
theorem dX0_hasRoom_1 : decode cX0_hasRoom 1 = .ok (.getfield 11, 3) := by decide +kernel
theorem dX0_hasRoom_4 : decode cX0_hasRoom 4 = .ok (.iload_n 1, 1) := by decide +kernel
theorem dX0_hasRoom_5 : decode cX0_hasRoom 5 = .ok (.aaload, 1) := by decide +kernel
theorem dX0_hasRoom_6 : decode cX0_hasRoom 6 = .ok (.iload_n 1, 1) := by decide +kernel
theorem dX0_hasRoom_7 : decode cX0_hasRoom 7 = .ok (.iaload, 1) := by decide +kernel
theorem dX0_hasRoom_8 : decode cX0_hasRoom 8 = .ok (.bipush 40, 2) := by decide +kernel
theorem dX0_hasRoom_10 : decode cX0_hasRoom 10 = .ok (.if_icmp .ge 7, 3) := by decide +kernel
theorem dX0_hasRoom_13 : decode cX0_hasRoom 13 = .ok (.iconst 1, 1) := by decide +kernel
theorem dX0_hasRoom_14 : decode cX0_hasRoom 14 = .ok (.goto 4, 3) := by decide +kernel
theorem dX0_hasRoom_17 : decode cX0_hasRoom 17 = .ok (.iconst 0, 1) := by decide +kernel
theorem dX0_hasRoom_18 : decode cX0_hasRoom 18 = .ok (.ireturn, 1) := by decide +kernel
theorem dX0_keepAll_0 : decode cX0_keepAll 0 = .ok (.aload_n 0, 1) := by decide +kernel
theorem dX0_keepAll_1 : decode cX0_keepAll 1 = .ok (.getfield 11, 3) := by decide +kernel
theorem dX0_keepAll_4 : decode cX0_keepAll 4 = .ok (.iload_n 1, 1) := by decide +kernel
theorem dX0_keepAll_5 : decode cX0_keepAll 5 = .ok (.aaload, 1) := by decide +kernel
theorem dX0_keepAll_6 : decode cX0_keepAll 6 = .ok (.iconst 0, 1) := by decide +kernel
theorem dX0_keepAll_7 : decode cX0_keepAll 7 = .ok (.aload_n 0, 1) := by decide +kernel
theorem dX0_keepAll_8 : decode cX0_keepAll 8 = .ok (.getfield 16, 3) := by decide +kernel
theorem dX0_keepAll_11 : decode cX0_keepAll 11 = .ok (.iload_n 1, 1) := by decide +kernel
theorem dX0_keepAll_12 : decode cX0_keepAll 12 = .ok (.aaload, 1) := by decide +kernel
theorem dX0_keepAll_13 : decode cX0_keepAll 13 = .ok (.iconst 0, 1) := by decide +kernel
theorem dX0_keepAll_14 : decode cX0_keepAll 14 = .ok (.iconst 5, 1) := by decide +kernel
theorem dX0_keepAll_15 : decode cX0_keepAll 15 = .ok (.invokestatic 30, 3) := by decide +kernel
theorem dX0_keepAll_18 : decode cX0_keepAll 18 = .ok (.return_, 1) := by decide +kernel
theorem dX0_forget_0 : decode cX0_forget 0 = .ok (.aload_n 0, 1) := by decide +kernel
theorem dX0_forget_1 : decode cX0_forget 1 = .ok (.getfield 16, 3) := by decide +kernel
theorem dX0_forget_4 : decode cX0_forget 4 = .ok (.iload_n 1, 1) := by decide +kernel
theorem dX0_forget_5 : decode cX0_forget 5 = .ok (.aaload, 1) := by decide +kernel
theorem dX0_forget_6 : decode cX0_forget 6 = .ok (.iconst 0, 1) := by decide +kernel
theorem dX0_forget_7 : decode cX0_forget 7 = .ok (.aload_n 0, 1) := by decide +kernel
theorem dX0_forget_8 : decode cX0_forget 8 = .ok (.getfield 11, 3) := by decide +kernel
theorem dX0_forget_11 : decode cX0_forget 11 = .ok (.iload_n 1, 1) := by decide +kernel
theorem dX0_forget_12 : decode cX0_forget 12 = .ok (.aaload, 1) := by decide +kernel
theorem dX0_forget_13 : decode cX0_forget 13 = .ok (.iconst 0, 1) := by decide +kernel
theorem dX0_forget_14 : decode cX0_forget 14 = .ok (.iconst 5, 1) := by decide +kernel
theorem dX0_forget_15 : decode cX0_forget 15 = .ok (.invokestatic 30, 3) := by decide +kernel
theorem dX0_forget_18 : decode cX0_forget 18 = .ok (.return_, 1) := by decide +kernel
theorem dX0_addEntry_0 : decode cX0_addEntry 0 = .ok (.aload_n 0, 1) := by decide +kernel
theorem dX0_addEntry_1 : decode cX0_addEntry 1 = .ok (.getfield 11, 3) := by decide +kernel
theorem dX0_addEntry_4 : decode cX0_addEntry 4 = .ok (.iload_n 1, 1) := by decide +kernel
theorem dX0_addEntry_5 : decode cX0_addEntry 5 = .ok (.aaload, 1) := by decide +kernel
theorem dX0_addEntry_6 : decode cX0_addEntry 6 = .ok (.iload_n 1, 1) := by decide +kernel
theorem dX0_addEntry_7 : decode cX0_addEntry 7 = .ok (.dup2, 1) := by decide +kernel
theorem dX0_addEntry_8 : decode cX0_addEntry 8 = .ok (.iaload, 1) := by decide +kernel
theorem dX0_addEntry_9 : decode cX0_addEntry 9 = .ok (.iconst 1, 1) := by decide +kernel
theorem dX0_addEntry_10 : decode cX0_addEntry 10 = .ok (.iadd, 1) := by decide +kernel
theorem dX0_addEntry_11 : decode cX0_addEntry 11 = .ok (.iastore, 1) := by decide +kernel
theorem dX0_addEntry_12 : decode cX0_addEntry 12 = .ok (.aload_n 0, 1) := by decide +kernel
theorem dX0_addEntry_13 : decode cX0_addEntry 13 = .ok (.iload_n 1, 1) := by decide +kernel
theorem dX0_addEntry_14 : decode cX0_addEntry 14 = .ok (.invokevirtual 26, 3) := by decide +kernel
theorem dX0_addEntry_17 : decode cX0_addEntry 17 = .ok (.aload_n 0, 1) := by decide +kernel
theorem dX0_addEntry_18 : decode cX0_addEntry 18 = .ok (.getfield 11, 3) := by decide +kernel
theorem dX0_addEntry_21 : decode cX0_addEntry 21 = .ok (.iload_n 1, 1) := by decide +kernel
theorem dX0_addEntry_22 : decode cX0_addEntry 22 = .ok (.aaload, 1) := by decide +kernel
theorem dX0_addEntry_23 : decode cX0_addEntry 23 = .ok (.iload_n 1, 1) := by decide +kernel
theorem dX0_addEntry_24 : decode cX0_addEntry 24 = .ok (.iaload, 1) := by decide +kernel
theorem dX0_addEntry_25 : decode cX0_addEntry 25 = .ok (.ireturn, 1) := by decide +kernel
theorem dX0_carry_0 : decode cX0_carry 0 = .ok (.iconst 0, 1) := by decide +kernel
theorem dX0_carry_1 : decode cX0_carry 1 = .ok (.istore_n 3, 1) := by decide +kernel
theorem dX0_carry_2 : decode cX0_carry 2 = .ok (.iload_n 3, 1) := by decide +kernel
theorem dX0_carry_3 : decode cX0_carry 3 = .ok (.iconst 5, 1) := by decide +kernel
theorem dX0_carry_4 : decode cX0_carry 4 = .ok (.if_icmp .ge 42, 3) := by decide +kernel
theorem dX0_carry_7 : decode cX0_carry 7 = .ok (.aload_n 0, 1) := by decide +kernel
theorem dX0_carry_8 : decode cX0_carry 8 = .ok (.getfield 11, 3) := by decide +kernel
theorem dX0_carry_11 : decode cX0_carry 11 = .ok (.iload_n 2, 1) := by decide +kernel
theorem dX0_carry_12 : decode cX0_carry 12 = .ok (.aaload, 1) := by decide +kernel
theorem dX0_carry_13 : decode cX0_carry 13 = .ok (.iload_n 3, 1) := by decide +kernel
theorem dX0_carry_14 : decode cX0_carry 14 = .ok (.iaload, 1) := by decide +kernel
theorem dX0_carry_15 : decode cX0_carry 15 = .ok (.aload_n 0, 1) := by decide +kernel
theorem dX0_carry_16 : decode cX0_carry 16 = .ok (.getfield 11, 3) := by decide +kernel
theorem dX0_carry_19 : decode cX0_carry 19 = .ok (.iload_n 1, 1) := by decide +kernel
theorem dX0_carry_20 : decode cX0_carry 20 = .ok (.aaload, 1) := by decide +kernel
theorem dX0_carry_21 : decode cX0_carry 21 = .ok (.iload_n 3, 1) := by decide +kernel
theorem dX0_carry_22 : decode cX0_carry 22 = .ok (.iaload, 1) := by decide +kernel
theorem dX0_carry_23 : decode cX0_carry 23 = .ok (.if_icmp .ge 17, 3) := by decide +kernel
theorem dX0_carry_26 : decode cX0_carry 26 = .ok (.aload_n 0, 1) := by decide +kernel
theorem dX0_carry_27 : decode cX0_carry 27 = .ok (.getfield 11, 3) := by decide +kernel
theorem dX0_carry_30 : decode cX0_carry 30 = .ok (.iload_n 2, 1) := by decide +kernel
theorem dX0_carry_31 : decode cX0_carry 31 = .ok (.aaload, 1) := by decide +kernel
theorem dX0_carry_32 : decode cX0_carry 32 = .ok (.iload_n 3, 1) := by decide +kernel
theorem dX0_carry_33 : decode cX0_carry 33 = .ok (.dup2, 1) := by decide +kernel
theorem dX0_carry_34 : decode cX0_carry 34 = .ok (.iaload, 1) := by decide +kernel
theorem dX0_carry_35 : decode cX0_carry 35 = .ok (.iconst 1, 1) := by decide +kernel
theorem dX0_carry_36 : decode cX0_carry 36 = .ok (.iadd, 1) := by decide +kernel
theorem dX0_carry_37 : decode cX0_carry 37 = .ok (.iastore, 1) := by decide +kernel
theorem dX0_carry_38 : decode cX0_carry 38 = .ok (.iconst 1, 1) := by decide +kernel
theorem dX0_carry_39 : decode cX0_carry 39 = .ok (.ireturn, 1) := by decide +kernel
theorem dX0_carry_40 : decode cX0_carry 40 = .ok (.iinc 3 1, 3) := by decide +kernel
theorem dX0_carry_43 : decode cX0_carry 43 = .ok (.goto (-41), 3) := by decide +kernel
theorem dX0_carry_46 : decode cX0_carry 46 = .ok (.iconst 0, 1) := by decide +kernel
theorem dX0_carry_47 : decode cX0_carry 47 = .ok (.ireturn, 1) := by decide +kernel
theorem dX0_endMeeting_0 : decode cX0_endMeeting 0 = .ok (.aload_n 0, 1) := by decide +kernel
theorem dX0_endMeeting_1 : decode cX0_endMeeting 1 = .ok (.aload_n 0, 1) := by decide +kernel
theorem dX0_endMeeting_2 : decode cX0_endMeeting 2 = .ok (.getfield 19, 3) := by decide +kernel
theorem dX0_endMeeting_5 : decode cX0_endMeeting 5 = .ok (.invokevirtual 26, 3) := by decide +kernel
theorem dX0_endMeeting_8 : decode cX0_endMeeting 8 = .ok (.aload_n 0, 1) := by decide +kernel
theorem dX0_endMeeting_9 : decode cX0_endMeeting 9 = .ok (.aload_n 0, 1) := by decide +kernel
theorem dX0_endMeeting_10 : decode cX0_endMeeting 10 = .ok (.getfield 23, 3) := by decide +kernel
theorem dX0_endMeeting_13 : decode cX0_endMeeting 13 = .ok (.invokevirtual 26, 3) := by decide +kernel
theorem dX0_endMeeting_16 : decode cX0_endMeeting 16 = .ok (.aload_n 0, 1) := by decide +kernel
theorem dX0_endMeeting_17 : decode cX0_endMeeting 17 = .ok (.iconst (-1), 1) := by decide +kernel
theorem dX0_endMeeting_18 : decode cX0_endMeeting 18 = .ok (.putfield 19, 3) := by decide +kernel
theorem dX0_endMeeting_21 : decode cX0_endMeeting 21 = .ok (.aload_n 0, 1) := by decide +kernel
theorem dX0_endMeeting_22 : decode cX0_endMeeting 22 = .ok (.iconst (-1), 1) := by decide +kernel
theorem dX0_endMeeting_23 : decode cX0_endMeeting 23 = .ok (.putfield 23, 3) := by decide +kernel
theorem dX0_endMeeting_26 : decode cX0_endMeeting 26 = .ok (.return_, 1) := by decide +kernel
