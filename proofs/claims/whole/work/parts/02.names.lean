/-! Names of this claim: written by a program out of the tables and javap's listing. -/
abbrev RX0 : String := "ForestTablets$Crew"
def TX0 : u_T := fun k => match k with
  | 0 => ("ForestTablets$Crew", "known", "[[I", true)
  | 1 => ("ForestTablets$Crew", "kept", "[[I", true)
  | 2 => ("ForestTablets$Crew", "first", "I", false)
  | _ => ("ForestTablets$Crew", "second", "I", false)
def tyX0 : Nat → FieldType := fun k => match k with
  | 0 => .array (.array .int)
  | 1 => .array (.array .int)
  | 2 => .int
  | _ => .int
theorem nmX0 : ∀ a, a < 4 → ∀ b, b < 4 → a ≠ b → (TX0 a).2.1 ≠ (TX0 b).2.1 := by decide +kernel
theorem tyX0_ok : ∀ k, k < 4 → parseFieldDescriptor (TX0 k).2.2.1 = some (tyX0 k) := by decide +kernel
abbrev RX1 : String := "ForestTablets$Lend"
def TX1 : u_T := fun k => match k with
  | 0 => ("ForestTablets$Lend", "number", "I", true)
  | 1 => ("ForestTablets$Lend", "entry", "I", true)
  | 2 => ("ForestTablets$Lend", "tablet", "I", true)
  | 3 => ("ForestTablets$Lend", "earlier", "LForestTablets$Lend;", true)
  | _ => ("ForestTablets$Lend", "back", "I", false)
def tyX1 : Nat → FieldType := fun k => match k with
  | 0 => .int
  | 1 => .int
  | 2 => .int
  | 3 => .object "ForestTablets$Lend"
  | _ => .int
theorem nmX1 : ∀ a, a < 5 → ∀ b, b < 5 → a ≠ b → (TX1 a).2.1 ≠ (TX1 b).2.1 := by decide +kernel
theorem tyX1_ok : ∀ k, k < 5 → parseFieldDescriptor (TX1 k).2.2.1 = some (tyX1 k) := by decide +kernel
abbrev RX2 : String := "ForestTablets$Lending"
def TX2 : u_T := fun k => match k with
  | _ => ("ForestTablets$Lending", "newest", "[LForestTablets$Lend;", true)
def tyX2 : Nat → FieldType := fun k => match k with
  | _ => .array (.object "ForestTablets$Lend")
theorem nmX2 : ∀ a, a < 1 → ∀ b, b < 1 → a ≠ b → (TX2 a).2.1 ≠ (TX2 b).2.1 := by decide +kernel
theorem tyX2_ok : ∀ k, k < 1 → parseFieldDescriptor (TX2 k).2.2.1 = some (tyX2 k) := by decide +kernel
abbrev RX3 : String := "ForestTablets$Measure"
def TX3 : u_T := fun k => match k with
  | 0 => ("ForestTablets$Measure", "author", "I", true)
  | 1 => ("ForestTablets$Measure", "number", "I", true)
  | 2 => ("ForestTablets$Measure", "value", "I", true)
  | 3 => ("ForestTablets$Measure", "rank", "I", true)
  | 4 => ("ForestTablets$Measure", "vector", "[I", true)
  | _ => ("ForestTablets$Measure", "earlier", "LForestTablets$Measure;", true)
def tyX3 : Nat → FieldType := fun k => match k with
  | 0 => .int
  | 1 => .int
  | 2 => .int
  | 3 => .int
  | 4 => .array .int
  | _ => .object "ForestTablets$Measure"
theorem nmX3 : ∀ a, a < 6 → ∀ b, b < 6 → a ≠ b → (TX3 a).2.1 ≠ (TX3 b).2.1 := by decide +kernel
theorem tyX3_ok : ∀ k, k < 6 → parseFieldDescriptor (TX3 k).2.2.1 = some (tyX3 k) := by decide +kernel
abbrev RX4 : String := "ForestTablets$Notebook"
def TX4 : u_T := fun k => match k with
  | 0 => ("ForestTablets$Notebook", "newest", "[LForestTablets$Measure;", true)
  | 1 => ("ForestTablets$Notebook", "lastOfAuthor", "[LForestTablets$Measure;", true)
  | 2 => ("ForestTablets$Notebook", "unseen", "[LForestTablets$Measure;", true)
  | 3 => ("ForestTablets$Notebook", "listed", "[LForestTablets$Measure;", true)
  | 4 => ("ForestTablets$Notebook", "candidates", "I", false)
  | _ => ("ForestTablets$Notebook", "size", "I", false)
def tyX4 : Nat → FieldType := fun k => match k with
  | 0 => .array (.object "ForestTablets$Measure")
  | 1 => .array (.object "ForestTablets$Measure")
  | 2 => .array (.object "ForestTablets$Measure")
  | 3 => .array (.object "ForestTablets$Measure")
  | 4 => .int
  | _ => .int
theorem nmX4 : ∀ a, a < 6 → ∀ b, b < 6 → a ≠ b → (TX4 a).2.1 ≠ (TX4 b).2.1 := by decide +kernel
theorem tyX4_ok : ∀ k, k < 6 → parseFieldDescriptor (TX4 k).2.2.1 = some (tyX4 k) := by decide +kernel
abbrev RX5 : String := "ForestTablets$PlotSums"
def TX5 : u_T := fun k => match k with
  | 0 => ("ForestTablets$PlotSums", "volume", "J", false)
  | 1 => ("ForestTablets$PlotSums", "squares", "J", false)
  | 2 => ("ForestTablets$PlotSums", "missing", "I", false)
  | _ => ("ForestTablets$PlotSums", "implausible", "I", false)
def tyX5 : Nat → FieldType := fun k => match k with
  | 0 => .long
  | 1 => .long
  | 2 => .int
  | _ => .int
theorem nmX5 : ∀ a, a < 4 → ∀ b, b < 4 → a ≠ b → (TX5 a).2.1 ≠ (TX5 b).2.1 := by decide +kernel
theorem tyX5_ok : ∀ k, k < 4 → parseFieldDescriptor (TX5 k).2.2.1 = some (tyX5 k) := by decide +kernel
abbrev RX6 : String := "ForestTablets$StandSums"
def TX6 : u_T := fun k => match k with
  | 0 => ("ForestTablets$StandSums", "volume", "J", false)
  | 1 => ("ForestTablets$StandSums", "volumeSquares", "J", false)
  | 2 => ("ForestTablets$StandSums", "missing", "I", false)
  | _ => ("ForestTablets$StandSums", "plots", "I", false)
def tyX6 : Nat → FieldType := fun k => match k with
  | 0 => .long
  | 1 => .long
  | 2 => .int
  | _ => .int
theorem nmX6 : ∀ a, a < 4 → ∀ b, b < 4 → a ≠ b → (TX6 a).2.1 ≠ (TX6 b).2.1 := by decide +kernel
theorem tyX6_ok : ∀ k, k < 4 → parseFieldDescriptor (TX6 k).2.2.1 = some (tyX6 k) := by decide +kernel
abbrev RX7 : String := "ForestTablets$Tariff"
def TX7 : u_T := fun k => match k with
  | 0 => ("ForestTablets$Tariff", "factor", "[I", true)
  | 1 => ("ForestTablets$Tariff", "low", "[I", true)
  | _ => ("ForestTablets$Tariff", "high", "[I", true)
def tyX7 : Nat → FieldType := fun k => match k with
  | 0 => .array .int
  | 1 => .array .int
  | _ => .array .int
theorem nmX7 : ∀ a, a < 3 → ∀ b, b < 3 → a ≠ b → (TX7 a).2.1 ≠ (TX7 b).2.1 := by decide +kernel
theorem tyX7_ok : ∀ k, k < 3 → parseFieldDescriptor (TX7 k).2.2.1 = some (tyX7 k) := by decide +kernel
abbrev RX8 : String := "ForestTablets"
def TX8 : u_T := fun k => match k with
  | 0 => ("ForestTablets", "crew", "LForestTablets$Crew;", true)
  | 1 => ("ForestTablets", "lending", "LForestTablets$Lending;", true)
  | 2 => ("ForestTablets", "notebook", "LForestTablets$Notebook;", true)
  | 3 => ("ForestTablets", "tariff", "LForestTablets$Tariff;", true)
  | 4 => ("ForestTablets", "sums", "LForestTablets$PlotSums;", true)
  | 5 => ("ForestTablets", "standSums", "LForestTablets$StandSums;", true)
  | 6 => ("ForestTablets", "standOf", "[I", true)
  | _ => ("ForestTablets", "shownFields", "[I", true)
def tyX8 : Nat → FieldType := fun k => match k with
  | 0 => .object "ForestTablets$Crew"
  | 1 => .object "ForestTablets$Lending"
  | 2 => .object "ForestTablets$Notebook"
  | 3 => .object "ForestTablets$Tariff"
  | 4 => .object "ForestTablets$PlotSums"
  | 5 => .object "ForestTablets$StandSums"
  | 6 => .array .int
  | _ => .array .int
theorem nmX8 : ∀ a, a < 8 → ∀ b, b < 8 → a ≠ b → (TX8 a).2.1 ≠ (TX8 b).2.1 := by decide +kernel
theorem tyX8_ok : ∀ k, k < 8 → parseFieldDescriptor (TX8 k).2.2.1 = some (tyX8 k) := by decide +kernel
abbrev RX9 : String := "ForestTabletsModel"
def TX9 : u_T := fun k => match k with
  | 0 => ("ForestTabletsModel", "thrown", "I", false)
  | 1 => ("ForestTabletsModel", "many", "[I", true)
  | 2 => ("ForestTabletsModel", "kinds", "[I", true)
  | 3 => ("ForestTabletsModel", "plots", "[I", true)
  | 4 => ("ForestTabletsModel", "fields", "[I", true)
  | 5 => ("ForestTabletsModel", "values", "[I", true)
  | 6 => ("ForestTabletsModel", "ranks", "[I", true)
  | 7 => ("ForestTabletsModel", "vectors", "[I", true)
  | 8 => ("ForestTabletsModel", "knows", "[I", true)
  | 9 => ("ForestTabletsModel", "kept", "[I", true)
  | 10 => ("ForestTabletsModel", "one", "I", false)
  | 11 => ("ForestTabletsModel", "two", "I", false)
  | 12 => ("ForestTabletsModel", "factors", "[I", true)
  | 13 => ("ForestTabletsModel", "lows", "[I", true)
  | 14 => ("ForestTabletsModel", "highs", "[I", true)
  | _ => ("ForestTabletsModel", "stands", "[I", true)
def tyX9 : Nat → FieldType := fun k => match k with
  | 0 => .int
  | 1 => .array .int
  | 2 => .array .int
  | 3 => .array .int
  | 4 => .array .int
  | 5 => .array .int
  | 6 => .array .int
  | 7 => .array .int
  | 8 => .array .int
  | 9 => .array .int
  | 10 => .int
  | 11 => .int
  | 12 => .array .int
  | 13 => .array .int
  | 14 => .array .int
  | _ => .array .int
theorem nmX9 : ∀ a, a < 16 → ∀ b, b < 16 → a ≠ b → (TX9 a).2.1 ≠ (TX9 b).2.1 := by decide +kernel
theorem tyX9_ok : ∀ k, k < 16 → parseFieldDescriptor (TX9 k).2.2.1 = some (tyX9 k) := by decide +kernel
abbrev vwCl : List vw_C := [(RX0, TX0, 4), (RX1, TX1, 5), (RX2, TX2, 1), (RX3, TX3, 6), (RX4, TX4, 6), (RX5, TX5, 4), (RX6, TX6, 4), (RX7, TX7, 3), (RX8, TX8, 8), (RX9, TX9, 16)]
abbrev RL : String := "ForestTabletsLaw"
theorem tg_8 : (Cond.initialized "ForestTabletsModel") ∈ lw_g := lw_gi (List.mem_of_getElem? (i := 8) (by decide +kernel)) rfl
theorem tg_638 : (Cond.fieldLink "ForestTabletsModel" (56 : Nat) "ForestTabletsModel" "thrown" "I") ∈ lw_g := lw_gi (List.mem_of_getElem? (i := 638) (by decide +kernel)) rfl
theorem tg_639 : (Cond.fieldLink "ForestTabletsModel" (7 : Nat) "ForestTabletsModel" "many" "[I") ∈ lw_g := lw_gi (List.mem_of_getElem? (i := 639) (by decide +kernel)) rfl
theorem tg_640 : (Cond.fieldLink "ForestTabletsModel" (13 : Nat) "ForestTabletsModel" "kinds" "[I") ∈ lw_g := lw_gi (List.mem_of_getElem? (i := 640) (by decide +kernel)) rfl
theorem tg_641 : (Cond.fieldLink "ForestTabletsModel" (16 : Nat) "ForestTabletsModel" "plots" "[I") ∈ lw_g := lw_gi (List.mem_of_getElem? (i := 641) (by decide +kernel)) rfl
theorem tg_642 : (Cond.fieldLink "ForestTabletsModel" (19 : Nat) "ForestTabletsModel" "fields" "[I") ∈ lw_g := lw_gi (List.mem_of_getElem? (i := 642) (by decide +kernel)) rfl
theorem tg_643 : (Cond.fieldLink "ForestTabletsModel" (22 : Nat) "ForestTabletsModel" "values" "[I") ∈ lw_g := lw_gi (List.mem_of_getElem? (i := 643) (by decide +kernel)) rfl
theorem tg_644 : (Cond.fieldLink "ForestTabletsModel" (25 : Nat) "ForestTabletsModel" "ranks" "[I") ∈ lw_g := lw_gi (List.mem_of_getElem? (i := 644) (by decide +kernel)) rfl
theorem tg_645 : (Cond.fieldLink "ForestTabletsModel" (28 : Nat) "ForestTabletsModel" "vectors" "[I") ∈ lw_g := lw_gi (List.mem_of_getElem? (i := 645) (by decide +kernel)) rfl
theorem tg_646 : (Cond.fieldLink "ForestTabletsModel" (31 : Nat) "ForestTabletsModel" "knows" "[I") ∈ lw_g := lw_gi (List.mem_of_getElem? (i := 646) (by decide +kernel)) rfl
theorem tg_647 : (Cond.fieldLink "ForestTabletsModel" (34 : Nat) "ForestTabletsModel" "kept" "[I") ∈ lw_g := lw_gi (List.mem_of_getElem? (i := 647) (by decide +kernel)) rfl
theorem tg_648 : (Cond.fieldLink "ForestTabletsModel" (37 : Nat) "ForestTabletsModel" "one" "I") ∈ lw_g := lw_gi (List.mem_of_getElem? (i := 648) (by decide +kernel)) rfl
theorem tg_649 : (Cond.fieldLink "ForestTabletsModel" (41 : Nat) "ForestTabletsModel" "two" "I") ∈ lw_g := lw_gi (List.mem_of_getElem? (i := 649) (by decide +kernel)) rfl
theorem tg_654 : (Cond.lays "ForestTabletsModel" "ForestTabletsModel" "thrown" "I") ∈ lw_g := lw_gi (List.mem_of_getElem? (i := 654) (by decide +kernel)) rfl
theorem tg_656 : (Cond.laysFinal "ForestTabletsModel" "ForestTabletsModel" "many" "[I") ∈ lw_g := lw_gi (List.mem_of_getElem? (i := 656) (by decide +kernel)) rfl
theorem tg_658 : (Cond.laysFinal "ForestTabletsModel" "ForestTabletsModel" "kinds" "[I") ∈ lw_g := lw_gi (List.mem_of_getElem? (i := 658) (by decide +kernel)) rfl
theorem tg_660 : (Cond.laysFinal "ForestTabletsModel" "ForestTabletsModel" "plots" "[I") ∈ lw_g := lw_gi (List.mem_of_getElem? (i := 660) (by decide +kernel)) rfl
theorem tg_662 : (Cond.laysFinal "ForestTabletsModel" "ForestTabletsModel" "fields" "[I") ∈ lw_g := lw_gi (List.mem_of_getElem? (i := 662) (by decide +kernel)) rfl
theorem tg_664 : (Cond.laysFinal "ForestTabletsModel" "ForestTabletsModel" "values" "[I") ∈ lw_g := lw_gi (List.mem_of_getElem? (i := 664) (by decide +kernel)) rfl
theorem tg_666 : (Cond.laysFinal "ForestTabletsModel" "ForestTabletsModel" "ranks" "[I") ∈ lw_g := lw_gi (List.mem_of_getElem? (i := 666) (by decide +kernel)) rfl
theorem tg_668 : (Cond.laysFinal "ForestTabletsModel" "ForestTabletsModel" "vectors" "[I") ∈ lw_g := lw_gi (List.mem_of_getElem? (i := 668) (by decide +kernel)) rfl
theorem tg_670 : (Cond.laysFinal "ForestTabletsModel" "ForestTabletsModel" "knows" "[I") ∈ lw_g := lw_gi (List.mem_of_getElem? (i := 670) (by decide +kernel)) rfl
theorem tg_672 : (Cond.laysFinal "ForestTabletsModel" "ForestTabletsModel" "kept" "[I") ∈ lw_g := lw_gi (List.mem_of_getElem? (i := 672) (by decide +kernel)) rfl
theorem tg_674 : (Cond.lays "ForestTabletsModel" "ForestTabletsModel" "one" "I") ∈ lw_g := lw_gi (List.mem_of_getElem? (i := 674) (by decide +kernel)) rfl
theorem tg_676 : (Cond.lays "ForestTabletsModel" "ForestTabletsModel" "two" "I") ∈ lw_g := lw_gi (List.mem_of_getElem? (i := 676) (by decide +kernel)) rfl
theorem tg_678 : (Cond.laysFinal "ForestTabletsModel" "ForestTabletsModel" "factors" "[I") ∈ lw_g := lw_gi (List.mem_of_getElem? (i := 678) (by decide +kernel)) rfl
theorem tg_680 : (Cond.laysFinal "ForestTabletsModel" "ForestTabletsModel" "lows" "[I") ∈ lw_g := lw_gi (List.mem_of_getElem? (i := 680) (by decide +kernel)) rfl
theorem tg_682 : (Cond.laysFinal "ForestTabletsModel" "ForestTabletsModel" "highs" "[I") ∈ lw_g := lw_gi (List.mem_of_getElem? (i := 682) (by decide +kernel)) rfl
theorem tg_684 : (Cond.laysFinal "ForestTabletsModel" "ForestTabletsModel" "stands" "[I") ∈ lw_g := lw_gi (List.mem_of_getElem? (i := 684) (by decide +kernel)) rfl
theorem tg_714 : (Cond.methodLink "ForestTabletsModel" (70 : Nat) ({ cls := "ForestTabletsModel", name := "lent", desc := "(II)I" } : Jvm.MethodName)) ∈ lw_g := lw_gi (List.mem_of_getElem? (i := 714) (by decide +kernel)) rfl
theorem tg_716 : (Cond.instanceMethod ({ cls := "ForestTabletsModel", name := "lent", desc := "(II)I" } : Jvm.MethodName)) ∈ lw_g := lw_gi (List.mem_of_getElem? (i := 716) (by decide +kernel)) rfl
theorem tg_717 : (Cond.code ({ cls := "ForestTabletsModel", name := "lent", desc := "(II)I" } : Jvm.MethodName) prog_11_method_8_code (6 : Nat) (Option.some FieldType.int)) ∈ lw_g := lw_gi (List.mem_of_getElem? (i := 717) (by decide +kernel)) rfl
theorem tg_718 : (Cond.methodLink "ForestTabletsModel" (67 : Nat) ({ cls := "ForestTabletsModel", name := "isKnown", desc := "(III)Z" } : Jvm.MethodName)) ∈ lw_g := lw_gi (List.mem_of_getElem? (i := 718) (by decide +kernel)) rfl
theorem tg_720 : (Cond.instanceMethod ({ cls := "ForestTabletsModel", name := "isKnown", desc := "(III)Z" } : Jvm.MethodName)) ∈ lw_g := lw_gi (List.mem_of_getElem? (i := 720) (by decide +kernel)) rfl
theorem tg_721 : (Cond.code ({ cls := "ForestTabletsModel", name := "isKnown", desc := "(III)Z" } : Jvm.MethodName) prog_11_method_7_code (4 : Nat) (Option.some FieldType.boolean)) ∈ lw_g := lw_gi (List.mem_of_getElem? (i := 721) (by decide +kernel)) rfl
theorem tg_722 : (Cond.methodLink "ForestTabletsModel" (74 : Nat) ({ cls := "ForestTabletsModel", name := "isBack", desc := "(III)Z" } : Jvm.MethodName)) ∈ lw_g := lw_gi (List.mem_of_getElem? (i := 722) (by decide +kernel)) rfl
theorem tg_724 : (Cond.instanceMethod ({ cls := "ForestTabletsModel", name := "isBack", desc := "(III)Z" } : Jvm.MethodName)) ∈ lw_g := lw_gi (List.mem_of_getElem? (i := 724) (by decide +kernel)) rfl
theorem tg_725 : (Cond.code ({ cls := "ForestTabletsModel", name := "isBack", desc := "(III)Z" } : Jvm.MethodName) prog_11_method_9_code (6 : Nat) (Option.some FieldType.boolean)) ∈ lw_g := lw_gi (List.mem_of_getElem? (i := 725) (by decide +kernel)) rfl
theorem tg_730 : (Cond.methodLink "ForestTabletsModel" (77 : Nat) ({ cls := "ForestTabletsModel", name := "keep", desc := "(I)V" } : Jvm.MethodName)) ∈ lw_g := lw_gi (List.mem_of_getElem? (i := 730) (by decide +kernel)) rfl
theorem tg_732 : (Cond.instanceMethod ({ cls := "ForestTabletsModel", name := "keep", desc := "(I)V" } : Jvm.MethodName)) ∈ lw_g := lw_gi (List.mem_of_getElem? (i := 732) (by decide +kernel)) rfl
theorem tg_733 : (Cond.code ({ cls := "ForestTabletsModel", name := "keep", desc := "(I)V" } : Jvm.MethodName) prog_11_method_11_code (3 : Nat) (Option.none : Option FieldType)) ∈ lw_g := lw_gi (List.mem_of_getElem? (i := 733) (by decide +kernel)) rfl
theorem tg_756 : (Cond.methodLink "ForestTabletsModel" (109 : Nat) ({ cls := "ForestTabletsModel", name := "isConflict", desc := "(III)Z" } : Jvm.MethodName)) ∈ lw_g := lw_gi (List.mem_of_getElem? (i := 756) (by decide +kernel)) rfl
theorem tg_758 : (Cond.instanceMethod ({ cls := "ForestTabletsModel", name := "isConflict", desc := "(III)Z" } : Jvm.MethodName)) ∈ lw_g := lw_gi (List.mem_of_getElem? (i := 758) (by decide +kernel)) rfl
theorem tg_759 : (Cond.code ({ cls := "ForestTabletsModel", name := "isConflict", desc := "(III)Z" } : Jvm.MethodName) prog_11_method_22_code (7 : Nat) (Option.some FieldType.boolean)) ∈ lw_g := lw_gi (List.mem_of_getElem? (i := 759) (by decide +kernel)) rfl
theorem tg_760 : (Cond.methodLink "ForestTabletsModel" (106 : Nat) ({ cls := "ForestTabletsModel", name := "shown", desc := "(III)I" } : Jvm.MethodName)) ∈ lw_g := lw_gi (List.mem_of_getElem? (i := 760) (by decide +kernel)) rfl
theorem tg_762 : (Cond.instanceMethod ({ cls := "ForestTabletsModel", name := "shown", desc := "(III)I" } : Jvm.MethodName)) ∈ lw_g := lw_gi (List.mem_of_getElem? (i := 762) (by decide +kernel)) rfl
theorem tg_763 : (Cond.code ({ cls := "ForestTabletsModel", name := "shown", desc := "(III)I" } : Jvm.MethodName) prog_11_method_21_code (7 : Nat) (Option.some FieldType.int)) ∈ lw_g := lw_gi (List.mem_of_getElem? (i := 763) (by decide +kernel)) rfl
theorem tg_764 : (Cond.methodLink "ForestTabletsModel" (102 : Nat) ({ cls := "ForestTabletsModel", name := "rankOf", desc := "(III)I" } : Jvm.MethodName)) ∈ lw_g := lw_gi (List.mem_of_getElem? (i := 764) (by decide +kernel)) rfl
theorem tg_766 : (Cond.instanceMethod ({ cls := "ForestTabletsModel", name := "rankOf", desc := "(III)I" } : Jvm.MethodName)) ∈ lw_g := lw_gi (List.mem_of_getElem? (i := 766) (by decide +kernel)) rfl
theorem tg_767 : (Cond.code ({ cls := "ForestTabletsModel", name := "rankOf", desc := "(III)I" } : Jvm.MethodName) prog_11_method_20_code (6 : Nat) (Option.some FieldType.int)) ∈ lw_g := lw_gi (List.mem_of_getElem? (i := 767) (by decide +kernel)) rfl
theorem tg_768 : (Cond.methodLink "ForestTabletsModel" (99 : Nat) ({ cls := "ForestTabletsModel", name := "isLast", desc := "(IIII)Z" } : Jvm.MethodName)) ∈ lw_g := lw_gi (List.mem_of_getElem? (i := 768) (by decide +kernel)) rfl
theorem tg_770 : (Cond.instanceMethod ({ cls := "ForestTabletsModel", name := "isLast", desc := "(IIII)Z" } : Jvm.MethodName)) ∈ lw_g := lw_gi (List.mem_of_getElem? (i := 770) (by decide +kernel)) rfl
theorem tg_771 : (Cond.code ({ cls := "ForestTabletsModel", name := "isLast", desc := "(IIII)Z" } : Jvm.MethodName) prog_11_method_19_code (7 : Nat) (Option.some FieldType.boolean)) ∈ lw_g := lw_gi (List.mem_of_getElem? (i := 771) (by decide +kernel)) rfl
theorem tg_772 : (Cond.methodLink "ForestTabletsModel" (95 : Nat) ({ cls := "ForestTabletsModel", name := "isOf", desc := "(IIII)Z" } : Jvm.MethodName)) ∈ lw_g := lw_gi (List.mem_of_getElem? (i := 772) (by decide +kernel)) rfl
theorem tg_774 : (Cond.instanceMethod ({ cls := "ForestTabletsModel", name := "isOf", desc := "(IIII)Z" } : Jvm.MethodName)) ∈ lw_g := lw_gi (List.mem_of_getElem? (i := 774) (by decide +kernel)) rfl
theorem tg_775 : (Cond.code ({ cls := "ForestTabletsModel", name := "isOf", desc := "(IIII)Z" } : Jvm.MethodName) prog_11_method_18_code (5 : Nat) (Option.some FieldType.boolean)) ∈ lw_g := lw_gi (List.mem_of_getElem? (i := 775) (by decide +kernel)) rfl
abbrev cX9_in : ByteArray := prog_11_method_3_code
def yX9_in : MethodName := ⟨RX9, "in", "(III)Z"⟩
def wsX9_in : List Cond := .code yX9_in cX9_in 3 (some FieldType.boolean) :: lw_g
abbrev cX9_fails : ByteArray := prog_11_method_4_code
def yX9_fails : MethodName := ⟨RX9, "fails", "(ZI)Z"⟩
def wsX9_fails : List Cond := .code yX9_fails cX9_fails 3 (some FieldType.boolean) :: lw_g
abbrev cX9_isKnown : ByteArray := prog_11_method_7_code
def yX9_isKnown : MethodName := ⟨RX9, "isKnown", "(III)Z"⟩
def wsX9_isKnown : List Cond := .code yX9_isKnown cX9_isKnown 4 (some FieldType.boolean) :: lw_g
abbrev cX9_lent : ByteArray := prog_11_method_8_code
def yX9_lent : MethodName := ⟨RX9, "lent", "(II)I"⟩
def wsX9_lent : List Cond := .code yX9_lent cX9_lent 6 (some FieldType.int) :: lw_g
abbrev cX9_isBack : ByteArray := prog_11_method_9_code
def yX9_isBack : MethodName := ⟨RX9, "isBack", "(III)Z"⟩
def wsX9_isBack : List Cond := .code yX9_isBack cX9_isBack 6 (some FieldType.boolean) :: lw_g
abbrev cX9_holds : ByteArray := prog_11_method_10_code
def yX9_holds : MethodName := ⟨RX9, "holds", "(II)I"⟩
def wsX9_holds : List Cond := .code yX9_holds cX9_holds 7 (some FieldType.int) :: lw_g
abbrev cX9_keep : ByteArray := prog_11_method_11_code
def yX9_keep : MethodName := ⟨RX9, "keep", "(I)V"⟩
def wsX9_keep : List Cond := .code yX9_keep cX9_keep 3 none :: lw_g
abbrev cX9_enters : ByteArray := prog_11_method_12_code
def yX9_enters : MethodName := ⟨RX9, "enters", "(IIIIII)I"⟩
def wsX9_enters : List Cond := .code yX9_enters cX9_enters 9 (some FieldType.int) :: lw_g
abbrev cX9_isOf : ByteArray := prog_11_method_18_code
def yX9_isOf : MethodName := ⟨RX9, "isOf", "(IIII)Z"⟩
def wsX9_isOf : List Cond := .code yX9_isOf cX9_isOf 5 (some FieldType.boolean) :: lw_g
abbrev cX9_isLast : ByteArray := prog_11_method_19_code
def yX9_isLast : MethodName := ⟨RX9, "isLast", "(IIII)Z"⟩
def wsX9_isLast : List Cond := .code yX9_isLast cX9_isLast 7 (some FieldType.boolean) :: lw_g
abbrev cX9_rankOf : ByteArray := prog_11_method_20_code
def yX9_rankOf : MethodName := ⟨RX9, "rankOf", "(III)I"⟩
def wsX9_rankOf : List Cond := .code yX9_rankOf cX9_rankOf 6 (some FieldType.int) :: lw_g
abbrev cX9_shown : ByteArray := prog_11_method_21_code
def yX9_shown : MethodName := ⟨RX9, "shown", "(III)I"⟩
def wsX9_shown : List Cond := .code yX9_shown cX9_shown 7 (some FieldType.int) :: lw_g
abbrev cX9_isConflict : ByteArray := prog_11_method_22_code
def yX9_isConflict : MethodName := ⟨RX9, "isConflict", "(III)Z"⟩
def wsX9_isConflict : List Cond := .code yX9_isConflict cX9_isConflict 7 (some FieldType.boolean) :: lw_g
abbrev cX9_inConflict : ByteArray := prog_11_method_23_code
def yX9_inConflict : MethodName := ⟨RX9, "inConflict", "(II)I"⟩
def wsX9_inConflict : List Cond := .code yX9_inConflict cX9_inConflict 5 (some FieldType.int) :: lw_g
abbrev cX9_carries : ByteArray := prog_11_method_26_code
def yX9_carries : MethodName := ⟨RX9, "carries", "(II)Z"⟩
def wsX9_carries : List Cond := .code yX9_carries cX9_carries 4 (some FieldType.boolean) :: lw_g
abbrev cX9_ends : ByteArray := prog_11_method_28_code
def yX9_ends : MethodName := ⟨RX9, "ends", "()V"⟩
def wsX9_ends : List Cond := .code yX9_ends cX9_ends 1 none :: lw_g
theorem slX9_fails : Cond.selects RX9 yX9_fails yX9_fails ∈ lw_g := lw_gs (q := (yX9_fails, 16)) (by decide +kernel)
theorem slX9_isKnown : Cond.selects RX9 yX9_isKnown yX9_isKnown ∈ lw_g := lw_gs (q := (yX9_isKnown, 16)) (by decide +kernel)
theorem slX9_lent : Cond.selects RX9 yX9_lent yX9_lent ∈ lw_g := lw_gs (q := (yX9_lent, 16)) (by decide +kernel)
theorem slX9_isBack : Cond.selects RX9 yX9_isBack yX9_isBack ∈ lw_g := lw_gs (q := (yX9_isBack, 16)) (by decide +kernel)
theorem slX9_holds : Cond.selects RX9 yX9_holds yX9_holds ∈ lw_g := lw_gs (q := (yX9_holds, 16)) (by decide +kernel)
theorem slX9_keep : Cond.selects RX9 yX9_keep yX9_keep ∈ lw_g := lw_gs (q := (yX9_keep, 16)) (by decide +kernel)
theorem slX9_enters : Cond.selects RX9 yX9_enters yX9_enters ∈ lw_g := lw_gs (q := (yX9_enters, 16)) (by decide +kernel)
theorem slX9_isOf : Cond.selects RX9 yX9_isOf yX9_isOf ∈ lw_g := lw_gs (q := (yX9_isOf, 16)) (by decide +kernel)
theorem slX9_isLast : Cond.selects RX9 yX9_isLast yX9_isLast ∈ lw_g := lw_gs (q := (yX9_isLast, 16)) (by decide +kernel)
theorem slX9_rankOf : Cond.selects RX9 yX9_rankOf yX9_rankOf ∈ lw_g := lw_gs (q := (yX9_rankOf, 16)) (by decide +kernel)
theorem slX9_shown : Cond.selects RX9 yX9_shown yX9_shown ∈ lw_g := lw_gs (q := (yX9_shown, 16)) (by decide +kernel)
theorem slX9_isConflict : Cond.selects RX9 yX9_isConflict yX9_isConflict ∈ lw_g := lw_gs (q := (yX9_isConflict, 16)) (by decide +kernel)
theorem slX9_inConflict : Cond.selects RX9 yX9_inConflict yX9_inConflict ∈ lw_g := lw_gs (q := (yX9_inConflict, 16)) (by decide +kernel)
theorem slX9_carries : Cond.selects RX9 yX9_carries yX9_carries ∈ lw_g := lw_gs (q := (yX9_carries, 16)) (by decide +kernel)
theorem slX9_ends : Cond.selects RX9 yX9_ends yX9_ends ∈ lw_g := lw_gs (q := (yX9_ends, 16)) (by decide +kernel)
theorem inX9 : ∀ w ∈ u_ws RX9 TX9 16, w ∈ lw_g := by
  intro w hw
  rw [show u_ws RX9 TX9 16 = [(Cond.lays "ForestTabletsModel" "ForestTabletsModel" "thrown" "I"), (Cond.laysFinal "ForestTabletsModel" "ForestTabletsModel" "many" "[I"), (Cond.laysFinal "ForestTabletsModel" "ForestTabletsModel" "kinds" "[I"), (Cond.laysFinal "ForestTabletsModel" "ForestTabletsModel" "plots" "[I"), (Cond.laysFinal "ForestTabletsModel" "ForestTabletsModel" "fields" "[I"), (Cond.laysFinal "ForestTabletsModel" "ForestTabletsModel" "values" "[I"), (Cond.laysFinal "ForestTabletsModel" "ForestTabletsModel" "ranks" "[I"), (Cond.laysFinal "ForestTabletsModel" "ForestTabletsModel" "vectors" "[I"), (Cond.laysFinal "ForestTabletsModel" "ForestTabletsModel" "knows" "[I"), (Cond.laysFinal "ForestTabletsModel" "ForestTabletsModel" "kept" "[I"), (Cond.lays "ForestTabletsModel" "ForestTabletsModel" "one" "I"), (Cond.lays "ForestTabletsModel" "ForestTabletsModel" "two" "I"), (Cond.laysFinal "ForestTabletsModel" "ForestTabletsModel" "factors" "[I"), (Cond.laysFinal "ForestTabletsModel" "ForestTabletsModel" "lows" "[I"), (Cond.laysFinal "ForestTabletsModel" "ForestTabletsModel" "highs" "[I"), (Cond.laysFinal "ForestTabletsModel" "ForestTabletsModel" "stands" "[I")] from by decide +kernel] at hw
  simp only [List.mem_cons, List.not_mem_nil, or_false] at hw
  rcases hw with rfl | rfl | rfl | rfl | rfl | rfl | rfl | rfl | rfl | rfl | rfl | rfl | rfl | rfl | rfl | rfl
  · exact tg_654
  · exact tg_656
  · exact tg_658
  · exact tg_660
  · exact tg_662
  · exact tg_664
  · exact tg_666
  · exact tg_668
  · exact tg_670
  · exact tg_672
  · exact tg_674
  · exact tg_676
  · exact tg_678
  · exact tg_680
  · exact tg_682
  · exact tg_684
