theorem tb_tb_eq (x : Int32) : tb_in x (nI 1) (nI 4) = (!decide (x = 0) && tb_in x (nI 0) (nI 4)) := by
  have e1 : (x < nI 1) = (x < nI 0 ∨ x = 0) := by
    apply propext
    rw [Int32.lt_iff_toInt_lt, Int32.lt_iff_toInt_lt, ← Int32.toInt_inj, nI_toInt (by decide), nI_toInt (by decide), Int32.toInt_zero]
    omega
  unfold tb_in
  by_cases h2 : x = 0
  · have h3 : x < nI 1 := by rw [e1]; exact Or.inr h2
    rw [decide_eq_true h3, decide_eq_true h2]
    rfl
  · have h3 : (x < nI 1) = (x < nI 0) := by rw [e1]; simp [h2]
    simp only [h3, decide_eq_false h2]
    rfl
theorem tb_prod2 {q : tb_Q} (hq : tb_sm q) {a b dv : Nat} (hd : dv ≤ 2000) : q a b * dv < 2147483648 := Nat.lt_of_le_of_lt (Nat.mul_le_mul (hq a b) hd) (by decide)
theorem um_least_ex (f : Nat) : ∃ a : Int32, um_least f = .int a := by
  unfold um_least
  split <;> exact ⟨_, rfl⟩
theorem um_great_ex (f : Nat) : ∃ a : Int32, um_great f = .int a := by
  unfold um_great
  split <;> exact ⟨_, rfl⟩
def xs_addT (q : tb_Q) (sc : xs_S) (t k dv hv : Nat) : xs_S :=
  if tb_bad q k dv hv = true then xs_sI (xs_sL (xs_sL sc 0 (sc.2.1 0 + tb_vol (nI dv).toInt64 (nI hv).toInt64 (nI (q 9 k)).toInt64)) 1 (sc.2.1 1 + (nI dv).toInt64 * (nI dv).toInt64)) 3 (sc.2.2.1 3 ||| (nI 1 <<< (nI t &&& 31)))
  else xs_sL (xs_sL sc 0 (sc.2.1 0 + tb_vol (nI dv).toInt64 (nI hv).toInt64 (nI (q 9 k)).toInt64)) 1 (sc.2.1 1 + (nI dv).toInt64 * (nI dv).toInt64)
def xs_clP (sc : xs_S) : xs_S := xs_sI (xs_sI (xs_sL (xs_sL sc 0 0) 1 0) 2 (nI 0)) 3 (nI 0)
def xs_clS (sc : xs_S) : xs_S := xs_sI (xs_sI (xs_sL (xs_sL sc 2 0) 3 0) 4 (nI 0)) 5 (nI 0)
def xs_addP (sc : xs_S) : xs_S := xs_sI (xs_sI (xs_sL (xs_sL sc 2 (sc.2.1 2 + sc.2.1 0)) 3 (sc.2.1 3 + sc.2.1 0 * sc.2.1 0)) 4 (sc.2.2.1 4 + sc.2.2.1 2)) 5 (sc.2.2.1 5 + nI 1)
/-- the error of a stand, of what is in the scratch -/
def xs_err (sc : xs_S) : Int64 := if nI 2 ≤ sc.2.2.1 5 then tb_root (((sc.2.2.1 5).toInt64 * sc.2.1 3 - sc.2.1 2 * sc.2.1 2) / ((sc.2.2.1 5).toInt64 * ((sc.2.2.1 5).toInt64 - 1))) else 0
section CPQ
variable {p : Program} {l : Launch} {e : Env} {R : Room} {s : State} {m : MethodId} {args : Array Value} {below : List Frame} {meth : Method} {c : Code} {H : Heap} {locs : List Loc} {cells slots : Nat} {Q : State → Prop}
variable {pc : Nat} {ls : Array Slot} {rest st0 : List Value} {D : va_G} {A : Nat → Prop} {σ : um_M} {κ : Nat → ClassId} {τ : Nat → Nat} {mc ms : Nat} {a : Array Value}
theorem um_callPq {X : Option Nat} (hr : va_Run p l e R s m args below meth c H locs cells slots mc ms (F0 m pc ls st0) rest (va_Qq (fun r σ' => r = X ∧ σ' = σ) (um_U D κ τ A) A a) A) (hU : um_S D vwCl A s σ H locs)
    (kk : ∀ (H1 : Heap) (locs1 : List Loc), um_S D vwCl A s σ H1 locs1 → W p l e R s m args below meth c H1 locs1 (cells + mc) (slots + ms) Q (F0 m (pc + 3) ls (va_rf X :: rest))) : W p l e R s m args below meth c H locs cells slots Q (F0 m pc ls st0) :=
  um_callq hr hU (fun r σ' H1 locs1 hp hU1 => by obtain ⟨h1, h2⟩ := hp; subst h1; subst h2; exact kk H1 locs1 hU1)
end CPQ
theorem xs_no_lt {q : tb_Q} (hq : tb_sm q) (d p : Nat) : xs_no q d p < 2147483648 := by
  unfold xs_no
  split
  · decide
  · exact tb_sm_lt hq 5 _
theorem xs_ho_lt {q : tb_Q} (hq : tb_sm q) (d p : Nat) : xs_ho q d p < 2147483648 := by
  unfold xs_ho
  split
  · decide
  · rename_i k _
    split
    · decide
    · exact Nat.lt_of_le_of_lt (Nat.succ_le_succ (hq 4 k)) (by decide)
theorem tg_1 : (Cond.initialized "ForestTablets") ∈ lw_g := lw_gi (List.mem_of_getElem? (i := 1) (by decide +kernel)) rfl
theorem tg_3 : (Cond.initialized "ForestTablets$Lending") ∈ lw_g := lw_gi (List.mem_of_getElem? (i := 3) (by decide +kernel)) rfl
theorem tg_5 : (Cond.initialized "ForestTablets$Tariff") ∈ lw_g := lw_gi (List.mem_of_getElem? (i := 5) (by decide +kernel)) rfl
theorem tg_60 : (Cond.fieldLink "ForestTablets$Lending" (11 : Nat) "ForestTablets$Lending" "newest" "[LForestTablets$Lend;") ∈ lw_g := lw_gi (List.mem_of_getElem? (i := 60) (by decide +kernel)) rfl
theorem tg_97 : (Cond.fieldLink "ForestTablets$Tariff" (9 : Nat) "ForestTablets$Tariff" "factor" "[I") ∈ lw_g := lw_gi (List.mem_of_getElem? (i := 97) (by decide +kernel)) rfl
theorem tg_99 : (Cond.fieldLink "ForestTablets$Tariff" (15 : Nat) "ForestTablets$Tariff" "low" "[I") ∈ lw_g := lw_gi (List.mem_of_getElem? (i := 99) (by decide +kernel)) rfl
theorem tg_101 : (Cond.fieldLink "ForestTablets$Tariff" (18 : Nat) "ForestTablets$Tariff" "high" "[I") ∈ lw_g := lw_gi (List.mem_of_getElem? (i := 101) (by decide +kernel)) rfl
theorem tg_116 : (Cond.fieldLink "ForestTablets$PlotSums" (9 : Nat) "ForestTablets$PlotSums" "volume" "J") ∈ lw_g := lw_gi (List.mem_of_getElem? (i := 116) (by decide +kernel)) rfl
theorem tg_117 : (Cond.fieldLink "ForestTablets$StandSums" (23 : Nat) "ForestTablets$PlotSums" "volume" "J") ∈ lw_g := lw_gi (List.mem_of_getElem? (i := 117) (by decide +kernel)) rfl
theorem tg_119 : (Cond.fieldLink "ForestTablets$PlotSums" (15 : Nat) "ForestTablets$PlotSums" "squares" "J") ∈ lw_g := lw_gi (List.mem_of_getElem? (i := 119) (by decide +kernel)) rfl
theorem tg_121 : (Cond.fieldLink "ForestTablets$PlotSums" (18 : Nat) "ForestTablets$PlotSums" "missing" "I") ∈ lw_g := lw_gi (List.mem_of_getElem? (i := 121) (by decide +kernel)) rfl
theorem tg_122 : (Cond.fieldLink "ForestTablets$StandSums" (26 : Nat) "ForestTablets$PlotSums" "missing" "I") ∈ lw_g := lw_gi (List.mem_of_getElem? (i := 122) (by decide +kernel)) rfl
theorem tg_124 : (Cond.fieldLink "ForestTablets$PlotSums" (22 : Nat) "ForestTablets$PlotSums" "implausible" "I") ∈ lw_g := lw_gi (List.mem_of_getElem? (i := 124) (by decide +kernel)) rfl
theorem tg_141 : (Cond.fieldLink "ForestTablets$StandSums" (7 : Nat) "ForestTablets$StandSums" "volume" "J") ∈ lw_g := lw_gi (List.mem_of_getElem? (i := 141) (by decide +kernel)) rfl
theorem tg_143 : (Cond.fieldLink "ForestTablets$StandSums" (13 : Nat) "ForestTablets$StandSums" "volumeSquares" "J") ∈ lw_g := lw_gi (List.mem_of_getElem? (i := 143) (by decide +kernel)) rfl
theorem tg_144 : (Cond.fieldLink "ForestTablets$StandSums" (16 : Nat) "ForestTablets$StandSums" "missing" "I") ∈ lw_g := lw_gi (List.mem_of_getElem? (i := 144) (by decide +kernel)) rfl
theorem tg_146 : (Cond.fieldLink "ForestTablets$StandSums" (20 : Nat) "ForestTablets$StandSums" "plots" "I") ∈ lw_g := lw_gi (List.mem_of_getElem? (i := 146) (by decide +kernel)) rfl
theorem tg_190 : (Cond.methodLink "ForestTablets" (58 : Nat) ({ cls := "ForestTablets", name := "isBelow", desc := "(II)Z" } : Jvm.MethodName)) ∈ lw_g := lw_gi (List.mem_of_getElem? (i := 190) (by decide +kernel)) rfl
theorem tg_191 : (Cond.static ({ cls := "ForestTablets", name := "isBelow", desc := "(II)Z" } : Jvm.MethodName)) ∈ lw_g := lw_gi (List.mem_of_getElem? (i := 191) (by decide +kernel)) rfl
theorem tg_192 : (Cond.code ({ cls := "ForestTablets", name := "isBelow", desc := "(II)Z" } : Jvm.MethodName) prog_1_method_21_code (2 : Nat) (Option.some FieldType.boolean)) ∈ lw_g := lw_gi (List.mem_of_getElem? (i := 192) (by decide +kernel)) rfl
theorem tg_281 : (Cond.methodLink "ForestTablets$Lending" (31 : Nat) ({ cls := "ForestTablets$Lending", name := "lastKnown", desc := "(I[I)LForestTablets$Lend;" } : Jvm.MethodName)) ∈ lw_g := lw_gi (List.mem_of_getElem? (i := 281) (by decide +kernel)) rfl
theorem tg_282 : (Cond.instanceMethod ({ cls := "ForestTablets$Lending", name := "lastKnown", desc := "(I[I)LForestTablets$Lend;" } : Jvm.MethodName)) ∈ lw_g := lw_gi (List.mem_of_getElem? (i := 282) (by decide +kernel)) rfl
theorem tg_283 : (Cond.selects "ForestTablets$Lending" ({ cls := "ForestTablets$Lending", name := "lastKnown", desc := "(I[I)LForestTablets$Lend;" } : Jvm.MethodName) ({ cls := "ForestTablets$Lending", name := "lastKnown", desc := "(I[I)LForestTablets$Lend;" } : Jvm.MethodName)) ∈ lw_g := lw_gi (List.mem_of_getElem? (i := 283) (by decide +kernel)) rfl
theorem tg_284 : (Cond.code ({ cls := "ForestTablets$Lending", name := "lastKnown", desc := "(I[I)LForestTablets$Lend;" } : Jvm.MethodName) prog_4_method_3_code (4 : Nat) (Option.some (FieldType.object "ForestTablets$Lend"))) ∈ lw_g := lw_gi (List.mem_of_getElem? (i := 284) (by decide +kernel)) rfl
theorem tg_328 : (Cond.fieldLink "ForestTablets$Lending" (17 : Nat) "ForestTablets$Lend" "number" "I") ∈ lw_g := lw_gi (List.mem_of_getElem? (i := 328) (by decide +kernel)) rfl
theorem tg_330 : (Cond.fieldLink "ForestTablets$Lending" (24 : Nat) "ForestTablets$Lend" "entry" "I") ∈ lw_g := lw_gi (List.mem_of_getElem? (i := 330) (by decide +kernel)) rfl
theorem tg_332 : (Cond.fieldLink "ForestTablets$Lending" (38 : Nat) "ForestTablets$Lend" "tablet" "I") ∈ lw_g := lw_gi (List.mem_of_getElem? (i := 332) (by decide +kernel)) rfl
theorem tg_334 : (Cond.fieldLink "ForestTablets$Lending" (27 : Nat) "ForestTablets$Lend" "earlier" "LForestTablets$Lend;") ∈ lw_g := lw_gi (List.mem_of_getElem? (i := 334) (by decide +kernel)) rfl
theorem tg_335 : (Cond.fieldLink "ForestTablets$Lending" (35 : Nat) "ForestTablets$Lend" "back" "I") ∈ lw_g := lw_gi (List.mem_of_getElem? (i := 335) (by decide +kernel)) rfl
theorem tg_369 : (Cond.fieldLink "ForestTablets" (212 : Nat) "ForestTablets" "LEAST_VALUE" "[I") ∈ lw_g := lw_gi (List.mem_of_getElem? (i := 369) (by decide +kernel)) rfl
theorem tg_371 : (Cond.fieldLink "ForestTablets" (215 : Nat) "ForestTablets" "GREATEST_VALUE" "[I") ∈ lw_g := lw_gi (List.mem_of_getElem? (i := 371) (by decide +kernel)) rfl
theorem tg_597 : (Cond.methodLink "ForestTablets$PlotSums" (25 : Nat) ({ cls := "ForestTablets$Tariff", name := "volumeOf", desc := "(IJJ)J" } : Jvm.MethodName)) ∈ lw_g := lw_gi (List.mem_of_getElem? (i := 597) (by decide +kernel)) rfl
theorem tg_598 : (Cond.instanceMethod ({ cls := "ForestTablets$Tariff", name := "volumeOf", desc := "(IJJ)J" } : Jvm.MethodName)) ∈ lw_g := lw_gi (List.mem_of_getElem? (i := 598) (by decide +kernel)) rfl
theorem tg_599 : (Cond.selects "ForestTablets$Tariff" ({ cls := "ForestTablets$Tariff", name := "volumeOf", desc := "(IJJ)J" } : Jvm.MethodName) ({ cls := "ForestTablets$Tariff", name := "volumeOf", desc := "(IJJ)J" } : Jvm.MethodName)) ∈ lw_g := lw_gi (List.mem_of_getElem? (i := 599) (by decide +kernel)) rfl
theorem tg_600 : (Cond.code ({ cls := "ForestTablets$Tariff", name := "volumeOf", desc := "(IJJ)J" } : Jvm.MethodName) prog_9_method_2_code (6 : Nat) (Option.some FieldType.long)) ∈ lw_g := lw_gi (List.mem_of_getElem? (i := 600) (by decide +kernel)) rfl
theorem tg_601 : (Cond.constantLong "ForestTablets$Tariff" (21 : Nat) (100000 : Int64)) ∈ lw_g := lw_gi (List.mem_of_getElem? (i := 601) (by decide +kernel)) rfl
theorem tg_602 : (Cond.methodLink "ForestTablets$PlotSums" (31 : Nat) ({ cls := "ForestTablets$Tariff", name := "isImplausible", desc := "(III)Z" } : Jvm.MethodName)) ∈ lw_g := lw_gi (List.mem_of_getElem? (i := 602) (by decide +kernel)) rfl
theorem tg_603 : (Cond.instanceMethod ({ cls := "ForestTablets$Tariff", name := "isImplausible", desc := "(III)Z" } : Jvm.MethodName)) ∈ lw_g := lw_gi (List.mem_of_getElem? (i := 603) (by decide +kernel)) rfl
theorem tg_604 : (Cond.selects "ForestTablets$Tariff" ({ cls := "ForestTablets$Tariff", name := "isImplausible", desc := "(III)Z" } : Jvm.MethodName) ({ cls := "ForestTablets$Tariff", name := "isImplausible", desc := "(III)Z" } : Jvm.MethodName)) ∈ lw_g := lw_gi (List.mem_of_getElem? (i := 604) (by decide +kernel)) rfl
theorem tg_605 : (Cond.code ({ cls := "ForestTablets$Tariff", name := "isImplausible", desc := "(III)Z" } : Jvm.MethodName) prog_9_method_3_code (4 : Nat) (Option.some FieldType.boolean)) ∈ lw_g := lw_gi (List.mem_of_getElem? (i := 605) (by decide +kernel)) rfl
abbrev cX2_lastKnown : ByteArray := prog_4_method_3_code
def yX2_lastKnown : MethodName := ⟨RX2, "lastKnown", "(I[I)LForestTablets$Lend;"⟩
def wsX2_lastKnown : List Cond := .code yX2_lastKnown cX2_lastKnown 4 (some (FieldType.object "ForestTablets$Lend")) :: lw_g
abbrev cX2_numberOf : ByteArray := prog_4_method_4_code
def yX2_numberOf : MethodName := ⟨RX2, "numberOf", "(I[I)I"⟩
def wsX2_numberOf : List Cond := .code yX2_numberOf cX2_numberOf 4 (some FieldType.int) :: lw_g
abbrev cX2_holderOf : ByteArray := prog_4_method_5_code
def yX2_holderOf : MethodName := ⟨RX2, "holderOf", "(I[I)I"⟩
def wsX2_holderOf : List Cond := .code yX2_holderOf cX2_holderOf 5 (some FieldType.int) :: lw_g
abbrev cX8_isBelow : ByteArray := prog_1_method_21_code
def yX8_isBelow : MethodName := ⟨RX8, "isBelow", "(II)Z"⟩
def wsX8_isBelow : List Cond := .code yX8_isBelow cX8_isBelow 2 (some FieldType.boolean) :: lw_g
abbrev cX8_isTablet : ByteArray := prog_1_method_22_code
def yX8_isTablet : MethodName := ⟨RX8, "isTablet", "(I)Z"⟩
def wsX8_isTablet : List Cond := .code yX8_isTablet cX8_isTablet 1 (some FieldType.boolean) :: lw_g
abbrev cX8_isField : ByteArray := prog_1_method_23_code
def yX8_isField : MethodName := ⟨RX8, "isField", "(III)Z"⟩
def wsX8_isField : List Cond := .code yX8_isField cX8_isField 3 (some FieldType.boolean) :: lw_g
abbrev cX8_fieldAllows : ByteArray := prog_1_method_24_code
def yX8_fieldAllows : MethodName := ⟨RX8, "fieldAllows", "(II)Z"⟩
def wsX8_fieldAllows : List Cond := .code yX8_fieldAllows cX8_fieldAllows 2 (some FieldType.boolean) :: lw_g
abbrev cX8_spotOf : ByteArray := prog_1_method_25_code
def yX8_spotOf : MethodName := ⟨RX8, "spotOf", "(III)I"⟩
def wsX8_spotOf : List Cond := .code yX8_spotOf cX8_spotOf 3 (some FieldType.int) :: lw_g
abbrev cX7_volumeOf : ByteArray := prog_9_method_2_code
def yX7_volumeOf : MethodName := ⟨RX7, "volumeOf", "(IJJ)J"⟩
def wsX7_volumeOf : List Cond := .code yX7_volumeOf cX7_volumeOf 6 (some FieldType.long) :: lw_g
abbrev cX7_isImplausible : ByteArray := prog_9_method_3_code
def yX7_isImplausible : MethodName := ⟨RX7, "isImplausible", "(III)Z"⟩
def wsX7_isImplausible : List Cond := .code yX7_isImplausible cX7_isImplausible 4 (some FieldType.boolean) :: lw_g
abbrev cX5_clear : ByteArray := prog_7_method_2_code
def yX5_clear : MethodName := ⟨RX5, "clear", "()V"⟩
def wsX5_clear : List Cond := .code yX5_clear cX5_clear 1 none :: lw_g
abbrev cX5_addTree : ByteArray := prog_7_method_3_code
def yX5_addTree : MethodName := ⟨RX5, "addTree", "(I[ILForestTablets$Tariff;)V"⟩
def wsX5_addTree : List Cond := .code yX5_addTree cX5_addTree 7 none :: lw_g
abbrev cX6_clear : ByteArray := prog_8_method_2_code
def yX6_clear : MethodName := ⟨RX6, "clear", "()V"⟩
def wsX6_clear : List Cond := .code yX6_clear cX6_clear 1 none :: lw_g
abbrev cX6_add : ByteArray := prog_8_method_3_code
def yX6_add : MethodName := ⟨RX6, "add", "(LForestTablets$PlotSums;)V"⟩
def wsX6_add : List Cond := .code yX6_add cX6_add 2 none :: lw_g
abbrev cX6_rootOf : ByteArray := prog_8_method_5_code
def yX6_rootOf : MethodName := ⟨RX6, "rootOf", "(J)J"⟩
def wsX6_rootOf : List Cond := .code yX6_rootOf cX6_rootOf 7 (some FieldType.long) :: lw_g

theorem dX2_lastKnown_0 : decode cX2_lastKnown 0 = .ok (.aload_n 0, 1) := by decide +kernel
theorem dX2_lastKnown_1 : decode cX2_lastKnown 1 = .ok (.getfield 11, 3) := by decide +kernel
theorem dX2_lastKnown_4 : decode cX2_lastKnown 4 = .ok (.iload_n 1, 1) := by decide +kernel
theorem dX2_lastKnown_5 : decode cX2_lastKnown 5 = .ok (.aaload, 1) := by decide +kernel
theorem dX2_lastKnown_6 : decode cX2_lastKnown 6 = .ok (.astore_n 3, 1) := by decide +kernel
theorem dX2_lastKnown_7 : decode cX2_lastKnown 7 = .ok (.aload_n 3, 1) := by decide +kernel
theorem dX2_lastKnown_8 : decode cX2_lastKnown 8 = .ok (.ifnull 23, 3) := by decide +kernel
theorem dX2_lastKnown_11 : decode cX2_lastKnown 11 = .ok (.aload_n 3, 1) := by decide +kernel
theorem dX2_lastKnown_12 : decode cX2_lastKnown 12 = .ok (.getfield 24, 3) := by decide +kernel
theorem dX2_lastKnown_15 : decode cX2_lastKnown 15 = .ok (.aload_n 2, 1) := by decide +kernel
theorem dX2_lastKnown_16 : decode cX2_lastKnown 16 = .ok (.iconst 0, 1) := by decide +kernel
theorem dX2_lastKnown_17 : decode cX2_lastKnown 17 = .ok (.iaload, 1) := by decide +kernel
theorem dX2_lastKnown_18 : decode cX2_lastKnown 18 = .ok (.if_icmp .gt 5, 3) := by decide +kernel
theorem dX2_lastKnown_21 : decode cX2_lastKnown 21 = .ok (.aload_n 3, 1) := by decide +kernel
theorem dX2_lastKnown_22 : decode cX2_lastKnown 22 = .ok (.areturn, 1) := by decide +kernel
theorem dX2_lastKnown_23 : decode cX2_lastKnown 23 = .ok (.aload_n 3, 1) := by decide +kernel
theorem dX2_lastKnown_24 : decode cX2_lastKnown 24 = .ok (.getfield 27, 3) := by decide +kernel
theorem dX2_lastKnown_27 : decode cX2_lastKnown 27 = .ok (.astore_n 3, 1) := by decide +kernel
theorem dX2_lastKnown_28 : decode cX2_lastKnown 28 = .ok (.goto (-21), 3) := by decide +kernel
theorem dX2_lastKnown_31 : decode cX2_lastKnown 31 = .ok (.aconst_null, 1) := by decide +kernel
theorem dX2_lastKnown_32 : decode cX2_lastKnown 32 = .ok (.areturn, 1) := by decide +kernel
theorem dX2_numberOf_0 : decode cX2_numberOf 0 = .ok (.aload_n 0, 1) := by decide +kernel
theorem dX2_numberOf_1 : decode cX2_numberOf 1 = .ok (.iload_n 1, 1) := by decide +kernel
theorem dX2_numberOf_2 : decode cX2_numberOf 2 = .ok (.aload_n 2, 1) := by decide +kernel
theorem dX2_numberOf_3 : decode cX2_numberOf 3 = .ok (.invokevirtual 31, 3) := by decide +kernel
theorem dX2_numberOf_6 : decode cX2_numberOf 6 = .ok (.astore_n 3, 1) := by decide +kernel
theorem dX2_numberOf_7 : decode cX2_numberOf 7 = .ok (.aload_n 3, 1) := by decide +kernel
theorem dX2_numberOf_8 : decode cX2_numberOf 8 = .ok (.ifnonnull 7, 3) := by decide +kernel
theorem dX2_numberOf_11 : decode cX2_numberOf 11 = .ok (.iconst 0, 1) := by decide +kernel
theorem dX2_numberOf_12 : decode cX2_numberOf 12 = .ok (.goto 7, 3) := by decide +kernel
theorem dX2_numberOf_15 : decode cX2_numberOf 15 = .ok (.aload_n 3, 1) := by decide +kernel
theorem dX2_numberOf_16 : decode cX2_numberOf 16 = .ok (.getfield 17, 3) := by decide +kernel
theorem dX2_numberOf_19 : decode cX2_numberOf 19 = .ok (.ireturn, 1) := by decide +kernel
theorem dX2_holderOf_0 : decode cX2_holderOf 0 = .ok (.aload_n 0, 1) := by decide +kernel
theorem dX2_holderOf_1 : decode cX2_holderOf 1 = .ok (.iload_n 1, 1) := by decide +kernel
theorem dX2_holderOf_2 : decode cX2_holderOf 2 = .ok (.aload_n 2, 1) := by decide +kernel
theorem dX2_holderOf_3 : decode cX2_holderOf 3 = .ok (.invokevirtual 31, 3) := by decide +kernel
theorem dX2_holderOf_6 : decode cX2_holderOf 6 = .ok (.astore_n 3, 1) := by decide +kernel
theorem dX2_holderOf_7 : decode cX2_holderOf 7 = .ok (.aload_n 3, 1) := by decide +kernel
theorem dX2_holderOf_8 : decode cX2_holderOf 8 = .ok (.ifnonnull 5, 3) := by decide +kernel
theorem dX2_holderOf_11 : decode cX2_holderOf 11 = .ok (.iconst (-1), 1) := by decide +kernel
theorem dX2_holderOf_12 : decode cX2_holderOf 12 = .ok (.ireturn, 1) := by decide +kernel
theorem dX2_holderOf_13 : decode cX2_holderOf 13 = .ok (.aload_n 3, 1) := by decide +kernel
theorem dX2_holderOf_14 : decode cX2_holderOf 14 = .ok (.getfield 35, 3) := by decide +kernel
theorem dX2_holderOf_17 : decode cX2_holderOf 17 = .ok (.ifCond .eq 20, 3) := by decide +kernel
theorem dX2_holderOf_20 : decode cX2_holderOf 20 = .ok (.aload_n 3, 1) := by decide +kernel
theorem dX2_holderOf_21 : decode cX2_holderOf 21 = .ok (.getfield 35, 3) := by decide +kernel
theorem dX2_holderOf_24 : decode cX2_holderOf 24 = .ok (.aload_n 2, 1) := by decide +kernel
theorem dX2_holderOf_25 : decode cX2_holderOf 25 = .ok (.aload_n 3, 1) := by decide +kernel
theorem dX2_holderOf_26 : decode cX2_holderOf 26 = .ok (.getfield 38, 3) := by decide +kernel
theorem dX2_holderOf_29 : decode cX2_holderOf 29 = .ok (.iaload, 1) := by decide +kernel
theorem dX2_holderOf_30 : decode cX2_holderOf 30 = .ok (.if_icmp .gt 7, 3) := by decide +kernel
theorem dX2_holderOf_33 : decode cX2_holderOf 33 = .ok (.iconst 1, 1) := by decide +kernel
theorem dX2_holderOf_34 : decode cX2_holderOf 34 = .ok (.goto 4, 3) := by decide +kernel
theorem dX2_holderOf_37 : decode cX2_holderOf 37 = .ok (.iconst 0, 1) := by decide +kernel
theorem dX2_holderOf_38 : decode cX2_holderOf 38 = .ok (.istore 4, 2) := by decide +kernel
theorem dX2_holderOf_40 : decode cX2_holderOf 40 = .ok (.iload 4, 2) := by decide +kernel
theorem dX2_holderOf_42 : decode cX2_holderOf 42 = .ok (.ifCond .eq 7, 3) := by decide +kernel
theorem dX2_holderOf_45 : decode cX2_holderOf 45 = .ok (.iconst (-1), 1) := by decide +kernel
theorem dX2_holderOf_46 : decode cX2_holderOf 46 = .ok (.goto 7, 3) := by decide +kernel
theorem dX2_holderOf_49 : decode cX2_holderOf 49 = .ok (.aload_n 3, 1) := by decide +kernel
theorem dX2_holderOf_50 : decode cX2_holderOf 50 = .ok (.getfield 38, 3) := by decide +kernel
theorem dX2_holderOf_53 : decode cX2_holderOf 53 = .ok (.ireturn, 1) := by decide +kernel
theorem dX8_isBelow_0 : decode cX8_isBelow 0 = .ok (.iload_n 0, 1) := by decide +kernel
theorem dX8_isBelow_1 : decode cX8_isBelow 1 = .ok (.ifCond .lt 12, 3) := by decide +kernel
theorem dX8_isBelow_4 : decode cX8_isBelow 4 = .ok (.iload_n 0, 1) := by decide +kernel
theorem dX8_isBelow_5 : decode cX8_isBelow 5 = .ok (.iload_n 1, 1) := by decide +kernel
theorem dX8_isBelow_6 : decode cX8_isBelow 6 = .ok (.if_icmp .ge 7, 3) := by decide +kernel
theorem dX8_isBelow_9 : decode cX8_isBelow 9 = .ok (.iconst 1, 1) := by decide +kernel
theorem dX8_isBelow_10 : decode cX8_isBelow 10 = .ok (.goto 4, 3) := by decide +kernel
theorem dX8_isBelow_13 : decode cX8_isBelow 13 = .ok (.iconst 0, 1) := by decide +kernel
theorem dX8_isBelow_14 : decode cX8_isBelow 14 = .ok (.ireturn, 1) := by decide +kernel
theorem dX8_isTablet_0 : decode cX8_isTablet 0 = .ok (.iload_n 0, 1) := by decide +kernel
theorem dX8_isTablet_1 : decode cX8_isTablet 1 = .ok (.ifCond .eq 15, 3) := by decide +kernel
theorem dX8_isTablet_4 : decode cX8_isTablet 4 = .ok (.iload_n 0, 1) := by decide +kernel
theorem dX8_isTablet_5 : decode cX8_isTablet 5 = .ok (.iconst 5, 1) := by decide +kernel
theorem dX8_isTablet_6 : decode cX8_isTablet 6 = .ok (.invokestatic 58, 3) := by decide +kernel
theorem dX8_isTablet_9 : decode cX8_isTablet 9 = .ok (.ifCond .eq 7, 3) := by decide +kernel
theorem dX8_isTablet_12 : decode cX8_isTablet 12 = .ok (.iconst 1, 1) := by decide +kernel
theorem dX8_isTablet_13 : decode cX8_isTablet 13 = .ok (.goto 4, 3) := by decide +kernel
theorem dX8_isTablet_16 : decode cX8_isTablet 16 = .ok (.iconst 0, 1) := by decide +kernel
theorem dX8_isTablet_17 : decode cX8_isTablet 17 = .ok (.ireturn, 1) := by decide +kernel
theorem dX8_isField_0 : decode cX8_isField 0 = .ok (.iload_n 0, 1) := by decide +kernel
theorem dX8_isField_1 : decode cX8_isField 1 = .ok (.bipush 6, 2) := by decide +kernel
theorem dX8_isField_3 : decode cX8_isField 3 = .ok (.invokestatic 58, 3) := by decide +kernel
theorem dX8_isField_6 : decode cX8_isField 6 = .ok (.ifCond .eq 23, 3) := by decide +kernel
theorem dX8_isField_9 : decode cX8_isField 9 = .ok (.iload_n 1, 1) := by decide +kernel
theorem dX8_isField_10 : decode cX8_isField 10 = .ok (.iconst 4, 1) := by decide +kernel
theorem dX8_isField_11 : decode cX8_isField 11 = .ok (.invokestatic 58, 3) := by decide +kernel
theorem dX8_isField_14 : decode cX8_isField 14 = .ok (.ifCond .eq 15, 3) := by decide +kernel
theorem dX8_isField_17 : decode cX8_isField 17 = .ok (.iload_n 2, 1) := by decide +kernel
theorem dX8_isField_18 : decode cX8_isField 18 = .ok (.iconst 3, 1) := by decide +kernel
theorem dX8_isField_19 : decode cX8_isField 19 = .ok (.invokestatic 58, 3) := by decide +kernel
theorem dX8_isField_22 : decode cX8_isField 22 = .ok (.ifCond .eq 7, 3) := by decide +kernel
theorem dX8_isField_25 : decode cX8_isField 25 = .ok (.iconst 1, 1) := by decide +kernel
theorem dX8_isField_26 : decode cX8_isField 26 = .ok (.goto 4, 3) := by decide +kernel
theorem dX8_isField_29 : decode cX8_isField 29 = .ok (.iconst 0, 1) := by decide +kernel
theorem dX8_isField_30 : decode cX8_isField 30 = .ok (.ireturn, 1) := by decide +kernel
theorem dX8_fieldAllows_0 : decode cX8_fieldAllows 0 = .ok (.iload_n 1, 1) := by decide +kernel
theorem dX8_fieldAllows_1 : decode cX8_fieldAllows 1 = .ok (.getstatic 212, 3) := by decide +kernel
theorem dX8_fieldAllows_4 : decode cX8_fieldAllows 4 = .ok (.iload_n 0, 1) := by decide +kernel
theorem dX8_fieldAllows_5 : decode cX8_fieldAllows 5 = .ok (.iaload, 1) := by decide +kernel
theorem dX8_fieldAllows_6 : decode cX8_fieldAllows 6 = .ok (.if_icmp .lt 16, 3) := by decide +kernel
theorem dX8_fieldAllows_9 : decode cX8_fieldAllows 9 = .ok (.iload_n 1, 1) := by decide +kernel
theorem dX8_fieldAllows_10 : decode cX8_fieldAllows 10 = .ok (.getstatic 215, 3) := by decide +kernel
theorem dX8_fieldAllows_13 : decode cX8_fieldAllows 13 = .ok (.iload_n 0, 1) := by decide +kernel
theorem dX8_fieldAllows_14 : decode cX8_fieldAllows 14 = .ok (.iaload, 1) := by decide +kernel
theorem dX8_fieldAllows_15 : decode cX8_fieldAllows 15 = .ok (.if_icmp .gt 7, 3) := by decide +kernel
theorem dX8_fieldAllows_18 : decode cX8_fieldAllows 18 = .ok (.iconst 1, 1) := by decide +kernel
theorem dX8_fieldAllows_19 : decode cX8_fieldAllows 19 = .ok (.goto 4, 3) := by decide +kernel
theorem dX8_fieldAllows_22 : decode cX8_fieldAllows 22 = .ok (.iconst 0, 1) := by decide +kernel
theorem dX8_fieldAllows_23 : decode cX8_fieldAllows 23 = .ok (.ireturn, 1) := by decide +kernel
theorem dX8_spotOf_0 : decode cX8_spotOf 0 = .ok (.iload_n 0, 1) := by decide +kernel
theorem dX8_spotOf_1 : decode cX8_spotOf 1 = .ok (.iconst 4, 1) := by decide +kernel
theorem dX8_spotOf_2 : decode cX8_spotOf 2 = .ok (.imul, 1) := by decide +kernel
theorem dX8_spotOf_3 : decode cX8_spotOf 3 = .ok (.iload_n 1, 1) := by decide +kernel
theorem dX8_spotOf_4 : decode cX8_spotOf 4 = .ok (.iadd, 1) := by decide +kernel
theorem dX8_spotOf_5 : decode cX8_spotOf 5 = .ok (.iconst 3, 1) := by decide +kernel
theorem dX8_spotOf_6 : decode cX8_spotOf 6 = .ok (.imul, 1) := by decide +kernel
theorem dX8_spotOf_7 : decode cX8_spotOf 7 = .ok (.iload_n 2, 1) := by decide +kernel
theorem dX8_spotOf_8 : decode cX8_spotOf 8 = .ok (.iadd, 1) := by decide +kernel
theorem dX8_spotOf_9 : decode cX8_spotOf 9 = .ok (.ireturn, 1) := by decide +kernel
theorem dX7_volumeOf_0 : decode cX7_volumeOf 0 = .ok (.lload_n 2, 1) := by decide +kernel
theorem dX7_volumeOf_1 : decode cX7_volumeOf 1 = .ok (.lload_n 2, 1) := by decide +kernel
theorem dX7_volumeOf_2 : decode cX7_volumeOf 2 = .ok (.lmul, 1) := by decide +kernel
theorem dX7_volumeOf_3 : decode cX7_volumeOf 3 = .ok (.lload 4, 2) := by decide +kernel
theorem dX7_volumeOf_5 : decode cX7_volumeOf 5 = .ok (.lmul, 1) := by decide +kernel
theorem dX7_volumeOf_6 : decode cX7_volumeOf 6 = .ok (.aload_n 0, 1) := by decide +kernel
theorem dX7_volumeOf_7 : decode cX7_volumeOf 7 = .ok (.getfield 9, 3) := by decide +kernel
theorem dX7_volumeOf_10 : decode cX7_volumeOf 10 = .ok (.iload_n 1, 1) := by decide +kernel
theorem dX7_volumeOf_11 : decode cX7_volumeOf 11 = .ok (.iaload, 1) := by decide +kernel
theorem dX7_volumeOf_12 : decode cX7_volumeOf 12 = .ok (.i2l, 1) := by decide +kernel
theorem dX7_volumeOf_13 : decode cX7_volumeOf 13 = .ok (.lmul, 1) := by decide +kernel
theorem dX7_volumeOf_14 : decode cX7_volumeOf 14 = .ok (.ldc2_w 21, 3) := by decide +kernel
theorem dX7_volumeOf_17 : decode cX7_volumeOf 17 = .ok (.ldiv, 1) := by decide +kernel
theorem dX7_volumeOf_18 : decode cX7_volumeOf 18 = .ok (.lreturn, 1) := by decide +kernel
theorem dX7_isImplausible_0 : decode cX7_isImplausible 0 = .ok (.bipush 100, 2) := by decide +kernel
theorem dX7_isImplausible_2 : decode cX7_isImplausible 2 = .ok (.iload_n 3, 1) := by decide +kernel
theorem dX7_isImplausible_3 : decode cX7_isImplausible 3 = .ok (.imul, 1) := by decide +kernel
theorem dX7_isImplausible_4 : decode cX7_isImplausible 4 = .ok (.aload_n 0, 1) := by decide +kernel
theorem dX7_isImplausible_5 : decode cX7_isImplausible 5 = .ok (.getfield 15, 3) := by decide +kernel
theorem dX7_isImplausible_8 : decode cX7_isImplausible 8 = .ok (.iload_n 1, 1) := by decide +kernel
theorem dX7_isImplausible_9 : decode cX7_isImplausible 9 = .ok (.iaload, 1) := by decide +kernel
theorem dX7_isImplausible_10 : decode cX7_isImplausible 10 = .ok (.iload_n 2, 1) := by decide +kernel
theorem dX7_isImplausible_11 : decode cX7_isImplausible 11 = .ok (.imul, 1) := by decide +kernel
theorem dX7_isImplausible_12 : decode cX7_isImplausible 12 = .ok (.if_icmp .lt 18, 3) := by decide +kernel
theorem dX7_isImplausible_15 : decode cX7_isImplausible 15 = .ok (.bipush 100, 2) := by decide +kernel
theorem dX7_isImplausible_17 : decode cX7_isImplausible 17 = .ok (.iload_n 3, 1) := by decide +kernel
theorem dX7_isImplausible_18 : decode cX7_isImplausible 18 = .ok (.imul, 1) := by decide +kernel
theorem dX7_isImplausible_19 : decode cX7_isImplausible 19 = .ok (.aload_n 0, 1) := by decide +kernel
theorem dX7_isImplausible_20 : decode cX7_isImplausible 20 = .ok (.getfield 18, 3) := by decide +kernel
theorem dX7_isImplausible_23 : decode cX7_isImplausible 23 = .ok (.iload_n 1, 1) := by decide +kernel
theorem dX7_isImplausible_24 : decode cX7_isImplausible 24 = .ok (.iaload, 1) := by decide +kernel
theorem dX7_isImplausible_25 : decode cX7_isImplausible 25 = .ok (.iload_n 2, 1) := by decide +kernel
theorem dX7_isImplausible_26 : decode cX7_isImplausible 26 = .ok (.imul, 1) := by decide +kernel
theorem dX7_isImplausible_27 : decode cX7_isImplausible 27 = .ok (.if_icmp .le 7, 3) := by decide +kernel
theorem dX7_isImplausible_30 : decode cX7_isImplausible 30 = .ok (.iconst 1, 1) := by decide +kernel
theorem dX7_isImplausible_31 : decode cX7_isImplausible 31 = .ok (.goto 4, 3) := by decide +kernel
theorem dX7_isImplausible_34 : decode cX7_isImplausible 34 = .ok (.iconst 0, 1) := by decide +kernel
theorem dX7_isImplausible_35 : decode cX7_isImplausible 35 = .ok (.ireturn, 1) := by decide +kernel
theorem dX5_clear_0 : decode cX5_clear 0 = .ok (.aload_n 0, 1) := by decide +kernel
theorem dX5_clear_1 : decode cX5_clear 1 = .ok (.lconst 0, 1) := by decide +kernel
theorem dX5_clear_2 : decode cX5_clear 2 = .ok (.putfield 9, 3) := by decide +kernel
theorem dX5_clear_5 : decode cX5_clear 5 = .ok (.aload_n 0, 1) := by decide +kernel
theorem dX5_clear_6 : decode cX5_clear 6 = .ok (.lconst 0, 1) := by decide +kernel
theorem dX5_clear_7 : decode cX5_clear 7 = .ok (.putfield 15, 3) := by decide +kernel
theorem dX5_clear_10 : decode cX5_clear 10 = .ok (.aload_n 0, 1) := by decide +kernel
theorem dX5_clear_11 : decode cX5_clear 11 = .ok (.iconst 0, 1) := by decide +kernel
theorem dX5_clear_12 : decode cX5_clear 12 = .ok (.putfield 18, 3) := by decide +kernel
theorem dX5_clear_15 : decode cX5_clear 15 = .ok (.aload_n 0, 1) := by decide +kernel
theorem dX5_clear_16 : decode cX5_clear 16 = .ok (.iconst 0, 1) := by decide +kernel
theorem dX5_clear_17 : decode cX5_clear 17 = .ok (.putfield 22, 3) := by decide +kernel
theorem dX5_clear_20 : decode cX5_clear 20 = .ok (.return_, 1) := by decide +kernel
theorem dX5_addTree_0 : decode cX5_addTree 0 = .ok (.aload_n 2, 1) := by decide +kernel
theorem dX5_addTree_1 : decode cX5_addTree 1 = .ok (.iconst 0, 1) := by decide +kernel
theorem dX5_addTree_2 : decode cX5_addTree 2 = .ok (.iaload, 1) := by decide +kernel
theorem dX5_addTree_3 : decode cX5_addTree 3 = .ok (.istore 4, 2) := by decide +kernel
theorem dX5_addTree_5 : decode cX5_addTree 5 = .ok (.aload_n 2, 1) := by decide +kernel
theorem dX5_addTree_6 : decode cX5_addTree 6 = .ok (.iconst 1, 1) := by decide +kernel
theorem dX5_addTree_7 : decode cX5_addTree 7 = .ok (.iaload, 1) := by decide +kernel
theorem dX5_addTree_8 : decode cX5_addTree 8 = .ok (.istore 5, 2) := by decide +kernel
theorem dX5_addTree_10 : decode cX5_addTree 10 = .ok (.aload_n 2, 1) := by decide +kernel
theorem dX5_addTree_11 : decode cX5_addTree 11 = .ok (.iconst 2, 1) := by decide +kernel
theorem dX5_addTree_12 : decode cX5_addTree 12 = .ok (.iaload, 1) := by decide +kernel
theorem dX5_addTree_13 : decode cX5_addTree 13 = .ok (.istore 6, 2) := by decide +kernel
theorem dX5_addTree_15 : decode cX5_addTree 15 = .ok (.aload_n 0, 1) := by decide +kernel
theorem dX5_addTree_16 : decode cX5_addTree 16 = .ok (.dup, 1) := by decide +kernel
theorem dX5_addTree_17 : decode cX5_addTree 17 = .ok (.getfield 9, 3) := by decide +kernel
theorem dX5_addTree_20 : decode cX5_addTree 20 = .ok (.aload_n 3, 1) := by decide +kernel
theorem dX5_addTree_21 : decode cX5_addTree 21 = .ok (.iload 4, 2) := by decide +kernel
theorem dX5_addTree_23 : decode cX5_addTree 23 = .ok (.iload 5, 2) := by decide +kernel
theorem dX5_addTree_25 : decode cX5_addTree 25 = .ok (.i2l, 1) := by decide +kernel
theorem dX5_addTree_26 : decode cX5_addTree 26 = .ok (.iload 6, 2) := by decide +kernel
theorem dX5_addTree_28 : decode cX5_addTree 28 = .ok (.i2l, 1) := by decide +kernel
theorem dX5_addTree_29 : decode cX5_addTree 29 = .ok (.invokevirtual 25, 3) := by decide +kernel
theorem dX5_addTree_32 : decode cX5_addTree 32 = .ok (.ladd, 1) := by decide +kernel
theorem dX5_addTree_33 : decode cX5_addTree 33 = .ok (.putfield 9, 3) := by decide +kernel
theorem dX5_addTree_36 : decode cX5_addTree 36 = .ok (.aload_n 0, 1) := by decide +kernel
theorem dX5_addTree_37 : decode cX5_addTree 37 = .ok (.dup, 1) := by decide +kernel
theorem dX5_addTree_38 : decode cX5_addTree 38 = .ok (.getfield 15, 3) := by decide +kernel
theorem dX5_addTree_41 : decode cX5_addTree 41 = .ok (.iload 5, 2) := by decide +kernel
theorem dX5_addTree_43 : decode cX5_addTree 43 = .ok (.i2l, 1) := by decide +kernel
theorem dX5_addTree_44 : decode cX5_addTree 44 = .ok (.iload 5, 2) := by decide +kernel
theorem dX5_addTree_46 : decode cX5_addTree 46 = .ok (.i2l, 1) := by decide +kernel
theorem dX5_addTree_47 : decode cX5_addTree 47 = .ok (.lmul, 1) := by decide +kernel
theorem dX5_addTree_48 : decode cX5_addTree 48 = .ok (.ladd, 1) := by decide +kernel
theorem dX5_addTree_49 : decode cX5_addTree 49 = .ok (.putfield 15, 3) := by decide +kernel
theorem dX5_addTree_52 : decode cX5_addTree 52 = .ok (.aload_n 3, 1) := by decide +kernel
theorem dX5_addTree_53 : decode cX5_addTree 53 = .ok (.iload 4, 2) := by decide +kernel
theorem dX5_addTree_55 : decode cX5_addTree 55 = .ok (.iload 5, 2) := by decide +kernel
theorem dX5_addTree_57 : decode cX5_addTree 57 = .ok (.iload 6, 2) := by decide +kernel
theorem dX5_addTree_59 : decode cX5_addTree 59 = .ok (.invokevirtual 31, 3) := by decide +kernel
theorem dX5_addTree_62 : decode cX5_addTree 62 = .ok (.ifCond .eq 15, 3) := by decide +kernel
theorem dX5_addTree_65 : decode cX5_addTree 65 = .ok (.aload_n 0, 1) := by decide +kernel
theorem dX5_addTree_66 : decode cX5_addTree 66 = .ok (.dup, 1) := by decide +kernel
theorem dX5_addTree_67 : decode cX5_addTree 67 = .ok (.getfield 22, 3) := by decide +kernel
theorem dX5_addTree_70 : decode cX5_addTree 70 = .ok (.iconst 1, 1) := by decide +kernel
theorem dX5_addTree_71 : decode cX5_addTree 71 = .ok (.iload_n 1, 1) := by decide +kernel
theorem dX5_addTree_72 : decode cX5_addTree 72 = .ok (.ishl, 1) := by decide +kernel
theorem dX5_addTree_73 : decode cX5_addTree 73 = .ok (.ior, 1) := by decide +kernel
theorem dX5_addTree_74 : decode cX5_addTree 74 = .ok (.putfield 22, 3) := by decide +kernel
theorem dX5_addTree_77 : decode cX5_addTree 77 = .ok (.return_, 1) := by decide +kernel
theorem dX6_clear_0 : decode cX6_clear 0 = .ok (.aload_n 0, 1) := by decide +kernel
theorem dX6_clear_1 : decode cX6_clear 1 = .ok (.lconst 0, 1) := by decide +kernel
theorem dX6_clear_2 : decode cX6_clear 2 = .ok (.putfield 7, 3) := by decide +kernel
theorem dX6_clear_5 : decode cX6_clear 5 = .ok (.aload_n 0, 1) := by decide +kernel
theorem dX6_clear_6 : decode cX6_clear 6 = .ok (.lconst 0, 1) := by decide +kernel
theorem dX6_clear_7 : decode cX6_clear 7 = .ok (.putfield 13, 3) := by decide +kernel
theorem dX6_clear_10 : decode cX6_clear 10 = .ok (.aload_n 0, 1) := by decide +kernel
theorem dX6_clear_11 : decode cX6_clear 11 = .ok (.iconst 0, 1) := by decide +kernel
theorem dX6_clear_12 : decode cX6_clear 12 = .ok (.putfield 16, 3) := by decide +kernel
theorem dX6_clear_15 : decode cX6_clear 15 = .ok (.aload_n 0, 1) := by decide +kernel
theorem dX6_clear_16 : decode cX6_clear 16 = .ok (.iconst 0, 1) := by decide +kernel
theorem dX6_clear_17 : decode cX6_clear 17 = .ok (.putfield 20, 3) := by decide +kernel
theorem dX6_clear_20 : decode cX6_clear 20 = .ok (.return_, 1) := by decide +kernel
theorem dX6_add_0 : decode cX6_add 0 = .ok (.aload_n 0, 1) := by decide +kernel
theorem dX6_add_1 : decode cX6_add 1 = .ok (.dup, 1) := by decide +kernel
theorem dX6_add_2 : decode cX6_add 2 = .ok (.getfield 7, 3) := by decide +kernel
theorem dX6_add_5 : decode cX6_add 5 = .ok (.aload_n 1, 1) := by decide +kernel
theorem dX6_add_6 : decode cX6_add 6 = .ok (.getfield 23, 3) := by decide +kernel
theorem dX6_add_9 : decode cX6_add 9 = .ok (.ladd, 1) := by decide +kernel
theorem dX6_add_10 : decode cX6_add 10 = .ok (.putfield 7, 3) := by decide +kernel
theorem dX6_add_13 : decode cX6_add 13 = .ok (.aload_n 0, 1) := by decide +kernel
theorem dX6_add_14 : decode cX6_add 14 = .ok (.dup, 1) := by decide +kernel
theorem dX6_add_15 : decode cX6_add 15 = .ok (.getfield 13, 3) := by decide +kernel
theorem dX6_add_18 : decode cX6_add 18 = .ok (.aload_n 1, 1) := by decide +kernel
theorem dX6_add_19 : decode cX6_add 19 = .ok (.getfield 23, 3) := by decide +kernel
theorem dX6_add_22 : decode cX6_add 22 = .ok (.aload_n 1, 1) := by decide +kernel
theorem dX6_add_23 : decode cX6_add 23 = .ok (.getfield 23, 3) := by decide +kernel
theorem dX6_add_26 : decode cX6_add 26 = .ok (.lmul, 1) := by decide +kernel
theorem dX6_add_27 : decode cX6_add 27 = .ok (.ladd, 1) := by decide +kernel
theorem dX6_add_28 : decode cX6_add 28 = .ok (.putfield 13, 3) := by decide +kernel
theorem dX6_add_31 : decode cX6_add 31 = .ok (.aload_n 0, 1) := by decide +kernel
theorem dX6_add_32 : decode cX6_add 32 = .ok (.dup, 1) := by decide +kernel
theorem dX6_add_33 : decode cX6_add 33 = .ok (.getfield 16, 3) := by decide +kernel
theorem dX6_add_36 : decode cX6_add 36 = .ok (.aload_n 1, 1) := by decide +kernel
theorem dX6_add_37 : decode cX6_add 37 = .ok (.getfield 26, 3) := by decide +kernel
theorem dX6_add_40 : decode cX6_add 40 = .ok (.iadd, 1) := by decide +kernel
theorem dX6_add_41 : decode cX6_add 41 = .ok (.putfield 16, 3) := by decide +kernel
theorem dX6_add_44 : decode cX6_add 44 = .ok (.aload_n 0, 1) := by decide +kernel
theorem dX6_add_45 : decode cX6_add 45 = .ok (.dup, 1) := by decide +kernel
theorem dX6_add_46 : decode cX6_add 46 = .ok (.getfield 20, 3) := by decide +kernel
theorem dX6_add_49 : decode cX6_add 49 = .ok (.iconst 1, 1) := by decide +kernel
theorem dX6_add_50 : decode cX6_add 50 = .ok (.iadd, 1) := by decide +kernel
theorem dX6_add_51 : decode cX6_add 51 = .ok (.putfield 20, 3) := by decide +kernel
theorem dX6_add_54 : decode cX6_add 54 = .ok (.return_, 1) := by decide +kernel
theorem dX6_rootOf_0 : decode cX6_rootOf 0 = .ok (.lconst 0, 1) := by decide +kernel
theorem dX6_rootOf_1 : decode cX6_rootOf 1 = .ok (.lstore_n 2, 1) := by decide +kernel
theorem dX6_rootOf_2 : decode cX6_rootOf 2 = .ok (.bipush 30, 2) := by decide +kernel
theorem dX6_rootOf_4 : decode cX6_rootOf 4 = .ok (.istore 4, 2) := by decide +kernel
theorem dX6_rootOf_6 : decode cX6_rootOf 6 = .ok (.iload 4, 2) := by decide +kernel
theorem dX6_rootOf_8 : decode cX6_rootOf 8 = .ok (.ifCond .lt 30, 3) := by decide +kernel
theorem dX6_rootOf_11 : decode cX6_rootOf 11 = .ok (.lload_n 2, 1) := by decide +kernel
theorem dX6_rootOf_12 : decode cX6_rootOf 12 = .ok (.lconst 1, 1) := by decide +kernel
theorem dX6_rootOf_13 : decode cX6_rootOf 13 = .ok (.iload 4, 2) := by decide +kernel
theorem dX6_rootOf_15 : decode cX6_rootOf 15 = .ok (.lshl, 1) := by decide +kernel
theorem dX6_rootOf_16 : decode cX6_rootOf 16 = .ok (.ladd, 1) := by decide +kernel
theorem dX6_rootOf_17 : decode cX6_rootOf 17 = .ok (.lstore 5, 2) := by decide +kernel
theorem dX6_rootOf_19 : decode cX6_rootOf 19 = .ok (.lload 5, 2) := by decide +kernel
theorem dX6_rootOf_21 : decode cX6_rootOf 21 = .ok (.lload 5, 2) := by decide +kernel
theorem dX6_rootOf_23 : decode cX6_rootOf 23 = .ok (.lmul, 1) := by decide +kernel
theorem dX6_rootOf_24 : decode cX6_rootOf 24 = .ok (.lload_n 0, 1) := by decide +kernel
theorem dX6_rootOf_25 : decode cX6_rootOf 25 = .ok (.lcmp, 1) := by decide +kernel
theorem dX6_rootOf_26 : decode cX6_rootOf 26 = .ok (.ifCond .gt 6, 3) := by decide +kernel
theorem dX6_rootOf_29 : decode cX6_rootOf 29 = .ok (.lload 5, 2) := by decide +kernel
theorem dX6_rootOf_31 : decode cX6_rootOf 31 = .ok (.lstore_n 2, 1) := by decide +kernel
theorem dX6_rootOf_32 : decode cX6_rootOf 32 = .ok (.iinc 4 (-1), 3) := by decide +kernel
theorem dX6_rootOf_35 : decode cX6_rootOf 35 = .ok (.goto (-29), 3) := by decide +kernel
theorem dX6_rootOf_38 : decode cX6_rootOf 38 = .ok (.lload_n 2, 1) := by decide +kernel
theorem dX6_rootOf_39 : decode cX6_rootOf 39 = .ok (.lreturn, 1) := by decide +kernel
