/-! Trees, plots, stands, candidates: rows of the picture for the walks behind. -/
theorem tb_sh_last {q : tb_Q} {d p f r : Nat} : ∀ n, ¬ tb_fo (tb_shF q d p f r) 0 n = 0 → tb_last q d p f (tb_fo (tb_shF q d p f r) 0 n - 1) = true
  | 0 => fun h => absurd rfl h
  | n + 1 => by
    intro h
    rw [tb_fo_s] at h ⊢
    unfold tb_shF at h ⊢
    split
    · rename_i hc
      rw [Bool.and_eq_true] at hc
      exact hc.1
    · rename_i hc
      rw [if_neg hc] at h
      exact tb_sh_last n h
theorem tb_ls_of {q : tb_Q} {d p f e : Nat} {z : Bool} : ∀ n, tb_fo (tb_lsF q d p f e) z n = true → z = true
  | 0 => fun h => h
  | n + 1 => by
    intro h
    rw [tb_fo_s] at h
    unfold tb_lsF at h
    rw [Bool.and_eq_true] at h
    exact tb_ls_of n h.1
theorem tb_shown_of {q : tb_Q} {d p f : Nat} (h : ¬ tb_shown q d p f = 0) : tb_of q d p f (tb_shown q d p f - 1) = true := tb_ls_of 200 (tb_sh_last 200 h)
/-- a species is one of four -/
def tb_sp (q : tb_Q) : Prop := ∀ e, q 1 e = 2 → q 3 e % 3 = 0 → q 4 e < 4
theorem tb_spv {q : tb_Q} {d p t : Nat} (hs : tb_sp q) (h : ¬ tb_shown q d p (3 * t) = 0) : q 4 (tb_shown q d p (3 * t) - 1) < 4 := by
  have h1 := tb_shown_of h
  simp only [tb_of, Bool.and_eq_true, decide_eq_true_eq] at h1
  exact hs _ h1.1.1.2 (by rw [h1.2]; omega)
theorem tb_th3 {q : tb_Q} {d p t : Nat} (h : 3 ≤ tb_th q d p t) : ¬ tb_shown q d p (3 * t) = 0 ∧ ¬ tb_shown q d p (3 * t + 1) = 0 ∧ ¬ tb_shown q d p (3 * t + 2) = 0 := by
  unfold tb_th at h
  refine ⟨fun z => ?_, fun z => ?_, fun z => ?_⟩ <;> rw [if_pos z] at h <;> split at h <;> split at h <;> omega
theorem tb_th_lt (q : tb_Q) (d p t : Nat) : tb_th q d p t < 2147483648 := by
  unfold tb_th
  split <;> split <;> split <;> decide
theorem tb_prod {q : tb_Q} (hq : tb_sm q) (a b c d : Nat) : q a b * q c d < 2147483648 := Nat.lt_of_le_of_lt (Nat.mul_le_mul (hq a b) (hq c d)) (by decide)
def tb_plB (x0 x1 x2 : Int32) : Bool := !(tb_in x0 (nI 0) (nI 4) && tb_in x1 (nI 0) (nI 5) && tb_in x2 (nI 0) (nI 3))
def tbT_plot (x0 x1 x2 : Int32) : Nat := if tb_plB x0 x1 x2 = true then 1 else 0
def tbA_plot (q : tb_Q) (x0 x1 x2 : Int32) : Int64 := if tb_plB x0 x1 x2 = true then 0 else tb_sum q x0.toNatClampNeg x1.toNatClampNeg x2.toNatClampNeg
def tb_toNF (q : tb_Q) (st p : Nat) (v : Int64) : Int64 := if q 12 p = st then v + 1 else v
def tb_toVF (q : tb_Q) (d st p : Nat) (v : Int64) : Int64 := if q 12 p = st then v + tb_sum q d p 0 else v
def tb_toSF (q : tb_Q) (d st p : Nat) (v : Int64) : Int64 := if q 12 p = st then v + tb_sum q d p 0 * tb_sum q d p 0 else v
def tb_toMF (q : tb_Q) (d st p : Nat) (v : Int64) : Int64 := if q 12 p = st then v + tb_sum q d p 2 else v
def tb_tot (q : tb_Q) (d st w : Nat) : Int64 :=
  if w = 1 then (if 2 ≤ tb_fo (tb_toNF q st) 0 6 then tb_root ((tb_fo (tb_toNF q st) 0 6 * tb_fo (tb_toSF q d st) 0 6 - tb_fo (tb_toVF q d st) 0 6 * tb_fo (tb_toVF q d st) 0 6) / (tb_fo (tb_toNF q st) 0 6 * (tb_fo (tb_toNF q st) 0 6 - 1))) else 0)
  else if w = 0 then tb_fo (tb_toVF q d st) 0 6 else if w = 2 then tb_fo (tb_toMF q d st) 0 6 else tb_fo (tb_toNF q st) 0 6
theorem tb_toN_ex (q : tb_Q) (st : Nat) : ∀ i, ∃ k, k ≤ i ∧ tb_fo (tb_toNF q st) 0 i = lN k
  | 0 => ⟨0, Nat.le_refl _, rfl⟩
  | i + 1 => by
    obtain ⟨k, h1, h2⟩ := tb_toN_ex q st i
    rw [tb_fo_s]
    unfold tb_toNF
    split
    · exact ⟨k + 1, by omega, by rw [show tb_fo (fun p v => if q 12 p = st then v + 1 else v) 0 i = lN k from h2, lN_1]⟩
    · exact ⟨k, by omega, h2⟩
theorem tb_toN_0 {q : tb_Q} {st : Nat} (h : 2 ≤ tb_fo (tb_toNF q st) 0 6) : ¬ tb_fo (tb_toNF q st) 0 6 * (tb_fo (tb_toNF q st) 0 6 - 1) = 0 := by
  obtain ⟨k, h1, h2⟩ := tb_toN_ex q st 6
  rw [h2] at h ⊢
  have hk : k = 0 ∨ k = 1 ∨ k = 2 ∨ k = 3 ∨ k = 4 ∨ k = 5 ∨ k = 6 := by omega
  rcases hk with rfl | rfl | rfl | rfl | rfl | rfl | rfl
  · exact absurd h (by decide +kernel)
  · exact absurd h (by decide +kernel)
  all_goals decide +kernel
def tbT_total (x0 x1 x2 : Int32) : Nat := if (tb_in x0 (nI 0) (nI 4) && tb_in x1 (nI 0) (nI 2) && tb_in x2 (nI 0) (nI 3)) = true then 0 else 1
def tbA_total (q : tb_Q) (x0 x1 x2 : Int32) : Int64 := if (tb_in x0 (nI 0) (nI 4) && tb_in x1 (nI 0) (nI 2) && tb_in x2 (nI 0) (nI 3)) = true then tb_tot q x0.toNatClampNeg x1.toNatClampNeg x2.toNatClampNeg else 0
def tb_cis (q : tb_Q) (d p f k : Nat) : Bool := tb_last q d p f (k % 200) && (decide (q 5 (k % 200) + 1 = tb_rank q d p f) == !decide (200 ≤ k))
def tb_ccn (q : tb_Q) (d p f : Nat) : Nat → Nat
  | 0 => 0
  | k + 1 => if tb_cis q d p f k = true then tb_ccn q d p f k + 1 else tb_ccn q d p f k
def tb_cfd (q : tb_Q) (d p f : Nat) (x : Int32) : Nat → Nat
  | 0 => 0
  | k + 1 => if tb_cfd q d p f x k = 0 then (if (tb_cis q d p f k && decide (nI (tb_ccn q d p f k) = x)) = true then k + 1 else 0) else tb_cfd q d p f x k
theorem tb_cfd_up {q : tb_Q} {d p f i : Nat} {x : Int32} (h : tb_cfd q d p f x (i + 1) = i + 1) : ∀ n, tb_cfd q d p f x (i + 1 + n) = i + 1
  | 0 => h
  | n + 1 => by
    show (if tb_cfd q d p f x (i + 1 + n) = 0 then _ else tb_cfd q d p f x (i + 1 + n)) = i + 1
    rw [tb_cfd_up h n, if_neg (by omega)]
theorem tb_cfd_at {q : tb_Q} {d p f i : Nat} {x : Int32} (h : tb_cfd q d p f x (i + 1) = i + 1) (hi : i < 400) : tb_cfd q d p f x 400 = i + 1 := by
  have := tb_cfd_up h (399 - i)
  rw [show i + 1 + (399 - i) = 400 by omega] at this
  exact this
def tb_ccode (k : Nat) : Nat := 100 * (k % 200 / 40) + k % 200 % 40 + 1 + (if 200 ≤ k then 1000 else 0)
def tb_cand (q : tb_Q) (d p f : Nat) (x : Int32) : Int32 := if tb_cfd q d p f x 400 = 0 then -1 else nI (tb_ccode (tb_cfd q d p f x 400 - 1))
def tbT_candidate (x0 x1 x2 x3 x4 : Int32) : Nat := if (tb_in x0 (nI 0) (nI 4) && tb_fd x1 x2 x3 && decide (0 ≤ x4)) = true then 0 else 1
def tbA_candidate (q : tb_Q) (x0 x1 x2 x3 x4 : Int32) : Int32 := if (tb_in x0 (nI 0) (nI 4) && tb_fd x1 x2 x3 && decide (0 ≤ x4)) = true then tb_cand q x0.toNatClampNeg x1.toNatClampNeg (3 * x2.toNatClampNeg + x3.toNatClampNeg) x4 else nI 0
section LE0
variable {p : Program} {l : Launch} {e : Env} {R : Room} {s : State} {m : MethodId} {args : Array Value} {below : List Frame} {meth : Method} {c : Code} {H : Heap} {locs : List Loc} {cells slots : Nat} {Q : State → Prop}
variable {cc : ByteArray} {pc tgt x : Nat} {ls : Array Slot} {rest : List Value} {off : Int}
theorem um_le0N (hx : p.tables.exec = Jvm.exec) (hb : c.code = cc) (hdg : decode cc pc = .ok (.ifCond .le off, 3)) (ht : (pc : Int) + off = (tgt : Int)) (h1 : x < 2147483648) (kt : x = 0 → W p l e R s m args below meth c H locs cells slots Q (F0 m tgt ls rest)) (kf : ¬ x = 0 → W p l e R s m args below meth c H locs cells slots Q (F0 m (pc + 3) ls rest)) : W p l e R s m args below meth c H locs cells slots Q (F0 m pc ls (.int (nI x) :: rest)) :=
  lv_if_le hx hb hdg ht (fun z => kt (Decidable.byContradiction (fun w => nI_nle (Nat.pos_of_ne_zero w) h1 z))) (fun z => kf (fun w => z (by rw [w]; decide +kernel)))
end LE0
theorem tg_824 : (Cond.methodLink "ForestTabletsModel" (127 : Nat) ({ cls := "ForestTabletsModel", name := "sum", desc := "(III)J" } : Jvm.MethodName)) ∈ lw_g := lw_gi (List.mem_of_getElem? (i := 824) (by decide +kernel)) rfl
theorem tg_826 : (Cond.instanceMethod ({ cls := "ForestTabletsModel", name := "sum", desc := "(III)J" } : Jvm.MethodName)) ∈ lw_g := lw_gi (List.mem_of_getElem? (i := 826) (by decide +kernel)) rfl
theorem tg_827 : (Cond.code ({ cls := "ForestTabletsModel", name := "sum", desc := "(III)J" } : Jvm.MethodName) prog_11_method_37_code (7 : Nat) (Option.some FieldType.long)) ∈ lw_g := lw_gi (List.mem_of_getElem? (i := 827) (by decide +kernel)) rfl
theorem tg_828 : (Cond.methodLink "ForestTabletsModel" (123 : Nat) ({ cls := "ForestTabletsModel", name := "tree", desc := "(IIII)J" } : Jvm.MethodName)) ∈ lw_g := lw_gi (List.mem_of_getElem? (i := 828) (by decide +kernel)) rfl
theorem tg_830 : (Cond.instanceMethod ({ cls := "ForestTabletsModel", name := "tree", desc := "(IIII)J" } : Jvm.MethodName)) ∈ lw_g := lw_gi (List.mem_of_getElem? (i := 830) (by decide +kernel)) rfl
theorem tg_831 : (Cond.code ({ cls := "ForestTabletsModel", name := "tree", desc := "(IIII)J" } : Jvm.MethodName) prog_11_method_36_code (13 : Nat) (Option.some FieldType.long)) ∈ lw_g := lw_gi (List.mem_of_getElem? (i := 831) (by decide +kernel)) rfl
theorem tg_832 : (Cond.constantLong "ForestTabletsModel" (121 : Nat) (100000 : Int64)) ∈ lw_g := lw_gi (List.mem_of_getElem? (i := 832) (by decide +kernel)) rfl
theorem tg_837 : (Cond.constantLong "ForestTabletsModel" (131 : Nat) (2 : Int64)) ∈ lw_g := lw_gi (List.mem_of_getElem? (i := 837) (by decide +kernel)) rfl
theorem tg_838 : (Cond.methodLink "ForestTabletsModel" (133 : Nat) ({ cls := "ForestTabletsModel", name := "root", desc := "(J)J" } : Jvm.MethodName)) ∈ lw_g := lw_gi (List.mem_of_getElem? (i := 838) (by decide +kernel)) rfl
theorem tg_839 : (Cond.static ({ cls := "ForestTabletsModel", name := "root", desc := "(J)J" } : Jvm.MethodName)) ∈ lw_g := lw_gi (List.mem_of_getElem? (i := 839) (by decide +kernel)) rfl
theorem tg_840 : (Cond.code ({ cls := "ForestTabletsModel", name := "root", desc := "(J)J" } : Jvm.MethodName) prog_11_method_39_code (7 : Nat) (Option.some FieldType.long)) ∈ lw_g := lw_gi (List.mem_of_getElem? (i := 840) (by decide +kernel)) rfl
abbrev cX9_tree : ByteArray := prog_11_method_36_code
def yX9_tree : MethodName := ⟨RX9, "tree", "(IIII)J"⟩
def wsX9_tree : List Cond := .code yX9_tree cX9_tree 13 (some FieldType.long) :: lw_g
abbrev cX9_sum : ByteArray := prog_11_method_37_code
def yX9_sum : MethodName := ⟨RX9, "sum", "(III)J"⟩
def wsX9_sum : List Cond := .code yX9_sum cX9_sum 7 (some FieldType.long) :: lw_g
abbrev cX9_plot : ByteArray := prog_11_method_38_code
def yX9_plot : MethodName := ⟨RX9, "plot", "(III)J"⟩
def wsX9_plot : List Cond := .code yX9_plot cX9_plot 4 (some FieldType.long) :: lw_g
abbrev cX9_total : ByteArray := prog_11_method_40_code
def yX9_total : MethodName := ⟨RX9, "total", "(III)J"⟩
def wsX9_total : List Cond := .code yX9_total cX9_total 15 (some FieldType.long) :: lw_g
abbrev cX9_candidate : ByteArray := prog_11_method_34_code
def yX9_candidate : MethodName := ⟨RX9, "candidate", "(IIIII)I"⟩
def wsX9_candidate : List Cond := .code yX9_candidate cX9_candidate 11 (some FieldType.int) :: lw_g
theorem slX9_tree : Cond.selects RX9 yX9_tree yX9_tree ∈ lw_g := lw_gs (q := (yX9_tree, 16)) (by decide +kernel)
theorem slX9_sum : Cond.selects RX9 yX9_sum yX9_sum ∈ lw_g := lw_gs (q := (yX9_sum, 16)) (by decide +kernel)
theorem dX9_tree_0 : decode cX9_tree 0 = .ok (.aload_n 0, 1) := by decide +kernel
theorem dX9_tree_1 : decode cX9_tree 1 = .ok (.iload_n 1, 1) := by decide +kernel
theorem dX9_tree_2 : decode cX9_tree 2 = .ok (.iload_n 2, 1) := by decide +kernel
theorem dX9_tree_3 : decode cX9_tree 3 = .ok (.iconst 3, 1) := by decide +kernel
theorem dX9_tree_4 : decode cX9_tree 4 = .ok (.iload_n 3, 1) := by decide +kernel
theorem dX9_tree_5 : decode cX9_tree 5 = .ok (.imul, 1) := by decide +kernel
theorem dX9_tree_6 : decode cX9_tree 6 = .ok (.invokevirtual 106, 3) := by decide +kernel
theorem dX9_tree_9 : decode cX9_tree 9 = .ok (.istore 5, 2) := by decide +kernel
theorem dX9_tree_11 : decode cX9_tree 11 = .ok (.aload_n 0, 1) := by decide +kernel
theorem dX9_tree_12 : decode cX9_tree 12 = .ok (.iload_n 1, 1) := by decide +kernel
theorem dX9_tree_13 : decode cX9_tree 13 = .ok (.iload_n 2, 1) := by decide +kernel
theorem dX9_tree_14 : decode cX9_tree 14 = .ok (.iconst 3, 1) := by decide +kernel
theorem dX9_tree_15 : decode cX9_tree 15 = .ok (.iload_n 3, 1) := by decide +kernel
theorem dX9_tree_16 : decode cX9_tree 16 = .ok (.imul, 1) := by decide +kernel
theorem dX9_tree_17 : decode cX9_tree 17 = .ok (.iconst 1, 1) := by decide +kernel
theorem dX9_tree_18 : decode cX9_tree 18 = .ok (.iadd, 1) := by decide +kernel
theorem dX9_tree_19 : decode cX9_tree 19 = .ok (.invokevirtual 106, 3) := by decide +kernel
theorem dX9_tree_22 : decode cX9_tree 22 = .ok (.istore 6, 2) := by decide +kernel
theorem dX9_tree_24 : decode cX9_tree 24 = .ok (.aload_n 0, 1) := by decide +kernel
theorem dX9_tree_25 : decode cX9_tree 25 = .ok (.iload_n 1, 1) := by decide +kernel
theorem dX9_tree_26 : decode cX9_tree 26 = .ok (.iload_n 2, 1) := by decide +kernel
theorem dX9_tree_27 : decode cX9_tree 27 = .ok (.iconst 3, 1) := by decide +kernel
theorem dX9_tree_28 : decode cX9_tree 28 = .ok (.iload_n 3, 1) := by decide +kernel
theorem dX9_tree_29 : decode cX9_tree 29 = .ok (.imul, 1) := by decide +kernel
theorem dX9_tree_30 : decode cX9_tree 30 = .ok (.iconst 2, 1) := by decide +kernel
theorem dX9_tree_31 : decode cX9_tree 31 = .ok (.iadd, 1) := by decide +kernel
theorem dX9_tree_32 : decode cX9_tree 32 = .ok (.invokevirtual 106, 3) := by decide +kernel
theorem dX9_tree_35 : decode cX9_tree 35 = .ok (.istore 7, 2) := by decide +kernel
theorem dX9_tree_37 : decode cX9_tree 37 = .ok (.iload 5, 2) := by decide +kernel
theorem dX9_tree_39 : decode cX9_tree 39 = .ok (.ifCond .ge 7, 3) := by decide +kernel
theorem dX9_tree_42 : decode cX9_tree 42 = .ok (.iconst 0, 1) := by decide +kernel
theorem dX9_tree_43 : decode cX9_tree 43 = .ok (.goto 4, 3) := by decide +kernel
theorem dX9_tree_46 : decode cX9_tree 46 = .ok (.iconst 1, 1) := by decide +kernel
theorem dX9_tree_47 : decode cX9_tree 47 = .ok (.iload 6, 2) := by decide +kernel
theorem dX9_tree_49 : decode cX9_tree 49 = .ok (.ifCond .ge 7, 3) := by decide +kernel
theorem dX9_tree_52 : decode cX9_tree 52 = .ok (.iconst 0, 1) := by decide +kernel
theorem dX9_tree_53 : decode cX9_tree 53 = .ok (.goto 4, 3) := by decide +kernel
theorem dX9_tree_56 : decode cX9_tree 56 = .ok (.iconst 1, 1) := by decide +kernel
theorem dX9_tree_57 : decode cX9_tree 57 = .ok (.iadd, 1) := by decide +kernel
theorem dX9_tree_58 : decode cX9_tree 58 = .ok (.iload 7, 2) := by decide +kernel
theorem dX9_tree_60 : decode cX9_tree 60 = .ok (.ifCond .ge 7, 3) := by decide +kernel
theorem dX9_tree_63 : decode cX9_tree 63 = .ok (.iconst 0, 1) := by decide +kernel
theorem dX9_tree_64 : decode cX9_tree 64 = .ok (.goto 4, 3) := by decide +kernel
theorem dX9_tree_67 : decode cX9_tree 67 = .ok (.iconst 1, 1) := by decide +kernel
theorem dX9_tree_68 : decode cX9_tree 68 = .ok (.iadd, 1) := by decide +kernel
theorem dX9_tree_69 : decode cX9_tree 69 = .ok (.istore 8, 2) := by decide +kernel
theorem dX9_tree_71 : decode cX9_tree 71 = .ok (.iload 4, 2) := by decide +kernel
theorem dX9_tree_73 : decode cX9_tree 73 = .ok (.iconst 2, 1) := by decide +kernel
theorem dX9_tree_74 : decode cX9_tree 74 = .ok (.if_icmp .eq 9, 3) := by decide +kernel
theorem dX9_tree_77 : decode cX9_tree 77 = .ok (.iload 8, 2) := by decide +kernel
theorem dX9_tree_79 : decode cX9_tree 79 = .ok (.iconst 3, 1) := by decide +kernel
theorem dX9_tree_80 : decode cX9_tree 80 = .ok (.if_icmp .ge 26, 3) := by decide +kernel
theorem dX9_tree_83 : decode cX9_tree 83 = .ok (.iload 4, 2) := by decide +kernel
theorem dX9_tree_85 : decode cX9_tree 85 = .ok (.iconst 2, 1) := by decide +kernel
theorem dX9_tree_86 : decode cX9_tree 86 = .ok (.if_icmp .ne 18, 3) := by decide +kernel
theorem dX9_tree_89 : decode cX9_tree 89 = .ok (.iload 8, 2) := by decide +kernel
theorem dX9_tree_91 : decode cX9_tree 91 = .ok (.ifCond .le 13, 3) := by decide +kernel
theorem dX9_tree_94 : decode cX9_tree 94 = .ok (.iload 8, 2) := by decide +kernel
theorem dX9_tree_96 : decode cX9_tree 96 = .ok (.iconst 3, 1) := by decide +kernel
theorem dX9_tree_97 : decode cX9_tree 97 = .ok (.if_icmp .ge 7, 3) := by decide +kernel
theorem dX9_tree_100 : decode cX9_tree 100 = .ok (.lconst 1, 1) := by decide +kernel
theorem dX9_tree_101 : decode cX9_tree 101 = .ok (.goto 4, 3) := by decide +kernel
theorem dX9_tree_104 : decode cX9_tree 104 = .ok (.lconst 0, 1) := by decide +kernel
theorem dX9_tree_105 : decode cX9_tree 105 = .ok (.lreturn, 1) := by decide +kernel
theorem dX9_tree_106 : decode cX9_tree 106 = .ok (.aload_n 0, 1) := by decide +kernel
theorem dX9_tree_107 : decode cX9_tree 107 = .ok (.getfield 22, 3) := by decide +kernel
theorem dX9_tree_110 : decode cX9_tree 110 = .ok (.iload 5, 2) := by decide +kernel
theorem dX9_tree_112 : decode cX9_tree 112 = .ok (.iaload, 1) := by decide +kernel
theorem dX9_tree_113 : decode cX9_tree 113 = .ok (.istore 9, 2) := by decide +kernel
theorem dX9_tree_115 : decode cX9_tree 115 = .ok (.aload_n 0, 1) := by decide +kernel
theorem dX9_tree_116 : decode cX9_tree 116 = .ok (.getfield 22, 3) := by decide +kernel
theorem dX9_tree_119 : decode cX9_tree 119 = .ok (.iload 6, 2) := by decide +kernel
theorem dX9_tree_121 : decode cX9_tree 121 = .ok (.iaload, 1) := by decide +kernel
theorem dX9_tree_122 : decode cX9_tree 122 = .ok (.i2l, 1) := by decide +kernel
theorem dX9_tree_123 : decode cX9_tree 123 = .ok (.aload_n 0, 1) := by decide +kernel
theorem dX9_tree_124 : decode cX9_tree 124 = .ok (.getfield 22, 3) := by decide +kernel
theorem dX9_tree_127 : decode cX9_tree 127 = .ok (.iload 6, 2) := by decide +kernel
theorem dX9_tree_129 : decode cX9_tree 129 = .ok (.iaload, 1) := by decide +kernel
theorem dX9_tree_130 : decode cX9_tree 130 = .ok (.i2l, 1) := by decide +kernel
theorem dX9_tree_131 : decode cX9_tree 131 = .ok (.lmul, 1) := by decide +kernel
theorem dX9_tree_132 : decode cX9_tree 132 = .ok (.lstore 10, 2) := by decide +kernel
theorem dX9_tree_134 : decode cX9_tree 134 = .ok (.iload 4, 2) := by decide +kernel
theorem dX9_tree_136 : decode cX9_tree 136 = .ok (.ifCond .ne 28, 3) := by decide +kernel
theorem dX9_tree_139 : decode cX9_tree 139 = .ok (.lload 10, 2) := by decide +kernel
theorem dX9_tree_141 : decode cX9_tree 141 = .ok (.aload_n 0, 1) := by decide +kernel
theorem dX9_tree_142 : decode cX9_tree 142 = .ok (.getfield 22, 3) := by decide +kernel
theorem dX9_tree_145 : decode cX9_tree 145 = .ok (.iload 7, 2) := by decide +kernel
theorem dX9_tree_147 : decode cX9_tree 147 = .ok (.iaload, 1) := by decide +kernel
theorem dX9_tree_148 : decode cX9_tree 148 = .ok (.i2l, 1) := by decide +kernel
theorem dX9_tree_149 : decode cX9_tree 149 = .ok (.lmul, 1) := by decide +kernel
theorem dX9_tree_150 : decode cX9_tree 150 = .ok (.aload_n 0, 1) := by decide +kernel
theorem dX9_tree_151 : decode cX9_tree 151 = .ok (.getfield 44, 3) := by decide +kernel
theorem dX9_tree_154 : decode cX9_tree 154 = .ok (.iload 9, 2) := by decide +kernel
theorem dX9_tree_156 : decode cX9_tree 156 = .ok (.iaload, 1) := by decide +kernel
theorem dX9_tree_157 : decode cX9_tree 157 = .ok (.i2l, 1) := by decide +kernel
theorem dX9_tree_158 : decode cX9_tree 158 = .ok (.lmul, 1) := by decide +kernel
theorem dX9_tree_159 : decode cX9_tree 159 = .ok (.ldc2_w 121, 3) := by decide +kernel
theorem dX9_tree_162 : decode cX9_tree 162 = .ok (.ldiv, 1) := by decide +kernel
theorem dX9_tree_163 : decode cX9_tree 163 = .ok (.lreturn, 1) := by decide +kernel
theorem dX9_tree_164 : decode cX9_tree 164 = .ok (.bipush 100, 2) := by decide +kernel
theorem dX9_tree_166 : decode cX9_tree 166 = .ok (.aload_n 0, 1) := by decide +kernel
theorem dX9_tree_167 : decode cX9_tree 167 = .ok (.getfield 22, 3) := by decide +kernel
theorem dX9_tree_170 : decode cX9_tree 170 = .ok (.iload 7, 2) := by decide +kernel
theorem dX9_tree_172 : decode cX9_tree 172 = .ok (.iaload, 1) := by decide +kernel
theorem dX9_tree_173 : decode cX9_tree 173 = .ok (.imul, 1) := by decide +kernel
theorem dX9_tree_174 : decode cX9_tree 174 = .ok (.istore 12, 2) := by decide +kernel
theorem dX9_tree_176 : decode cX9_tree 176 = .ok (.iload 4, 2) := by decide +kernel
theorem dX9_tree_178 : decode cX9_tree 178 = .ok (.iconst 1, 1) := by decide +kernel
theorem dX9_tree_179 : decode cX9_tree 179 = .ok (.if_icmp .ne 8, 3) := by decide +kernel
theorem dX9_tree_182 : decode cX9_tree 182 = .ok (.lload 10, 2) := by decide +kernel
theorem dX9_tree_184 : decode cX9_tree 184 = .ok (.goto 48, 3) := by decide +kernel
theorem dX9_tree_187 : decode cX9_tree 187 = .ok (.iload 12, 2) := by decide +kernel
theorem dX9_tree_189 : decode cX9_tree 189 = .ok (.aload_n 0, 1) := by decide +kernel
theorem dX9_tree_190 : decode cX9_tree 190 = .ok (.getfield 47, 3) := by decide +kernel
theorem dX9_tree_193 : decode cX9_tree 193 = .ok (.iload 9, 2) := by decide +kernel
theorem dX9_tree_195 : decode cX9_tree 195 = .ok (.iaload, 1) := by decide +kernel
theorem dX9_tree_196 : decode cX9_tree 196 = .ok (.aload_n 0, 1) := by decide +kernel
theorem dX9_tree_197 : decode cX9_tree 197 = .ok (.getfield 22, 3) := by decide +kernel
theorem dX9_tree_200 : decode cX9_tree 200 = .ok (.iload 6, 2) := by decide +kernel
theorem dX9_tree_202 : decode cX9_tree 202 = .ok (.iaload, 1) := by decide +kernel
theorem dX9_tree_203 : decode cX9_tree 203 = .ok (.imul, 1) := by decide +kernel
theorem dX9_tree_204 : decode cX9_tree 204 = .ok (.if_icmp .lt 23, 3) := by decide +kernel
theorem dX9_tree_207 : decode cX9_tree 207 = .ok (.iload 12, 2) := by decide +kernel
theorem dX9_tree_209 : decode cX9_tree 209 = .ok (.aload_n 0, 1) := by decide +kernel
theorem dX9_tree_210 : decode cX9_tree 210 = .ok (.getfield 50, 3) := by decide +kernel
theorem dX9_tree_213 : decode cX9_tree 213 = .ok (.iload 9, 2) := by decide +kernel
theorem dX9_tree_215 : decode cX9_tree 215 = .ok (.iaload, 1) := by decide +kernel
theorem dX9_tree_216 : decode cX9_tree 216 = .ok (.aload_n 0, 1) := by decide +kernel
theorem dX9_tree_217 : decode cX9_tree 217 = .ok (.getfield 22, 3) := by decide +kernel
theorem dX9_tree_220 : decode cX9_tree 220 = .ok (.iload 6, 2) := by decide +kernel
theorem dX9_tree_222 : decode cX9_tree 222 = .ok (.iaload, 1) := by decide +kernel
theorem dX9_tree_223 : decode cX9_tree 223 = .ok (.imul, 1) := by decide +kernel
theorem dX9_tree_224 : decode cX9_tree 224 = .ok (.if_icmp .le 7, 3) := by decide +kernel
theorem dX9_tree_227 : decode cX9_tree 227 = .ok (.lconst 1, 1) := by decide +kernel
theorem dX9_tree_228 : decode cX9_tree 228 = .ok (.goto 4, 3) := by decide +kernel
theorem dX9_tree_231 : decode cX9_tree 231 = .ok (.lconst 0, 1) := by decide +kernel
theorem dX9_tree_232 : decode cX9_tree 232 = .ok (.lreturn, 1) := by decide +kernel
theorem dX9_sum_0 : decode cX9_sum 0 = .ok (.lconst 0, 1) := by decide +kernel
theorem dX9_sum_1 : decode cX9_sum 1 = .ok (.lstore 4, 2) := by decide +kernel
theorem dX9_sum_3 : decode cX9_sum 3 = .ok (.iconst 0, 1) := by decide +kernel
theorem dX9_sum_4 : decode cX9_sum 4 = .ok (.istore 6, 2) := by decide +kernel
theorem dX9_sum_6 : decode cX9_sum 6 = .ok (.iload 6, 2) := by decide +kernel
theorem dX9_sum_8 : decode cX9_sum 8 = .ok (.iconst 4, 1) := by decide +kernel
theorem dX9_sum_9 : decode cX9_sum 9 = .ok (.if_icmp .ge 35, 3) := by decide +kernel
theorem dX9_sum_12 : decode cX9_sum 12 = .ok (.lload 4, 2) := by decide +kernel
theorem dX9_sum_14 : decode cX9_sum 14 = .ok (.aload_n 0, 1) := by decide +kernel
theorem dX9_sum_15 : decode cX9_sum 15 = .ok (.iload_n 1, 1) := by decide +kernel
theorem dX9_sum_16 : decode cX9_sum 16 = .ok (.iload_n 2, 1) := by decide +kernel
theorem dX9_sum_17 : decode cX9_sum 17 = .ok (.iload 6, 2) := by decide +kernel
theorem dX9_sum_19 : decode cX9_sum 19 = .ok (.iload_n 3, 1) := by decide +kernel
theorem dX9_sum_20 : decode cX9_sum 20 = .ok (.invokevirtual 123, 3) := by decide +kernel
theorem dX9_sum_23 : decode cX9_sum 23 = .ok (.iload_n 3, 1) := by decide +kernel
theorem dX9_sum_24 : decode cX9_sum 24 = .ok (.iconst 3, 1) := by decide +kernel
theorem dX9_sum_25 : decode cX9_sum 25 = .ok (.if_icmp .ne 8, 3) := by decide +kernel
theorem dX9_sum_28 : decode cX9_sum 28 = .ok (.iload 6, 2) := by decide +kernel
theorem dX9_sum_30 : decode cX9_sum 30 = .ok (.goto 4, 3) := by decide +kernel
theorem dX9_sum_33 : decode cX9_sum 33 = .ok (.iconst 0, 1) := by decide +kernel
theorem dX9_sum_34 : decode cX9_sum 34 = .ok (.lshl, 1) := by decide +kernel
theorem dX9_sum_35 : decode cX9_sum 35 = .ok (.ladd, 1) := by decide +kernel
theorem dX9_sum_36 : decode cX9_sum 36 = .ok (.lstore 4, 2) := by decide +kernel
theorem dX9_sum_38 : decode cX9_sum 38 = .ok (.iinc 6 1, 3) := by decide +kernel
theorem dX9_sum_41 : decode cX9_sum 41 = .ok (.goto (-35), 3) := by decide +kernel
theorem dX9_sum_44 : decode cX9_sum 44 = .ok (.lload 4, 2) := by decide +kernel
theorem dX9_sum_46 : decode cX9_sum 46 = .ok (.lreturn, 1) := by decide +kernel
theorem dX9_plot_0 : decode cX9_plot 0 = .ok (.aload_n 0, 1) := by decide +kernel
theorem dX9_plot_1 : decode cX9_plot 1 = .ok (.iload_n 1, 1) := by decide +kernel
theorem dX9_plot_2 : decode cX9_plot 2 = .ok (.iconst 0, 1) := by decide +kernel
theorem dX9_plot_3 : decode cX9_plot 3 = .ok (.iconst 4, 1) := by decide +kernel
theorem dX9_plot_4 : decode cX9_plot 4 = .ok (.invokestatic 59, 3) := by decide +kernel
theorem dX9_plot_7 : decode cX9_plot 7 = .ok (.ifCond .eq 21, 3) := by decide +kernel
theorem dX9_plot_10 : decode cX9_plot 10 = .ok (.iload_n 2, 1) := by decide +kernel
theorem dX9_plot_11 : decode cX9_plot 11 = .ok (.iconst 0, 1) := by decide +kernel
theorem dX9_plot_12 : decode cX9_plot 12 = .ok (.iconst 5, 1) := by decide +kernel
theorem dX9_plot_13 : decode cX9_plot 13 = .ok (.invokestatic 59, 3) := by decide +kernel
theorem dX9_plot_16 : decode cX9_plot 16 = .ok (.ifCond .eq 12, 3) := by decide +kernel
theorem dX9_plot_19 : decode cX9_plot 19 = .ok (.iload_n 3, 1) := by decide +kernel
theorem dX9_plot_20 : decode cX9_plot 20 = .ok (.iconst 0, 1) := by decide +kernel
theorem dX9_plot_21 : decode cX9_plot 21 = .ok (.iconst 3, 1) := by decide +kernel
theorem dX9_plot_22 : decode cX9_plot 22 = .ok (.invokestatic 59, 3) := by decide +kernel
theorem dX9_plot_25 : decode cX9_plot 25 = .ok (.ifCond .ne 7, 3) := by decide +kernel
theorem dX9_plot_28 : decode cX9_plot 28 = .ok (.iconst 1, 1) := by decide +kernel
theorem dX9_plot_29 : decode cX9_plot 29 = .ok (.goto 4, 3) := by decide +kernel
theorem dX9_plot_32 : decode cX9_plot 32 = .ok (.iconst 0, 1) := by decide +kernel
theorem dX9_plot_33 : decode cX9_plot 33 = .ok (.iconst 1, 1) := by decide +kernel
theorem dX9_plot_34 : decode cX9_plot 34 = .ok (.invokevirtual 63, 3) := by decide +kernel
theorem dX9_plot_37 : decode cX9_plot 37 = .ok (.ifCond .eq 7, 3) := by decide +kernel
theorem dX9_plot_40 : decode cX9_plot 40 = .ok (.lconst 0, 1) := by decide +kernel
theorem dX9_plot_41 : decode cX9_plot 41 = .ok (.goto 10, 3) := by decide +kernel
theorem dX9_plot_44 : decode cX9_plot 44 = .ok (.aload_n 0, 1) := by decide +kernel
theorem dX9_plot_45 : decode cX9_plot 45 = .ok (.iload_n 1, 1) := by decide +kernel
theorem dX9_plot_46 : decode cX9_plot 46 = .ok (.iload_n 2, 1) := by decide +kernel
theorem dX9_plot_47 : decode cX9_plot 47 = .ok (.iload_n 3, 1) := by decide +kernel
theorem dX9_plot_48 : decode cX9_plot 48 = .ok (.invokevirtual 127, 3) := by decide +kernel
theorem dX9_plot_51 : decode cX9_plot 51 = .ok (.lreturn, 1) := by decide +kernel
theorem dX9_total_0 : decode cX9_total 0 = .ok (.aload_n 0, 1) := by decide +kernel
theorem dX9_total_1 : decode cX9_total 1 = .ok (.iload_n 1, 1) := by decide +kernel
theorem dX9_total_2 : decode cX9_total 2 = .ok (.iconst 0, 1) := by decide +kernel
theorem dX9_total_3 : decode cX9_total 3 = .ok (.iconst 4, 1) := by decide +kernel
theorem dX9_total_4 : decode cX9_total 4 = .ok (.invokestatic 59, 3) := by decide +kernel
theorem dX9_total_7 : decode cX9_total 7 = .ok (.ifCond .eq 21, 3) := by decide +kernel
theorem dX9_total_10 : decode cX9_total 10 = .ok (.iload_n 2, 1) := by decide +kernel
theorem dX9_total_11 : decode cX9_total 11 = .ok (.iconst 0, 1) := by decide +kernel
theorem dX9_total_12 : decode cX9_total 12 = .ok (.iconst 2, 1) := by decide +kernel
theorem dX9_total_13 : decode cX9_total 13 = .ok (.invokestatic 59, 3) := by decide +kernel
theorem dX9_total_16 : decode cX9_total 16 = .ok (.ifCond .eq 12, 3) := by decide +kernel
theorem dX9_total_19 : decode cX9_total 19 = .ok (.iload_n 3, 1) := by decide +kernel
theorem dX9_total_20 : decode cX9_total 20 = .ok (.iconst 0, 1) := by decide +kernel
theorem dX9_total_21 : decode cX9_total 21 = .ok (.iconst 3, 1) := by decide +kernel
theorem dX9_total_22 : decode cX9_total 22 = .ok (.invokestatic 59, 3) := by decide +kernel
theorem dX9_total_25 : decode cX9_total 25 = .ok (.ifCond .ne 7, 3) := by decide +kernel
theorem dX9_total_28 : decode cX9_total 28 = .ok (.iconst 1, 1) := by decide +kernel
theorem dX9_total_29 : decode cX9_total 29 = .ok (.goto 4, 3) := by decide +kernel
theorem dX9_total_32 : decode cX9_total 32 = .ok (.iconst 0, 1) := by decide +kernel
theorem dX9_total_33 : decode cX9_total 33 = .ok (.iconst 1, 1) := by decide +kernel
theorem dX9_total_34 : decode cX9_total 34 = .ok (.invokevirtual 63, 3) := by decide +kernel
theorem dX9_total_37 : decode cX9_total 37 = .ok (.ifCond .eq 5, 3) := by decide +kernel
theorem dX9_total_40 : decode cX9_total 40 = .ok (.lconst 0, 1) := by decide +kernel
theorem dX9_total_41 : decode cX9_total 41 = .ok (.lreturn, 1) := by decide +kernel
theorem dX9_total_42 : decode cX9_total 42 = .ok (.lconst 0, 1) := by decide +kernel
theorem dX9_total_43 : decode cX9_total 43 = .ok (.lstore 4, 2) := by decide +kernel
theorem dX9_total_45 : decode cX9_total 45 = .ok (.lconst 0, 1) := by decide +kernel
theorem dX9_total_46 : decode cX9_total 46 = .ok (.lstore 6, 2) := by decide +kernel
theorem dX9_total_48 : decode cX9_total 48 = .ok (.lconst 0, 1) := by decide +kernel
theorem dX9_total_49 : decode cX9_total 49 = .ok (.lstore 8, 2) := by decide +kernel
theorem dX9_total_51 : decode cX9_total 51 = .ok (.lconst 0, 1) := by decide +kernel
theorem dX9_total_52 : decode cX9_total 52 = .ok (.lstore 10, 2) := by decide +kernel
theorem dX9_total_54 : decode cX9_total 54 = .ok (.iconst 0, 1) := by decide +kernel
theorem dX9_total_55 : decode cX9_total 55 = .ok (.istore 12, 2) := by decide +kernel
theorem dX9_total_57 : decode cX9_total 57 = .ok (.iload 12, 2) := by decide +kernel
theorem dX9_total_59 : decode cX9_total 59 = .ok (.bipush 6, 2) := by decide +kernel
theorem dX9_total_61 : decode cX9_total 61 = .ok (.if_icmp .ge 69, 3) := by decide +kernel
theorem dX9_total_64 : decode cX9_total 64 = .ok (.aload_n 0, 1) := by decide +kernel
theorem dX9_total_65 : decode cX9_total 65 = .ok (.getfield 53, 3) := by decide +kernel
theorem dX9_total_68 : decode cX9_total 68 = .ok (.iload 12, 2) := by decide +kernel
theorem dX9_total_70 : decode cX9_total 70 = .ok (.iaload, 1) := by decide +kernel
theorem dX9_total_71 : decode cX9_total 71 = .ok (.iload_n 2, 1) := by decide +kernel
theorem dX9_total_72 : decode cX9_total 72 = .ok (.if_icmp .eq 6, 3) := by decide +kernel
theorem dX9_total_75 : decode cX9_total 75 = .ok (.goto 49, 3) := by decide +kernel
theorem dX9_total_78 : decode cX9_total 78 = .ok (.aload_n 0, 1) := by decide +kernel
theorem dX9_total_79 : decode cX9_total 79 = .ok (.iload_n 1, 1) := by decide +kernel
theorem dX9_total_80 : decode cX9_total 80 = .ok (.iload 12, 2) := by decide +kernel
theorem dX9_total_82 : decode cX9_total 82 = .ok (.iconst 0, 1) := by decide +kernel
theorem dX9_total_83 : decode cX9_total 83 = .ok (.invokevirtual 127, 3) := by decide +kernel
theorem dX9_total_86 : decode cX9_total 86 = .ok (.lstore 13, 2) := by decide +kernel
theorem dX9_total_88 : decode cX9_total 88 = .ok (.lload 4, 2) := by decide +kernel
theorem dX9_total_90 : decode cX9_total 90 = .ok (.lconst 1, 1) := by decide +kernel
theorem dX9_total_91 : decode cX9_total 91 = .ok (.ladd, 1) := by decide +kernel
theorem dX9_total_92 : decode cX9_total 92 = .ok (.lstore 4, 2) := by decide +kernel
theorem dX9_total_94 : decode cX9_total 94 = .ok (.lload 6, 2) := by decide +kernel
theorem dX9_total_96 : decode cX9_total 96 = .ok (.lload 13, 2) := by decide +kernel
theorem dX9_total_98 : decode cX9_total 98 = .ok (.ladd, 1) := by decide +kernel
theorem dX9_total_99 : decode cX9_total 99 = .ok (.lstore 6, 2) := by decide +kernel
theorem dX9_total_101 : decode cX9_total 101 = .ok (.lload 8, 2) := by decide +kernel
theorem dX9_total_103 : decode cX9_total 103 = .ok (.lload 13, 2) := by decide +kernel
theorem dX9_total_105 : decode cX9_total 105 = .ok (.lload 13, 2) := by decide +kernel
theorem dX9_total_107 : decode cX9_total 107 = .ok (.lmul, 1) := by decide +kernel
theorem dX9_total_108 : decode cX9_total 108 = .ok (.ladd, 1) := by decide +kernel
theorem dX9_total_109 : decode cX9_total 109 = .ok (.lstore 8, 2) := by decide +kernel
theorem dX9_total_111 : decode cX9_total 111 = .ok (.lload 10, 2) := by decide +kernel
theorem dX9_total_113 : decode cX9_total 113 = .ok (.aload_n 0, 1) := by decide +kernel
theorem dX9_total_114 : decode cX9_total 114 = .ok (.iload_n 1, 1) := by decide +kernel
theorem dX9_total_115 : decode cX9_total 115 = .ok (.iload 12, 2) := by decide +kernel
theorem dX9_total_117 : decode cX9_total 117 = .ok (.iconst 2, 1) := by decide +kernel
theorem dX9_total_118 : decode cX9_total 118 = .ok (.invokevirtual 127, 3) := by decide +kernel
theorem dX9_total_121 : decode cX9_total 121 = .ok (.ladd, 1) := by decide +kernel
theorem dX9_total_122 : decode cX9_total 122 = .ok (.lstore 10, 2) := by decide +kernel
theorem dX9_total_124 : decode cX9_total 124 = .ok (.iinc 12 1, 3) := by decide +kernel
theorem dX9_total_127 : decode cX9_total 127 = .ok (.goto (-70), 3) := by decide +kernel
theorem dX9_total_130 : decode cX9_total 130 = .ok (.iload_n 3, 1) := by decide +kernel
theorem dX9_total_131 : decode cX9_total 131 = .ok (.iconst 1, 1) := by decide +kernel
theorem dX9_total_132 : decode cX9_total 132 = .ok (.if_icmp .ne 39, 3) := by decide +kernel
theorem dX9_total_135 : decode cX9_total 135 = .ok (.lload 4, 2) := by decide +kernel
theorem dX9_total_137 : decode cX9_total 137 = .ok (.ldc2_w 131, 3) := by decide +kernel
theorem dX9_total_140 : decode cX9_total 140 = .ok (.lcmp, 1) := by decide +kernel
theorem dX9_total_141 : decode cX9_total 141 = .ok (.ifCond .ge 7, 3) := by decide +kernel
theorem dX9_total_144 : decode cX9_total 144 = .ok (.lconst 0, 1) := by decide +kernel
theorem dX9_total_145 : decode cX9_total 145 = .ok (.goto 25, 3) := by decide +kernel
theorem dX9_total_148 : decode cX9_total 148 = .ok (.lload 4, 2) := by decide +kernel
theorem dX9_total_150 : decode cX9_total 150 = .ok (.lload 8, 2) := by decide +kernel
theorem dX9_total_152 : decode cX9_total 152 = .ok (.lmul, 1) := by decide +kernel
theorem dX9_total_153 : decode cX9_total 153 = .ok (.lload 6, 2) := by decide +kernel
theorem dX9_total_155 : decode cX9_total 155 = .ok (.lload 6, 2) := by decide +kernel
theorem dX9_total_157 : decode cX9_total 157 = .ok (.lmul, 1) := by decide +kernel
theorem dX9_total_158 : decode cX9_total 158 = .ok (.lsub, 1) := by decide +kernel
theorem dX9_total_159 : decode cX9_total 159 = .ok (.lload 4, 2) := by decide +kernel
theorem dX9_total_161 : decode cX9_total 161 = .ok (.lload 4, 2) := by decide +kernel
theorem dX9_total_163 : decode cX9_total 163 = .ok (.lconst 1, 1) := by decide +kernel
theorem dX9_total_164 : decode cX9_total 164 = .ok (.lsub, 1) := by decide +kernel
theorem dX9_total_165 : decode cX9_total 165 = .ok (.lmul, 1) := by decide +kernel
theorem dX9_total_166 : decode cX9_total 166 = .ok (.ldiv, 1) := by decide +kernel
theorem dX9_total_167 : decode cX9_total 167 = .ok (.invokestatic 133, 3) := by decide +kernel
theorem dX9_total_170 : decode cX9_total 170 = .ok (.lreturn, 1) := by decide +kernel
theorem dX9_total_171 : decode cX9_total 171 = .ok (.iload_n 3, 1) := by decide +kernel
theorem dX9_total_172 : decode cX9_total 172 = .ok (.ifCond .ne 8, 3) := by decide +kernel
theorem dX9_total_175 : decode cX9_total 175 = .ok (.lload 6, 2) := by decide +kernel
theorem dX9_total_177 : decode cX9_total 177 = .ok (.goto 15, 3) := by decide +kernel
theorem dX9_total_180 : decode cX9_total 180 = .ok (.iload_n 3, 1) := by decide +kernel
theorem dX9_total_181 : decode cX9_total 181 = .ok (.iconst 2, 1) := by decide +kernel
theorem dX9_total_182 : decode cX9_total 182 = .ok (.if_icmp .ne 8, 3) := by decide +kernel
theorem dX9_total_185 : decode cX9_total 185 = .ok (.lload 10, 2) := by decide +kernel
theorem dX9_total_187 : decode cX9_total 187 = .ok (.goto 5, 3) := by decide +kernel
theorem dX9_total_190 : decode cX9_total 190 = .ok (.lload 4, 2) := by decide +kernel
theorem dX9_total_192 : decode cX9_total 192 = .ok (.lreturn, 1) := by decide +kernel
theorem dX9_candidate_0 : decode cX9_candidate 0 = .ok (.aload_n 0, 1) := by decide +kernel
theorem dX9_candidate_1 : decode cX9_candidate 1 = .ok (.iload_n 1, 1) := by decide +kernel
theorem dX9_candidate_2 : decode cX9_candidate 2 = .ok (.iconst 0, 1) := by decide +kernel
theorem dX9_candidate_3 : decode cX9_candidate 3 = .ok (.iconst 4, 1) := by decide +kernel
theorem dX9_candidate_4 : decode cX9_candidate 4 = .ok (.invokestatic 59, 3) := by decide +kernel
theorem dX9_candidate_7 : decode cX9_candidate 7 = .ok (.ifCond .eq 18, 3) := by decide +kernel
theorem dX9_candidate_10 : decode cX9_candidate 10 = .ok (.iload_n 2, 1) := by decide +kernel
theorem dX9_candidate_11 : decode cX9_candidate 11 = .ok (.iload_n 3, 1) := by decide +kernel
theorem dX9_candidate_12 : decode cX9_candidate 12 = .ok (.iload 4, 2) := by decide +kernel
theorem dX9_candidate_14 : decode cX9_candidate 14 = .ok (.invokestatic 88, 3) := by decide +kernel
theorem dX9_candidate_17 : decode cX9_candidate 17 = .ok (.ifCond .eq 8, 3) := by decide +kernel
theorem dX9_candidate_20 : decode cX9_candidate 20 = .ok (.iload 5, 2) := by decide +kernel
theorem dX9_candidate_22 : decode cX9_candidate 22 = .ok (.ifCond .ge 7, 3) := by decide +kernel
theorem dX9_candidate_25 : decode cX9_candidate 25 = .ok (.iconst 1, 1) := by decide +kernel
theorem dX9_candidate_26 : decode cX9_candidate 26 = .ok (.goto 4, 3) := by decide +kernel
theorem dX9_candidate_29 : decode cX9_candidate 29 = .ok (.iconst 0, 1) := by decide +kernel
theorem dX9_candidate_30 : decode cX9_candidate 30 = .ok (.iconst 1, 1) := by decide +kernel
theorem dX9_candidate_31 : decode cX9_candidate 31 = .ok (.invokevirtual 63, 3) := by decide +kernel
theorem dX9_candidate_34 : decode cX9_candidate 34 = .ok (.ifCond .eq 5, 3) := by decide +kernel
theorem dX9_candidate_37 : decode cX9_candidate 37 = .ok (.iconst 0, 1) := by decide +kernel
theorem dX9_candidate_38 : decode cX9_candidate 38 = .ok (.ireturn, 1) := by decide +kernel
theorem dX9_candidate_39 : decode cX9_candidate 39 = .ok (.aload_n 0, 1) := by decide +kernel
theorem dX9_candidate_40 : decode cX9_candidate 40 = .ok (.iload_n 1, 1) := by decide +kernel
theorem dX9_candidate_41 : decode cX9_candidate 41 = .ok (.iload_n 2, 1) := by decide +kernel
theorem dX9_candidate_42 : decode cX9_candidate 42 = .ok (.iconst 3, 1) := by decide +kernel
theorem dX9_candidate_43 : decode cX9_candidate 43 = .ok (.iload_n 3, 1) := by decide +kernel
theorem dX9_candidate_44 : decode cX9_candidate 44 = .ok (.imul, 1) := by decide +kernel
theorem dX9_candidate_45 : decode cX9_candidate 45 = .ok (.iload 4, 2) := by decide +kernel
theorem dX9_candidate_47 : decode cX9_candidate 47 = .ok (.iadd, 1) := by decide +kernel
theorem dX9_candidate_48 : decode cX9_candidate 48 = .ok (.invokevirtual 102, 3) := by decide +kernel
theorem dX9_candidate_51 : decode cX9_candidate 51 = .ok (.istore 6, 2) := by decide +kernel
theorem dX9_candidate_53 : decode cX9_candidate 53 = .ok (.iconst 0, 1) := by decide +kernel
theorem dX9_candidate_54 : decode cX9_candidate 54 = .ok (.istore 7, 2) := by decide +kernel
theorem dX9_candidate_56 : decode cX9_candidate 56 = .ok (.iconst 0, 1) := by decide +kernel
theorem dX9_candidate_57 : decode cX9_candidate 57 = .ok (.istore 8, 2) := by decide +kernel
theorem dX9_candidate_59 : decode cX9_candidate 59 = .ok (.iload 8, 2) := by decide +kernel
theorem dX9_candidate_61 : decode cX9_candidate 61 = .ok (.sipush 400, 3) := by decide +kernel
theorem dX9_candidate_64 : decode cX9_candidate 64 = .ok (.if_icmp .ge 134, 3) := by decide +kernel
theorem dX9_candidate_67 : decode cX9_candidate 67 = .ok (.iload 8, 2) := by decide +kernel
theorem dX9_candidate_69 : decode cX9_candidate 69 = .ok (.sipush 200, 3) := by decide +kernel
theorem dX9_candidate_72 : decode cX9_candidate 72 = .ok (.irem, 1) := by decide +kernel
theorem dX9_candidate_73 : decode cX9_candidate 73 = .ok (.istore 9, 2) := by decide +kernel
theorem dX9_candidate_75 : decode cX9_candidate 75 = .ok (.aload_n 0, 1) := by decide +kernel
theorem dX9_candidate_76 : decode cX9_candidate 76 = .ok (.iload_n 1, 1) := by decide +kernel
theorem dX9_candidate_77 : decode cX9_candidate 77 = .ok (.iload_n 2, 1) := by decide +kernel
theorem dX9_candidate_78 : decode cX9_candidate 78 = .ok (.iconst 3, 1) := by decide +kernel
theorem dX9_candidate_79 : decode cX9_candidate 79 = .ok (.iload_n 3, 1) := by decide +kernel
theorem dX9_candidate_80 : decode cX9_candidate 80 = .ok (.imul, 1) := by decide +kernel
theorem dX9_candidate_81 : decode cX9_candidate 81 = .ok (.iload 4, 2) := by decide +kernel
theorem dX9_candidate_83 : decode cX9_candidate 83 = .ok (.iadd, 1) := by decide +kernel
theorem dX9_candidate_84 : decode cX9_candidate 84 = .ok (.iload 9, 2) := by decide +kernel
theorem dX9_candidate_86 : decode cX9_candidate 86 = .ok (.invokevirtual 99, 3) := by decide +kernel
theorem dX9_candidate_89 : decode cX9_candidate 89 = .ok (.ifCond .eq 40, 3) := by decide +kernel
theorem dX9_candidate_92 : decode cX9_candidate 92 = .ok (.aload_n 0, 1) := by decide +kernel
theorem dX9_candidate_93 : decode cX9_candidate 93 = .ok (.getfield 25, 3) := by decide +kernel
theorem dX9_candidate_96 : decode cX9_candidate 96 = .ok (.iload 9, 2) := by decide +kernel
theorem dX9_candidate_98 : decode cX9_candidate 98 = .ok (.iaload, 1) := by decide +kernel
theorem dX9_candidate_99 : decode cX9_candidate 99 = .ok (.iload 6, 2) := by decide +kernel
theorem dX9_candidate_101 : decode cX9_candidate 101 = .ok (.if_icmp .ne 7, 3) := by decide +kernel
theorem dX9_candidate_104 : decode cX9_candidate 104 = .ok (.iconst 1, 1) := by decide +kernel
theorem dX9_candidate_105 : decode cX9_candidate 105 = .ok (.goto 4, 3) := by decide +kernel
theorem dX9_candidate_108 : decode cX9_candidate 108 = .ok (.iconst 0, 1) := by decide +kernel
theorem dX9_candidate_109 : decode cX9_candidate 109 = .ok (.iload 8, 2) := by decide +kernel
theorem dX9_candidate_111 : decode cX9_candidate 111 = .ok (.sipush 200, 3) := by decide +kernel
theorem dX9_candidate_114 : decode cX9_candidate 114 = .ok (.if_icmp .ge 7, 3) := by decide +kernel
theorem dX9_candidate_117 : decode cX9_candidate 117 = .ok (.iconst 1, 1) := by decide +kernel
theorem dX9_candidate_118 : decode cX9_candidate 118 = .ok (.goto 4, 3) := by decide +kernel
theorem dX9_candidate_121 : decode cX9_candidate 121 = .ok (.iconst 0, 1) := by decide +kernel
theorem dX9_candidate_122 : decode cX9_candidate 122 = .ok (.if_icmp .ne 7, 3) := by decide +kernel
theorem dX9_candidate_125 : decode cX9_candidate 125 = .ok (.iconst 1, 1) := by decide +kernel
theorem dX9_candidate_126 : decode cX9_candidate 126 = .ok (.goto 4, 3) := by decide +kernel
theorem dX9_candidate_129 : decode cX9_candidate 129 = .ok (.iconst 0, 1) := by decide +kernel
theorem dX9_candidate_130 : decode cX9_candidate 130 = .ok (.istore 10, 2) := by decide +kernel
theorem dX9_candidate_132 : decode cX9_candidate 132 = .ok (.iload 10, 2) := by decide +kernel
theorem dX9_candidate_134 : decode cX9_candidate 134 = .ok (.ifCond .eq 43, 3) := by decide +kernel
theorem dX9_candidate_137 : decode cX9_candidate 137 = .ok (.iload 7, 2) := by decide +kernel
theorem dX9_candidate_139 : decode cX9_candidate 139 = .ok (.iload 5, 2) := by decide +kernel
theorem dX9_candidate_141 : decode cX9_candidate 141 = .ok (.if_icmp .ne 36, 3) := by decide +kernel
theorem dX9_candidate_144 : decode cX9_candidate 144 = .ok (.bipush 100, 2) := by decide +kernel
theorem dX9_candidate_146 : decode cX9_candidate 146 = .ok (.iload 9, 2) := by decide +kernel
theorem dX9_candidate_148 : decode cX9_candidate 148 = .ok (.bipush 40, 2) := by decide +kernel
theorem dX9_candidate_150 : decode cX9_candidate 150 = .ok (.idiv, 1) := by decide +kernel
theorem dX9_candidate_151 : decode cX9_candidate 151 = .ok (.imul, 1) := by decide +kernel
theorem dX9_candidate_152 : decode cX9_candidate 152 = .ok (.iload 9, 2) := by decide +kernel
theorem dX9_candidate_154 : decode cX9_candidate 154 = .ok (.bipush 40, 2) := by decide +kernel
theorem dX9_candidate_156 : decode cX9_candidate 156 = .ok (.irem, 1) := by decide +kernel
theorem dX9_candidate_157 : decode cX9_candidate 157 = .ok (.iadd, 1) := by decide +kernel
theorem dX9_candidate_158 : decode cX9_candidate 158 = .ok (.iconst 1, 1) := by decide +kernel
theorem dX9_candidate_159 : decode cX9_candidate 159 = .ok (.iadd, 1) := by decide +kernel
theorem dX9_candidate_160 : decode cX9_candidate 160 = .ok (.iload 8, 2) := by decide +kernel
theorem dX9_candidate_162 : decode cX9_candidate 162 = .ok (.sipush 200, 3) := by decide +kernel
theorem dX9_candidate_165 : decode cX9_candidate 165 = .ok (.if_icmp .ge 7, 3) := by decide +kernel
theorem dX9_candidate_168 : decode cX9_candidate 168 = .ok (.iconst 0, 1) := by decide +kernel
theorem dX9_candidate_169 : decode cX9_candidate 169 = .ok (.goto 6, 3) := by decide +kernel
theorem dX9_candidate_172 : decode cX9_candidate 172 = .ok (.sipush 1000, 3) := by decide +kernel
theorem dX9_candidate_175 : decode cX9_candidate 175 = .ok (.iadd, 1) := by decide +kernel
theorem dX9_candidate_176 : decode cX9_candidate 176 = .ok (.ireturn, 1) := by decide +kernel
theorem dX9_candidate_177 : decode cX9_candidate 177 = .ok (.iload 7, 2) := by decide +kernel
theorem dX9_candidate_179 : decode cX9_candidate 179 = .ok (.iload 10, 2) := by decide +kernel
theorem dX9_candidate_181 : decode cX9_candidate 181 = .ok (.ifCond .eq 7, 3) := by decide +kernel
theorem dX9_candidate_184 : decode cX9_candidate 184 = .ok (.iconst 1, 1) := by decide +kernel
theorem dX9_candidate_185 : decode cX9_candidate 185 = .ok (.goto 4, 3) := by decide +kernel
theorem dX9_candidate_188 : decode cX9_candidate 188 = .ok (.iconst 0, 1) := by decide +kernel
theorem dX9_candidate_189 : decode cX9_candidate 189 = .ok (.iadd, 1) := by decide +kernel
theorem dX9_candidate_190 : decode cX9_candidate 190 = .ok (.istore 7, 2) := by decide +kernel
theorem dX9_candidate_192 : decode cX9_candidate 192 = .ok (.iinc 8 1, 3) := by decide +kernel
theorem dX9_candidate_195 : decode cX9_candidate 195 = .ok (.goto (-136), 3) := by decide +kernel
theorem dX9_candidate_198 : decode cX9_candidate 198 = .ok (.iconst (-1), 1) := by decide +kernel
theorem dX9_candidate_199 : decode cX9_candidate 199 = .ok (.ireturn, 1) := by decide +kernel
