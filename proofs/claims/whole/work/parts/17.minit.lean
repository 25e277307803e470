theorem tg_25 : (Cond.instanceMethod ({ cls := "java/lang/Object", name := "<init>", desc := "()V" } : Jvm.MethodName)) ∈ lw_g := lw_gi (List.mem_of_getElem? (i := 25) (by decide +kernel)) rfl
theorem tg_26 : (Cond.code ({ cls := "java/lang/Object", name := "<init>", desc := "()V" } : Jvm.MethodName) object_method_1_code (1 : Nat) (Option.none : Option FieldType)) ∈ lw_g := lw_gi (List.mem_of_getElem? (i := 26) (by decide +kernel)) rfl
theorem tg_51 : (Cond.arrayClass FieldType.int) ∈ lw_g := lw_gi (List.mem_of_getElem? (i := 51) (by decide +kernel)) rfl
theorem tg_637 : (Cond.methodLink "ForestTabletsModel" (1 : Nat) ({ cls := "java/lang/Object", name := "<init>", desc := "()V" } : Jvm.MethodName)) ∈ lw_g := lw_gi (List.mem_of_getElem? (i := 637) (by decide +kernel)) rfl
abbrev cX9_init : ByteArray := prog_11_method_1_code
def yX9_init : MethodName := ⟨RX9, "<init>", "()V"⟩
def wsX9_init : List Cond := .code yX9_init cX9_init 1 none :: lw_g
theorem dX9_init_0 : decode cX9_init 0 = .ok (.aload_n 0, 1) := by decide +kernel
theorem dX9_init_1 : decode cX9_init 1 = .ok (.invokespecial 1, 3) := by decide +kernel
theorem dX9_init_4 : decode cX9_init 4 = .ok (.aload_n 0, 1) := by decide +kernel
theorem dX9_init_5 : decode cX9_init 5 = .ok (.iconst 5, 1) := by decide +kernel
theorem dX9_init_6 : decode cX9_init 6 = .ok (.newarray .int, 2) := by decide +kernel
theorem dX9_init_8 : decode cX9_init 8 = .ok (.putfield 7, 3) := by decide +kernel
theorem dX9_init_11 : decode cX9_init 11 = .ok (.aload_n 0, 1) := by decide +kernel
theorem dX9_init_12 : decode cX9_init 12 = .ok (.sipush 200, 3) := by decide +kernel
theorem dX9_init_15 : decode cX9_init 15 = .ok (.newarray .int, 2) := by decide +kernel
theorem dX9_init_17 : decode cX9_init 17 = .ok (.putfield 13, 3) := by decide +kernel
theorem dX9_init_20 : decode cX9_init 20 = .ok (.aload_n 0, 1) := by decide +kernel
theorem dX9_init_21 : decode cX9_init 21 = .ok (.sipush 200, 3) := by decide +kernel
theorem dX9_init_24 : decode cX9_init 24 = .ok (.newarray .int, 2) := by decide +kernel
theorem dX9_init_26 : decode cX9_init 26 = .ok (.putfield 16, 3) := by decide +kernel
theorem dX9_init_29 : decode cX9_init 29 = .ok (.aload_n 0, 1) := by decide +kernel
theorem dX9_init_30 : decode cX9_init 30 = .ok (.sipush 200, 3) := by decide +kernel
theorem dX9_init_33 : decode cX9_init 33 = .ok (.newarray .int, 2) := by decide +kernel
theorem dX9_init_35 : decode cX9_init 35 = .ok (.putfield 19, 3) := by decide +kernel
theorem dX9_init_38 : decode cX9_init 38 = .ok (.aload_n 0, 1) := by decide +kernel
theorem dX9_init_39 : decode cX9_init 39 = .ok (.sipush 200, 3) := by decide +kernel
theorem dX9_init_42 : decode cX9_init 42 = .ok (.newarray .int, 2) := by decide +kernel
theorem dX9_init_44 : decode cX9_init 44 = .ok (.putfield 22, 3) := by decide +kernel
theorem dX9_init_47 : decode cX9_init 47 = .ok (.aload_n 0, 1) := by decide +kernel
theorem dX9_init_48 : decode cX9_init 48 = .ok (.sipush 200, 3) := by decide +kernel
theorem dX9_init_51 : decode cX9_init 51 = .ok (.newarray .int, 2) := by decide +kernel
theorem dX9_init_53 : decode cX9_init 53 = .ok (.putfield 25, 3) := by decide +kernel
theorem dX9_init_56 : decode cX9_init 56 = .ok (.aload_n 0, 1) := by decide +kernel
theorem dX9_init_57 : decode cX9_init 57 = .ok (.sipush 1000, 3) := by decide +kernel
theorem dX9_init_60 : decode cX9_init 60 = .ok (.newarray .int, 2) := by decide +kernel
theorem dX9_init_62 : decode cX9_init 62 = .ok (.putfield 28, 3) := by decide +kernel
theorem dX9_init_65 : decode cX9_init 65 = .ok (.aload_n 0, 1) := by decide +kernel
theorem dX9_init_66 : decode cX9_init 66 = .ok (.bipush 25, 2) := by decide +kernel
theorem dX9_init_68 : decode cX9_init 68 = .ok (.newarray .int, 2) := by decide +kernel
theorem dX9_init_70 : decode cX9_init 70 = .ok (.putfield 31, 3) := by decide +kernel
theorem dX9_init_73 : decode cX9_init 73 = .ok (.aload_n 0, 1) := by decide +kernel
theorem dX9_init_74 : decode cX9_init 74 = .ok (.bipush 25, 2) := by decide +kernel
theorem dX9_init_76 : decode cX9_init 76 = .ok (.newarray .int, 2) := by decide +kernel
theorem dX9_init_78 : decode cX9_init 78 = .ok (.putfield 34, 3) := by decide +kernel
theorem dX9_init_81 : decode cX9_init 81 = .ok (.aload_n 0, 1) := by decide +kernel
theorem dX9_init_82 : decode cX9_init 82 = .ok (.iconst (-1), 1) := by decide +kernel
theorem dX9_init_83 : decode cX9_init 83 = .ok (.putfield 37, 3) := by decide +kernel
theorem dX9_init_86 : decode cX9_init 86 = .ok (.aload_n 0, 1) := by decide +kernel
theorem dX9_init_87 : decode cX9_init 87 = .ok (.iconst (-1), 1) := by decide +kernel
theorem dX9_init_88 : decode cX9_init 88 = .ok (.putfield 41, 3) := by decide +kernel
theorem dX9_init_91 : decode cX9_init 91 = .ok (.aload_n 0, 1) := by decide +kernel
theorem dX9_init_92 : decode cX9_init 92 = .ok (.iconst 4, 1) := by decide +kernel
theorem dX9_init_93 : decode cX9_init 93 = .ok (.newarray .int, 2) := by decide +kernel
theorem dX9_init_95 : decode cX9_init 95 = .ok (.dup, 1) := by decide +kernel
theorem dX9_init_96 : decode cX9_init 96 = .ok (.iconst 0, 1) := by decide +kernel
theorem dX9_init_97 : decode cX9_init 97 = .ok (.bipush 50, 2) := by decide +kernel
theorem dX9_init_99 : decode cX9_init 99 = .ok (.iastore, 1) := by decide +kernel
theorem dX9_init_100 : decode cX9_init 100 = .ok (.dup, 1) := by decide +kernel
theorem dX9_init_101 : decode cX9_init 101 = .ok (.iconst 1, 1) := by decide +kernel
theorem dX9_init_102 : decode cX9_init 102 = .ok (.bipush 50, 2) := by decide +kernel
theorem dX9_init_104 : decode cX9_init 104 = .ok (.iastore, 1) := by decide +kernel
theorem dX9_init_105 : decode cX9_init 105 = .ok (.dup, 1) := by decide +kernel
theorem dX9_init_106 : decode cX9_init 106 = .ok (.iconst 2, 1) := by decide +kernel
theorem dX9_init_107 : decode cX9_init 107 = .ok (.bipush 50, 2) := by decide +kernel
theorem dX9_init_109 : decode cX9_init 109 = .ok (.iastore, 1) := by decide +kernel
theorem dX9_init_110 : decode cX9_init 110 = .ok (.dup, 1) := by decide +kernel
theorem dX9_init_111 : decode cX9_init 111 = .ok (.iconst 3, 1) := by decide +kernel
theorem dX9_init_112 : decode cX9_init 112 = .ok (.bipush 50, 2) := by decide +kernel
theorem dX9_init_114 : decode cX9_init 114 = .ok (.iastore, 1) := by decide +kernel
theorem dX9_init_115 : decode cX9_init 115 = .ok (.putfield 44, 3) := by decide +kernel
theorem dX9_init_118 : decode cX9_init 118 = .ok (.aload_n 0, 1) := by decide +kernel
theorem dX9_init_119 : decode cX9_init 119 = .ok (.iconst 4, 1) := by decide +kernel
theorem dX9_init_120 : decode cX9_init 120 = .ok (.newarray .int, 2) := by decide +kernel
theorem dX9_init_122 : decode cX9_init 122 = .ok (.dup, 1) := by decide +kernel
theorem dX9_init_123 : decode cX9_init 123 = .ok (.iconst 0, 1) := by decide +kernel
theorem dX9_init_124 : decode cX9_init 124 = .ok (.bipush 20, 2) := by decide +kernel
theorem dX9_init_126 : decode cX9_init 126 = .ok (.iastore, 1) := by decide +kernel
theorem dX9_init_127 : decode cX9_init 127 = .ok (.dup, 1) := by decide +kernel
theorem dX9_init_128 : decode cX9_init 128 = .ok (.iconst 1, 1) := by decide +kernel
theorem dX9_init_129 : decode cX9_init 129 = .ok (.bipush 20, 2) := by decide +kernel
theorem dX9_init_131 : decode cX9_init 131 = .ok (.iastore, 1) := by decide +kernel
theorem dX9_init_132 : decode cX9_init 132 = .ok (.dup, 1) := by decide +kernel
theorem dX9_init_133 : decode cX9_init 133 = .ok (.iconst 2, 1) := by decide +kernel
theorem dX9_init_134 : decode cX9_init 134 = .ok (.bipush 20, 2) := by decide +kernel
theorem dX9_init_136 : decode cX9_init 136 = .ok (.iastore, 1) := by decide +kernel
theorem dX9_init_137 : decode cX9_init 137 = .ok (.dup, 1) := by decide +kernel
theorem dX9_init_138 : decode cX9_init 138 = .ok (.iconst 3, 1) := by decide +kernel
theorem dX9_init_139 : decode cX9_init 139 = .ok (.bipush 20, 2) := by decide +kernel
theorem dX9_init_141 : decode cX9_init 141 = .ok (.iastore, 1) := by decide +kernel
theorem dX9_init_142 : decode cX9_init 142 = .ok (.putfield 47, 3) := by decide +kernel
theorem dX9_init_145 : decode cX9_init 145 = .ok (.aload_n 0, 1) := by decide +kernel
theorem dX9_init_146 : decode cX9_init 146 = .ok (.iconst 4, 1) := by decide +kernel
theorem dX9_init_147 : decode cX9_init 147 = .ok (.newarray .int, 2) := by decide +kernel
theorem dX9_init_149 : decode cX9_init 149 = .ok (.dup, 1) := by decide +kernel
theorem dX9_init_150 : decode cX9_init 150 = .ok (.iconst 0, 1) := by decide +kernel
theorem dX9_init_151 : decode cX9_init 151 = .ok (.sipush 200, 3) := by decide +kernel
theorem dX9_init_154 : decode cX9_init 154 = .ok (.iastore, 1) := by decide +kernel
theorem dX9_init_155 : decode cX9_init 155 = .ok (.dup, 1) := by decide +kernel
theorem dX9_init_156 : decode cX9_init 156 = .ok (.iconst 1, 1) := by decide +kernel
theorem dX9_init_157 : decode cX9_init 157 = .ok (.sipush 200, 3) := by decide +kernel
theorem dX9_init_160 : decode cX9_init 160 = .ok (.iastore, 1) := by decide +kernel
theorem dX9_init_161 : decode cX9_init 161 = .ok (.dup, 1) := by decide +kernel
theorem dX9_init_162 : decode cX9_init 162 = .ok (.iconst 2, 1) := by decide +kernel
theorem dX9_init_163 : decode cX9_init 163 = .ok (.sipush 200, 3) := by decide +kernel
theorem dX9_init_166 : decode cX9_init 166 = .ok (.iastore, 1) := by decide +kernel
theorem dX9_init_167 : decode cX9_init 167 = .ok (.dup, 1) := by decide +kernel
theorem dX9_init_168 : decode cX9_init 168 = .ok (.iconst 3, 1) := by decide +kernel
theorem dX9_init_169 : decode cX9_init 169 = .ok (.sipush 200, 3) := by decide +kernel
theorem dX9_init_172 : decode cX9_init 172 = .ok (.iastore, 1) := by decide +kernel
theorem dX9_init_173 : decode cX9_init 173 = .ok (.putfield 50, 3) := by decide +kernel
theorem dX9_init_176 : decode cX9_init 176 = .ok (.aload_n 0, 1) := by decide +kernel
theorem dX9_init_177 : decode cX9_init 177 = .ok (.bipush 6, 2) := by decide +kernel
theorem dX9_init_179 : decode cX9_init 179 = .ok (.newarray .int, 2) := by decide +kernel
theorem dX9_init_181 : decode cX9_init 181 = .ok (.putfield 53, 3) := by decide +kernel
theorem dX9_init_184 : decode cX9_init 184 = .ok (.return_, 1) := by decide +kernel
def md_q0 : tb_Q := fun r i => match r with
  | 9 => if i < 4 then 50 else 0
  | 10 => if i < 4 then 20 else 0
  | 11 => if i < 4 then 200 else 0
  | _ => 0
def md_ad (a : Nat) (l : List Nat) (i : Nat) : Nat := if i = 13 then a else l.getD i 0
theorem md_u4 (v : Nat) : upd (upd (upd (upd (fun _ => (0 : Int32)) 0 (nI v)) 1 (nI v)) 2 (nI v)) 3 (nI v) = fun j => nI (if j < 4 then v else 0) := by
  funext j
  by_cases h3 : j = 3
  · subst h3; rw [pk_us]; rfl
  · rw [pk_un h3]
    by_cases h2 : j = 2
    · subst h2; rw [pk_us]; rfl
    · rw [pk_un h2]
      by_cases h1 : j = 1
      · subst h1; rw [pk_us]; rfl
      · rw [pk_un h1]
        by_cases h0 : j = 0
        · subst h0; rw [pk_us]; rfl
        · rw [pk_un h0, if_neg (by omega)]; rfl
theorem md_init {κ : Nat → ClassId} {σ : um_M} {a q1 q2 q3 q4 q5 q6 q7 q8 q9 q10 q11 q12 q13 : Nat} (hs : um_hs σ [(a, .inr (9, [.int 0, .ref q1, .ref q2, .ref q3, .ref q4, .ref q5, .ref q6, .ref q7, .ref q8, .ref q9, .int (-1), .int (-1), .ref q10, .ref q11, .ref q12, .ref q13])), (q1, .inl (κ 0, 5, .inl (fun _ => 0))), (q2, .inl (κ 0, 200, .inl (fun _ => 0))), (q3, .inl (κ 0, 200, .inl (fun _ => 0))), (q4, .inl (κ 0, 200, .inl (fun _ => 0))), (q5, .inl (κ 0, 200, .inl (fun _ => 0))), (q6, .inl (κ 0, 200, .inl (fun _ => 0))), (q7, .inl (κ 0, 1000, .inl (fun _ => 0))), (q8, .inl (κ 0, 25, .inl (fun _ => 0))), (q9, .inl (κ 0, 25, .inl (fun _ => 0))), (q10, .inl (κ 0, 4, .inl (upd (upd (upd (upd (fun _ => 0) 0 (nI 50)) 1 (nI 50)) 2 (nI 50)) 3 (nI 50)))), (q11, .inl (κ 0, 4, .inl (upd (upd (upd (upd (fun _ => 0) 0 (nI 20)) 1 (nI 20)) 2 (nI 20)) 3 (nI 20)))), (q12, .inl (κ 0, 4, .inl (upd (upd (upd (upd (fun _ => 0) 0 (nI 200)) 1 (nI 200)) 2 (nI 200)) 3 (nI 200)))), (q13, .inl (κ 0, 6, .inl (fun _ => 0)))]) : md_at κ σ (md_ad a [q1, q2, q3, q4, q5, q6, q7, q8, q9, q10, q11, q12, q13]) md_q0 0 := by
  refine ⟨fun i hi => ?_, ?_, fun i j hi hj e => ?_⟩
  · have h13 : i = 0 ∨ i = 1 ∨ i = 2 ∨ i = 3 ∨ i = 4 ∨ i = 5 ∨ i = 6 ∨ i = 7 ∨ i = 8 ∨ i = 9 ∨ i = 10 ∨ i = 11 ∨ i = 12 := by omega
    rcases h13 with rfl | rfl | rfl | rfl | rfl | rfl | rfl | rfl | rfl | rfl | rfl | rfl | rfl
    · exact hs.at 1 rfl
    · exact hs.at 2 rfl
    · exact hs.at 3 rfl
    · exact hs.at 4 rfl
    · exact hs.at 5 rfl
    · exact hs.at 6 rfl
    · exact hs.at 7 rfl
    · exact hs.at 8 rfl
    · exact hs.at 9 rfl
    · have h1 := hs.at 10 rfl
      rw [md_u4] at h1
      exact h1
    · have h1 := hs.at 11 rfl
      rw [md_u4] at h1
      exact h1
    · have h1 := hs.at 12 rfl
      rw [md_u4] at h1
      exact h1
    · exact hs.at 13 rfl
  · exact hs.at 0 rfl
  · have key : ∀ k, k < 13 → ∃ e9, ([(a, .inr (9, [.int 0, .ref q1, .ref q2, .ref q3, .ref q4, .ref q5, .ref q6, .ref q7, .ref q8, .ref q9, .int (-1), .int (-1), .ref q10, .ref q11, .ref q12, .ref q13])), (q1, .inl (κ 0, 5, .inl (fun _ => 0))), (q2, .inl (κ 0, 200, .inl (fun _ => 0))), (q3, .inl (κ 0, 200, .inl (fun _ => 0))), (q4, .inl (κ 0, 200, .inl (fun _ => 0))), (q5, .inl (κ 0, 200, .inl (fun _ => 0))), (q6, .inl (κ 0, 200, .inl (fun _ => 0))), (q7, .inl (κ 0, 1000, .inl (fun _ => 0))), (q8, .inl (κ 0, 25, .inl (fun _ => 0))), (q9, .inl (κ 0, 25, .inl (fun _ => 0))), (q10, .inl (κ 0, 4, .inl (upd (upd (upd (upd (fun _ => 0) 0 (nI 50)) 1 (nI 50)) 2 (nI 50)) 3 (nI 50)))), (q11, .inl (κ 0, 4, .inl (upd (upd (upd (upd (fun _ => 0) 0 (nI 20)) 1 (nI 20)) 2 (nI 20)) 3 (nI 20)))), (q12, .inl (κ 0, 4, .inl (upd (upd (upd (upd (fun _ => 0) 0 (nI 200)) 1 (nI 200)) 2 (nI 200)) 3 (nI 200)))), (q13, .inl (κ 0, 6, .inl (fun _ => 0)))] : List (Nat × va_E))[k + 1]? = some (md_ad a [q1, q2, q3, q4, q5, q6, q7, q8, q9, q10, q11, q12, q13] k, e9) := by
      intro k hk
      have h13 : k = 0 ∨ k = 1 ∨ k = 2 ∨ k = 3 ∨ k = 4 ∨ k = 5 ∨ k = 6 ∨ k = 7 ∨ k = 8 ∨ k = 9 ∨ k = 10 ∨ k = 11 ∨ k = 12 := by omega
      rcases h13 with rfl | rfl | rfl | rfl | rfl | rfl | rfl | rfl | rfl | rfl | rfl | rfl | rfl <;> exact ⟨_, rfl⟩
    obtain ⟨e1, h1⟩ := key i hi
    obtain ⟨e2, h2⟩ := key j hj
    have := hs.2 (i + 1) (j + 1) _ _ h1 h2 e
    omega
set_option maxRecDepth 100000 in
set_option maxHeartbeats 4000000 in
theorem mm_init (l : Launch) (D : va_G) (κ : Nat → ClassId) (τ : Nat → Nat) (A : Nat → Prop) (σ : um_M) (a : Nat) (hs : um_hs σ [(a, .inr (9, [.int 0, .null, .null, .null, .null, .null, .null, .null, .null, .null, .int 0, .int 0, .null, .null, .null, .null]))]) : Met l yX9_init wsX9_init ({ frames := 1, cells := 13, slots := 2073, locals := 12 }) (va_Pc [.ref a] (um_U D κ τ A σ)) (va_Qv (fun σ' : um_M => ∃ md : Nat → Nat, md 13 = a ∧ md_at κ σ' md md_q0 0) (um_U D κ τ A) A) 13 2073 A := by
  refine um_met (cc := cX9_init) (maxL := 1) (ret := none) (by decide) rfl rfl ?_
  intro pp ee s mm args below meth cd ls hx hb hr hts hown hlocks hml hnm hK hJ hU hl
  have hown : s.vm.findClass RX9 = some mm.cls := hown
  have htg : ∀ w ∈ lw_g, w.before args s = true := fun w h => hts w (List.mem_cons_of_mem _ h)
  have hl : lv_has ls 1 [(0, .ref a)] := hl
  refine lv_aload_n hx hb dX9_init_0 rfl (lv_at hl 0 rfl) ?_
  refine W.objInit hx hb hown (htg _ tg_637) (htg _ tg_25) (htg _ tg_26) rfl (by rw [hml]; exact hl.1) rfl dX9_init_1 (Nat.le_of_ble_eq_true rfl) (Nat.le_of_ble_eq_true rfl) ?_
  refine W.eq (g2 := F0 mm 4 ls []) rfl ?_
  refine lv_aload_n hx hb dX9_init_4 rfl (lv_at hl 0 rfl) ?_
  refine lv_iconst (v := nI 5) hx hb dX9_init_5 (by decide +kernel) ?_
  refine uh_int hx hb (htg _ tg_51) hK hU hs (N' := 5) rfl (by decide) (Nat.le_of_ble_eq_true rfl) (Nat.le_of_ble_eq_true rfl) dX9_init_6 (fun q1 σ H hs hU => ?_)
  have hs : um_hs σ [(a, .inr (9, [.int 0, .null, .null, .null, .null, .null, .null, .null, .null, .null, .int 0, .int 0, .null, .null, .null, .null])), (q1, .inl (κ 0, 5, .inl (fun _ => 0)))] := hs
  refine uh_putF (v := .ref q1) (ty := .array .int) (fs' := [.int 0, .ref q1, .null, .null, .null, .null, .null, .null, .null, .null, .int 0, .int 0, .null, .null, .null, .null]) hx hb htg inX9 tyX9 tyX9_ok nmX9 hown hK hU hs 0 rfl rfl 1 (by decide) (htg _ tg_639) rfl hnm rfl (by decide +kernel) rfl rfl rfl (Nat.le_of_ble_eq_true rfl) dX9_init_8 (fun σ H locs hs hU => ?_)
  have hs : um_hs σ [(a, .inr (9, [.int 0, .ref q1, .null, .null, .null, .null, .null, .null, .null, .null, .int 0, .int 0, .null, .null, .null, .null])), (q1, .inl (κ 0, 5, .inl (fun _ => 0)))] := hs
  refine lv_aload_n hx hb dX9_init_11 rfl (lv_at hl 0 rfl) ?_
  refine lv_sipush (v := nI 200) hx hb dX9_init_12 (by decide +kernel) ?_
  refine uh_int hx hb (htg _ tg_51) hK hU hs (N' := 200) rfl (by decide) (Nat.le_of_ble_eq_true rfl) (Nat.le_of_ble_eq_true rfl) dX9_init_15 (fun q2 σ H hs hU => ?_)
  have hs : um_hs σ [(a, .inr (9, [.int 0, .ref q1, .null, .null, .null, .null, .null, .null, .null, .null, .int 0, .int 0, .null, .null, .null, .null])), (q1, .inl (κ 0, 5, .inl (fun _ => 0))), (q2, .inl (κ 0, 200, .inl (fun _ => 0)))] := hs
  refine uh_putF (v := .ref q2) (ty := .array .int) (fs' := [.int 0, .ref q1, .ref q2, .null, .null, .null, .null, .null, .null, .null, .int 0, .int 0, .null, .null, .null, .null]) hx hb htg inX9 tyX9 tyX9_ok nmX9 hown hK hU hs 0 rfl rfl 2 (by decide) (htg _ tg_640) rfl hnm rfl (by decide +kernel) rfl rfl rfl (Nat.le_of_ble_eq_true rfl) dX9_init_17 (fun σ H locs hs hU => ?_)
  have hs : um_hs σ [(a, .inr (9, [.int 0, .ref q1, .ref q2, .null, .null, .null, .null, .null, .null, .null, .int 0, .int 0, .null, .null, .null, .null])), (q1, .inl (κ 0, 5, .inl (fun _ => 0))), (q2, .inl (κ 0, 200, .inl (fun _ => 0)))] := hs
  refine lv_aload_n hx hb dX9_init_20 rfl (lv_at hl 0 rfl) ?_
  refine lv_sipush (v := nI 200) hx hb dX9_init_21 (by decide +kernel) ?_
  refine uh_int hx hb (htg _ tg_51) hK hU hs (N' := 200) rfl (by decide) (Nat.le_of_ble_eq_true rfl) (Nat.le_of_ble_eq_true rfl) dX9_init_24 (fun q3 σ H hs hU => ?_)
  have hs : um_hs σ [(a, .inr (9, [.int 0, .ref q1, .ref q2, .null, .null, .null, .null, .null, .null, .null, .int 0, .int 0, .null, .null, .null, .null])), (q1, .inl (κ 0, 5, .inl (fun _ => 0))), (q2, .inl (κ 0, 200, .inl (fun _ => 0))), (q3, .inl (κ 0, 200, .inl (fun _ => 0)))] := hs
  refine uh_putF (v := .ref q3) (ty := .array .int) (fs' := [.int 0, .ref q1, .ref q2, .ref q3, .null, .null, .null, .null, .null, .null, .int 0, .int 0, .null, .null, .null, .null]) hx hb htg inX9 tyX9 tyX9_ok nmX9 hown hK hU hs 0 rfl rfl 3 (by decide) (htg _ tg_641) rfl hnm rfl (by decide +kernel) rfl rfl rfl (Nat.le_of_ble_eq_true rfl) dX9_init_26 (fun σ H locs hs hU => ?_)
  have hs : um_hs σ [(a, .inr (9, [.int 0, .ref q1, .ref q2, .ref q3, .null, .null, .null, .null, .null, .null, .int 0, .int 0, .null, .null, .null, .null])), (q1, .inl (κ 0, 5, .inl (fun _ => 0))), (q2, .inl (κ 0, 200, .inl (fun _ => 0))), (q3, .inl (κ 0, 200, .inl (fun _ => 0)))] := hs
  refine lv_aload_n hx hb dX9_init_29 rfl (lv_at hl 0 rfl) ?_
  refine lv_sipush (v := nI 200) hx hb dX9_init_30 (by decide +kernel) ?_
  refine uh_int hx hb (htg _ tg_51) hK hU hs (N' := 200) rfl (by decide) (Nat.le_of_ble_eq_true rfl) (Nat.le_of_ble_eq_true rfl) dX9_init_33 (fun q4 σ H hs hU => ?_)
  have hs : um_hs σ [(a, .inr (9, [.int 0, .ref q1, .ref q2, .ref q3, .null, .null, .null, .null, .null, .null, .int 0, .int 0, .null, .null, .null, .null])), (q1, .inl (κ 0, 5, .inl (fun _ => 0))), (q2, .inl (κ 0, 200, .inl (fun _ => 0))), (q3, .inl (κ 0, 200, .inl (fun _ => 0))), (q4, .inl (κ 0, 200, .inl (fun _ => 0)))] := hs
  refine uh_putF (v := .ref q4) (ty := .array .int) (fs' := [.int 0, .ref q1, .ref q2, .ref q3, .ref q4, .null, .null, .null, .null, .null, .int 0, .int 0, .null, .null, .null, .null]) hx hb htg inX9 tyX9 tyX9_ok nmX9 hown hK hU hs 0 rfl rfl 4 (by decide) (htg _ tg_642) rfl hnm rfl (by decide +kernel) rfl rfl rfl (Nat.le_of_ble_eq_true rfl) dX9_init_35 (fun σ H locs hs hU => ?_)
  have hs : um_hs σ [(a, .inr (9, [.int 0, .ref q1, .ref q2, .ref q3, .ref q4, .null, .null, .null, .null, .null, .int 0, .int 0, .null, .null, .null, .null])), (q1, .inl (κ 0, 5, .inl (fun _ => 0))), (q2, .inl (κ 0, 200, .inl (fun _ => 0))), (q3, .inl (κ 0, 200, .inl (fun _ => 0))), (q4, .inl (κ 0, 200, .inl (fun _ => 0)))] := hs
  refine lv_aload_n hx hb dX9_init_38 rfl (lv_at hl 0 rfl) ?_
  refine lv_sipush (v := nI 200) hx hb dX9_init_39 (by decide +kernel) ?_
  refine uh_int hx hb (htg _ tg_51) hK hU hs (N' := 200) rfl (by decide) (Nat.le_of_ble_eq_true rfl) (Nat.le_of_ble_eq_true rfl) dX9_init_42 (fun q5 σ H hs hU => ?_)
  have hs : um_hs σ [(a, .inr (9, [.int 0, .ref q1, .ref q2, .ref q3, .ref q4, .null, .null, .null, .null, .null, .int 0, .int 0, .null, .null, .null, .null])), (q1, .inl (κ 0, 5, .inl (fun _ => 0))), (q2, .inl (κ 0, 200, .inl (fun _ => 0))), (q3, .inl (κ 0, 200, .inl (fun _ => 0))), (q4, .inl (κ 0, 200, .inl (fun _ => 0))), (q5, .inl (κ 0, 200, .inl (fun _ => 0)))] := hs
  refine uh_putF (v := .ref q5) (ty := .array .int) (fs' := [.int 0, .ref q1, .ref q2, .ref q3, .ref q4, .ref q5, .null, .null, .null, .null, .int 0, .int 0, .null, .null, .null, .null]) hx hb htg inX9 tyX9 tyX9_ok nmX9 hown hK hU hs 0 rfl rfl 5 (by decide) (htg _ tg_643) rfl hnm rfl (by decide +kernel) rfl rfl rfl (Nat.le_of_ble_eq_true rfl) dX9_init_44 (fun σ H locs hs hU => ?_)
  have hs : um_hs σ [(a, .inr (9, [.int 0, .ref q1, .ref q2, .ref q3, .ref q4, .ref q5, .null, .null, .null, .null, .int 0, .int 0, .null, .null, .null, .null])), (q1, .inl (κ 0, 5, .inl (fun _ => 0))), (q2, .inl (κ 0, 200, .inl (fun _ => 0))), (q3, .inl (κ 0, 200, .inl (fun _ => 0))), (q4, .inl (κ 0, 200, .inl (fun _ => 0))), (q5, .inl (κ 0, 200, .inl (fun _ => 0)))] := hs
  refine lv_aload_n hx hb dX9_init_47 rfl (lv_at hl 0 rfl) ?_
  refine lv_sipush (v := nI 200) hx hb dX9_init_48 (by decide +kernel) ?_
  refine uh_int hx hb (htg _ tg_51) hK hU hs (N' := 200) rfl (by decide) (Nat.le_of_ble_eq_true rfl) (Nat.le_of_ble_eq_true rfl) dX9_init_51 (fun q6 σ H hs hU => ?_)
  have hs : um_hs σ [(a, .inr (9, [.int 0, .ref q1, .ref q2, .ref q3, .ref q4, .ref q5, .null, .null, .null, .null, .int 0, .int 0, .null, .null, .null, .null])), (q1, .inl (κ 0, 5, .inl (fun _ => 0))), (q2, .inl (κ 0, 200, .inl (fun _ => 0))), (q3, .inl (κ 0, 200, .inl (fun _ => 0))), (q4, .inl (κ 0, 200, .inl (fun _ => 0))), (q5, .inl (κ 0, 200, .inl (fun _ => 0))), (q6, .inl (κ 0, 200, .inl (fun _ => 0)))] := hs
  refine uh_putF (v := .ref q6) (ty := .array .int) (fs' := [.int 0, .ref q1, .ref q2, .ref q3, .ref q4, .ref q5, .ref q6, .null, .null, .null, .int 0, .int 0, .null, .null, .null, .null]) hx hb htg inX9 tyX9 tyX9_ok nmX9 hown hK hU hs 0 rfl rfl 6 (by decide) (htg _ tg_644) rfl hnm rfl (by decide +kernel) rfl rfl rfl (Nat.le_of_ble_eq_true rfl) dX9_init_53 (fun σ H locs hs hU => ?_)
  have hs : um_hs σ [(a, .inr (9, [.int 0, .ref q1, .ref q2, .ref q3, .ref q4, .ref q5, .ref q6, .null, .null, .null, .int 0, .int 0, .null, .null, .null, .null])), (q1, .inl (κ 0, 5, .inl (fun _ => 0))), (q2, .inl (κ 0, 200, .inl (fun _ => 0))), (q3, .inl (κ 0, 200, .inl (fun _ => 0))), (q4, .inl (κ 0, 200, .inl (fun _ => 0))), (q5, .inl (κ 0, 200, .inl (fun _ => 0))), (q6, .inl (κ 0, 200, .inl (fun _ => 0)))] := hs
  refine lv_aload_n hx hb dX9_init_56 rfl (lv_at hl 0 rfl) ?_
  refine lv_sipush (v := nI 1000) hx hb dX9_init_57 (by decide +kernel) ?_
  refine uh_int hx hb (htg _ tg_51) hK hU hs (N' := 1000) rfl (by decide) (Nat.le_of_ble_eq_true rfl) (Nat.le_of_ble_eq_true rfl) dX9_init_60 (fun q7 σ H hs hU => ?_)
  have hs : um_hs σ [(a, .inr (9, [.int 0, .ref q1, .ref q2, .ref q3, .ref q4, .ref q5, .ref q6, .null, .null, .null, .int 0, .int 0, .null, .null, .null, .null])), (q1, .inl (κ 0, 5, .inl (fun _ => 0))), (q2, .inl (κ 0, 200, .inl (fun _ => 0))), (q3, .inl (κ 0, 200, .inl (fun _ => 0))), (q4, .inl (κ 0, 200, .inl (fun _ => 0))), (q5, .inl (κ 0, 200, .inl (fun _ => 0))), (q6, .inl (κ 0, 200, .inl (fun _ => 0))), (q7, .inl (κ 0, 1000, .inl (fun _ => 0)))] := hs
  refine uh_putF (v := .ref q7) (ty := .array .int) (fs' := [.int 0, .ref q1, .ref q2, .ref q3, .ref q4, .ref q5, .ref q6, .ref q7, .null, .null, .int 0, .int 0, .null, .null, .null, .null]) hx hb htg inX9 tyX9 tyX9_ok nmX9 hown hK hU hs 0 rfl rfl 7 (by decide) (htg _ tg_645) rfl hnm rfl (by decide +kernel) rfl rfl rfl (Nat.le_of_ble_eq_true rfl) dX9_init_62 (fun σ H locs hs hU => ?_)
  have hs : um_hs σ [(a, .inr (9, [.int 0, .ref q1, .ref q2, .ref q3, .ref q4, .ref q5, .ref q6, .ref q7, .null, .null, .int 0, .int 0, .null, .null, .null, .null])), (q1, .inl (κ 0, 5, .inl (fun _ => 0))), (q2, .inl (κ 0, 200, .inl (fun _ => 0))), (q3, .inl (κ 0, 200, .inl (fun _ => 0))), (q4, .inl (κ 0, 200, .inl (fun _ => 0))), (q5, .inl (κ 0, 200, .inl (fun _ => 0))), (q6, .inl (κ 0, 200, .inl (fun _ => 0))), (q7, .inl (κ 0, 1000, .inl (fun _ => 0)))] := hs
  refine lv_aload_n hx hb dX9_init_65 rfl (lv_at hl 0 rfl) ?_
  refine lv_bipush (v := nI 25) hx hb dX9_init_66 (by decide +kernel) ?_
  refine uh_int hx hb (htg _ tg_51) hK hU hs (N' := 25) rfl (by decide) (Nat.le_of_ble_eq_true rfl) (Nat.le_of_ble_eq_true rfl) dX9_init_68 (fun q8 σ H hs hU => ?_)
  have hs : um_hs σ [(a, .inr (9, [.int 0, .ref q1, .ref q2, .ref q3, .ref q4, .ref q5, .ref q6, .ref q7, .null, .null, .int 0, .int 0, .null, .null, .null, .null])), (q1, .inl (κ 0, 5, .inl (fun _ => 0))), (q2, .inl (κ 0, 200, .inl (fun _ => 0))), (q3, .inl (κ 0, 200, .inl (fun _ => 0))), (q4, .inl (κ 0, 200, .inl (fun _ => 0))), (q5, .inl (κ 0, 200, .inl (fun _ => 0))), (q6, .inl (κ 0, 200, .inl (fun _ => 0))), (q7, .inl (κ 0, 1000, .inl (fun _ => 0))), (q8, .inl (κ 0, 25, .inl (fun _ => 0)))] := hs
  refine uh_putF (v := .ref q8) (ty := .array .int) (fs' := [.int 0, .ref q1, .ref q2, .ref q3, .ref q4, .ref q5, .ref q6, .ref q7, .ref q8, .null, .int 0, .int 0, .null, .null, .null, .null]) hx hb htg inX9 tyX9 tyX9_ok nmX9 hown hK hU hs 0 rfl rfl 8 (by decide) (htg _ tg_646) rfl hnm rfl (by decide +kernel) rfl rfl rfl (Nat.le_of_ble_eq_true rfl) dX9_init_70 (fun σ H locs hs hU => ?_)
  have hs : um_hs σ [(a, .inr (9, [.int 0, .ref q1, .ref q2, .ref q3, .ref q4, .ref q5, .ref q6, .ref q7, .ref q8, .null, .int 0, .int 0, .null, .null, .null, .null])), (q1, .inl (κ 0, 5, .inl (fun _ => 0))), (q2, .inl (κ 0, 200, .inl (fun _ => 0))), (q3, .inl (κ 0, 200, .inl (fun _ => 0))), (q4, .inl (κ 0, 200, .inl (fun _ => 0))), (q5, .inl (κ 0, 200, .inl (fun _ => 0))), (q6, .inl (κ 0, 200, .inl (fun _ => 0))), (q7, .inl (κ 0, 1000, .inl (fun _ => 0))), (q8, .inl (κ 0, 25, .inl (fun _ => 0)))] := hs
  refine lv_aload_n hx hb dX9_init_73 rfl (lv_at hl 0 rfl) ?_
  refine lv_bipush (v := nI 25) hx hb dX9_init_74 (by decide +kernel) ?_
  refine uh_int hx hb (htg _ tg_51) hK hU hs (N' := 25) rfl (by decide) (Nat.le_of_ble_eq_true rfl) (Nat.le_of_ble_eq_true rfl) dX9_init_76 (fun q9 σ H hs hU => ?_)
  have hs : um_hs σ [(a, .inr (9, [.int 0, .ref q1, .ref q2, .ref q3, .ref q4, .ref q5, .ref q6, .ref q7, .ref q8, .null, .int 0, .int 0, .null, .null, .null, .null])), (q1, .inl (κ 0, 5, .inl (fun _ => 0))), (q2, .inl (κ 0, 200, .inl (fun _ => 0))), (q3, .inl (κ 0, 200, .inl (fun _ => 0))), (q4, .inl (κ 0, 200, .inl (fun _ => 0))), (q5, .inl (κ 0, 200, .inl (fun _ => 0))), (q6, .inl (κ 0, 200, .inl (fun _ => 0))), (q7, .inl (κ 0, 1000, .inl (fun _ => 0))), (q8, .inl (κ 0, 25, .inl (fun _ => 0))), (q9, .inl (κ 0, 25, .inl (fun _ => 0)))] := hs
  refine uh_putF (v := .ref q9) (ty := .array .int) (fs' := [.int 0, .ref q1, .ref q2, .ref q3, .ref q4, .ref q5, .ref q6, .ref q7, .ref q8, .ref q9, .int 0, .int 0, .null, .null, .null, .null]) hx hb htg inX9 tyX9 tyX9_ok nmX9 hown hK hU hs 0 rfl rfl 9 (by decide) (htg _ tg_647) rfl hnm rfl (by decide +kernel) rfl rfl rfl (Nat.le_of_ble_eq_true rfl) dX9_init_78 (fun σ H locs hs hU => ?_)
  have hs : um_hs σ [(a, .inr (9, [.int 0, .ref q1, .ref q2, .ref q3, .ref q4, .ref q5, .ref q6, .ref q7, .ref q8, .ref q9, .int 0, .int 0, .null, .null, .null, .null])), (q1, .inl (κ 0, 5, .inl (fun _ => 0))), (q2, .inl (κ 0, 200, .inl (fun _ => 0))), (q3, .inl (κ 0, 200, .inl (fun _ => 0))), (q4, .inl (κ 0, 200, .inl (fun _ => 0))), (q5, .inl (κ 0, 200, .inl (fun _ => 0))), (q6, .inl (κ 0, 200, .inl (fun _ => 0))), (q7, .inl (κ 0, 1000, .inl (fun _ => 0))), (q8, .inl (κ 0, 25, .inl (fun _ => 0))), (q9, .inl (κ 0, 25, .inl (fun _ => 0)))] := hs
  refine lv_aload_n hx hb dX9_init_81 rfl (lv_at hl 0 rfl) ?_
  refine lv_iconst (v := -1) hx hb dX9_init_82 (by decide +kernel) ?_
  refine uh_put (v := .int (-1)) (ty := .int) (fs' := [.int 0, .ref q1, .ref q2, .ref q3, .ref q4, .ref q5, .ref q6, .ref q7, .ref q8, .ref q9, .int (-1), .int 0, .null, .null, .null, .null]) hx hb htg inX9 tyX9 tyX9_ok nmX9 hown hK hU hs 0 rfl rfl 10 (by decide) (htg _ tg_648) rfl (by decide +kernel) rfl rfl rfl (Nat.le_of_ble_eq_true rfl) dX9_init_83 (fun σ H locs hs hU => ?_)
  have hs : um_hs σ [(a, .inr (9, [.int 0, .ref q1, .ref q2, .ref q3, .ref q4, .ref q5, .ref q6, .ref q7, .ref q8, .ref q9, .int (-1), .int 0, .null, .null, .null, .null])), (q1, .inl (κ 0, 5, .inl (fun _ => 0))), (q2, .inl (κ 0, 200, .inl (fun _ => 0))), (q3, .inl (κ 0, 200, .inl (fun _ => 0))), (q4, .inl (κ 0, 200, .inl (fun _ => 0))), (q5, .inl (κ 0, 200, .inl (fun _ => 0))), (q6, .inl (κ 0, 200, .inl (fun _ => 0))), (q7, .inl (κ 0, 1000, .inl (fun _ => 0))), (q8, .inl (κ 0, 25, .inl (fun _ => 0))), (q9, .inl (κ 0, 25, .inl (fun _ => 0)))] := hs
  refine lv_aload_n hx hb dX9_init_86 rfl (lv_at hl 0 rfl) ?_
  refine lv_iconst (v := -1) hx hb dX9_init_87 (by decide +kernel) ?_
  refine uh_put (v := .int (-1)) (ty := .int) (fs' := [.int 0, .ref q1, .ref q2, .ref q3, .ref q4, .ref q5, .ref q6, .ref q7, .ref q8, .ref q9, .int (-1), .int (-1), .null, .null, .null, .null]) hx hb htg inX9 tyX9 tyX9_ok nmX9 hown hK hU hs 0 rfl rfl 11 (by decide) (htg _ tg_649) rfl (by decide +kernel) rfl rfl rfl (Nat.le_of_ble_eq_true rfl) dX9_init_88 (fun σ H locs hs hU => ?_)
  have hs : um_hs σ [(a, .inr (9, [.int 0, .ref q1, .ref q2, .ref q3, .ref q4, .ref q5, .ref q6, .ref q7, .ref q8, .ref q9, .int (-1), .int (-1), .null, .null, .null, .null])), (q1, .inl (κ 0, 5, .inl (fun _ => 0))), (q2, .inl (κ 0, 200, .inl (fun _ => 0))), (q3, .inl (κ 0, 200, .inl (fun _ => 0))), (q4, .inl (κ 0, 200, .inl (fun _ => 0))), (q5, .inl (κ 0, 200, .inl (fun _ => 0))), (q6, .inl (κ 0, 200, .inl (fun _ => 0))), (q7, .inl (κ 0, 1000, .inl (fun _ => 0))), (q8, .inl (κ 0, 25, .inl (fun _ => 0))), (q9, .inl (κ 0, 25, .inl (fun _ => 0)))] := hs
  refine lv_aload_n hx hb dX9_init_91 rfl (lv_at hl 0 rfl) ?_
  refine lv_iconst (v := nI 4) hx hb dX9_init_92 (by decide +kernel) ?_
  refine uh_int hx hb (htg _ tg_51) hK hU hs (N' := 4) rfl (by decide) (Nat.le_of_ble_eq_true rfl) (Nat.le_of_ble_eq_true rfl) dX9_init_93 (fun q10 σ H hs hU => ?_)
  have hs : um_hs σ [(a, .inr (9, [.int 0, .ref q1, .ref q2, .ref q3, .ref q4, .ref q5, .ref q6, .ref q7, .ref q8, .ref q9, .int (-1), .int (-1), .null, .null, .null, .null])), (q1, .inl (κ 0, 5, .inl (fun _ => 0))), (q2, .inl (κ 0, 200, .inl (fun _ => 0))), (q3, .inl (κ 0, 200, .inl (fun _ => 0))), (q4, .inl (κ 0, 200, .inl (fun _ => 0))), (q5, .inl (κ 0, 200, .inl (fun _ => 0))), (q6, .inl (κ 0, 200, .inl (fun _ => 0))), (q7, .inl (κ 0, 1000, .inl (fun _ => 0))), (q8, .inl (κ 0, 25, .inl (fun _ => 0))), (q9, .inl (κ 0, 25, .inl (fun _ => 0))), (q10, .inl (κ 0, 4, .inl (fun _ => 0)))] := hs
  refine lv_dup hx hb dX9_init_95 rfl ?_
  refine lv_iconst (v := nI 0) hx hb dX9_init_96 (by decide +kernel) ?_
  refine lv_bipush (v := nI 50) hx hb dX9_init_97 (by decide +kernel) ?_
  refine uh_ist hx hb hK hU hs 10 rfl 0 rfl (by decide) (by decide) dX9_init_99 (fun σ H locs hs hU => ?_)
  have hs : um_hs σ [(a, .inr (9, [.int 0, .ref q1, .ref q2, .ref q3, .ref q4, .ref q5, .ref q6, .ref q7, .ref q8, .ref q9, .int (-1), .int (-1), .null, .null, .null, .null])), (q1, .inl (κ 0, 5, .inl (fun _ => 0))), (q2, .inl (κ 0, 200, .inl (fun _ => 0))), (q3, .inl (κ 0, 200, .inl (fun _ => 0))), (q4, .inl (κ 0, 200, .inl (fun _ => 0))), (q5, .inl (κ 0, 200, .inl (fun _ => 0))), (q6, .inl (κ 0, 200, .inl (fun _ => 0))), (q7, .inl (κ 0, 1000, .inl (fun _ => 0))), (q8, .inl (κ 0, 25, .inl (fun _ => 0))), (q9, .inl (κ 0, 25, .inl (fun _ => 0))), (q10, .inl (κ 0, 4, .inl (upd (fun _ => 0) 0 (nI 50))))] := hs
  refine lv_dup hx hb dX9_init_100 rfl ?_
  refine lv_iconst (v := nI 1) hx hb dX9_init_101 (by decide +kernel) ?_
  refine lv_bipush (v := nI 50) hx hb dX9_init_102 (by decide +kernel) ?_
  refine uh_ist hx hb hK hU hs 10 rfl 1 rfl (by decide) (by decide) dX9_init_104 (fun σ H locs hs hU => ?_)
  have hs : um_hs σ [(a, .inr (9, [.int 0, .ref q1, .ref q2, .ref q3, .ref q4, .ref q5, .ref q6, .ref q7, .ref q8, .ref q9, .int (-1), .int (-1), .null, .null, .null, .null])), (q1, .inl (κ 0, 5, .inl (fun _ => 0))), (q2, .inl (κ 0, 200, .inl (fun _ => 0))), (q3, .inl (κ 0, 200, .inl (fun _ => 0))), (q4, .inl (κ 0, 200, .inl (fun _ => 0))), (q5, .inl (κ 0, 200, .inl (fun _ => 0))), (q6, .inl (κ 0, 200, .inl (fun _ => 0))), (q7, .inl (κ 0, 1000, .inl (fun _ => 0))), (q8, .inl (κ 0, 25, .inl (fun _ => 0))), (q9, .inl (κ 0, 25, .inl (fun _ => 0))), (q10, .inl (κ 0, 4, .inl (upd (upd (fun _ => 0) 0 (nI 50)) 1 (nI 50))))] := hs
  refine lv_dup hx hb dX9_init_105 rfl ?_
  refine lv_iconst (v := nI 2) hx hb dX9_init_106 (by decide +kernel) ?_
  refine lv_bipush (v := nI 50) hx hb dX9_init_107 (by decide +kernel) ?_
  refine uh_ist hx hb hK hU hs 10 rfl 2 rfl (by decide) (by decide) dX9_init_109 (fun σ H locs hs hU => ?_)
  have hs : um_hs σ [(a, .inr (9, [.int 0, .ref q1, .ref q2, .ref q3, .ref q4, .ref q5, .ref q6, .ref q7, .ref q8, .ref q9, .int (-1), .int (-1), .null, .null, .null, .null])), (q1, .inl (κ 0, 5, .inl (fun _ => 0))), (q2, .inl (κ 0, 200, .inl (fun _ => 0))), (q3, .inl (κ 0, 200, .inl (fun _ => 0))), (q4, .inl (κ 0, 200, .inl (fun _ => 0))), (q5, .inl (κ 0, 200, .inl (fun _ => 0))), (q6, .inl (κ 0, 200, .inl (fun _ => 0))), (q7, .inl (κ 0, 1000, .inl (fun _ => 0))), (q8, .inl (κ 0, 25, .inl (fun _ => 0))), (q9, .inl (κ 0, 25, .inl (fun _ => 0))), (q10, .inl (κ 0, 4, .inl (upd (upd (upd (fun _ => 0) 0 (nI 50)) 1 (nI 50)) 2 (nI 50))))] := hs
  refine lv_dup hx hb dX9_init_110 rfl ?_
  refine lv_iconst (v := nI 3) hx hb dX9_init_111 (by decide +kernel) ?_
  refine lv_bipush (v := nI 50) hx hb dX9_init_112 (by decide +kernel) ?_
  refine uh_ist hx hb hK hU hs 10 rfl 3 rfl (by decide) (by decide) dX9_init_114 (fun σ H locs hs hU => ?_)
  have hs : um_hs σ [(a, .inr (9, [.int 0, .ref q1, .ref q2, .ref q3, .ref q4, .ref q5, .ref q6, .ref q7, .ref q8, .ref q9, .int (-1), .int (-1), .null, .null, .null, .null])), (q1, .inl (κ 0, 5, .inl (fun _ => 0))), (q2, .inl (κ 0, 200, .inl (fun _ => 0))), (q3, .inl (κ 0, 200, .inl (fun _ => 0))), (q4, .inl (κ 0, 200, .inl (fun _ => 0))), (q5, .inl (κ 0, 200, .inl (fun _ => 0))), (q6, .inl (κ 0, 200, .inl (fun _ => 0))), (q7, .inl (κ 0, 1000, .inl (fun _ => 0))), (q8, .inl (κ 0, 25, .inl (fun _ => 0))), (q9, .inl (κ 0, 25, .inl (fun _ => 0))), (q10, .inl (κ 0, 4, .inl (upd (upd (upd (upd (fun _ => 0) 0 (nI 50)) 1 (nI 50)) 2 (nI 50)) 3 (nI 50))))] := hs
  refine uh_putF (v := .ref q10) (ty := .array .int) (fs' := [.int 0, .ref q1, .ref q2, .ref q3, .ref q4, .ref q5, .ref q6, .ref q7, .ref q8, .ref q9, .int (-1), .int (-1), .ref q10, .null, .null, .null]) hx hb htg inX9 tyX9 tyX9_ok nmX9 hown hK hU hs 0 rfl rfl 12 (by decide) (htg _ tg_650) rfl hnm rfl (by decide +kernel) rfl rfl rfl (Nat.le_of_ble_eq_true rfl) dX9_init_115 (fun σ H locs hs hU => ?_)
  have hs : um_hs σ [(a, .inr (9, [.int 0, .ref q1, .ref q2, .ref q3, .ref q4, .ref q5, .ref q6, .ref q7, .ref q8, .ref q9, .int (-1), .int (-1), .ref q10, .null, .null, .null])), (q1, .inl (κ 0, 5, .inl (fun _ => 0))), (q2, .inl (κ 0, 200, .inl (fun _ => 0))), (q3, .inl (κ 0, 200, .inl (fun _ => 0))), (q4, .inl (κ 0, 200, .inl (fun _ => 0))), (q5, .inl (κ 0, 200, .inl (fun _ => 0))), (q6, .inl (κ 0, 200, .inl (fun _ => 0))), (q7, .inl (κ 0, 1000, .inl (fun _ => 0))), (q8, .inl (κ 0, 25, .inl (fun _ => 0))), (q9, .inl (κ 0, 25, .inl (fun _ => 0))), (q10, .inl (κ 0, 4, .inl (upd (upd (upd (upd (fun _ => 0) 0 (nI 50)) 1 (nI 50)) 2 (nI 50)) 3 (nI 50))))] := hs
  refine lv_aload_n hx hb dX9_init_118 rfl (lv_at hl 0 rfl) ?_
  refine lv_iconst (v := nI 4) hx hb dX9_init_119 (by decide +kernel) ?_
  refine uh_int hx hb (htg _ tg_51) hK hU hs (N' := 4) rfl (by decide) (Nat.le_of_ble_eq_true rfl) (Nat.le_of_ble_eq_true rfl) dX9_init_120 (fun q11 σ H hs hU => ?_)
  have hs : um_hs σ [(a, .inr (9, [.int 0, .ref q1, .ref q2, .ref q3, .ref q4, .ref q5, .ref q6, .ref q7, .ref q8, .ref q9, .int (-1), .int (-1), .ref q10, .null, .null, .null])), (q1, .inl (κ 0, 5, .inl (fun _ => 0))), (q2, .inl (κ 0, 200, .inl (fun _ => 0))), (q3, .inl (κ 0, 200, .inl (fun _ => 0))), (q4, .inl (κ 0, 200, .inl (fun _ => 0))), (q5, .inl (κ 0, 200, .inl (fun _ => 0))), (q6, .inl (κ 0, 200, .inl (fun _ => 0))), (q7, .inl (κ 0, 1000, .inl (fun _ => 0))), (q8, .inl (κ 0, 25, .inl (fun _ => 0))), (q9, .inl (κ 0, 25, .inl (fun _ => 0))), (q10, .inl (κ 0, 4, .inl (upd (upd (upd (upd (fun _ => 0) 0 (nI 50)) 1 (nI 50)) 2 (nI 50)) 3 (nI 50)))), (q11, .inl (κ 0, 4, .inl (fun _ => 0)))] := hs
  refine lv_dup hx hb dX9_init_122 rfl ?_
  refine lv_iconst (v := nI 0) hx hb dX9_init_123 (by decide +kernel) ?_
  refine lv_bipush (v := nI 20) hx hb dX9_init_124 (by decide +kernel) ?_
  refine uh_ist hx hb hK hU hs 11 rfl 0 rfl (by decide) (by decide) dX9_init_126 (fun σ H locs hs hU => ?_)
  have hs : um_hs σ [(a, .inr (9, [.int 0, .ref q1, .ref q2, .ref q3, .ref q4, .ref q5, .ref q6, .ref q7, .ref q8, .ref q9, .int (-1), .int (-1), .ref q10, .null, .null, .null])), (q1, .inl (κ 0, 5, .inl (fun _ => 0))), (q2, .inl (κ 0, 200, .inl (fun _ => 0))), (q3, .inl (κ 0, 200, .inl (fun _ => 0))), (q4, .inl (κ 0, 200, .inl (fun _ => 0))), (q5, .inl (κ 0, 200, .inl (fun _ => 0))), (q6, .inl (κ 0, 200, .inl (fun _ => 0))), (q7, .inl (κ 0, 1000, .inl (fun _ => 0))), (q8, .inl (κ 0, 25, .inl (fun _ => 0))), (q9, .inl (κ 0, 25, .inl (fun _ => 0))), (q10, .inl (κ 0, 4, .inl (upd (upd (upd (upd (fun _ => 0) 0 (nI 50)) 1 (nI 50)) 2 (nI 50)) 3 (nI 50)))), (q11, .inl (κ 0, 4, .inl (upd (fun _ => 0) 0 (nI 20))))] := hs
  refine lv_dup hx hb dX9_init_127 rfl ?_
  refine lv_iconst (v := nI 1) hx hb dX9_init_128 (by decide +kernel) ?_
  refine lv_bipush (v := nI 20) hx hb dX9_init_129 (by decide +kernel) ?_
  refine uh_ist hx hb hK hU hs 11 rfl 1 rfl (by decide) (by decide) dX9_init_131 (fun σ H locs hs hU => ?_)
  have hs : um_hs σ [(a, .inr (9, [.int 0, .ref q1, .ref q2, .ref q3, .ref q4, .ref q5, .ref q6, .ref q7, .ref q8, .ref q9, .int (-1), .int (-1), .ref q10, .null, .null, .null])), (q1, .inl (κ 0, 5, .inl (fun _ => 0))), (q2, .inl (κ 0, 200, .inl (fun _ => 0))), (q3, .inl (κ 0, 200, .inl (fun _ => 0))), (q4, .inl (κ 0, 200, .inl (fun _ => 0))), (q5, .inl (κ 0, 200, .inl (fun _ => 0))), (q6, .inl (κ 0, 200, .inl (fun _ => 0))), (q7, .inl (κ 0, 1000, .inl (fun _ => 0))), (q8, .inl (κ 0, 25, .inl (fun _ => 0))), (q9, .inl (κ 0, 25, .inl (fun _ => 0))), (q10, .inl (κ 0, 4, .inl (upd (upd (upd (upd (fun _ => 0) 0 (nI 50)) 1 (nI 50)) 2 (nI 50)) 3 (nI 50)))), (q11, .inl (κ 0, 4, .inl (upd (upd (fun _ => 0) 0 (nI 20)) 1 (nI 20))))] := hs
  refine lv_dup hx hb dX9_init_132 rfl ?_
  refine lv_iconst (v := nI 2) hx hb dX9_init_133 (by decide +kernel) ?_
  refine lv_bipush (v := nI 20) hx hb dX9_init_134 (by decide +kernel) ?_
  refine uh_ist hx hb hK hU hs 11 rfl 2 rfl (by decide) (by decide) dX9_init_136 (fun σ H locs hs hU => ?_)
  have hs : um_hs σ [(a, .inr (9, [.int 0, .ref q1, .ref q2, .ref q3, .ref q4, .ref q5, .ref q6, .ref q7, .ref q8, .ref q9, .int (-1), .int (-1), .ref q10, .null, .null, .null])), (q1, .inl (κ 0, 5, .inl (fun _ => 0))), (q2, .inl (κ 0, 200, .inl (fun _ => 0))), (q3, .inl (κ 0, 200, .inl (fun _ => 0))), (q4, .inl (κ 0, 200, .inl (fun _ => 0))), (q5, .inl (κ 0, 200, .inl (fun _ => 0))), (q6, .inl (κ 0, 200, .inl (fun _ => 0))), (q7, .inl (κ 0, 1000, .inl (fun _ => 0))), (q8, .inl (κ 0, 25, .inl (fun _ => 0))), (q9, .inl (κ 0, 25, .inl (fun _ => 0))), (q10, .inl (κ 0, 4, .inl (upd (upd (upd (upd (fun _ => 0) 0 (nI 50)) 1 (nI 50)) 2 (nI 50)) 3 (nI 50)))), (q11, .inl (κ 0, 4, .inl (upd (upd (upd (fun _ => 0) 0 (nI 20)) 1 (nI 20)) 2 (nI 20))))] := hs
  refine lv_dup hx hb dX9_init_137 rfl ?_
  refine lv_iconst (v := nI 3) hx hb dX9_init_138 (by decide +kernel) ?_
  refine lv_bipush (v := nI 20) hx hb dX9_init_139 (by decide +kernel) ?_
  refine uh_ist hx hb hK hU hs 11 rfl 3 rfl (by decide) (by decide) dX9_init_141 (fun σ H locs hs hU => ?_)
  have hs : um_hs σ [(a, .inr (9, [.int 0, .ref q1, .ref q2, .ref q3, .ref q4, .ref q5, .ref q6, .ref q7, .ref q8, .ref q9, .int (-1), .int (-1), .ref q10, .null, .null, .null])), (q1, .inl (κ 0, 5, .inl (fun _ => 0))), (q2, .inl (κ 0, 200, .inl (fun _ => 0))), (q3, .inl (κ 0, 200, .inl (fun _ => 0))), (q4, .inl (κ 0, 200, .inl (fun _ => 0))), (q5, .inl (κ 0, 200, .inl (fun _ => 0))), (q6, .inl (κ 0, 200, .inl (fun _ => 0))), (q7, .inl (κ 0, 1000, .inl (fun _ => 0))), (q8, .inl (κ 0, 25, .inl (fun _ => 0))), (q9, .inl (κ 0, 25, .inl (fun _ => 0))), (q10, .inl (κ 0, 4, .inl (upd (upd (upd (upd (fun _ => 0) 0 (nI 50)) 1 (nI 50)) 2 (nI 50)) 3 (nI 50)))), (q11, .inl (κ 0, 4, .inl (upd (upd (upd (upd (fun _ => 0) 0 (nI 20)) 1 (nI 20)) 2 (nI 20)) 3 (nI 20))))] := hs
  refine uh_putF (v := .ref q11) (ty := .array .int) (fs' := [.int 0, .ref q1, .ref q2, .ref q3, .ref q4, .ref q5, .ref q6, .ref q7, .ref q8, .ref q9, .int (-1), .int (-1), .ref q10, .ref q11, .null, .null]) hx hb htg inX9 tyX9 tyX9_ok nmX9 hown hK hU hs 0 rfl rfl 13 (by decide) (htg _ tg_651) rfl hnm rfl (by decide +kernel) rfl rfl rfl (Nat.le_of_ble_eq_true rfl) dX9_init_142 (fun σ H locs hs hU => ?_)
  have hs : um_hs σ [(a, .inr (9, [.int 0, .ref q1, .ref q2, .ref q3, .ref q4, .ref q5, .ref q6, .ref q7, .ref q8, .ref q9, .int (-1), .int (-1), .ref q10, .ref q11, .null, .null])), (q1, .inl (κ 0, 5, .inl (fun _ => 0))), (q2, .inl (κ 0, 200, .inl (fun _ => 0))), (q3, .inl (κ 0, 200, .inl (fun _ => 0))), (q4, .inl (κ 0, 200, .inl (fun _ => 0))), (q5, .inl (κ 0, 200, .inl (fun _ => 0))), (q6, .inl (κ 0, 200, .inl (fun _ => 0))), (q7, .inl (κ 0, 1000, .inl (fun _ => 0))), (q8, .inl (κ 0, 25, .inl (fun _ => 0))), (q9, .inl (κ 0, 25, .inl (fun _ => 0))), (q10, .inl (κ 0, 4, .inl (upd (upd (upd (upd (fun _ => 0) 0 (nI 50)) 1 (nI 50)) 2 (nI 50)) 3 (nI 50)))), (q11, .inl (κ 0, 4, .inl (upd (upd (upd (upd (fun _ => 0) 0 (nI 20)) 1 (nI 20)) 2 (nI 20)) 3 (nI 20))))] := hs
  refine lv_aload_n hx hb dX9_init_145 rfl (lv_at hl 0 rfl) ?_
  refine lv_iconst (v := nI 4) hx hb dX9_init_146 (by decide +kernel) ?_
  refine uh_int hx hb (htg _ tg_51) hK hU hs (N' := 4) rfl (by decide) (Nat.le_of_ble_eq_true rfl) (Nat.le_of_ble_eq_true rfl) dX9_init_147 (fun q12 σ H hs hU => ?_)
  have hs : um_hs σ [(a, .inr (9, [.int 0, .ref q1, .ref q2, .ref q3, .ref q4, .ref q5, .ref q6, .ref q7, .ref q8, .ref q9, .int (-1), .int (-1), .ref q10, .ref q11, .null, .null])), (q1, .inl (κ 0, 5, .inl (fun _ => 0))), (q2, .inl (κ 0, 200, .inl (fun _ => 0))), (q3, .inl (κ 0, 200, .inl (fun _ => 0))), (q4, .inl (κ 0, 200, .inl (fun _ => 0))), (q5, .inl (κ 0, 200, .inl (fun _ => 0))), (q6, .inl (κ 0, 200, .inl (fun _ => 0))), (q7, .inl (κ 0, 1000, .inl (fun _ => 0))), (q8, .inl (κ 0, 25, .inl (fun _ => 0))), (q9, .inl (κ 0, 25, .inl (fun _ => 0))), (q10, .inl (κ 0, 4, .inl (upd (upd (upd (upd (fun _ => 0) 0 (nI 50)) 1 (nI 50)) 2 (nI 50)) 3 (nI 50)))), (q11, .inl (κ 0, 4, .inl (upd (upd (upd (upd (fun _ => 0) 0 (nI 20)) 1 (nI 20)) 2 (nI 20)) 3 (nI 20)))), (q12, .inl (κ 0, 4, .inl (fun _ => 0)))] := hs
  refine lv_dup hx hb dX9_init_149 rfl ?_
  refine lv_iconst (v := nI 0) hx hb dX9_init_150 (by decide +kernel) ?_
  refine lv_sipush (v := nI 200) hx hb dX9_init_151 (by decide +kernel) ?_
  refine uh_ist hx hb hK hU hs 12 rfl 0 rfl (by decide) (by decide) dX9_init_154 (fun σ H locs hs hU => ?_)
  have hs : um_hs σ [(a, .inr (9, [.int 0, .ref q1, .ref q2, .ref q3, .ref q4, .ref q5, .ref q6, .ref q7, .ref q8, .ref q9, .int (-1), .int (-1), .ref q10, .ref q11, .null, .null])), (q1, .inl (κ 0, 5, .inl (fun _ => 0))), (q2, .inl (κ 0, 200, .inl (fun _ => 0))), (q3, .inl (κ 0, 200, .inl (fun _ => 0))), (q4, .inl (κ 0, 200, .inl (fun _ => 0))), (q5, .inl (κ 0, 200, .inl (fun _ => 0))), (q6, .inl (κ 0, 200, .inl (fun _ => 0))), (q7, .inl (κ 0, 1000, .inl (fun _ => 0))), (q8, .inl (κ 0, 25, .inl (fun _ => 0))), (q9, .inl (κ 0, 25, .inl (fun _ => 0))), (q10, .inl (κ 0, 4, .inl (upd (upd (upd (upd (fun _ => 0) 0 (nI 50)) 1 (nI 50)) 2 (nI 50)) 3 (nI 50)))), (q11, .inl (κ 0, 4, .inl (upd (upd (upd (upd (fun _ => 0) 0 (nI 20)) 1 (nI 20)) 2 (nI 20)) 3 (nI 20)))), (q12, .inl (κ 0, 4, .inl (upd (fun _ => 0) 0 (nI 200))))] := hs
  refine lv_dup hx hb dX9_init_155 rfl ?_
  refine lv_iconst (v := nI 1) hx hb dX9_init_156 (by decide +kernel) ?_
  refine lv_sipush (v := nI 200) hx hb dX9_init_157 (by decide +kernel) ?_
  refine uh_ist hx hb hK hU hs 12 rfl 1 rfl (by decide) (by decide) dX9_init_160 (fun σ H locs hs hU => ?_)
  have hs : um_hs σ [(a, .inr (9, [.int 0, .ref q1, .ref q2, .ref q3, .ref q4, .ref q5, .ref q6, .ref q7, .ref q8, .ref q9, .int (-1), .int (-1), .ref q10, .ref q11, .null, .null])), (q1, .inl (κ 0, 5, .inl (fun _ => 0))), (q2, .inl (κ 0, 200, .inl (fun _ => 0))), (q3, .inl (κ 0, 200, .inl (fun _ => 0))), (q4, .inl (κ 0, 200, .inl (fun _ => 0))), (q5, .inl (κ 0, 200, .inl (fun _ => 0))), (q6, .inl (κ 0, 200, .inl (fun _ => 0))), (q7, .inl (κ 0, 1000, .inl (fun _ => 0))), (q8, .inl (κ 0, 25, .inl (fun _ => 0))), (q9, .inl (κ 0, 25, .inl (fun _ => 0))), (q10, .inl (κ 0, 4, .inl (upd (upd (upd (upd (fun _ => 0) 0 (nI 50)) 1 (nI 50)) 2 (nI 50)) 3 (nI 50)))), (q11, .inl (κ 0, 4, .inl (upd (upd (upd (upd (fun _ => 0) 0 (nI 20)) 1 (nI 20)) 2 (nI 20)) 3 (nI 20)))), (q12, .inl (κ 0, 4, .inl (upd (upd (fun _ => 0) 0 (nI 200)) 1 (nI 200))))] := hs
  refine lv_dup hx hb dX9_init_161 rfl ?_
  refine lv_iconst (v := nI 2) hx hb dX9_init_162 (by decide +kernel) ?_
  refine lv_sipush (v := nI 200) hx hb dX9_init_163 (by decide +kernel) ?_
  refine uh_ist hx hb hK hU hs 12 rfl 2 rfl (by decide) (by decide) dX9_init_166 (fun σ H locs hs hU => ?_)
  have hs : um_hs σ [(a, .inr (9, [.int 0, .ref q1, .ref q2, .ref q3, .ref q4, .ref q5, .ref q6, .ref q7, .ref q8, .ref q9, .int (-1), .int (-1), .ref q10, .ref q11, .null, .null])), (q1, .inl (κ 0, 5, .inl (fun _ => 0))), (q2, .inl (κ 0, 200, .inl (fun _ => 0))), (q3, .inl (κ 0, 200, .inl (fun _ => 0))), (q4, .inl (κ 0, 200, .inl (fun _ => 0))), (q5, .inl (κ 0, 200, .inl (fun _ => 0))), (q6, .inl (κ 0, 200, .inl (fun _ => 0))), (q7, .inl (κ 0, 1000, .inl (fun _ => 0))), (q8, .inl (κ 0, 25, .inl (fun _ => 0))), (q9, .inl (κ 0, 25, .inl (fun _ => 0))), (q10, .inl (κ 0, 4, .inl (upd (upd (upd (upd (fun _ => 0) 0 (nI 50)) 1 (nI 50)) 2 (nI 50)) 3 (nI 50)))), (q11, .inl (κ 0, 4, .inl (upd (upd (upd (upd (fun _ => 0) 0 (nI 20)) 1 (nI 20)) 2 (nI 20)) 3 (nI 20)))), (q12, .inl (κ 0, 4, .inl (upd (upd (upd (fun _ => 0) 0 (nI 200)) 1 (nI 200)) 2 (nI 200))))] := hs
  refine lv_dup hx hb dX9_init_167 rfl ?_
  refine lv_iconst (v := nI 3) hx hb dX9_init_168 (by decide +kernel) ?_
  refine lv_sipush (v := nI 200) hx hb dX9_init_169 (by decide +kernel) ?_
  refine uh_ist hx hb hK hU hs 12 rfl 3 rfl (by decide) (by decide) dX9_init_172 (fun σ H locs hs hU => ?_)
  have hs : um_hs σ [(a, .inr (9, [.int 0, .ref q1, .ref q2, .ref q3, .ref q4, .ref q5, .ref q6, .ref q7, .ref q8, .ref q9, .int (-1), .int (-1), .ref q10, .ref q11, .null, .null])), (q1, .inl (κ 0, 5, .inl (fun _ => 0))), (q2, .inl (κ 0, 200, .inl (fun _ => 0))), (q3, .inl (κ 0, 200, .inl (fun _ => 0))), (q4, .inl (κ 0, 200, .inl (fun _ => 0))), (q5, .inl (κ 0, 200, .inl (fun _ => 0))), (q6, .inl (κ 0, 200, .inl (fun _ => 0))), (q7, .inl (κ 0, 1000, .inl (fun _ => 0))), (q8, .inl (κ 0, 25, .inl (fun _ => 0))), (q9, .inl (κ 0, 25, .inl (fun _ => 0))), (q10, .inl (κ 0, 4, .inl (upd (upd (upd (upd (fun _ => 0) 0 (nI 50)) 1 (nI 50)) 2 (nI 50)) 3 (nI 50)))), (q11, .inl (κ 0, 4, .inl (upd (upd (upd (upd (fun _ => 0) 0 (nI 20)) 1 (nI 20)) 2 (nI 20)) 3 (nI 20)))), (q12, .inl (κ 0, 4, .inl (upd (upd (upd (upd (fun _ => 0) 0 (nI 200)) 1 (nI 200)) 2 (nI 200)) 3 (nI 200))))] := hs
  refine uh_putF (v := .ref q12) (ty := .array .int) (fs' := [.int 0, .ref q1, .ref q2, .ref q3, .ref q4, .ref q5, .ref q6, .ref q7, .ref q8, .ref q9, .int (-1), .int (-1), .ref q10, .ref q11, .ref q12, .null]) hx hb htg inX9 tyX9 tyX9_ok nmX9 hown hK hU hs 0 rfl rfl 14 (by decide) (htg _ tg_652) rfl hnm rfl (by decide +kernel) rfl rfl rfl (Nat.le_of_ble_eq_true rfl) dX9_init_173 (fun σ H locs hs hU => ?_)
  have hs : um_hs σ [(a, .inr (9, [.int 0, .ref q1, .ref q2, .ref q3, .ref q4, .ref q5, .ref q6, .ref q7, .ref q8, .ref q9, .int (-1), .int (-1), .ref q10, .ref q11, .ref q12, .null])), (q1, .inl (κ 0, 5, .inl (fun _ => 0))), (q2, .inl (κ 0, 200, .inl (fun _ => 0))), (q3, .inl (κ 0, 200, .inl (fun _ => 0))), (q4, .inl (κ 0, 200, .inl (fun _ => 0))), (q5, .inl (κ 0, 200, .inl (fun _ => 0))), (q6, .inl (κ 0, 200, .inl (fun _ => 0))), (q7, .inl (κ 0, 1000, .inl (fun _ => 0))), (q8, .inl (κ 0, 25, .inl (fun _ => 0))), (q9, .inl (κ 0, 25, .inl (fun _ => 0))), (q10, .inl (κ 0, 4, .inl (upd (upd (upd (upd (fun _ => 0) 0 (nI 50)) 1 (nI 50)) 2 (nI 50)) 3 (nI 50)))), (q11, .inl (κ 0, 4, .inl (upd (upd (upd (upd (fun _ => 0) 0 (nI 20)) 1 (nI 20)) 2 (nI 20)) 3 (nI 20)))), (q12, .inl (κ 0, 4, .inl (upd (upd (upd (upd (fun _ => 0) 0 (nI 200)) 1 (nI 200)) 2 (nI 200)) 3 (nI 200))))] := hs
  refine lv_aload_n hx hb dX9_init_176 rfl (lv_at hl 0 rfl) ?_
  refine lv_bipush (v := nI 6) hx hb dX9_init_177 (by decide +kernel) ?_
  refine uh_int hx hb (htg _ tg_51) hK hU hs (N' := 6) rfl (by decide) (Nat.le_of_ble_eq_true rfl) (Nat.le_of_ble_eq_true rfl) dX9_init_179 (fun q13 σ H hs hU => ?_)
  have hs : um_hs σ [(a, .inr (9, [.int 0, .ref q1, .ref q2, .ref q3, .ref q4, .ref q5, .ref q6, .ref q7, .ref q8, .ref q9, .int (-1), .int (-1), .ref q10, .ref q11, .ref q12, .null])), (q1, .inl (κ 0, 5, .inl (fun _ => 0))), (q2, .inl (κ 0, 200, .inl (fun _ => 0))), (q3, .inl (κ 0, 200, .inl (fun _ => 0))), (q4, .inl (κ 0, 200, .inl (fun _ => 0))), (q5, .inl (κ 0, 200, .inl (fun _ => 0))), (q6, .inl (κ 0, 200, .inl (fun _ => 0))), (q7, .inl (κ 0, 1000, .inl (fun _ => 0))), (q8, .inl (κ 0, 25, .inl (fun _ => 0))), (q9, .inl (κ 0, 25, .inl (fun _ => 0))), (q10, .inl (κ 0, 4, .inl (upd (upd (upd (upd (fun _ => 0) 0 (nI 50)) 1 (nI 50)) 2 (nI 50)) 3 (nI 50)))), (q11, .inl (κ 0, 4, .inl (upd (upd (upd (upd (fun _ => 0) 0 (nI 20)) 1 (nI 20)) 2 (nI 20)) 3 (nI 20)))), (q12, .inl (κ 0, 4, .inl (upd (upd (upd (upd (fun _ => 0) 0 (nI 200)) 1 (nI 200)) 2 (nI 200)) 3 (nI 200)))), (q13, .inl (κ 0, 6, .inl (fun _ => 0)))] := hs
  refine uh_putF (v := .ref q13) (ty := .array .int) (fs' := [.int 0, .ref q1, .ref q2, .ref q3, .ref q4, .ref q5, .ref q6, .ref q7, .ref q8, .ref q9, .int (-1), .int (-1), .ref q10, .ref q11, .ref q12, .ref q13]) hx hb htg inX9 tyX9 tyX9_ok nmX9 hown hK hU hs 0 rfl rfl 15 (by decide) (htg _ tg_653) rfl hnm rfl (by decide +kernel) rfl rfl rfl (Nat.le_of_ble_eq_true rfl) dX9_init_181 (fun σ H locs hs hU => ?_)
  have hs : um_hs σ [(a, .inr (9, [.int 0, .ref q1, .ref q2, .ref q3, .ref q4, .ref q5, .ref q6, .ref q7, .ref q8, .ref q9, .int (-1), .int (-1), .ref q10, .ref q11, .ref q12, .ref q13])), (q1, .inl (κ 0, 5, .inl (fun _ => 0))), (q2, .inl (κ 0, 200, .inl (fun _ => 0))), (q3, .inl (κ 0, 200, .inl (fun _ => 0))), (q4, .inl (κ 0, 200, .inl (fun _ => 0))), (q5, .inl (κ 0, 200, .inl (fun _ => 0))), (q6, .inl (κ 0, 200, .inl (fun _ => 0))), (q7, .inl (κ 0, 1000, .inl (fun _ => 0))), (q8, .inl (κ 0, 25, .inl (fun _ => 0))), (q9, .inl (κ 0, 25, .inl (fun _ => 0))), (q10, .inl (κ 0, 4, .inl (upd (upd (upd (upd (fun _ => 0) 0 (nI 50)) 1 (nI 50)) 2 (nI 50)) 3 (nI 50)))), (q11, .inl (κ 0, 4, .inl (upd (upd (upd (upd (fun _ => 0) 0 (nI 20)) 1 (nI 20)) 2 (nI 20)) 3 (nI 20)))), (q12, .inl (κ 0, 4, .inl (upd (upd (upd (upd (fun _ => 0) 0 (nI 200)) 1 (nI 200)) 2 (nI 200)) 3 (nI 200)))), (q13, .inl (κ 0, 6, .inl (fun _ => 0)))] := hs
  refine um_vret hx hb hr hlocks hK hJ hU dX9_init_184 ⟨md_ad a [q1, q2, q3, q4, q5, q6, q7, q8, q9, q10, q11, q12, q13], rfl, ?_⟩
  exact md_init hs
