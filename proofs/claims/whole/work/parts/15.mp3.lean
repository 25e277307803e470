set_option maxRecDepth 100000 in
set_option maxHeartbeats 4000000 in
theorem mm_tree (l : Launch) (D : va_G) (κ : Nat → ClassId) (τ : Nat → Nat) (A : Nat → Prop) (σ : um_M) (md : Nat → Nat) (q : tb_Q) (th : Nat) (h : md_at κ σ md q th) (hq : tb_sm q) (hs : tb_sp q) (d p t w : Nat) (hd : d < 5) (hp : p < 2147483648) (ht : t < 4) (hw : w < 4) : Met l yX9_tree wsX9_tree ({ frames := 5, cells := 0, slots := 0, locals := 124 }) (va_Pc [.ref (md 13), .int (nI (d)), .int (nI (p)), .int (nI (t)), .int (nI (w))] (um_U D κ τ A σ)) (va_Ql (fun (r9 : Int64) (σ' : um_M) => r9 = tb_tree q d p t w ∧ σ' = σ) (um_U D κ τ A) A) 0 0 A := by
  refine um_met (cc := cX9_tree) (maxL := 13) (ret := (some .long)) (by decide) rfl rfl ?_
  intro pp ee s mm args below meth cd ls hx hb hr hts hown hlocks hml hnm hK hJ hU hl
  have hown : s.vm.findClass RX9 = some mm.cls := hown
  have htg : ∀ w ∈ lw_g, w.before args s = true := fun w h => hts w (List.mem_cons_of_mem _ h)
  have hl : lv_has ls 13 [(0, .ref (md 13)), (1, .int (nI (d))), (2, .int (nI (p))), (3, .int (nI (t))), (4, .int (nI (w)))] := hl
  have J1 : ∀ (ls : Array Slot) (H : Heap) (locs : List Loc), um_S D vwCl A s σ H locs → lv_has ls 13 [(0, .ref (md 13)), (1, .int (nI (d))), (2, .int (nI (p))), (4, .int (nI (w))), (5, .int (tb_m1 (tb_shown q d p (3 * t)))), (6, .int (tb_m1 (tb_shown q d p (3 * t + 1)))), (7, .int (tb_m1 (tb_shown q d p (3 * t + 2)))), (8, .int (nI (tb_th q d p t)))] → W pp l ee ({ frames := 5, cells := 0, slots := 0, locals := 124 }) s mm args below meth cd H locs 0 0 (MQ below (va_Ql (fun (r9 : Int64) (σ' : um_M) => r9 = tb_tree q d p t w ∧ σ' = σ) (um_U D κ τ A) A) args s 0 0 A) (F0 mm 71 ls []) := by
    intro  ls H locs  hU hl
    refine lv_iload hx hb dX9_tree_71 (lv_at hl 3 rfl) ?_
    refine lv_iconst (v := nI 2) hx hb dX9_tree_73 (by decide +kernel) ?_
    refine um_eqN (tgt := 83) hx hb dX9_tree_74 (by decide) (by omega) (by decide) (fun c1 => ?_) (fun c1 => ?_)
    · refine lv_iload hx hb dX9_tree_83 (lv_at hl 3 rfl) ?_
      refine lv_iconst (v := nI 2) hx hb dX9_tree_85 (by decide +kernel) ?_
      refine um_neN (tgt := 104) hx hb dX9_tree_86 (by decide) (by omega) (by decide) (fun c2 => ?_) (fun c2 => ?_)
      · refine lv_lconst (v := 0) hx hb dX9_tree_104 (by decide +kernel) ?_
        exact um_lret hx hb hr hlocks hK hJ hU dX9_tree_105 ⟨by first | (exfalso; omega) | (simp [tb_tree, c1, c2]; done) | (simp [tb_tree, tb_vol, tb_val, tb_bad, c1, c2]; done), rfl⟩
      · refine lv_iload hx hb dX9_tree_89 (lv_at hl 7 rfl) ?_
        refine um_le0N (tgt := 104) hx hb dX9_tree_91 (by decide) (tb_th_lt q d p t) (fun c3 => ?_) (fun c3 => ?_)
        · refine lv_lconst (v := 0) hx hb dX9_tree_104 (by decide +kernel) ?_
          exact um_lret hx hb hr hlocks hK hJ hU dX9_tree_105 ⟨by first | (exfalso; omega) | (simp [tb_tree, c1, c2, c3]; done) | (simp [tb_tree, tb_vol, tb_val, tb_bad, c1, c2, c3]; done), rfl⟩
        · refine lv_iload hx hb dX9_tree_94 (lv_at hl 7 rfl) ?_
          refine lv_iconst (v := nI 3) hx hb dX9_tree_96 (by decide +kernel) ?_
          refine um_geN (tgt := 104) hx hb dX9_tree_97 (by decide) (tb_th_lt q d p t) (by decide) (fun c4 => ?_) (fun c4 => ?_)
          · refine lv_lconst (v := 0) hx hb dX9_tree_104 (by decide +kernel) ?_
            exact um_lret hx hb hr hlocks hK hJ hU dX9_tree_105 ⟨by first | (exfalso; omega) | (simp [tb_tree, c1, c2, c3, c4]; done) | (simp [tb_tree, tb_vol, tb_val, tb_bad, c1, c2, c3, c4]; done), rfl⟩
          · refine lv_lconst (v := 1) hx hb dX9_tree_100 (by decide +kernel) ?_
            refine lv_goto (tgt := 105) hx hb dX9_tree_101 (by decide) ?_
            exact um_lret hx hb hr hlocks hK hJ hU dX9_tree_105 ⟨by first | (exfalso; omega) | (simp [tb_tree, c1, c2, c3, c4]; done) | (simp [tb_tree, tb_vol, tb_val, tb_bad, c1, c2, c3, c4]; done), rfl⟩
    · refine lv_iload hx hb dX9_tree_77 (lv_at hl 7 rfl) ?_
      refine lv_iconst (v := nI 3) hx hb dX9_tree_79 (by decide +kernel) ?_
      refine um_geN (tgt := 106) hx hb dX9_tree_80 (by decide) (tb_th_lt q d p t) (by decide) (fun c5 => ?_) (fun c5 => ?_)
      · obtain ⟨e5, e6, e7⟩ := tb_th3 c5
        rw [tb_m1_p e5, tb_m1_p e6, tb_m1_p e7] at hl
        have hk4 := tb_spv hs e5
        have hs5 := tb_shown_le q d p (3 * t)
        have hv5 := hq 4 (tb_shown q d p (3 * t) - 1)
        have hs6 := tb_shown_le q d p (3 * t + 1)
        have hv6 := hq 4 (tb_shown q d p (3 * t + 1) - 1)
        have hs7 := tb_shown_le q d p (3 * t + 2)
        have hv7 := hq 4 (tb_shown q d p (3 * t + 2) - 1)
        refine lv_aload_n hx hb dX9_tree_106 rfl (lv_at hl 0 rfl) ?_
        refine um_get (v := .ref (md 4)) hx hb htg inX9 hown hK hU h.obj rfl 5 (by decide) (htg _ tg_643) rfl dX9_tree_107 ?_
        refine lv_iload hx hb dX9_tree_110 (lv_at hl 4 rfl) ?_
        refine md_ild hx hb hK hU h 4 (tb_shown q d p (3 * t) - 1) (by decide) (show tb_shown q d p (3 * t) - 1 < 200 from by omega) dX9_tree_112 ?_
        refine lv_istore (lv' := [(9, .int (nI (q 4 (tb_shown q d p (3 * t) - 1)))), (0, .ref (md 13)), (1, .int (nI (d))), (2, .int (nI (p))), (4, .int (nI (w))), (5, .int (nI (tb_shown q d p (3 * t) - 1))), (6, .int (nI (tb_shown q d p (3 * t + 1) - 1))), (7, .int (nI (tb_shown q d p (3 * t + 2) - 1))), (8, .int (nI (tb_th q d p t)))]) hx hb dX9_tree_113 hl (by decide) rfl (fun ls hl => ?_)
        refine lv_aload_n hx hb dX9_tree_115 rfl (lv_at hl 1 rfl) ?_
        refine um_get (v := .ref (md 4)) hx hb htg inX9 hown hK hU h.obj rfl 5 (by decide) (htg _ tg_643) rfl dX9_tree_116 ?_
        refine lv_iload hx hb dX9_tree_119 (lv_at hl 6 rfl) ?_
        refine md_ild hx hb hK hU h 4 (tb_shown q d p (3 * t + 1) - 1) (by decide) (show tb_shown q d p (3 * t + 1) - 1 < 200 from by omega) dX9_tree_121 ?_
        refine lv_i2l hx hb dX9_tree_122 rfl ?_
        refine lv_aload_n hx hb dX9_tree_123 rfl (lv_at hl 1 rfl) ?_
        refine um_get (v := .ref (md 4)) hx hb htg inX9 hown hK hU h.obj rfl 5 (by decide) (htg _ tg_643) rfl dX9_tree_124 ?_
        refine lv_iload hx hb dX9_tree_127 (lv_at hl 6 rfl) ?_
        refine md_ild hx hb hK hU h 4 (tb_shown q d p (3 * t + 1) - 1) (by decide) (show tb_shown q d p (3 * t + 1) - 1 < 200 from by omega) dX9_tree_129 ?_
        refine lv_i2l hx hb dX9_tree_130 rfl ?_
        refine lv_lmul hx hb dX9_tree_131 ?_
        refine lv_lstore (lv' := [(10, .long (((nI (q 4 (tb_shown q d p (3 * t + 1) - 1))).toInt64) * ((nI (q 4 (tb_shown q d p (3 * t + 1) - 1))).toInt64))), (9, .int (nI (q 4 (tb_shown q d p (3 * t) - 1)))), (0, .ref (md 13)), (1, .int (nI (d))), (2, .int (nI (p))), (4, .int (nI (w))), (5, .int (nI (tb_shown q d p (3 * t) - 1))), (6, .int (nI (tb_shown q d p (3 * t + 1) - 1))), (7, .int (nI (tb_shown q d p (3 * t + 2) - 1))), (8, .int (nI (tb_th q d p t)))]) hx hb dX9_tree_132 hl (by decide) rfl (fun ls hl => ?_)
        refine lv_iload hx hb dX9_tree_134 (lv_at hl 5 rfl) ?_
        refine um_ne0N (tgt := 164) hx hb dX9_tree_136 (by decide) (by omega) (fun c6 => ?_) (fun c6 => ?_)
        · refine lv_bipush (v := nI 100) hx hb dX9_tree_164 (by decide +kernel) ?_
          refine lv_aload_n hx hb dX9_tree_166 rfl (lv_at hl 2 rfl) ?_
          refine um_get (v := .ref (md 4)) hx hb htg inX9 hown hK hU h.obj rfl 5 (by decide) (htg _ tg_643) rfl dX9_tree_167 ?_
          refine lv_iload hx hb dX9_tree_170 (lv_at hl 8 rfl) ?_
          refine md_ild hx hb hK hU h 4 (tb_shown q d p (3 * t + 2) - 1) (by decide) (show tb_shown q d p (3 * t + 2) - 1 < 200 from by omega) dX9_tree_172 ?_
          refine um_mulN hx hb dX9_tree_173 ?_
          refine lv_istore (lv' := [(12, .int (nI (100 * (q 4 (tb_shown q d p (3 * t + 2) - 1))))), (10, .long (((nI (q 4 (tb_shown q d p (3 * t + 1) - 1))).toInt64) * ((nI (q 4 (tb_shown q d p (3 * t + 1) - 1))).toInt64))), (9, .int (nI (q 4 (tb_shown q d p (3 * t) - 1)))), (0, .ref (md 13)), (1, .int (nI (d))), (2, .int (nI (p))), (4, .int (nI (w))), (5, .int (nI (tb_shown q d p (3 * t) - 1))), (6, .int (nI (tb_shown q d p (3 * t + 1) - 1))), (7, .int (nI (tb_shown q d p (3 * t + 2) - 1))), (8, .int (nI (tb_th q d p t)))]) hx hb dX9_tree_174 hl (by decide) rfl (fun ls hl => ?_)
          refine lv_iload hx hb dX9_tree_176 (lv_at hl 6 rfl) ?_
          refine lv_iconst (v := nI 1) hx hb dX9_tree_178 (by decide +kernel) ?_
          refine um_neN (tgt := 187) hx hb dX9_tree_179 (by decide) (by omega) (by decide) (fun c7 => ?_) (fun c7 => ?_)
          · refine lv_iload hx hb dX9_tree_187 (lv_at hl 0 rfl) ?_
            refine lv_aload_n hx hb dX9_tree_189 rfl (lv_at hl 3 rfl) ?_
            refine um_get (v := .ref (md 10)) hx hb htg inX9 hown hK hU h.obj rfl 13 (by decide) (htg _ tg_651) rfl dX9_tree_190 ?_
            refine lv_iload hx hb dX9_tree_193 (lv_at hl 2 rfl) ?_
            refine md_ild hx hb hK hU h 10 (q 4 (tb_shown q d p (3 * t) - 1)) (by decide) (show q 4 (tb_shown q d p (3 * t) - 1) < 4 from by omega) dX9_tree_195 ?_
            refine lv_aload_n hx hb dX9_tree_196 rfl (lv_at hl 3 rfl) ?_
            refine um_get (v := .ref (md 4)) hx hb htg inX9 hown hK hU h.obj rfl 5 (by decide) (htg _ tg_643) rfl dX9_tree_197 ?_
            refine lv_iload hx hb dX9_tree_200 (lv_at hl 8 rfl) ?_
            refine md_ild hx hb hK hU h 4 (tb_shown q d p (3 * t + 1) - 1) (by decide) (show tb_shown q d p (3 * t + 1) - 1 < 200 from by omega) dX9_tree_202 ?_
            refine um_mulN hx hb dX9_tree_203 ?_
            refine um_ltN (tgt := 227) hx hb dX9_tree_204 (by decide) (by omega) (tb_prod hq _ _ _ _) (fun c8 => ?_) (fun c8 => ?_)
            · refine lv_lconst (v := 1) hx hb dX9_tree_227 (by decide +kernel) ?_
              refine lv_goto (tgt := 232) hx hb dX9_tree_228 (by decide) ?_
              exact um_lret hx hb hr hlocks hK hJ hU dX9_tree_232 ⟨by first | (exfalso; omega) | (simp [tb_tree, c1, c5, c6, c7, c8]; done) | (simp [tb_tree, tb_vol, tb_val, tb_bad, c1, c5, c6, c7, c8]; done), rfl⟩
            · refine lv_iload hx hb dX9_tree_207 (lv_at hl 0 rfl) ?_
              refine lv_aload_n hx hb dX9_tree_209 rfl (lv_at hl 3 rfl) ?_
              refine um_get (v := .ref (md 11)) hx hb htg inX9 hown hK hU h.obj rfl 14 (by decide) (htg _ tg_652) rfl dX9_tree_210 ?_
              refine lv_iload hx hb dX9_tree_213 (lv_at hl 2 rfl) ?_
              refine md_ild hx hb hK hU h 11 (q 4 (tb_shown q d p (3 * t) - 1)) (by decide) (show q 4 (tb_shown q d p (3 * t) - 1) < 4 from by omega) dX9_tree_215 ?_
              refine lv_aload_n hx hb dX9_tree_216 rfl (lv_at hl 3 rfl) ?_
              refine um_get (v := .ref (md 4)) hx hb htg inX9 hown hK hU h.obj rfl 5 (by decide) (htg _ tg_643) rfl dX9_tree_217 ?_
              refine lv_iload hx hb dX9_tree_220 (lv_at hl 8 rfl) ?_
              refine md_ild hx hb hK hU h 4 (tb_shown q d p (3 * t + 1) - 1) (by decide) (show tb_shown q d p (3 * t + 1) - 1 < 200 from by omega) dX9_tree_222 ?_
              refine um_mulN hx hb dX9_tree_223 ?_
              refine um_leN (tgt := 231) hx hb dX9_tree_224 (by decide) (by omega) (tb_prod hq _ _ _ _) (fun c9 => ?_) (fun c9 => ?_)
              · refine lv_lconst (v := 0) hx hb dX9_tree_231 (by decide +kernel) ?_
                exact um_lret hx hb hr hlocks hK hJ hU dX9_tree_232 ⟨by first | (exfalso; omega) | (simp [tb_tree, c1, c5, c6, c7, c8, c9]; done) | (simp [tb_tree, tb_vol, tb_val, tb_bad, c1, c5, c6, c7, c8, c9]; done), rfl⟩
              · refine lv_lconst (v := 1) hx hb dX9_tree_227 (by decide +kernel) ?_
                refine lv_goto (tgt := 232) hx hb dX9_tree_228 (by decide) ?_
                exact um_lret hx hb hr hlocks hK hJ hU dX9_tree_232 ⟨by first | (exfalso; omega) | (simp [tb_tree, c1, c5, c6, c7, c8, c9]; done) | (simp [tb_tree, tb_vol, tb_val, tb_bad, c1, c5, c6, c7, c8, c9]; done), rfl⟩
          · refine lv_lload hx hb dX9_tree_182 (lv_at hl 1 rfl) ?_
            refine lv_goto (tgt := 232) hx hb dX9_tree_184 (by decide) ?_
            exact um_lret hx hb hr hlocks hK hJ hU dX9_tree_232 ⟨by first | (exfalso; omega) | (simp [tb_tree, c1, c5, c6, c7]; done) | (simp [tb_tree, tb_vol, tb_val, tb_bad, c1, c5, c6, c7]; done), rfl⟩
        · refine lv_lload hx hb dX9_tree_139 (lv_at hl 0 rfl) ?_
          refine lv_aload_n hx hb dX9_tree_141 rfl (lv_at hl 2 rfl) ?_
          refine um_get (v := .ref (md 4)) hx hb htg inX9 hown hK hU h.obj rfl 5 (by decide) (htg _ tg_643) rfl dX9_tree_142 ?_
          refine lv_iload hx hb dX9_tree_145 (lv_at hl 8 rfl) ?_
          refine md_ild hx hb hK hU h 4 (tb_shown q d p (3 * t + 2) - 1) (by decide) (show tb_shown q d p (3 * t + 2) - 1 < 200 from by omega) dX9_tree_147 ?_
          refine lv_i2l hx hb dX9_tree_148 rfl ?_
          refine lv_lmul hx hb dX9_tree_149 ?_
          refine lv_aload_n hx hb dX9_tree_150 rfl (lv_at hl 2 rfl) ?_
          refine um_get (v := .ref (md 9)) hx hb htg inX9 hown hK hU h.obj rfl 12 (by decide) (htg _ tg_650) rfl dX9_tree_151 ?_
          refine lv_iload hx hb dX9_tree_154 (lv_at hl 1 rfl) ?_
          refine md_ild hx hb hK hU h 9 (q 4 (tb_shown q d p (3 * t) - 1)) (by decide) (show q 4 (tb_shown q d p (3 * t) - 1) < 4 from by omega) dX9_tree_156 ?_
          refine lv_i2l hx hb dX9_tree_157 rfl ?_
          refine lv_lmul hx hb dX9_tree_158 ?_
          refine lv_ldc2 (v := 100000) hx hb hown (htg _ tg_832) dX9_tree_159 ?_
          refine lv_ldiv hx hb dX9_tree_162 (by decide) ?_
          exact um_lret hx hb hr hlocks hK hJ hU dX9_tree_163 ⟨by first | (exfalso; omega) | (simp [tb_tree, c1, c5, c6]; done) | (simp [tb_tree, tb_vol, tb_val, tb_bad, c1, c5, c6]; done), rfl⟩
      · refine lv_iload hx hb dX9_tree_83 (lv_at hl 3 rfl) ?_
        refine lv_iconst (v := nI 2) hx hb dX9_tree_85 (by decide +kernel) ?_
        refine um_neN (tgt := 104) hx hb dX9_tree_86 (by decide) (by omega) (by decide) (fun c10 => ?_) (fun c10 => ?_)
        · refine lv_lconst (v := 0) hx hb dX9_tree_104 (by decide +kernel) ?_
          exact um_lret hx hb hr hlocks hK hJ hU dX9_tree_105 ⟨by first | (exfalso; omega) | (simp [tb_tree, c1, c5, c10]; done) | (simp [tb_tree, tb_vol, tb_val, tb_bad, c1, c5, c10]; done), rfl⟩
        · refine lv_iload hx hb dX9_tree_89 (lv_at hl 7 rfl) ?_
          refine um_le0N (tgt := 104) hx hb dX9_tree_91 (by decide) (tb_th_lt q d p t) (fun c11 => ?_) (fun c11 => ?_)
          · refine lv_lconst (v := 0) hx hb dX9_tree_104 (by decide +kernel) ?_
            exact um_lret hx hb hr hlocks hK hJ hU dX9_tree_105 ⟨by first | (exfalso; omega) | (simp [tb_tree, c1, c5, c10, c11]; done) | (simp [tb_tree, tb_vol, tb_val, tb_bad, c1, c5, c10, c11]; done), rfl⟩
          · refine lv_iload hx hb dX9_tree_94 (lv_at hl 7 rfl) ?_
            refine lv_iconst (v := nI 3) hx hb dX9_tree_96 (by decide +kernel) ?_
            refine um_geN (tgt := 104) hx hb dX9_tree_97 (by decide) (tb_th_lt q d p t) (by decide) (fun c12 => ?_) (fun c12 => ?_)
            · refine lv_lconst (v := 0) hx hb dX9_tree_104 (by decide +kernel) ?_
              exact um_lret hx hb hr hlocks hK hJ hU dX9_tree_105 ⟨by first | (exfalso; omega) | (simp [tb_tree, c1, c5, c10, c11, c12]; done) | (simp [tb_tree, tb_vol, tb_val, tb_bad, c1, c5, c10, c11, c12]; done), rfl⟩
            · refine lv_lconst (v := 1) hx hb dX9_tree_100 (by decide +kernel) ?_
              refine lv_goto (tgt := 105) hx hb dX9_tree_101 (by decide) ?_
              exact um_lret hx hb hr hlocks hK hJ hU dX9_tree_105 ⟨by first | (exfalso; omega) | (simp [tb_tree, c1, c5, c10, c11, c12]; done) | (simp [tb_tree, tb_vol, tb_val, tb_bad, c1, c5, c10, c11, c12]; done), rfl⟩
  refine lv_aload_n hx hb dX9_tree_0 rfl (lv_at hl 0 rfl) ?_
  refine lv_iload_n hx hb dX9_tree_1 rfl (lv_at hl 1 rfl) ?_
  refine lv_iload_n hx hb dX9_tree_2 rfl (lv_at hl 2 rfl) ?_
  refine lv_iconst (v := nI 3) hx hb dX9_tree_3 (by decide +kernel) ?_
  refine lv_iload_n hx hb dX9_tree_4 rfl (lv_at hl 3 rfl) ?_
  refine um_mulN hx hb dX9_tree_5 ?_
  refine um_callP (va_runV (As := [.int (nI (d)), .int (nI (p)), .int (nI (3 * t))]) (rest := []) ⟨hx, hb, hml, hown, htg⟩ (mm_shown l D κ τ A σ md q th h hq d p (3 * t) (by omega) hp (by omega)) (cwV 3 htg (lw_cV tg_760 tg_762 slX9_shown tg_8 tg_763) rfl rfl rfl (by decide +kernel) ⟨Nat.le_of_ble_eq_true rfl, Nat.le_of_ble_eq_true rfl⟩) (um_preV hU hK hJ h.obj rfl) rfl rfl hl.1 rfl (lv_room (Nat.le_of_ble_eq_true rfl)) dX9_tree_6 ⟨Nat.le_of_ble_eq_true rfl, Nat.le_of_ble_eq_true rfl⟩) hU (fun H locs hU => ?_)
  refine lv_istore (lv' := [(5, .int (tb_m1 (tb_shown q d p (3 * t)))), (0, .ref (md 13)), (1, .int (nI (d))), (2, .int (nI (p))), (3, .int (nI (t))), (4, .int (nI (w)))]) hx hb dX9_tree_9 hl (by decide) rfl (fun ls hl => ?_)
  refine lv_aload_n hx hb dX9_tree_11 rfl (lv_at hl 1 rfl) ?_
  refine lv_iload_n hx hb dX9_tree_12 rfl (lv_at hl 2 rfl) ?_
  refine lv_iload_n hx hb dX9_tree_13 rfl (lv_at hl 3 rfl) ?_
  refine lv_iconst (v := nI 3) hx hb dX9_tree_14 (by decide +kernel) ?_
  refine lv_iload_n hx hb dX9_tree_15 rfl (lv_at hl 4 rfl) ?_
  refine um_mulN hx hb dX9_tree_16 ?_
  refine lv_iconst (v := nI 1) hx hb dX9_tree_17 (by decide +kernel) ?_
  refine um_addN hx hb dX9_tree_18 ?_
  refine um_callP (va_runV (As := [.int (nI (d)), .int (nI (p)), .int (nI ((3 * t) + 1))]) (rest := []) ⟨hx, hb, hml, hown, htg⟩ (mm_shown l D κ τ A σ md q th h hq d p ((3 * t) + 1) (by omega) hp (by omega)) (cwV 3 htg (lw_cV tg_760 tg_762 slX9_shown tg_8 tg_763) rfl rfl rfl (by decide +kernel) ⟨Nat.le_of_ble_eq_true rfl, Nat.le_of_ble_eq_true rfl⟩) (um_preV hU hK hJ h.obj rfl) rfl rfl hl.1 rfl (lv_room (Nat.le_of_ble_eq_true rfl)) dX9_tree_19 ⟨Nat.le_of_ble_eq_true rfl, Nat.le_of_ble_eq_true rfl⟩) hU (fun H locs hU => ?_)
  refine lv_istore (lv' := [(6, .int (tb_m1 (tb_shown q d p ((3 * t) + 1)))), (5, .int (tb_m1 (tb_shown q d p (3 * t)))), (0, .ref (md 13)), (1, .int (nI (d))), (2, .int (nI (p))), (3, .int (nI (t))), (4, .int (nI (w)))]) hx hb dX9_tree_22 hl (by decide) rfl (fun ls hl => ?_)
  refine lv_aload_n hx hb dX9_tree_24 rfl (lv_at hl 2 rfl) ?_
  refine lv_iload_n hx hb dX9_tree_25 rfl (lv_at hl 3 rfl) ?_
  refine lv_iload_n hx hb dX9_tree_26 rfl (lv_at hl 4 rfl) ?_
  refine lv_iconst (v := nI 3) hx hb dX9_tree_27 (by decide +kernel) ?_
  refine lv_iload_n hx hb dX9_tree_28 rfl (lv_at hl 5 rfl) ?_
  refine um_mulN hx hb dX9_tree_29 ?_
  refine lv_iconst (v := nI 2) hx hb dX9_tree_30 (by decide +kernel) ?_
  refine um_addN hx hb dX9_tree_31 ?_
  refine um_callP (va_runV (As := [.int (nI (d)), .int (nI (p)), .int (nI ((3 * t) + 2))]) (rest := []) ⟨hx, hb, hml, hown, htg⟩ (mm_shown l D κ τ A σ md q th h hq d p ((3 * t) + 2) (by omega) hp (by omega)) (cwV 3 htg (lw_cV tg_760 tg_762 slX9_shown tg_8 tg_763) rfl rfl rfl (by decide +kernel) ⟨Nat.le_of_ble_eq_true rfl, Nat.le_of_ble_eq_true rfl⟩) (um_preV hU hK hJ h.obj rfl) rfl rfl hl.1 rfl (lv_room (Nat.le_of_ble_eq_true rfl)) dX9_tree_32 ⟨Nat.le_of_ble_eq_true rfl, Nat.le_of_ble_eq_true rfl⟩) hU (fun H locs hU => ?_)
  refine lv_istore (lv' := [(7, .int (tb_m1 (tb_shown q d p ((3 * t) + 2)))), (6, .int (tb_m1 (tb_shown q d p ((3 * t) + 1)))), (5, .int (tb_m1 (tb_shown q d p (3 * t)))), (0, .ref (md 13)), (1, .int (nI (d))), (2, .int (nI (p))), (3, .int (nI (t))), (4, .int (nI (w)))]) hx hb dX9_tree_35 hl (by decide) rfl (fun ls hl => ?_)
  refine lv_iload hx hb dX9_tree_37 (lv_at hl 2 rfl) ?_
  refine um_geM (tgt := 46) hx hb dX9_tree_39 (by decide) (Nat.lt_of_le_of_lt (tb_shown_le q _ _ _) (by decide)) (fun c13 => ?_) (fun c13 => ?_)
  · refine lv_iconst (v := nI 1) hx hb dX9_tree_46 (by decide +kernel) ?_
    refine lv_iload hx hb dX9_tree_47 (lv_at hl 1 rfl) ?_
    refine um_geM (tgt := 56) hx hb dX9_tree_49 (by decide) (Nat.lt_of_le_of_lt (tb_shown_le q _ _ _) (by decide)) (fun c14 => ?_) (fun c14 => ?_)
    · refine lv_iconst (v := nI 1) hx hb dX9_tree_56 (by decide +kernel) ?_
      refine um_addN hx hb dX9_tree_57 ?_
      refine lv_iload hx hb dX9_tree_58 (lv_at hl 0 rfl) ?_
      refine um_geM (tgt := 67) hx hb dX9_tree_60 (by decide) (Nat.lt_of_le_of_lt (tb_shown_le q _ _ _) (by decide)) (fun c15 => ?_) (fun c15 => ?_)
      · refine lv_iconst (v := nI 1) hx hb dX9_tree_67 (by decide +kernel) ?_
        refine um_addN hx hb dX9_tree_68 ?_
        refine lv_istore (lv' := [(8, .int (nI ((1 + 1) + 1))), (7, .int (tb_m1 (tb_shown q d p ((3 * t) + 2)))), (6, .int (tb_m1 (tb_shown q d p ((3 * t) + 1)))), (5, .int (tb_m1 (tb_shown q d p (3 * t)))), (0, .ref (md 13)), (1, .int (nI (d))), (2, .int (nI (p))), (3, .int (nI (t))), (4, .int (nI (w)))]) hx hb dX9_tree_69 hl (by decide) rfl (fun ls hl => ?_)
        have hl : lv_has ls 13 [(0, .ref (md 13)), (1, .int (nI (d))), (2, .int (nI (p))), (4, .int (nI (w))), (5, .int (tb_m1 (tb_shown q d p (3 * t)))), (6, .int (tb_m1 (tb_shown q d p (3 * t + 1)))), (7, .int (tb_m1 (tb_shown q d p (3 * t + 2)))), (8, .int (nI (tb_th q d p t)))] := by
          rw [show (tb_shown q d p (3 * t + 1)) = (tb_shown q d p ((3 * t) + 1)) from rfl]
          rw [show (tb_shown q d p (3 * t + 2)) = (tb_shown q d p ((3 * t) + 2)) from rfl]
          rw [show (tb_th q d p t) = ((1 + 1) + 1) from by simp [tb_th, c13, c14, c15]]
          exact lv_sub hl [4, 5, 6, 8, 3, 2, 1, 0] rfl
        exact J1  ls _ _  hU hl
      · refine lv_iconst (v := nI 0) hx hb dX9_tree_63 (by decide +kernel) ?_
        refine lv_goto (tgt := 68) hx hb dX9_tree_64 (by decide) ?_
        refine um_addN hx hb dX9_tree_68 ?_
        refine lv_istore (lv' := [(8, .int (nI ((1 + 1) + 0))), (7, .int (tb_m1 (tb_shown q d p ((3 * t) + 2)))), (6, .int (tb_m1 (tb_shown q d p ((3 * t) + 1)))), (5, .int (tb_m1 (tb_shown q d p (3 * t)))), (0, .ref (md 13)), (1, .int (nI (d))), (2, .int (nI (p))), (3, .int (nI (t))), (4, .int (nI (w)))]) hx hb dX9_tree_69 hl (by decide) rfl (fun ls hl => ?_)
        have hl : lv_has ls 13 [(0, .ref (md 13)), (1, .int (nI (d))), (2, .int (nI (p))), (4, .int (nI (w))), (5, .int (tb_m1 (tb_shown q d p (3 * t)))), (6, .int (tb_m1 (tb_shown q d p (3 * t + 1)))), (7, .int (tb_m1 (tb_shown q d p (3 * t + 2)))), (8, .int (nI (tb_th q d p t)))] := by
          rw [show (tb_shown q d p (3 * t + 1)) = (tb_shown q d p ((3 * t) + 1)) from rfl]
          rw [show (tb_shown q d p (3 * t + 2)) = (tb_shown q d p ((3 * t) + 2)) from rfl]
          rw [show (tb_th q d p t) = ((1 + 1) + 0) from by simp [tb_th, c13, c14, c15]]
          exact lv_sub hl [4, 5, 6, 8, 3, 2, 1, 0] rfl
        exact J1  ls _ _  hU hl
    · refine lv_iconst (v := nI 0) hx hb dX9_tree_52 (by decide +kernel) ?_
      refine lv_goto (tgt := 57) hx hb dX9_tree_53 (by decide) ?_
      refine um_addN hx hb dX9_tree_57 ?_
      refine lv_iload hx hb dX9_tree_58 (lv_at hl 0 rfl) ?_
      refine um_geM (tgt := 67) hx hb dX9_tree_60 (by decide) (Nat.lt_of_le_of_lt (tb_shown_le q _ _ _) (by decide)) (fun c16 => ?_) (fun c16 => ?_)
      · refine lv_iconst (v := nI 1) hx hb dX9_tree_67 (by decide +kernel) ?_
        refine um_addN hx hb dX9_tree_68 ?_
        refine lv_istore (lv' := [(8, .int (nI ((1 + 0) + 1))), (7, .int (tb_m1 (tb_shown q d p ((3 * t) + 2)))), (6, .int (tb_m1 (tb_shown q d p ((3 * t) + 1)))), (5, .int (tb_m1 (tb_shown q d p (3 * t)))), (0, .ref (md 13)), (1, .int (nI (d))), (2, .int (nI (p))), (3, .int (nI (t))), (4, .int (nI (w)))]) hx hb dX9_tree_69 hl (by decide) rfl (fun ls hl => ?_)
        have hl : lv_has ls 13 [(0, .ref (md 13)), (1, .int (nI (d))), (2, .int (nI (p))), (4, .int (nI (w))), (5, .int (tb_m1 (tb_shown q d p (3 * t)))), (6, .int (tb_m1 (tb_shown q d p (3 * t + 1)))), (7, .int (tb_m1 (tb_shown q d p (3 * t + 2)))), (8, .int (nI (tb_th q d p t)))] := by
          rw [show (tb_shown q d p (3 * t + 1)) = (tb_shown q d p ((3 * t) + 1)) from rfl]
          rw [show (tb_shown q d p (3 * t + 2)) = (tb_shown q d p ((3 * t) + 2)) from rfl]
          rw [show (tb_th q d p t) = ((1 + 0) + 1) from by simp [tb_th, c13, c14, c16]]
          exact lv_sub hl [4, 5, 6, 8, 3, 2, 1, 0] rfl
        exact J1  ls _ _  hU hl
      · refine lv_iconst (v := nI 0) hx hb dX9_tree_63 (by decide +kernel) ?_
        refine lv_goto (tgt := 68) hx hb dX9_tree_64 (by decide) ?_
        refine um_addN hx hb dX9_tree_68 ?_
        refine lv_istore (lv' := [(8, .int (nI ((1 + 0) + 0))), (7, .int (tb_m1 (tb_shown q d p ((3 * t) + 2)))), (6, .int (tb_m1 (tb_shown q d p ((3 * t) + 1)))), (5, .int (tb_m1 (tb_shown q d p (3 * t)))), (0, .ref (md 13)), (1, .int (nI (d))), (2, .int (nI (p))), (3, .int (nI (t))), (4, .int (nI (w)))]) hx hb dX9_tree_69 hl (by decide) rfl (fun ls hl => ?_)
        have hl : lv_has ls 13 [(0, .ref (md 13)), (1, .int (nI (d))), (2, .int (nI (p))), (4, .int (nI (w))), (5, .int (tb_m1 (tb_shown q d p (3 * t)))), (6, .int (tb_m1 (tb_shown q d p (3 * t + 1)))), (7, .int (tb_m1 (tb_shown q d p (3 * t + 2)))), (8, .int (nI (tb_th q d p t)))] := by
          rw [show (tb_shown q d p (3 * t + 1)) = (tb_shown q d p ((3 * t) + 1)) from rfl]
          rw [show (tb_shown q d p (3 * t + 2)) = (tb_shown q d p ((3 * t) + 2)) from rfl]
          rw [show (tb_th q d p t) = ((1 + 0) + 0) from by simp [tb_th, c13, c14, c16]]
          exact lv_sub hl [4, 5, 6, 8, 3, 2, 1, 0] rfl
        exact J1  ls _ _  hU hl
  · refine lv_iconst (v := nI 0) hx hb dX9_tree_42 (by decide +kernel) ?_
    refine lv_goto (tgt := 47) hx hb dX9_tree_43 (by decide) ?_
    refine lv_iload hx hb dX9_tree_47 (lv_at hl 1 rfl) ?_
    refine um_geM (tgt := 56) hx hb dX9_tree_49 (by decide) (Nat.lt_of_le_of_lt (tb_shown_le q _ _ _) (by decide)) (fun c17 => ?_) (fun c17 => ?_)
    · refine lv_iconst (v := nI 1) hx hb dX9_tree_56 (by decide +kernel) ?_
      refine um_addN hx hb dX9_tree_57 ?_
      refine lv_iload hx hb dX9_tree_58 (lv_at hl 0 rfl) ?_
      refine um_geM (tgt := 67) hx hb dX9_tree_60 (by decide) (Nat.lt_of_le_of_lt (tb_shown_le q _ _ _) (by decide)) (fun c18 => ?_) (fun c18 => ?_)
      · refine lv_iconst (v := nI 1) hx hb dX9_tree_67 (by decide +kernel) ?_
        refine um_addN hx hb dX9_tree_68 ?_
        refine lv_istore (lv' := [(8, .int (nI ((0 + 1) + 1))), (7, .int (tb_m1 (tb_shown q d p ((3 * t) + 2)))), (6, .int (tb_m1 (tb_shown q d p ((3 * t) + 1)))), (5, .int (tb_m1 (tb_shown q d p (3 * t)))), (0, .ref (md 13)), (1, .int (nI (d))), (2, .int (nI (p))), (3, .int (nI (t))), (4, .int (nI (w)))]) hx hb dX9_tree_69 hl (by decide) rfl (fun ls hl => ?_)
        have hl : lv_has ls 13 [(0, .ref (md 13)), (1, .int (nI (d))), (2, .int (nI (p))), (4, .int (nI (w))), (5, .int (tb_m1 (tb_shown q d p (3 * t)))), (6, .int (tb_m1 (tb_shown q d p (3 * t + 1)))), (7, .int (tb_m1 (tb_shown q d p (3 * t + 2)))), (8, .int (nI (tb_th q d p t)))] := by
          rw [show (tb_shown q d p (3 * t + 1)) = (tb_shown q d p ((3 * t) + 1)) from rfl]
          rw [show (tb_shown q d p (3 * t + 2)) = (tb_shown q d p ((3 * t) + 2)) from rfl]
          rw [show (tb_th q d p t) = ((0 + 1) + 1) from by simp [tb_th, c13, c17, c18]]
          exact lv_sub hl [4, 5, 6, 8, 3, 2, 1, 0] rfl
        exact J1  ls _ _  hU hl
      · refine lv_iconst (v := nI 0) hx hb dX9_tree_63 (by decide +kernel) ?_
        refine lv_goto (tgt := 68) hx hb dX9_tree_64 (by decide) ?_
        refine um_addN hx hb dX9_tree_68 ?_
        refine lv_istore (lv' := [(8, .int (nI ((0 + 1) + 0))), (7, .int (tb_m1 (tb_shown q d p ((3 * t) + 2)))), (6, .int (tb_m1 (tb_shown q d p ((3 * t) + 1)))), (5, .int (tb_m1 (tb_shown q d p (3 * t)))), (0, .ref (md 13)), (1, .int (nI (d))), (2, .int (nI (p))), (3, .int (nI (t))), (4, .int (nI (w)))]) hx hb dX9_tree_69 hl (by decide) rfl (fun ls hl => ?_)
        have hl : lv_has ls 13 [(0, .ref (md 13)), (1, .int (nI (d))), (2, .int (nI (p))), (4, .int (nI (w))), (5, .int (tb_m1 (tb_shown q d p (3 * t)))), (6, .int (tb_m1 (tb_shown q d p (3 * t + 1)))), (7, .int (tb_m1 (tb_shown q d p (3 * t + 2)))), (8, .int (nI (tb_th q d p t)))] := by
          rw [show (tb_shown q d p (3 * t + 1)) = (tb_shown q d p ((3 * t) + 1)) from rfl]
          rw [show (tb_shown q d p (3 * t + 2)) = (tb_shown q d p ((3 * t) + 2)) from rfl]
          rw [show (tb_th q d p t) = ((0 + 1) + 0) from by simp [tb_th, c13, c17, c18]]
          exact lv_sub hl [4, 5, 6, 8, 3, 2, 1, 0] rfl
        exact J1  ls _ _  hU hl
    · refine lv_iconst (v := nI 0) hx hb dX9_tree_52 (by decide +kernel) ?_
      refine lv_goto (tgt := 57) hx hb dX9_tree_53 (by decide) ?_
      refine um_addN hx hb dX9_tree_57 ?_
      refine lv_iload hx hb dX9_tree_58 (lv_at hl 0 rfl) ?_
      refine um_geM (tgt := 67) hx hb dX9_tree_60 (by decide) (Nat.lt_of_le_of_lt (tb_shown_le q _ _ _) (by decide)) (fun c19 => ?_) (fun c19 => ?_)
      · refine lv_iconst (v := nI 1) hx hb dX9_tree_67 (by decide +kernel) ?_
        refine um_addN hx hb dX9_tree_68 ?_
        refine lv_istore (lv' := [(8, .int (nI ((0 + 0) + 1))), (7, .int (tb_m1 (tb_shown q d p ((3 * t) + 2)))), (6, .int (tb_m1 (tb_shown q d p ((3 * t) + 1)))), (5, .int (tb_m1 (tb_shown q d p (3 * t)))), (0, .ref (md 13)), (1, .int (nI (d))), (2, .int (nI (p))), (3, .int (nI (t))), (4, .int (nI (w)))]) hx hb dX9_tree_69 hl (by decide) rfl (fun ls hl => ?_)
        have hl : lv_has ls 13 [(0, .ref (md 13)), (1, .int (nI (d))), (2, .int (nI (p))), (4, .int (nI (w))), (5, .int (tb_m1 (tb_shown q d p (3 * t)))), (6, .int (tb_m1 (tb_shown q d p (3 * t + 1)))), (7, .int (tb_m1 (tb_shown q d p (3 * t + 2)))), (8, .int (nI (tb_th q d p t)))] := by
          rw [show (tb_shown q d p (3 * t + 1)) = (tb_shown q d p ((3 * t) + 1)) from rfl]
          rw [show (tb_shown q d p (3 * t + 2)) = (tb_shown q d p ((3 * t) + 2)) from rfl]
          rw [show (tb_th q d p t) = ((0 + 0) + 1) from by simp [tb_th, c13, c17, c19]]
          exact lv_sub hl [4, 5, 6, 8, 3, 2, 1, 0] rfl
        exact J1  ls _ _  hU hl
      · refine lv_iconst (v := nI 0) hx hb dX9_tree_63 (by decide +kernel) ?_
        refine lv_goto (tgt := 68) hx hb dX9_tree_64 (by decide) ?_
        refine um_addN hx hb dX9_tree_68 ?_
        refine lv_istore (lv' := [(8, .int (nI ((0 + 0) + 0))), (7, .int (tb_m1 (tb_shown q d p ((3 * t) + 2)))), (6, .int (tb_m1 (tb_shown q d p ((3 * t) + 1)))), (5, .int (tb_m1 (tb_shown q d p (3 * t)))), (0, .ref (md 13)), (1, .int (nI (d))), (2, .int (nI (p))), (3, .int (nI (t))), (4, .int (nI (w)))]) hx hb dX9_tree_69 hl (by decide) rfl (fun ls hl => ?_)
        have hl : lv_has ls 13 [(0, .ref (md 13)), (1, .int (nI (d))), (2, .int (nI (p))), (4, .int (nI (w))), (5, .int (tb_m1 (tb_shown q d p (3 * t)))), (6, .int (tb_m1 (tb_shown q d p (3 * t + 1)))), (7, .int (tb_m1 (tb_shown q d p (3 * t + 2)))), (8, .int (nI (tb_th q d p t)))] := by
          rw [show (tb_shown q d p (3 * t + 1)) = (tb_shown q d p ((3 * t) + 1)) from rfl]
          rw [show (tb_shown q d p (3 * t + 2)) = (tb_shown q d p ((3 * t) + 2)) from rfl]
          rw [show (tb_th q d p t) = ((0 + 0) + 0) from by simp [tb_th, c13, c17, c19]]
          exact lv_sub hl [4, 5, 6, 8, 3, 2, 1, 0] rfl
        exact J1  ls _ _  hU hl

set_option maxRecDepth 100000 in
set_option maxHeartbeats 4000000 in
theorem mm_sum (l : Launch) (D : va_G) (κ : Nat → ClassId) (τ : Nat → Nat) (A : Nat → Prop) (σ : um_M) (md : Nat → Nat) (q : tb_Q) (th : Nat) (h : md_at κ σ md q th) (hq : tb_sm q) (hs : tb_sp q) (d p w : Nat) (hd : d < 5) (hp : p < 2147483648) (hw : w < 4) : Met l yX9_sum wsX9_sum ({ frames := 6, cells := 0, slots := 0, locals := 156 }) (va_Pc [.ref (md 13), .int (nI (d)), .int (nI (p)), .int (nI (w))] (um_U D κ τ A σ)) (va_Ql (fun (r9 : Int64) (σ' : um_M) => r9 = tb_sum q d p w ∧ σ' = σ) (um_U D κ τ A) A) 0 0 A := by
  refine um_met (cc := cX9_sum) (maxL := 7) (ret := (some .long)) (by decide) rfl rfl ?_
  intro pp ee s mm args below meth cd ls hx hb hr hts hown hlocks hml hnm hK hJ hU hl
  have hown : s.vm.findClass RX9 = some mm.cls := hown
  have htg : ∀ w ∈ lw_g, w.before args s = true := fun w h => hts w (List.mem_cons_of_mem _ h)
  have hl : lv_has ls 7 [(0, .ref (md 13)), (1, .int (nI (d))), (2, .int (nI (p))), (3, .int (nI (w)))] := hl
  have L1 : ∀ (nf : Nat) (i : Nat) (ls : Array Slot) (H : Heap) (locs : List Loc), 4 - i < nf → i ≤ 4 → um_S D vwCl A s σ H locs → lv_has ls 7 [(0, .ref (md 13)), (1, .int (nI (d))), (2, .int (nI (p))), (3, .int (nI (w))), (4, .long (tb_fo (tb_smF q d p w) 0 i)), (6, .int (nI (i)))] → W pp l ee ({ frames := 6, cells := 0, slots := 0, locals := 156 }) s mm args below meth cd H locs 0 0 (MQ below (va_Ql (fun (r9 : Int64) (σ' : um_M) => r9 = tb_sum q d p w ∧ σ' = σ) (um_U D κ τ A) A) args s 0 0 A) (F0 mm 6 ls []) := by
    intro nf
    induction nf with
    | zero => intro i ls H locs hnf; exact absurd hnf (Nat.not_lt_zero _)
    | succ nf ih =>
      intro i ls H locs hnf z1 hU hl
      refine lv_iload hx hb dX9_sum_6 (lv_at hl 5 rfl) ?_
      refine lv_iconst (v := nI 4) hx hb dX9_sum_8 (by decide +kernel) ?_
      refine um_geN (tgt := 44) hx hb dX9_sum_9 (by decide) (by omega) (by decide) (fun c1 => ?_) (fun c1 => ?_)
      · refine lv_lload hx hb dX9_sum_44 (lv_at hl 4 rfl) ?_
        exact um_lret hx hb hr hlocks hK hJ hU dX9_sum_46 ⟨by rw [show i = 4 by omega]; rfl, rfl⟩
      · refine lv_lload hx hb dX9_sum_12 (lv_at hl 4 rfl) ?_
        refine lv_aload_n hx hb dX9_sum_14 rfl (lv_at hl 0 rfl) ?_
        refine lv_iload_n hx hb dX9_sum_15 rfl (lv_at hl 1 rfl) ?_
        refine lv_iload_n hx hb dX9_sum_16 rfl (lv_at hl 2 rfl) ?_
        refine lv_iload hx hb dX9_sum_17 (lv_at hl 5 rfl) ?_
        refine lv_iload_n hx hb dX9_sum_19 rfl (lv_at hl 3 rfl) ?_
        refine um_callPl (va_runV (As := [.int (nI (d)), .int (nI (p)), .int (nI (i)), .int (nI (w))]) (rest := [.long (tb_fo (tb_smF q d p w) 0 i)]) ⟨hx, hb, hml, hown, htg⟩ (mm_tree l D κ τ A σ md q th h hq hs d p i w (by omega) hp (by omega) (by omega)) (cwV 4 htg (lw_cV tg_828 tg_830 slX9_tree tg_8 tg_831) rfl rfl rfl (by decide +kernel) ⟨Nat.le_of_ble_eq_true rfl, Nat.le_of_ble_eq_true rfl⟩) (um_preV hU hK hJ h.obj rfl) rfl rfl hl.1 rfl (lv_room (Nat.le_of_ble_eq_true rfl)) dX9_sum_20 ⟨Nat.le_of_ble_eq_true rfl, Nat.le_of_ble_eq_true rfl⟩) hU (fun H locs hU => ?_)
        refine lv_iload_n hx hb dX9_sum_23 rfl (lv_at hl 3 rfl) ?_
        refine lv_iconst (v := nI 3) hx hb dX9_sum_24 (by decide +kernel) ?_
        refine um_neN (tgt := 33) hx hb dX9_sum_25 (by decide) (by omega) (by decide) (fun c2 => ?_) (fun c2 => ?_)
        · refine lv_iconst (v := nI 0) hx hb dX9_sum_33 (by decide +kernel) ?_
          refine lv_lshl (v := (tb_tree q d p i w) <<< ((nI 0).toInt64 &&& 63)) hx hb dX9_sum_34 rfl ?_
          refine lv_ladd hx hb dX9_sum_35 ?_
          refine lv_lstore (lv' := [(4, .long ((tb_fo (tb_smF q d p w) 0 i) + ((tb_tree q d p i w) <<< ((nI 0).toInt64 &&& 63)))), (0, .ref (md 13)), (1, .int (nI (d))), (2, .int (nI (p))), (3, .int (nI (w))), (6, .int (nI (i)))]) hx hb dX9_sum_36 hl (by decide) rfl (fun ls hl => ?_)
          refine lv_iinc (k := 5) (v := nI (i + 1)) (lv' := [(6, .int (nI (i + 1))), (4, .long ((tb_fo (tb_smF q d p w) 0 i) + ((tb_tree q d p i w) <<< ((nI 0).toInt64 &&& 63)))), (0, .ref (md 13)), (1, .int (nI (d))), (2, .int (nI (p))), (3, .int (nI (w)))]) hx hb dX9_sum_38 hl rfl (nI_add _ _) (by decide) rfl (fun ls hl => ?_)
          refine lv_goto (tgt := 6) hx hb dX9_sum_41 (by decide) ?_
          have hl : lv_has ls 7 [(0, .ref (md 13)), (1, .int (nI (d))), (2, .int (nI (p))), (3, .int (nI (w))), (4, .long (tb_fo (tb_smF q d p w) 0 (i + 1))), (6, .int (nI ((i + 1))))] := by
            rw [show (tb_fo (tb_smF q d p w) 0 (i + 1)) = ((tb_fo (tb_smF q d p w) 0 i) + ((tb_tree q d p i w) <<< ((nI 0).toInt64 &&& 63))) from by first | rfl | simp [tb_fo_s, tb_smF, c1, c2]]
            exact lv_sub hl [2, 3, 4, 5, 1, 0] rfl
          exact ih (i + 1) ls _ _ (by omega) (by omega) hU hl
        · refine lv_iload hx hb dX9_sum_28 (lv_at hl 5 rfl) ?_
          refine lv_goto (tgt := 34) hx hb dX9_sum_30 (by decide) ?_
          refine lv_lshl (v := (tb_tree q d p i w) <<< ((nI i).toInt64 &&& 63)) hx hb dX9_sum_34 rfl ?_
          refine lv_ladd hx hb dX9_sum_35 ?_
          refine lv_lstore (lv' := [(4, .long ((tb_fo (tb_smF q d p w) 0 i) + ((tb_tree q d p i w) <<< ((nI i).toInt64 &&& 63)))), (0, .ref (md 13)), (1, .int (nI (d))), (2, .int (nI (p))), (3, .int (nI (w))), (6, .int (nI (i)))]) hx hb dX9_sum_36 hl (by decide) rfl (fun ls hl => ?_)
          refine lv_iinc (k := 5) (v := nI (i + 1)) (lv' := [(6, .int (nI (i + 1))), (4, .long ((tb_fo (tb_smF q d p w) 0 i) + ((tb_tree q d p i w) <<< ((nI i).toInt64 &&& 63)))), (0, .ref (md 13)), (1, .int (nI (d))), (2, .int (nI (p))), (3, .int (nI (w)))]) hx hb dX9_sum_38 hl rfl (nI_add _ _) (by decide) rfl (fun ls hl => ?_)
          refine lv_goto (tgt := 6) hx hb dX9_sum_41 (by decide) ?_
          have hl : lv_has ls 7 [(0, .ref (md 13)), (1, .int (nI (d))), (2, .int (nI (p))), (3, .int (nI (w))), (4, .long (tb_fo (tb_smF q d p w) 0 (i + 1))), (6, .int (nI ((i + 1))))] := by
            rw [show (tb_fo (tb_smF q d p w) 0 (i + 1)) = ((tb_fo (tb_smF q d p w) 0 i) + ((tb_tree q d p i w) <<< ((nI i).toInt64 &&& 63))) from by first | rfl | simp [tb_fo_s, tb_smF, c1, c2]]
            exact lv_sub hl [2, 3, 4, 5, 1, 0] rfl
          exact ih (i + 1) ls _ _ (by omega) (by omega) hU hl
  refine lv_lconst (v := 0) hx hb dX9_sum_0 (by decide +kernel) ?_
  refine lv_lstore (lv' := [(4, .long (0)), (0, .ref (md 13)), (1, .int (nI (d))), (2, .int (nI (p))), (3, .int (nI (w)))]) hx hb dX9_sum_1 hl (by decide) rfl (fun ls hl => ?_)
  refine lv_iconst (v := nI 0) hx hb dX9_sum_3 (by decide +kernel) ?_
  refine lv_istore (lv' := [(6, .int (nI (0))), (4, .long (0)), (0, .ref (md 13)), (1, .int (nI (d))), (2, .int (nI (p))), (3, .int (nI (w)))]) hx hb dX9_sum_4 hl (by decide) rfl (fun ls hl => ?_)
  have hl : lv_has ls 7 [(0, .ref (md 13)), (1, .int (nI (d))), (2, .int (nI (p))), (3, .int (nI (w))), (4, .long (tb_fo (tb_smF q d p w) 0 0)), (6, .int (nI (0)))] := by
    rw [show (tb_fo (tb_smF q d p w) 0 0) = 0 from by first | rfl | simp [tb_fo_s, tb_smF, ]]
    exact lv_sub hl [2, 3, 4, 5, 1, 0] rfl
  exact L1 5 0 ls _ _ (by omega) (by omega) hU hl

set_option maxRecDepth 100000 in
set_option maxHeartbeats 4000000 in
theorem mm_plot (l : Launch) (D : va_G) (κ : Nat → ClassId) (τ : Nat → Nat) (A : Nat → Prop) (σ : um_M) (md : Nat → Nat) (q : tb_Q) (th : Nat) (h : md_at κ σ md q th) (hq : tb_sm q) (hs : tb_sp q) (x0 x1 x2 : Int32) : Met l yX9_plot wsX9_plot ({ frames := 7, cells := 0, slots := 0, locals := 182 }) (va_Pc [.ref (md 13), .int (x0), .int (x1), .int (x2)] (um_U D κ τ A σ)) (va_Ql (fun (r9 : Int64) (σ' : um_M) => r9 = tbA_plot q x0 x1 x2 ∧ md_at κ σ' md q (tbT_plot x0 x1 x2)) (um_U D κ τ A) A) 0 0 A := by
  refine um_met (cc := cX9_plot) (maxL := 4) (ret := (some .long)) (by decide) rfl rfl ?_
  intro pp ee s mm args below meth cd ls hx hb hr hts hown hlocks hml hnm hK hJ hU hl
  have hown : s.vm.findClass RX9 = some mm.cls := hown
  have htg : ∀ w ∈ lw_g, w.before args s = true := fun w h => hts w (List.mem_cons_of_mem _ h)
  have hl : lv_has ls 4 [(0, .ref (md 13)), (1, .int (x0)), (2, .int (x1)), (3, .int (x2))] := hl
  refine lv_aload_n hx hb dX9_plot_0 rfl (lv_at hl 0 rfl) ?_
  refine lv_iload_n hx hb dX9_plot_1 rfl (lv_at hl 1 rfl) ?_
  refine lv_iconst (v := nI 0) hx hb dX9_plot_2 (by decide +kernel) ?_
  refine lv_iconst (v := nI 4) hx hb dX9_plot_3 (by decide +kernel) ?_
  refine um_callP (va_runS (As := [.int (x0), .int (nI (0)), .int (nI (4))]) (rest := [.ref (md 13)]) ⟨hx, hb, hml, hown, htg⟩ (mm_in l D κ τ A σ x0 (nI 0) (nI 4)) (cwS 3 htg (lw_cS tg_695 tg_696 tg_8 tg_697) rfl rfl rfl (by decide +kernel) ⟨Nat.le_of_ble_eq_true rfl, Nat.le_of_ble_eq_true rfl⟩) (um_preS hU hK hJ) rfl rfl hl.1 rfl (lv_room (Nat.le_of_ble_eq_true rfl)) dX9_plot_4 ⟨Nat.le_of_ble_eq_true rfl, Nat.le_of_ble_eq_true rfl⟩) hU (fun H locs hU => ?_)
  refine um_eqB (tgt := 28) hx hb dX9_plot_7 (by decide) (fun c1 => ?_) (fun c1 => ?_)
  · refine lv_iconst (v := nI 1) hx hb dX9_plot_28 (by decide +kernel) ?_
    refine lv_goto (tgt := 33) hx hb dX9_plot_29 (by decide) ?_
    refine lv_iconst (v := nI 1) hx hb dX9_plot_33 (by decide +kernel) ?_
    refine um_calli (va_runV (As := [.int (nI (1)), .int (nI (1))]) (rest := []) ⟨hx, hb, hml, hown, htg⟩ (mm_fails l D κ τ A σ md q th h true 1) (cwV 2 htg (lw_cV tg_698 tg_700 slX9_fails tg_8 tg_701) rfl rfl rfl (by decide +kernel) ⟨Nat.le_of_ble_eq_true rfl, Nat.le_of_ble_eq_true rfl⟩) (um_preV hU hK hJ h.obj rfl) rfl rfl hl.1 rfl (lv_room (Nat.le_of_ble_eq_true rfl)) dX9_plot_34 ⟨Nat.le_of_ble_eq_true rfl, Nat.le_of_ble_eq_true rfl⟩) hU (fun r9 σ H locs h hU => ?_)
    obtain ⟨rfl, h⟩ := h
    refine um_eqB (tgt := 44) hx hb dX9_plot_37 (by decide) (fun h => by cases h) (fun _ => ?_)
    refine lv_lconst (v := 0) hx hb dX9_plot_40 (by decide +kernel) ?_
    refine lv_goto (tgt := 51) hx hb dX9_plot_41 (by decide) ?_
    exact um_lret hx hb hr hlocks hK hJ hU dX9_plot_51 ⟨by simp [tbT_plot, tbA_plot, tb_plB, c1], (by rw [show (tbT_plot x0 x1 x2) = (if true = true then 1 else 0) from by simp [tbT_plot, tbA_plot, tb_plB, c1]]; exact h)⟩
  · refine lv_iload_n hx hb dX9_plot_10 rfl (lv_at hl 2 rfl) ?_
    refine lv_iconst (v := nI 0) hx hb dX9_plot_11 (by decide +kernel) ?_
    refine lv_iconst (v := nI 5) hx hb dX9_plot_12 (by decide +kernel) ?_
    refine um_callP (va_runS (As := [.int (x1), .int (nI (0)), .int (nI (5))]) (rest := [.ref (md 13)]) ⟨hx, hb, hml, hown, htg⟩ (mm_in l D κ τ A σ x1 (nI 0) (nI 5)) (cwS 3 htg (lw_cS tg_695 tg_696 tg_8 tg_697) rfl rfl rfl (by decide +kernel) ⟨Nat.le_of_ble_eq_true rfl, Nat.le_of_ble_eq_true rfl⟩) (um_preS hU hK hJ) rfl rfl hl.1 rfl (lv_room (Nat.le_of_ble_eq_true rfl)) dX9_plot_13 ⟨Nat.le_of_ble_eq_true rfl, Nat.le_of_ble_eq_true rfl⟩) hU (fun H locs hU => ?_)
    refine um_eqB (tgt := 28) hx hb dX9_plot_16 (by decide) (fun c2 => ?_) (fun c2 => ?_)
    · refine lv_iconst (v := nI 1) hx hb dX9_plot_28 (by decide +kernel) ?_
      refine lv_goto (tgt := 33) hx hb dX9_plot_29 (by decide) ?_
      refine lv_iconst (v := nI 1) hx hb dX9_plot_33 (by decide +kernel) ?_
      refine um_calli (va_runV (As := [.int (nI (1)), .int (nI (1))]) (rest := []) ⟨hx, hb, hml, hown, htg⟩ (mm_fails l D κ τ A σ md q th h true 1) (cwV 2 htg (lw_cV tg_698 tg_700 slX9_fails tg_8 tg_701) rfl rfl rfl (by decide +kernel) ⟨Nat.le_of_ble_eq_true rfl, Nat.le_of_ble_eq_true rfl⟩) (um_preV hU hK hJ h.obj rfl) rfl rfl hl.1 rfl (lv_room (Nat.le_of_ble_eq_true rfl)) dX9_plot_34 ⟨Nat.le_of_ble_eq_true rfl, Nat.le_of_ble_eq_true rfl⟩) hU (fun r9 σ H locs h hU => ?_)
      obtain ⟨rfl, h⟩ := h
      refine um_eqB (tgt := 44) hx hb dX9_plot_37 (by decide) (fun h => by cases h) (fun _ => ?_)
      refine lv_lconst (v := 0) hx hb dX9_plot_40 (by decide +kernel) ?_
      refine lv_goto (tgt := 51) hx hb dX9_plot_41 (by decide) ?_
      exact um_lret hx hb hr hlocks hK hJ hU dX9_plot_51 ⟨by simp [tbT_plot, tbA_plot, tb_plB, c1, c2], (by rw [show (tbT_plot x0 x1 x2) = (if true = true then 1 else 0) from by simp [tbT_plot, tbA_plot, tb_plB, c1, c2]]; exact h)⟩
    · refine lv_iload_n hx hb dX9_plot_19 rfl (lv_at hl 3 rfl) ?_
      refine lv_iconst (v := nI 0) hx hb dX9_plot_20 (by decide +kernel) ?_
      refine lv_iconst (v := nI 3) hx hb dX9_plot_21 (by decide +kernel) ?_
      refine um_callP (va_runS (As := [.int (x2), .int (nI (0)), .int (nI (3))]) (rest := [.ref (md 13)]) ⟨hx, hb, hml, hown, htg⟩ (mm_in l D κ τ A σ x2 (nI 0) (nI 3)) (cwS 3 htg (lw_cS tg_695 tg_696 tg_8 tg_697) rfl rfl rfl (by decide +kernel) ⟨Nat.le_of_ble_eq_true rfl, Nat.le_of_ble_eq_true rfl⟩) (um_preS hU hK hJ) rfl rfl hl.1 rfl (lv_room (Nat.le_of_ble_eq_true rfl)) dX9_plot_22 ⟨Nat.le_of_ble_eq_true rfl, Nat.le_of_ble_eq_true rfl⟩) hU (fun H locs hU => ?_)
      refine um_neB (tgt := 32) hx hb dX9_plot_25 (by decide) (fun c3 => ?_) (fun c3 => ?_)
      · refine lv_iconst (v := nI 0) hx hb dX9_plot_32 (by decide +kernel) ?_
        refine lv_iconst (v := nI 1) hx hb dX9_plot_33 (by decide +kernel) ?_
        refine um_calli (va_runV (As := [.int (nI (0)), .int (nI (1))]) (rest := []) ⟨hx, hb, hml, hown, htg⟩ (mm_fails l D κ τ A σ md q th h false 1) (cwV 2 htg (lw_cV tg_698 tg_700 slX9_fails tg_8 tg_701) rfl rfl rfl (by decide +kernel) ⟨Nat.le_of_ble_eq_true rfl, Nat.le_of_ble_eq_true rfl⟩) (um_preV hU hK hJ h.obj rfl) rfl rfl hl.1 rfl (lv_room (Nat.le_of_ble_eq_true rfl)) dX9_plot_34 ⟨Nat.le_of_ble_eq_true rfl, Nat.le_of_ble_eq_true rfl⟩) hU (fun r9 σ H locs h hU => ?_)
        obtain ⟨rfl, h⟩ := h
        refine um_eqB (tgt := 44) hx hb dX9_plot_37 (by decide) (fun _ => ?_) (fun h => by cases h)
        obtain ⟨j0, ha_j0, hb_j0, rfl⟩ := tb_inN (by decide) (by decide) c1
        have en_j0 : (nI j0).toNatClampNeg = j0 := nI_clamp (by omega)
        obtain ⟨j1, ha_j1, hb_j1, rfl⟩ := tb_inN (by decide) (by decide) c2
        have en_j1 : (nI j1).toNatClampNeg = j1 := nI_clamp (by omega)
        obtain ⟨j2, ha_j2, hb_j2, rfl⟩ := tb_inN (by decide) (by decide) c3
        have en_j2 : (nI j2).toNatClampNeg = j2 := nI_clamp (by omega)
        refine lv_aload_n hx hb dX9_plot_44 rfl (lv_at hl 0 rfl) ?_
        refine lv_iload_n hx hb dX9_plot_45 rfl (lv_at hl 1 rfl) ?_
        refine lv_iload_n hx hb dX9_plot_46 rfl (lv_at hl 2 rfl) ?_
        refine lv_iload_n hx hb dX9_plot_47 rfl (lv_at hl 3 rfl) ?_
        refine um_callPl (va_runV (As := [.int (nI (j0)), .int (nI (j1)), .int (nI (j2))]) (rest := []) ⟨hx, hb, hml, hown, htg⟩ (mm_sum l D κ τ A σ md q (if false = true then 1 else 0) h hq hs j0 j1 j2 (by omega) (by omega) (by omega)) (cwV 3 htg (lw_cV tg_824 tg_826 slX9_sum tg_8 tg_827) rfl rfl rfl (by decide +kernel) ⟨Nat.le_of_ble_eq_true rfl, Nat.le_of_ble_eq_true rfl⟩) (um_preV hU hK hJ h.obj rfl) rfl rfl hl.1 rfl (lv_room (Nat.le_of_ble_eq_true rfl)) dX9_plot_48 ⟨Nat.le_of_ble_eq_true rfl, Nat.le_of_ble_eq_true rfl⟩) hU (fun H locs hU => ?_)
        exact um_lret hx hb hr hlocks hK hJ hU dX9_plot_51 ⟨by simp [tbT_plot, tbA_plot, tb_plB, c1, c2, c3, en_j0, en_j1, en_j2], (by rw [show (tbT_plot (nI j0) (nI j1) (nI j2)) = (if false = true then 1 else 0) from by simp [tbT_plot, tbA_plot, tb_plB, c1, c2, c3, en_j0, en_j1, en_j2]]; exact h)⟩
      · refine lv_iconst (v := nI 1) hx hb dX9_plot_28 (by decide +kernel) ?_
        refine lv_goto (tgt := 33) hx hb dX9_plot_29 (by decide) ?_
        refine lv_iconst (v := nI 1) hx hb dX9_plot_33 (by decide +kernel) ?_
        refine um_calli (va_runV (As := [.int (nI (1)), .int (nI (1))]) (rest := []) ⟨hx, hb, hml, hown, htg⟩ (mm_fails l D κ τ A σ md q th h true 1) (cwV 2 htg (lw_cV tg_698 tg_700 slX9_fails tg_8 tg_701) rfl rfl rfl (by decide +kernel) ⟨Nat.le_of_ble_eq_true rfl, Nat.le_of_ble_eq_true rfl⟩) (um_preV hU hK hJ h.obj rfl) rfl rfl hl.1 rfl (lv_room (Nat.le_of_ble_eq_true rfl)) dX9_plot_34 ⟨Nat.le_of_ble_eq_true rfl, Nat.le_of_ble_eq_true rfl⟩) hU (fun r9 σ H locs h hU => ?_)
        obtain ⟨rfl, h⟩ := h
        refine um_eqB (tgt := 44) hx hb dX9_plot_37 (by decide) (fun h => by cases h) (fun _ => ?_)
        refine lv_lconst (v := 0) hx hb dX9_plot_40 (by decide +kernel) ?_
        refine lv_goto (tgt := 51) hx hb dX9_plot_41 (by decide) ?_
        exact um_lret hx hb hr hlocks hK hJ hU dX9_plot_51 ⟨by simp [tbT_plot, tbA_plot, tb_plB, c1, c2, c3], (by rw [show (tbT_plot x0 x1 x2) = (if true = true then 1 else 0) from by simp [tbT_plot, tbA_plot, tb_plB, c1, c2, c3]]; exact h)⟩

set_option maxRecDepth 100000 in
set_option maxHeartbeats 4000000 in
theorem mm_total (l : Launch) (D : va_G) (κ : Nat → ClassId) (τ : Nat → Nat) (A : Nat → Prop) (σ : um_M) (md : Nat → Nat) (q : tb_Q) (th : Nat) (h : md_at κ σ md q th) (hq : tb_sm q) (hs : tb_sp q) (x0 x1 x2 : Int32) : Met l yX9_total wsX9_total ({ frames := 7, cells := 0, slots := 0, locals := 182 }) (va_Pc [.ref (md 13), .int (x0), .int (x1), .int (x2)] (um_U D κ τ A σ)) (va_Ql (fun (r9 : Int64) (σ' : um_M) => r9 = tbA_total q x0 x1 x2 ∧ md_at κ σ' md q (tbT_total x0 x1 x2)) (um_U D κ τ A) A) 0 0 A := by
  refine um_met (cc := cX9_total) (maxL := 15) (ret := (some .long)) (by decide) rfl rfl ?_
  intro pp ee s mm args below meth cd ls hx hb hr hts hown hlocks hml hnm hK hJ hU hl
  have hown : s.vm.findClass RX9 = some mm.cls := hown
  have htg : ∀ w ∈ lw_g, w.before args s = true := fun w h => hts w (List.mem_cons_of_mem _ h)
  have hl : lv_has ls 15 [(0, .ref (md 13)), (1, .int (x0)), (2, .int (x1)), (3, .int (x2))] := hl
  have L1 : ∀ (nf : Nat) (d : Nat) (st : Nat) (w : Nat) (i : Nat) (ls : Array Slot) (σ : um_M) (H : Heap) (locs : List Loc), 6 - i < nf → i ≤ 6 → d < 5 → st < 3 → w < 4 → x0 = nI d → x1 = nI st → x2 = nI w → (tb_in x0 (nI 0) (nI 4) && tb_in x1 (nI 0) (nI 2) && tb_in x2 (nI 0) (nI 3)) = true → md_at κ σ md q (if false = true then 1 else 0) → um_S D vwCl A s σ H locs → lv_has ls 15 [(0, .ref (md 13)), (1, .int (nI (d))), (2, .int (nI (st))), (3, .int (nI (w))), (4, .long (tb_fo (tb_toNF q st) 0 i)), (6, .long (tb_fo (tb_toVF q d st) 0 i)), (8, .long (tb_fo (tb_toSF q d st) 0 i)), (10, .long (tb_fo (tb_toMF q d st) 0 i)), (12, .int (nI (i)))] → W pp l ee ({ frames := 7, cells := 0, slots := 0, locals := 182 }) s mm args below meth cd H locs 0 0 (MQ below (va_Ql (fun (r9 : Int64) (σ' : um_M) => r9 = tbA_total q x0 x1 x2 ∧ md_at κ σ' md q (tbT_total x0 x1 x2)) (um_U D κ τ A) A) args s 0 0 A) (F0 mm 57 ls []) := by
    intro nf
    induction nf with
    | zero => intro d st w i ls σ H locs hnf; exact absurd hnf (Nat.not_lt_zero _)
    | succ nf ih =>
      intro d st w i ls σ H locs hnf z1 z2 z3 z4 z5 z6 z7 z8 h hU hl
      refine lv_iload hx hb dX9_total_57 (lv_at hl 8 rfl) ?_
      refine lv_bipush (v := nI 6) hx hb dX9_total_59 (by decide +kernel) ?_
      refine um_geN (tgt := 130) hx hb dX9_total_61 (by decide) (by omega) (by decide) (fun c1 => ?_) (fun c1 => ?_)
      · have hi2 : i = 6 := by omega
        subst hi2
        refine lv_iload_n hx hb dX9_total_130 rfl (lv_at hl 3 rfl) ?_
        refine lv_iconst (v := nI 1) hx hb dX9_total_131 (by decide +kernel) ?_
        refine um_neN (tgt := 171) hx hb dX9_total_132 (by decide) (by omega) (by decide) (fun c2 => ?_) (fun c2 => ?_)
        · refine lv_iload_n hx hb dX9_total_171 rfl (lv_at hl 3 rfl) ?_
          refine um_ne0N (tgt := 180) hx hb dX9_total_172 (by decide) (by omega) (fun c3 => ?_) (fun c3 => ?_)
          · refine lv_iload_n hx hb dX9_total_180 rfl (lv_at hl 3 rfl) ?_
            refine lv_iconst (v := nI 2) hx hb dX9_total_181 (by decide +kernel) ?_
            refine um_neN (tgt := 190) hx hb dX9_total_182 (by decide) (by omega) (by decide) (fun c4 => ?_) (fun c4 => ?_)
            · refine lv_lload hx hb dX9_total_190 (lv_at hl 4 rfl) ?_
              exact um_lret hx hb hr hlocks hK hJ hU dX9_total_192 ⟨by rw [tbA_total, if_pos z8, z5, z6, z7, nI_clamp (by omega), nI_clamp (by omega), nI_clamp (by omega)]; simp [tb_tot, c1, c2, c3, c4], (by rw [show tbT_total x0 x1 x2 = if false = true then 1 else 0 from by rw [tbT_total, if_pos z8]; rfl]; exact h)⟩
            · refine lv_lload hx hb dX9_total_185 (lv_at hl 7 rfl) ?_
              refine lv_goto (tgt := 192) hx hb dX9_total_187 (by decide) ?_
              exact um_lret hx hb hr hlocks hK hJ hU dX9_total_192 ⟨by rw [tbA_total, if_pos z8, z5, z6, z7, nI_clamp (by omega), nI_clamp (by omega), nI_clamp (by omega)]; simp [tb_tot, c1, c2, c3, c4], (by rw [show tbT_total x0 x1 x2 = if false = true then 1 else 0 from by rw [tbT_total, if_pos z8]; rfl]; exact h)⟩
          · refine lv_lload hx hb dX9_total_175 (lv_at hl 5 rfl) ?_
            refine lv_goto (tgt := 192) hx hb dX9_total_177 (by decide) ?_
            exact um_lret hx hb hr hlocks hK hJ hU dX9_total_192 ⟨by rw [tbA_total, if_pos z8, z5, z6, z7, nI_clamp (by omega), nI_clamp (by omega), nI_clamp (by omega)]; simp [tb_tot, c1, c2, c3], (by rw [show tbT_total x0 x1 x2 = if false = true then 1 else 0 from by rw [tbT_total, if_pos z8]; rfl]; exact h)⟩
        · refine lv_lload hx hb dX9_total_135 (lv_at hl 4 rfl) ?_
          refine lv_ldc2 (v := 2) hx hb hown (htg _ tg_837) dX9_total_137 ?_
          refine W.lcmp hx hb dX9_total_140 ?_
          refine um_geC (tgt := 148) hx hb dX9_total_141 (by decide) (fun c5 => ?_) (fun c5 => ?_)
          · refine lv_lload hx hb dX9_total_148 (lv_at hl 4 rfl) ?_
            refine lv_lload hx hb dX9_total_150 (lv_at hl 6 rfl) ?_
            refine lv_lmul hx hb dX9_total_152 ?_
            refine lv_lload hx hb dX9_total_153 (lv_at hl 5 rfl) ?_
            refine lv_lload hx hb dX9_total_155 (lv_at hl 5 rfl) ?_
            refine lv_lmul hx hb dX9_total_157 ?_
            refine lv_lsub hx hb dX9_total_158 ?_
            refine lv_lload hx hb dX9_total_159 (lv_at hl 4 rfl) ?_
            refine lv_lload hx hb dX9_total_161 (lv_at hl 4 rfl) ?_
            refine lv_lconst (v := 1) hx hb dX9_total_163 (by decide +kernel) ?_
            refine lv_lsub hx hb dX9_total_164 ?_
            refine lv_lmul hx hb dX9_total_165 ?_
            refine lv_ldiv hx hb dX9_total_166 (tb_toN_0 c5) ?_
            refine um_callPl (va_runS (As := [.long ((((tb_fo (tb_toNF q st) 0 6) * (tb_fo (tb_toSF q d st) 0 6)) - ((tb_fo (tb_toVF q d st) 0 6) * (tb_fo (tb_toVF q d st) 0 6))) / ((tb_fo (tb_toNF q st) 0 6) * ((tb_fo (tb_toNF q st) 0 6) - 1)))]) (rest := []) ⟨hx, hb, hml, hown, htg⟩ (mm_root l D κ τ A σ ((((tb_fo (tb_toNF q st) 0 6) * (tb_fo (tb_toSF q d st) 0 6)) - ((tb_fo (tb_toVF q d st) 0 6) * (tb_fo (tb_toVF q d st) 0 6))) / ((tb_fo (tb_toNF q st) 0 6) * ((tb_fo (tb_toNF q st) 0 6) - 1)))) (cwS 1 htg (lw_cS tg_838 tg_839 tg_8 tg_840) rfl rfl rfl (by decide +kernel) ⟨Nat.le_of_ble_eq_true rfl, Nat.le_of_ble_eq_true rfl⟩) (um_preS hU hK hJ) rfl rfl hl.1 rfl (lv_room (Nat.le_of_ble_eq_true rfl)) dX9_total_167 ⟨Nat.le_of_ble_eq_true rfl, Nat.le_of_ble_eq_true rfl⟩) hU (fun H locs hU => ?_)
            exact um_lret hx hb hr hlocks hK hJ hU dX9_total_170 ⟨by rw [tbA_total, if_pos z8, z5, z6, z7, nI_clamp (by omega), nI_clamp (by omega), nI_clamp (by omega)]; simp [tb_tot, c1, c2, c5], (by rw [show tbT_total x0 x1 x2 = if false = true then 1 else 0 from by rw [tbT_total, if_pos z8]; rfl]; exact h)⟩
          · refine lv_lconst (v := 0) hx hb dX9_total_144 (by decide +kernel) ?_
            refine lv_goto (tgt := 170) hx hb dX9_total_145 (by decide) ?_
            exact um_lret hx hb hr hlocks hK hJ hU dX9_total_170 ⟨by rw [tbA_total, if_pos z8, z5, z6, z7, nI_clamp (by omega), nI_clamp (by omega), nI_clamp (by omega)]; simp [tb_tot, c1, c2, c5], (by rw [show tbT_total x0 x1 x2 = if false = true then 1 else 0 from by rw [tbT_total, if_pos z8]; rfl]; exact h)⟩
      · refine lv_aload_n hx hb dX9_total_64 rfl (lv_at hl 0 rfl) ?_
        refine um_get (v := .ref (md 12)) hx hb htg inX9 hown hK hU h.obj rfl 15 (by decide) (htg _ tg_653) rfl dX9_total_65 ?_
        refine lv_iload hx hb dX9_total_68 (lv_at hl 8 rfl) ?_
        refine md_ild hx hb hK hU h 12 i (by decide) (show i < 6 from by omega) dX9_total_70 ?_
        refine lv_iload_n hx hb dX9_total_71 rfl (lv_at hl 2 rfl) ?_
        refine um_eqN (tgt := 78) hx hb dX9_total_72 (by decide) (tb_sm_lt hq 12 _) (by omega) (fun c6 => ?_) (fun c6 => ?_)
        · refine lv_aload_n hx hb dX9_total_78 rfl (lv_at hl 0 rfl) ?_
          refine lv_iload_n hx hb dX9_total_79 rfl (lv_at hl 1 rfl) ?_
          refine lv_iload hx hb dX9_total_80 (lv_at hl 8 rfl) ?_
          refine lv_iconst (v := nI 0) hx hb dX9_total_82 (by decide +kernel) ?_
          refine um_callPl (va_runV (As := [.int (nI (d)), .int (nI (i)), .int (nI (0))]) (rest := []) ⟨hx, hb, hml, hown, htg⟩ (mm_sum l D κ τ A σ md q (if false = true then 1 else 0) h hq hs d i 0 (by omega) (by omega) (by omega)) (cwV 3 htg (lw_cV tg_824 tg_826 slX9_sum tg_8 tg_827) rfl rfl rfl (by decide +kernel) ⟨Nat.le_of_ble_eq_true rfl, Nat.le_of_ble_eq_true rfl⟩) (um_preV hU hK hJ h.obj rfl) rfl rfl hl.1 rfl (lv_room (Nat.le_of_ble_eq_true rfl)) dX9_total_83 ⟨Nat.le_of_ble_eq_true rfl, Nat.le_of_ble_eq_true rfl⟩) hU (fun H locs hU => ?_)
          refine lv_lstore (lv' := [(13, .long (tb_sum q d i 0)), (0, .ref (md 13)), (1, .int (nI (d))), (2, .int (nI (st))), (3, .int (nI (w))), (4, .long (tb_fo (tb_toNF q st) 0 i)), (6, .long (tb_fo (tb_toVF q d st) 0 i)), (8, .long (tb_fo (tb_toSF q d st) 0 i)), (10, .long (tb_fo (tb_toMF q d st) 0 i)), (12, .int (nI (i)))]) hx hb dX9_total_86 hl (by decide) rfl (fun ls hl => ?_)
          refine lv_lload hx hb dX9_total_88 (lv_at hl 5 rfl) ?_
          refine lv_lconst (v := 1) hx hb dX9_total_90 (by decide +kernel) ?_
          refine lv_ladd hx hb dX9_total_91 ?_
          refine lv_lstore (lv' := [(4, .long ((tb_fo (tb_toNF q st) 0 i) + 1)), (13, .long (tb_sum q d i 0)), (0, .ref (md 13)), (1, .int (nI (d))), (2, .int (nI (st))), (3, .int (nI (w))), (6, .long (tb_fo (tb_toVF q d st) 0 i)), (8, .long (tb_fo (tb_toSF q d st) 0 i)), (10, .long (tb_fo (tb_toMF q d st) 0 i)), (12, .int (nI (i)))]) hx hb dX9_total_92 hl (by decide) rfl (fun ls hl => ?_)
          refine lv_lload hx hb dX9_total_94 (lv_at hl 6 rfl) ?_
          refine lv_lload hx hb dX9_total_96 (lv_at hl 1 rfl) ?_
          refine lv_ladd hx hb dX9_total_98 ?_
          refine lv_lstore (lv' := [(6, .long ((tb_fo (tb_toVF q d st) 0 i) + (tb_sum q d i 0))), (4, .long ((tb_fo (tb_toNF q st) 0 i) + 1)), (13, .long (tb_sum q d i 0)), (0, .ref (md 13)), (1, .int (nI (d))), (2, .int (nI (st))), (3, .int (nI (w))), (8, .long (tb_fo (tb_toSF q d st) 0 i)), (10, .long (tb_fo (tb_toMF q d st) 0 i)), (12, .int (nI (i)))]) hx hb dX9_total_99 hl (by decide) rfl (fun ls hl => ?_)
          refine lv_lload hx hb dX9_total_101 (lv_at hl 7 rfl) ?_
          refine lv_lload hx hb dX9_total_103 (lv_at hl 2 rfl) ?_
          refine lv_lload hx hb dX9_total_105 (lv_at hl 2 rfl) ?_
          refine lv_lmul hx hb dX9_total_107 ?_
          refine lv_ladd hx hb dX9_total_108 ?_
          refine lv_lstore (lv' := [(8, .long ((tb_fo (tb_toSF q d st) 0 i) + ((tb_sum q d i 0) * (tb_sum q d i 0)))), (6, .long ((tb_fo (tb_toVF q d st) 0 i) + (tb_sum q d i 0))), (4, .long ((tb_fo (tb_toNF q st) 0 i) + 1)), (13, .long (tb_sum q d i 0)), (0, .ref (md 13)), (1, .int (nI (d))), (2, .int (nI (st))), (3, .int (nI (w))), (10, .long (tb_fo (tb_toMF q d st) 0 i)), (12, .int (nI (i)))]) hx hb dX9_total_109 hl (by decide) rfl (fun ls hl => ?_)
          refine lv_lload hx hb dX9_total_111 (lv_at hl 8 rfl) ?_
          refine lv_aload_n hx hb dX9_total_113 rfl (lv_at hl 4 rfl) ?_
          refine lv_iload_n hx hb dX9_total_114 rfl (lv_at hl 5 rfl) ?_
          refine lv_iload hx hb dX9_total_115 (lv_at hl 9 rfl) ?_
          refine lv_iconst (v := nI 2) hx hb dX9_total_117 (by decide +kernel) ?_
          refine um_callPl (va_runV (As := [.int (nI (d)), .int (nI (i)), .int (nI (2))]) (rest := [.long (tb_fo (tb_toMF q d st) 0 i)]) ⟨hx, hb, hml, hown, htg⟩ (mm_sum l D κ τ A σ md q (if false = true then 1 else 0) h hq hs d i 2 (by omega) (by omega) (by omega)) (cwV 3 htg (lw_cV tg_824 tg_826 slX9_sum tg_8 tg_827) rfl rfl rfl (by decide +kernel) ⟨Nat.le_of_ble_eq_true rfl, Nat.le_of_ble_eq_true rfl⟩) (um_preV hU hK hJ h.obj rfl) rfl rfl hl.1 rfl (lv_room (Nat.le_of_ble_eq_true rfl)) dX9_total_118 ⟨Nat.le_of_ble_eq_true rfl, Nat.le_of_ble_eq_true rfl⟩) hU (fun H locs hU => ?_)
          refine lv_ladd hx hb dX9_total_121 ?_
          refine lv_lstore (lv' := [(10, .long ((tb_fo (tb_toMF q d st) 0 i) + (tb_sum q d i 2))), (8, .long ((tb_fo (tb_toSF q d st) 0 i) + ((tb_sum q d i 0) * (tb_sum q d i 0)))), (6, .long ((tb_fo (tb_toVF q d st) 0 i) + (tb_sum q d i 0))), (4, .long ((tb_fo (tb_toNF q st) 0 i) + 1)), (13, .long (tb_sum q d i 0)), (0, .ref (md 13)), (1, .int (nI (d))), (2, .int (nI (st))), (3, .int (nI (w))), (12, .int (nI (i)))]) hx hb dX9_total_122 hl (by decide) rfl (fun ls hl => ?_)
          refine lv_iinc (k := 9) (v := nI (i + 1)) (lv' := [(12, .int (nI (i + 1))), (10, .long ((tb_fo (tb_toMF q d st) 0 i) + (tb_sum q d i 2))), (8, .long ((tb_fo (tb_toSF q d st) 0 i) + ((tb_sum q d i 0) * (tb_sum q d i 0)))), (6, .long ((tb_fo (tb_toVF q d st) 0 i) + (tb_sum q d i 0))), (4, .long ((tb_fo (tb_toNF q st) 0 i) + 1)), (13, .long (tb_sum q d i 0)), (0, .ref (md 13)), (1, .int (nI (d))), (2, .int (nI (st))), (3, .int (nI (w)))]) hx hb dX9_total_124 hl rfl (nI_add _ _) (by decide) rfl (fun ls hl => ?_)
          refine lv_goto (tgt := 57) hx hb dX9_total_127 (by decide) ?_
          have hl : lv_has ls 15 [(0, .ref (md 13)), (1, .int (nI (d))), (2, .int (nI (st))), (3, .int (nI (w))), (4, .long (tb_fo (tb_toNF q st) 0 (i + 1))), (6, .long (tb_fo (tb_toVF q d st) 0 (i + 1))), (8, .long (tb_fo (tb_toSF q d st) 0 (i + 1))), (10, .long (tb_fo (tb_toMF q d st) 0 (i + 1))), (12, .int (nI ((i + 1))))] := by
            rw [show (tb_fo (tb_toNF q st) 0 (i + 1)) = ((tb_fo (tb_toNF q st) 0 i) + 1) from by first | rfl | simp [tb_fo_s, tb_toNF, tb_toVF, tb_toSF, tb_toMF, c1, c6]]
            rw [show (tb_fo (tb_toVF q d st) 0 (i + 1)) = ((tb_fo (tb_toVF q d st) 0 i) + (tb_sum q d i 0)) from by first | rfl | simp [tb_fo_s, tb_toNF, tb_toVF, tb_toSF, tb_toMF, c1, c6]]
            rw [show (tb_fo (tb_toSF q d st) 0 (i + 1)) = ((tb_fo (tb_toSF q d st) 0 i) + ((tb_sum q d i 0) * (tb_sum q d i 0))) from by first | rfl | simp [tb_fo_s, tb_toNF, tb_toVF, tb_toSF, tb_toMF, c1, c6]]
            rw [show (tb_fo (tb_toMF q d st) 0 (i + 1)) = ((tb_fo (tb_toMF q d st) 0 i) + (tb_sum q d i 2)) from by first | rfl | simp [tb_fo_s, tb_toNF, tb_toVF, tb_toSF, tb_toMF, c1, c6]]
            exact lv_sub hl [6, 7, 8, 9, 4, 3, 2, 1, 0] rfl
          exact ih d st w (i + 1) ls _ _ _ (by omega) (by omega) z2 z3 z4 z5 z6 z7 z8 h hU hl
        · refine lv_goto (tgt := 124) hx hb dX9_total_75 (by decide) ?_
          refine lv_iinc (k := 8) (v := nI (i + 1)) (lv' := [(12, .int (nI (i + 1))), (0, .ref (md 13)), (1, .int (nI (d))), (2, .int (nI (st))), (3, .int (nI (w))), (4, .long (tb_fo (tb_toNF q st) 0 i)), (6, .long (tb_fo (tb_toVF q d st) 0 i)), (8, .long (tb_fo (tb_toSF q d st) 0 i)), (10, .long (tb_fo (tb_toMF q d st) 0 i))]) hx hb dX9_total_124 hl rfl (nI_add _ _) (by decide) rfl (fun ls hl => ?_)
          refine lv_goto (tgt := 57) hx hb dX9_total_127 (by decide) ?_
          have hl : lv_has ls 15 [(0, .ref (md 13)), (1, .int (nI (d))), (2, .int (nI (st))), (3, .int (nI (w))), (4, .long (tb_fo (tb_toNF q st) 0 (i + 1))), (6, .long (tb_fo (tb_toVF q d st) 0 (i + 1))), (8, .long (tb_fo (tb_toSF q d st) 0 (i + 1))), (10, .long (tb_fo (tb_toMF q d st) 0 (i + 1))), (12, .int (nI ((i + 1))))] := by
            rw [show (tb_fo (tb_toNF q st) 0 (i + 1)) = (tb_fo (tb_toNF q st) 0 i) from by first | rfl | simp [tb_fo_s, tb_toNF, tb_toVF, tb_toSF, tb_toMF, c1, c6]]
            rw [show (tb_fo (tb_toVF q d st) 0 (i + 1)) = (tb_fo (tb_toVF q d st) 0 i) from by first | rfl | simp [tb_fo_s, tb_toNF, tb_toVF, tb_toSF, tb_toMF, c1, c6]]
            rw [show (tb_fo (tb_toSF q d st) 0 (i + 1)) = (tb_fo (tb_toSF q d st) 0 i) from by first | rfl | simp [tb_fo_s, tb_toNF, tb_toVF, tb_toSF, tb_toMF, c1, c6]]
            rw [show (tb_fo (tb_toMF q d st) 0 (i + 1)) = (tb_fo (tb_toMF q d st) 0 i) from by first | rfl | simp [tb_fo_s, tb_toNF, tb_toVF, tb_toSF, tb_toMF, c1, c6]]
            exact lv_sub hl [1, 2, 3, 4, 5, 6, 7, 8, 0] rfl
          exact ih d st w (i + 1) ls _ _ _ (by omega) (by omega) z2 z3 z4 z5 z6 z7 z8 h hU hl
  refine lv_aload_n hx hb dX9_total_0 rfl (lv_at hl 0 rfl) ?_
  refine lv_iload_n hx hb dX9_total_1 rfl (lv_at hl 1 rfl) ?_
  refine lv_iconst (v := nI 0) hx hb dX9_total_2 (by decide +kernel) ?_
  refine lv_iconst (v := nI 4) hx hb dX9_total_3 (by decide +kernel) ?_
  refine um_callP (va_runS (As := [.int (x0), .int (nI (0)), .int (nI (4))]) (rest := [.ref (md 13)]) ⟨hx, hb, hml, hown, htg⟩ (mm_in l D κ τ A σ x0 (nI 0) (nI 4)) (cwS 3 htg (lw_cS tg_695 tg_696 tg_8 tg_697) rfl rfl rfl (by decide +kernel) ⟨Nat.le_of_ble_eq_true rfl, Nat.le_of_ble_eq_true rfl⟩) (um_preS hU hK hJ) rfl rfl hl.1 rfl (lv_room (Nat.le_of_ble_eq_true rfl)) dX9_total_4 ⟨Nat.le_of_ble_eq_true rfl, Nat.le_of_ble_eq_true rfl⟩) hU (fun H locs hU => ?_)
  refine um_eqB (tgt := 28) hx hb dX9_total_7 (by decide) (fun c7 => ?_) (fun c7 => ?_)
  · refine lv_iconst (v := nI 1) hx hb dX9_total_28 (by decide +kernel) ?_
    refine lv_goto (tgt := 33) hx hb dX9_total_29 (by decide) ?_
    refine lv_iconst (v := nI 1) hx hb dX9_total_33 (by decide +kernel) ?_
    refine um_calli (va_runV (As := [.int (nI (1)), .int (nI (1))]) (rest := []) ⟨hx, hb, hml, hown, htg⟩ (mm_fails l D κ τ A σ md q th h true 1) (cwV 2 htg (lw_cV tg_698 tg_700 slX9_fails tg_8 tg_701) rfl rfl rfl (by decide +kernel) ⟨Nat.le_of_ble_eq_true rfl, Nat.le_of_ble_eq_true rfl⟩) (um_preV hU hK hJ h.obj rfl) rfl rfl hl.1 rfl (lv_room (Nat.le_of_ble_eq_true rfl)) dX9_total_34 ⟨Nat.le_of_ble_eq_true rfl, Nat.le_of_ble_eq_true rfl⟩) hU (fun r9 σ H locs h hU => ?_)
    obtain ⟨rfl, h⟩ := h
    refine um_eqB (tgt := 42) hx hb dX9_total_37 (by decide) (fun h => by cases h) (fun _ => ?_)
    refine lv_lconst (v := 0) hx hb dX9_total_40 (by decide +kernel) ?_
    exact um_lret hx hb hr hlocks hK hJ hU dX9_total_41 ⟨by simp [tbA_total, c7], (by rw [show tbT_total x0 x1 x2 = if true = true then 1 else 0 from by simp [tbT_total, c7]]; exact h)⟩
  · refine lv_iload_n hx hb dX9_total_10 rfl (lv_at hl 2 rfl) ?_
    refine lv_iconst (v := nI 0) hx hb dX9_total_11 (by decide +kernel) ?_
    refine lv_iconst (v := nI 2) hx hb dX9_total_12 (by decide +kernel) ?_
    refine um_callP (va_runS (As := [.int (x1), .int (nI (0)), .int (nI (2))]) (rest := [.ref (md 13)]) ⟨hx, hb, hml, hown, htg⟩ (mm_in l D κ τ A σ x1 (nI 0) (nI 2)) (cwS 3 htg (lw_cS tg_695 tg_696 tg_8 tg_697) rfl rfl rfl (by decide +kernel) ⟨Nat.le_of_ble_eq_true rfl, Nat.le_of_ble_eq_true rfl⟩) (um_preS hU hK hJ) rfl rfl hl.1 rfl (lv_room (Nat.le_of_ble_eq_true rfl)) dX9_total_13 ⟨Nat.le_of_ble_eq_true rfl, Nat.le_of_ble_eq_true rfl⟩) hU (fun H locs hU => ?_)
    refine um_eqB (tgt := 28) hx hb dX9_total_16 (by decide) (fun c8 => ?_) (fun c8 => ?_)
    · refine lv_iconst (v := nI 1) hx hb dX9_total_28 (by decide +kernel) ?_
      refine lv_goto (tgt := 33) hx hb dX9_total_29 (by decide) ?_
      refine lv_iconst (v := nI 1) hx hb dX9_total_33 (by decide +kernel) ?_
      refine um_calli (va_runV (As := [.int (nI (1)), .int (nI (1))]) (rest := []) ⟨hx, hb, hml, hown, htg⟩ (mm_fails l D κ τ A σ md q th h true 1) (cwV 2 htg (lw_cV tg_698 tg_700 slX9_fails tg_8 tg_701) rfl rfl rfl (by decide +kernel) ⟨Nat.le_of_ble_eq_true rfl, Nat.le_of_ble_eq_true rfl⟩) (um_preV hU hK hJ h.obj rfl) rfl rfl hl.1 rfl (lv_room (Nat.le_of_ble_eq_true rfl)) dX9_total_34 ⟨Nat.le_of_ble_eq_true rfl, Nat.le_of_ble_eq_true rfl⟩) hU (fun r9 σ H locs h hU => ?_)
      obtain ⟨rfl, h⟩ := h
      refine um_eqB (tgt := 42) hx hb dX9_total_37 (by decide) (fun h => by cases h) (fun _ => ?_)
      refine lv_lconst (v := 0) hx hb dX9_total_40 (by decide +kernel) ?_
      exact um_lret hx hb hr hlocks hK hJ hU dX9_total_41 ⟨by simp [tbA_total, c7, c8], (by rw [show tbT_total x0 x1 x2 = if true = true then 1 else 0 from by simp [tbT_total, c7, c8]]; exact h)⟩
    · refine lv_iload_n hx hb dX9_total_19 rfl (lv_at hl 3 rfl) ?_
      refine lv_iconst (v := nI 0) hx hb dX9_total_20 (by decide +kernel) ?_
      refine lv_iconst (v := nI 3) hx hb dX9_total_21 (by decide +kernel) ?_
      refine um_callP (va_runS (As := [.int (x2), .int (nI (0)), .int (nI (3))]) (rest := [.ref (md 13)]) ⟨hx, hb, hml, hown, htg⟩ (mm_in l D κ τ A σ x2 (nI 0) (nI 3)) (cwS 3 htg (lw_cS tg_695 tg_696 tg_8 tg_697) rfl rfl rfl (by decide +kernel) ⟨Nat.le_of_ble_eq_true rfl, Nat.le_of_ble_eq_true rfl⟩) (um_preS hU hK hJ) rfl rfl hl.1 rfl (lv_room (Nat.le_of_ble_eq_true rfl)) dX9_total_22 ⟨Nat.le_of_ble_eq_true rfl, Nat.le_of_ble_eq_true rfl⟩) hU (fun H locs hU => ?_)
      refine um_neB (tgt := 32) hx hb dX9_total_25 (by decide) (fun c9 => ?_) (fun c9 => ?_)
      · refine lv_iconst (v := nI 0) hx hb dX9_total_32 (by decide +kernel) ?_
        refine lv_iconst (v := nI 1) hx hb dX9_total_33 (by decide +kernel) ?_
        refine um_calli (va_runV (As := [.int (nI (0)), .int (nI (1))]) (rest := []) ⟨hx, hb, hml, hown, htg⟩ (mm_fails l D κ τ A σ md q th h false 1) (cwV 2 htg (lw_cV tg_698 tg_700 slX9_fails tg_8 tg_701) rfl rfl rfl (by decide +kernel) ⟨Nat.le_of_ble_eq_true rfl, Nat.le_of_ble_eq_true rfl⟩) (um_preV hU hK hJ h.obj rfl) rfl rfl hl.1 rfl (lv_room (Nat.le_of_ble_eq_true rfl)) dX9_total_34 ⟨Nat.le_of_ble_eq_true rfl, Nat.le_of_ble_eq_true rfl⟩) hU (fun r9 σ H locs h hU => ?_)
        obtain ⟨rfl, h⟩ := h
        refine um_eqB (tgt := 42) hx hb dX9_total_37 (by decide) (fun _ => ?_) (fun h => by cases h)
        obtain ⟨j0, ha_j0, hb_j0, rfl⟩ := tb_inN (by decide) (by decide) c7
        have en_j0 : (nI j0).toNatClampNeg = j0 := nI_clamp (by omega)
        obtain ⟨j1, ha_j1, hb_j1, rfl⟩ := tb_inN (by decide) (by decide) c8
        have en_j1 : (nI j1).toNatClampNeg = j1 := nI_clamp (by omega)
        obtain ⟨j2, ha_j2, hb_j2, rfl⟩ := tb_inN (by decide) (by decide) c9
        have en_j2 : (nI j2).toNatClampNeg = j2 := nI_clamp (by omega)
        refine lv_lconst (v := 0) hx hb dX9_total_42 (by decide +kernel) ?_
        refine lv_lstore (lv' := [(4, .long (0)), (0, .ref (md 13)), (1, .int (nI (j0))), (2, .int (nI (j1))), (3, .int (nI (j2)))]) hx hb dX9_total_43 hl (by decide) rfl (fun ls hl => ?_)
        refine lv_lconst (v := 0) hx hb dX9_total_45 (by decide +kernel) ?_
        refine lv_lstore (lv' := [(6, .long (0)), (4, .long (0)), (0, .ref (md 13)), (1, .int (nI (j0))), (2, .int (nI (j1))), (3, .int (nI (j2)))]) hx hb dX9_total_46 hl (by decide) rfl (fun ls hl => ?_)
        refine lv_lconst (v := 0) hx hb dX9_total_48 (by decide +kernel) ?_
        refine lv_lstore (lv' := [(8, .long (0)), (6, .long (0)), (4, .long (0)), (0, .ref (md 13)), (1, .int (nI (j0))), (2, .int (nI (j1))), (3, .int (nI (j2)))]) hx hb dX9_total_49 hl (by decide) rfl (fun ls hl => ?_)
        refine lv_lconst (v := 0) hx hb dX9_total_51 (by decide +kernel) ?_
        refine lv_lstore (lv' := [(10, .long (0)), (8, .long (0)), (6, .long (0)), (4, .long (0)), (0, .ref (md 13)), (1, .int (nI (j0))), (2, .int (nI (j1))), (3, .int (nI (j2)))]) hx hb dX9_total_52 hl (by decide) rfl (fun ls hl => ?_)
        refine lv_iconst (v := nI 0) hx hb dX9_total_54 (by decide +kernel) ?_
        refine lv_istore (lv' := [(12, .int (nI (0))), (10, .long (0)), (8, .long (0)), (6, .long (0)), (4, .long (0)), (0, .ref (md 13)), (1, .int (nI (j0))), (2, .int (nI (j1))), (3, .int (nI (j2)))]) hx hb dX9_total_55 hl (by decide) rfl (fun ls hl => ?_)
        have hl : lv_has ls 15 [(0, .ref (md 13)), (1, .int (nI (j0))), (2, .int (nI (j1))), (3, .int (nI (j2))), (4, .long (tb_fo (tb_toNF q j1) 0 0)), (6, .long (tb_fo (tb_toVF q j0 j1) 0 0)), (8, .long (tb_fo (tb_toSF q j0 j1) 0 0)), (10, .long (tb_fo (tb_toMF q j0 j1) 0 0)), (12, .int (nI (0)))] := by
          rw [show (tb_fo (tb_toNF q j1) 0 0) = 0 from by first | rfl | simp [tb_fo_s, tb_toNF, tb_toVF, tb_toSF, tb_toMF, c7, c8, c9, en_j0, en_j1, en_j2]]
          rw [show (tb_fo (tb_toVF q j0 j1) 0 0) = 0 from by first | rfl | simp [tb_fo_s, tb_toNF, tb_toVF, tb_toSF, tb_toMF, c7, c8, c9, en_j0, en_j1, en_j2]]
          rw [show (tb_fo (tb_toSF q j0 j1) 0 0) = 0 from by first | rfl | simp [tb_fo_s, tb_toNF, tb_toVF, tb_toSF, tb_toMF, c7, c8, c9, en_j0, en_j1, en_j2]]
          rw [show (tb_fo (tb_toMF q j0 j1) 0 0) = 0 from by first | rfl | simp [tb_fo_s, tb_toNF, tb_toVF, tb_toSF, tb_toMF, c7, c8, c9, en_j0, en_j1, en_j2]]
          exact lv_sub hl [5, 6, 7, 8, 4, 3, 2, 1, 0] rfl
        exact L1 7 j0 j1 j2 0 ls _ _ _ (by omega) (by omega) (by omega) (by omega) (by omega) rfl rfl rfl (by simp [c7, c8, c9, en_j0, en_j1, en_j2]) h hU hl
      · refine lv_iconst (v := nI 1) hx hb dX9_total_28 (by decide +kernel) ?_
        refine lv_goto (tgt := 33) hx hb dX9_total_29 (by decide) ?_
        refine lv_iconst (v := nI 1) hx hb dX9_total_33 (by decide +kernel) ?_
        refine um_calli (va_runV (As := [.int (nI (1)), .int (nI (1))]) (rest := []) ⟨hx, hb, hml, hown, htg⟩ (mm_fails l D κ τ A σ md q th h true 1) (cwV 2 htg (lw_cV tg_698 tg_700 slX9_fails tg_8 tg_701) rfl rfl rfl (by decide +kernel) ⟨Nat.le_of_ble_eq_true rfl, Nat.le_of_ble_eq_true rfl⟩) (um_preV hU hK hJ h.obj rfl) rfl rfl hl.1 rfl (lv_room (Nat.le_of_ble_eq_true rfl)) dX9_total_34 ⟨Nat.le_of_ble_eq_true rfl, Nat.le_of_ble_eq_true rfl⟩) hU (fun r9 σ H locs h hU => ?_)
        obtain ⟨rfl, h⟩ := h
        refine um_eqB (tgt := 42) hx hb dX9_total_37 (by decide) (fun h => by cases h) (fun _ => ?_)
        refine lv_lconst (v := 0) hx hb dX9_total_40 (by decide +kernel) ?_
        exact um_lret hx hb hr hlocks hK hJ hU dX9_total_41 ⟨by simp [tbA_total, c7, c8, c9], (by rw [show tbT_total x0 x1 x2 = if true = true then 1 else 0 from by simp [tbT_total, c7, c8, c9]]; exact h)⟩

set_option maxRecDepth 100000 in
set_option maxHeartbeats 4000000 in
theorem mm_candidate (l : Launch) (D : va_G) (κ : Nat → ClassId) (τ : Nat → Nat) (A : Nat → Prop) (σ : um_M) (md : Nat → Nat) (q : tb_Q) (th : Nat) (h : md_at κ σ md q th) (hq : tb_sm q) (x0 x1 x2 x3 x4 : Int32) : Met l yX9_candidate wsX9_candidate ({ frames := 4, cells := 0, slots := 0, locals := 98 }) (va_Pc [.ref (md 13), .int (x0), .int (x1), .int (x2), .int (x3), .int (x4)] (um_U D κ τ A σ)) (va_Qi (fun (r9 : Int32) (σ' : um_M) => r9 = tbA_candidate q x0 x1 x2 x3 x4 ∧ md_at κ σ' md q (tbT_candidate x0 x1 x2 x3 x4)) (um_U D κ τ A) A) 0 0 A := by
  refine um_met (cc := cX9_candidate) (maxL := 11) (ret := (some .int)) (by decide) rfl rfl ?_
  intro pp ee s mm args below meth cd ls hx hb hr hts hown hlocks hml hnm hK hJ hU hl
  have hown : s.vm.findClass RX9 = some mm.cls := hown
  have htg : ∀ w ∈ lw_g, w.before args s = true := fun w h => hts w (List.mem_cons_of_mem _ h)
  have hl : lv_has ls 11 [(0, .ref (md 13)), (1, .int (x0)), (2, .int (x1)), (3, .int (x2)), (4, .int (x3)), (5, .int (x4))] := hl
  have L1 : ∀ (nf : Nat) (d : Nat) (p : Nat) (t : Nat) (f : Nat) (i : Nat) (ls : Array Slot) (σ : um_M) (H : Heap) (locs : List Loc), 400 - i < nf → i ≤ 400 → d < 5 → p < 6 → t < 4 → f < 3 → tb_cfd q d p (3 * t + f) x4 i = 0 → x0 = nI d → x1 = nI p → x2 = nI t → x3 = nI f → (tb_in x0 (nI 0) (nI 4) && tb_fd x1 x2 x3 && decide (0 ≤ x4)) = true → md_at κ σ md q (if false = true then 1 else 0) → um_S D vwCl A s σ H locs → lv_has ls 11 [(0, .ref (md 13)), (1, .int (nI (d))), (2, .int (nI (p))), (3, .int (nI (t))), (4, .int (nI (f))), (5, .int (x4)), (6, .int (tb_m1 (tb_rank q d p (3 * t + f)))), (7, .int (nI (tb_ccn q d p (3 * t + f) i))), (8, .int (nI (i)))] → W pp l ee ({ frames := 4, cells := 0, slots := 0, locals := 98 }) s mm args below meth cd H locs 0 0 (MQ below (va_Qi (fun (r9 : Int32) (σ' : um_M) => r9 = tbA_candidate q x0 x1 x2 x3 x4 ∧ md_at κ σ' md q (tbT_candidate x0 x1 x2 x3 x4)) (um_U D κ τ A) A) args s 0 0 A) (F0 mm 59 ls []) := by
    intro nf
    induction nf with
    | zero => intro d p t f i ls σ H locs hnf; exact absurd hnf (Nat.not_lt_zero _)
    | succ nf ih =>
      intro d p t f i ls σ H locs hnf z1 z2 z3 z4 z5 z6 z7 z8 z9 z10 z11 h hU hl
      refine lv_iload hx hb dX9_candidate_59 (lv_at hl 8 rfl) ?_
      refine lv_sipush (v := nI 400) hx hb dX9_candidate_61 (by decide +kernel) ?_
      refine um_geN (tgt := 198) hx hb dX9_candidate_64 (by decide) (by omega) (by decide) (fun c1 => ?_) (fun c1 => ?_)
      · refine lv_iconst (v := -1) hx hb dX9_candidate_198 (by decide +kernel) ?_
        exact um_iret hx hb hr hlocks hK hJ hU dX9_candidate_199 ⟨by rw [tbA_candidate, if_pos z11, z7, z8, z9, z10, nI_clamp (by omega), nI_clamp (by omega), nI_clamp (by omega), nI_clamp (by omega), tb_cand, if_pos (by rw [← z6, show i = 400 by omega])], (by rw [show tbT_candidate x0 x1 x2 x3 x4 = if false = true then 1 else 0 from by rw [tbT_candidate, if_pos z11]; rfl]; exact h)⟩
      · refine lv_iload hx hb dX9_candidate_67 (lv_at hl 8 rfl) ?_
        refine lv_sipush (v := nI 200) hx hb dX9_candidate_69 (by decide +kernel) ?_
        refine um_remN hx hb dX9_candidate_72 (by omega) (by decide) (by decide) ?_
        refine lv_istore (lv' := [(9, .int (nI (i % 200))), (0, .ref (md 13)), (1, .int (nI (d))), (2, .int (nI (p))), (3, .int (nI (t))), (4, .int (nI (f))), (5, .int (x4)), (6, .int (tb_m1 (tb_rank q d p (3 * t + f)))), (7, .int (nI (tb_ccn q d p (3 * t + f) i))), (8, .int (nI (i)))]) hx hb dX9_candidate_73 hl (by decide) rfl (fun ls hl => ?_)
        refine lv_aload_n hx hb dX9_candidate_75 rfl (lv_at hl 1 rfl) ?_
        refine lv_iload_n hx hb dX9_candidate_76 rfl (lv_at hl 2 rfl) ?_
        refine lv_iload_n hx hb dX9_candidate_77 rfl (lv_at hl 3 rfl) ?_
        refine lv_iconst (v := nI 3) hx hb dX9_candidate_78 (by decide +kernel) ?_
        refine lv_iload_n hx hb dX9_candidate_79 rfl (lv_at hl 4 rfl) ?_
        refine um_mulN hx hb dX9_candidate_80 ?_
        refine lv_iload hx hb dX9_candidate_81 (lv_at hl 5 rfl) ?_
        refine um_addN hx hb dX9_candidate_83 ?_
        refine lv_iload hx hb dX9_candidate_84 (lv_at hl 0 rfl) ?_
        refine um_callP (va_runV (As := [.int (nI (d)), .int (nI (p)), .int (nI ((3 * t) + f)), .int (nI (i % 200))]) (rest := []) ⟨hx, hb, hml, hown, htg⟩ (mm_isLast l D κ τ A σ md q (if false = true then 1 else 0) h hq d p ((3 * t) + f) (i % 200) (by omega) (by omega) (by omega) (by omega)) (cwV 4 htg (lw_cV tg_768 tg_770 slX9_isLast tg_8 tg_771) rfl rfl rfl (by decide +kernel) ⟨Nat.le_of_ble_eq_true rfl, Nat.le_of_ble_eq_true rfl⟩) (um_preV hU hK hJ h.obj rfl) rfl rfl hl.1 rfl (lv_room (Nat.le_of_ble_eq_true rfl)) dX9_candidate_86 ⟨Nat.le_of_ble_eq_true rfl, Nat.le_of_ble_eq_true rfl⟩) hU (fun H locs hU => ?_)
        refine um_eqB (tgt := 129) hx hb dX9_candidate_89 (by decide) (fun c2 => ?_) (fun c2 => ?_)
        · refine lv_iconst (v := nI 0) hx hb dX9_candidate_129 (by decide +kernel) ?_
          refine lv_istore (lv' := [(10, .int (nI (0))), (9, .int (nI (i % 200))), (0, .ref (md 13)), (1, .int (nI (d))), (2, .int (nI (p))), (3, .int (nI (t))), (4, .int (nI (f))), (5, .int (x4)), (6, .int (tb_m1 (tb_rank q d p (3 * t + f)))), (7, .int (nI (tb_ccn q d p (3 * t + f) i))), (8, .int (nI (i)))]) hx hb dX9_candidate_130 hl (by decide) rfl (fun ls hl => ?_)
          refine lv_iload hx hb dX9_candidate_132 (lv_at hl 0 rfl) ?_
          refine lv_if_eq (tgt := 177) hx hb dX9_candidate_134 (by decide) (fun _ => ?_) (fun h => absurd (by decide +kernel) h)
          refine lv_iload hx hb dX9_candidate_177 (lv_at hl 9 rfl) ?_
          refine lv_iload hx hb dX9_candidate_179 (lv_at hl 0 rfl) ?_
          refine lv_if_eq (tgt := 188) hx hb dX9_candidate_181 (by decide) (fun _ => ?_) (fun h => absurd (by decide +kernel) h)
          refine lv_iconst (v := nI 0) hx hb dX9_candidate_188 (by decide +kernel) ?_
          refine um_addN hx hb dX9_candidate_189 ?_
          refine lv_istore (lv' := [(7, .int (nI ((tb_ccn q d p (3 * t + f) i) + 0))), (10, .int (nI (0))), (9, .int (nI (i % 200))), (0, .ref (md 13)), (1, .int (nI (d))), (2, .int (nI (p))), (3, .int (nI (t))), (4, .int (nI (f))), (5, .int (x4)), (6, .int (tb_m1 (tb_rank q d p (3 * t + f)))), (8, .int (nI (i)))]) hx hb dX9_candidate_190 hl (by decide) rfl (fun ls hl => ?_)
          refine lv_iinc (k := 10) (v := nI (i + 1)) (lv' := [(8, .int (nI (i + 1))), (7, .int (nI ((tb_ccn q d p (3 * t + f) i) + 0))), (10, .int (nI (0))), (9, .int (nI (i % 200))), (0, .ref (md 13)), (1, .int (nI (d))), (2, .int (nI (p))), (3, .int (nI (t))), (4, .int (nI (f))), (5, .int (x4)), (6, .int (tb_m1 (tb_rank q d p (3 * t + f))))]) hx hb dX9_candidate_192 hl rfl (nI_add _ _) (by decide) rfl (fun ls hl => ?_)
          refine lv_goto (tgt := 59) hx hb dX9_candidate_195 (by decide) ?_
          have hl : lv_has ls 11 [(0, .ref (md 13)), (1, .int (nI (d))), (2, .int (nI (p))), (3, .int (nI (t))), (4, .int (nI (f))), (5, .int (x4)), (6, .int (tb_m1 (tb_rank q d p (3 * t + f)))), (7, .int (nI (tb_ccn q d p (3 * t + f) (i + 1)))), (8, .int (nI ((i + 1))))] := by
            rw [show (tb_ccn q d p (3 * t + f) (i + 1)) = ((tb_ccn q d p (3 * t + f) i) + 0) from by first | rfl | simp [tb_ccn, tb_cis, c1, c2]]
            exact lv_sub hl [4, 5, 6, 7, 8, 9, 10, 1, 0] rfl
          exact ih d p t f (i + 1) ls _ _ _ (by omega) (by omega) z2 z3 z4 z5 (by simp [tb_cfd, tb_cis, z6, c1, c2]) z7 z8 z9 z10 z11 h hU hl
        · refine lv_aload_n hx hb dX9_candidate_92 rfl (lv_at hl 1 rfl) ?_
          refine um_get (v := .ref (md 5)) hx hb htg inX9 hown hK hU h.obj rfl 6 (by decide) (htg _ tg_644) rfl dX9_candidate_93 ?_
          refine lv_iload hx hb dX9_candidate_96 (lv_at hl 0 rfl) ?_
          refine md_ild hx hb hK hU h 5 (i % 200) (by decide) (show i % 200 < 200 from by omega) dX9_candidate_98 ?_
          refine lv_iload hx hb dX9_candidate_99 (lv_at hl 7 rfl) ?_
          refine um_neNM (tgt := 108) hx hb dX9_candidate_101 (by decide) (tb_sm_lt hq 5 _) (tb_rank_lt hq _ _ _ 200) (fun c3 => ?_) (fun c3 => ?_)
          · refine lv_iconst (v := nI 0) hx hb dX9_candidate_108 (by decide +kernel) ?_
            refine lv_iload hx hb dX9_candidate_109 (lv_at hl 9 rfl) ?_
            refine lv_sipush (v := nI 200) hx hb dX9_candidate_111 (by decide +kernel) ?_
            refine um_geN (tgt := 121) hx hb dX9_candidate_114 (by decide) (by omega) (by decide) (fun c4 => ?_) (fun c4 => ?_)
            · refine lv_iconst (v := nI 0) hx hb dX9_candidate_121 (by decide +kernel) ?_
              refine um_neN (tgt := 129) hx hb dX9_candidate_122 (by decide) (by decide) (by decide) (fun h => absurd h (by decide)) (fun _ => ?_)
              refine lv_iconst (v := nI 1) hx hb dX9_candidate_125 (by decide +kernel) ?_
              refine lv_goto (tgt := 130) hx hb dX9_candidate_126 (by decide) ?_
              refine lv_istore (lv' := [(10, .int (nI (1))), (9, .int (nI (i % 200))), (0, .ref (md 13)), (1, .int (nI (d))), (2, .int (nI (p))), (3, .int (nI (t))), (4, .int (nI (f))), (5, .int (x4)), (6, .int (tb_m1 (tb_rank q d p (3 * t + f)))), (7, .int (nI (tb_ccn q d p (3 * t + f) i))), (8, .int (nI (i)))]) hx hb dX9_candidate_130 hl (by decide) rfl (fun ls hl => ?_)
              refine lv_iload hx hb dX9_candidate_132 (lv_at hl 0 rfl) ?_
              refine lv_if_eq (tgt := 177) hx hb dX9_candidate_134 (by decide) (fun h => absurd h (by decide +kernel)) (fun _ => ?_)
              refine lv_iload hx hb dX9_candidate_137 (lv_at hl 9 rfl) ?_
              refine lv_iload hx hb dX9_candidate_139 (lv_at hl 7 rfl) ?_
              refine lv_icmp_ne (tgt := 177) hx hb dX9_candidate_141 (by decide) (fun c5 => ?_) (fun c5 => ?_)
              · refine lv_iload hx hb dX9_candidate_177 (lv_at hl 9 rfl) ?_
                refine lv_iload hx hb dX9_candidate_179 (lv_at hl 0 rfl) ?_
                refine lv_if_eq (tgt := 188) hx hb dX9_candidate_181 (by decide) (fun h => absurd h (by decide +kernel)) (fun _ => ?_)
                refine lv_iconst (v := nI 1) hx hb dX9_candidate_184 (by decide +kernel) ?_
                refine lv_goto (tgt := 189) hx hb dX9_candidate_185 (by decide) ?_
                refine um_addN hx hb dX9_candidate_189 ?_
                refine lv_istore (lv' := [(7, .int (nI ((tb_ccn q d p (3 * t + f) i) + 1))), (10, .int (nI (1))), (9, .int (nI (i % 200))), (0, .ref (md 13)), (1, .int (nI (d))), (2, .int (nI (p))), (3, .int (nI (t))), (4, .int (nI (f))), (5, .int (x4)), (6, .int (tb_m1 (tb_rank q d p (3 * t + f)))), (8, .int (nI (i)))]) hx hb dX9_candidate_190 hl (by decide) rfl (fun ls hl => ?_)
                refine lv_iinc (k := 10) (v := nI (i + 1)) (lv' := [(8, .int (nI (i + 1))), (7, .int (nI ((tb_ccn q d p (3 * t + f) i) + 1))), (10, .int (nI (1))), (9, .int (nI (i % 200))), (0, .ref (md 13)), (1, .int (nI (d))), (2, .int (nI (p))), (3, .int (nI (t))), (4, .int (nI (f))), (5, .int (x4)), (6, .int (tb_m1 (tb_rank q d p (3 * t + f))))]) hx hb dX9_candidate_192 hl rfl (nI_add _ _) (by decide) rfl (fun ls hl => ?_)
                refine lv_goto (tgt := 59) hx hb dX9_candidate_195 (by decide) ?_
                have hl : lv_has ls 11 [(0, .ref (md 13)), (1, .int (nI (d))), (2, .int (nI (p))), (3, .int (nI (t))), (4, .int (nI (f))), (5, .int (x4)), (6, .int (tb_m1 (tb_rank q d p (3 * t + f)))), (7, .int (nI (tb_ccn q d p (3 * t + f) (i + 1)))), (8, .int (nI ((i + 1))))] := by
                  rw [show (tb_ccn q d p (3 * t + f) (i + 1)) = ((tb_ccn q d p (3 * t + f) i) + 1) from by first | rfl | simp [tb_ccn, tb_cis, c1, c2, c3, c4, c5]]
                  exact lv_sub hl [4, 5, 6, 7, 8, 9, 10, 1, 0] rfl
                exact ih d p t f (i + 1) ls _ _ _ (by omega) (by omega) z2 z3 z4 z5 (by simp [tb_cfd, tb_cis, z6, c1, c2, c3, c4, c5]) z7 z8 z9 z10 z11 h hU hl
              · refine lv_bipush (v := nI 100) hx hb dX9_candidate_144 (by decide +kernel) ?_
                refine lv_iload hx hb dX9_candidate_146 (lv_at hl 1 rfl) ?_
                refine lv_bipush (v := nI 40) hx hb dX9_candidate_148 (by decide +kernel) ?_
                refine um_divN hx hb dX9_candidate_150 (by omega) (by decide) (by decide) ?_
                refine um_mulN hx hb dX9_candidate_151 ?_
                refine lv_iload hx hb dX9_candidate_152 (lv_at hl 1 rfl) ?_
                refine lv_bipush (v := nI 40) hx hb dX9_candidate_154 (by decide +kernel) ?_
                refine um_remN hx hb dX9_candidate_156 (by omega) (by decide) (by decide) ?_
                refine um_addN hx hb dX9_candidate_157 ?_
                refine lv_iconst (v := nI 1) hx hb dX9_candidate_158 (by decide +kernel) ?_
                refine um_addN hx hb dX9_candidate_159 ?_
                refine lv_iload hx hb dX9_candidate_160 (lv_at hl 10 rfl) ?_
                refine lv_sipush (v := nI 200) hx hb dX9_candidate_162 (by decide +kernel) ?_
                refine um_geN (tgt := 172) hx hb dX9_candidate_165 (by decide) (by omega) (by decide) (fun c6 => ?_) (fun c6 => ?_)
                · refine lv_sipush (v := nI 1000) hx hb dX9_candidate_172 (by decide +kernel) ?_
                  refine um_addN hx hb dX9_candidate_175 ?_
                  exact um_iret hx hb hr hlocks hK hJ hU dX9_candidate_176 ⟨by first | (exfalso; omega) | (have ek := tb_cfd_at (q := q) (d := d) (p := p) (f := 3 * t + f) (x := x4) (i := i) (by simp [tb_cfd, tb_cis, z6, c1, c2, c3, c4, c5, c6]) (by omega); rw [tbA_candidate, if_pos z11, z7, z8, z9, z10, nI_clamp (by omega), nI_clamp (by omega), nI_clamp (by omega), nI_clamp (by omega), tb_cand, if_neg (by omega), ek]; simp [tb_ccode, c1, c2, c3, c4, c5, c6]), (by rw [show tbT_candidate x0 x1 x2 x3 x4 = if false = true then 1 else 0 from by rw [tbT_candidate, if_pos z11]; rfl]; exact h)⟩
                · refine lv_iconst (v := nI 0) hx hb dX9_candidate_168 (by decide +kernel) ?_
                  refine lv_goto (tgt := 175) hx hb dX9_candidate_169 (by decide) ?_
                  refine um_addN hx hb dX9_candidate_175 ?_
                  exact um_iret hx hb hr hlocks hK hJ hU dX9_candidate_176 ⟨by first | (exfalso; omega) | (have ek := tb_cfd_at (q := q) (d := d) (p := p) (f := 3 * t + f) (x := x4) (i := i) (by simp [tb_cfd, tb_cis, z6, c1, c2, c3, c4, c5, c6]) (by omega); rw [tbA_candidate, if_pos z11, z7, z8, z9, z10, nI_clamp (by omega), nI_clamp (by omega), nI_clamp (by omega), nI_clamp (by omega), tb_cand, if_neg (by omega), ek]; simp [tb_ccode, c1, c2, c3, c4, c5, c6]), (by rw [show tbT_candidate x0 x1 x2 x3 x4 = if false = true then 1 else 0 from by rw [tbT_candidate, if_pos z11]; rfl]; exact h)⟩
            · refine lv_iconst (v := nI 1) hx hb dX9_candidate_117 (by decide +kernel) ?_
              refine lv_goto (tgt := 122) hx hb dX9_candidate_118 (by decide) ?_
              refine um_neN (tgt := 129) hx hb dX9_candidate_122 (by decide) (by decide) (by decide) (fun _ => ?_) (fun h => absurd h (by decide))
              refine lv_iconst (v := nI 0) hx hb dX9_candidate_129 (by decide +kernel) ?_
              refine lv_istore (lv' := [(10, .int (nI (0))), (9, .int (nI (i % 200))), (0, .ref (md 13)), (1, .int (nI (d))), (2, .int (nI (p))), (3, .int (nI (t))), (4, .int (nI (f))), (5, .int (x4)), (6, .int (tb_m1 (tb_rank q d p (3 * t + f)))), (7, .int (nI (tb_ccn q d p (3 * t + f) i))), (8, .int (nI (i)))]) hx hb dX9_candidate_130 hl (by decide) rfl (fun ls hl => ?_)
              refine lv_iload hx hb dX9_candidate_132 (lv_at hl 0 rfl) ?_
              refine lv_if_eq (tgt := 177) hx hb dX9_candidate_134 (by decide) (fun _ => ?_) (fun h => absurd (by decide +kernel) h)
              refine lv_iload hx hb dX9_candidate_177 (lv_at hl 9 rfl) ?_
              refine lv_iload hx hb dX9_candidate_179 (lv_at hl 0 rfl) ?_
              refine lv_if_eq (tgt := 188) hx hb dX9_candidate_181 (by decide) (fun _ => ?_) (fun h => absurd (by decide +kernel) h)
              refine lv_iconst (v := nI 0) hx hb dX9_candidate_188 (by decide +kernel) ?_
              refine um_addN hx hb dX9_candidate_189 ?_
              refine lv_istore (lv' := [(7, .int (nI ((tb_ccn q d p (3 * t + f) i) + 0))), (10, .int (nI (0))), (9, .int (nI (i % 200))), (0, .ref (md 13)), (1, .int (nI (d))), (2, .int (nI (p))), (3, .int (nI (t))), (4, .int (nI (f))), (5, .int (x4)), (6, .int (tb_m1 (tb_rank q d p (3 * t + f)))), (8, .int (nI (i)))]) hx hb dX9_candidate_190 hl (by decide) rfl (fun ls hl => ?_)
              refine lv_iinc (k := 10) (v := nI (i + 1)) (lv' := [(8, .int (nI (i + 1))), (7, .int (nI ((tb_ccn q d p (3 * t + f) i) + 0))), (10, .int (nI (0))), (9, .int (nI (i % 200))), (0, .ref (md 13)), (1, .int (nI (d))), (2, .int (nI (p))), (3, .int (nI (t))), (4, .int (nI (f))), (5, .int (x4)), (6, .int (tb_m1 (tb_rank q d p (3 * t + f))))]) hx hb dX9_candidate_192 hl rfl (nI_add _ _) (by decide) rfl (fun ls hl => ?_)
              refine lv_goto (tgt := 59) hx hb dX9_candidate_195 (by decide) ?_
              have hl : lv_has ls 11 [(0, .ref (md 13)), (1, .int (nI (d))), (2, .int (nI (p))), (3, .int (nI (t))), (4, .int (nI (f))), (5, .int (x4)), (6, .int (tb_m1 (tb_rank q d p (3 * t + f)))), (7, .int (nI (tb_ccn q d p (3 * t + f) (i + 1)))), (8, .int (nI ((i + 1))))] := by
                rw [show (tb_ccn q d p (3 * t + f) (i + 1)) = ((tb_ccn q d p (3 * t + f) i) + 0) from by first | rfl | simp [tb_ccn, tb_cis, c1, c2, c3, c4]]
                exact lv_sub hl [4, 5, 6, 7, 8, 9, 10, 1, 0] rfl
              exact ih d p t f (i + 1) ls _ _ _ (by omega) (by omega) z2 z3 z4 z5 (by simp [tb_cfd, tb_cis, z6, c1, c2, c3, c4]) z7 z8 z9 z10 z11 h hU hl
          · refine lv_iconst (v := nI 1) hx hb dX9_candidate_104 (by decide +kernel) ?_
            refine lv_goto (tgt := 109) hx hb dX9_candidate_105 (by decide) ?_
            refine lv_iload hx hb dX9_candidate_109 (lv_at hl 9 rfl) ?_
            refine lv_sipush (v := nI 200) hx hb dX9_candidate_111 (by decide +kernel) ?_
            refine um_geN (tgt := 121) hx hb dX9_candidate_114 (by decide) (by omega) (by decide) (fun c7 => ?_) (fun c7 => ?_)
            · refine lv_iconst (v := nI 0) hx hb dX9_candidate_121 (by decide +kernel) ?_
              refine um_neN (tgt := 129) hx hb dX9_candidate_122 (by decide) (by decide) (by decide) (fun _ => ?_) (fun h => absurd h (by decide))
              refine lv_iconst (v := nI 0) hx hb dX9_candidate_129 (by decide +kernel) ?_
              refine lv_istore (lv' := [(10, .int (nI (0))), (9, .int (nI (i % 200))), (0, .ref (md 13)), (1, .int (nI (d))), (2, .int (nI (p))), (3, .int (nI (t))), (4, .int (nI (f))), (5, .int (x4)), (6, .int (tb_m1 (tb_rank q d p (3 * t + f)))), (7, .int (nI (tb_ccn q d p (3 * t + f) i))), (8, .int (nI (i)))]) hx hb dX9_candidate_130 hl (by decide) rfl (fun ls hl => ?_)
              refine lv_iload hx hb dX9_candidate_132 (lv_at hl 0 rfl) ?_
              refine lv_if_eq (tgt := 177) hx hb dX9_candidate_134 (by decide) (fun _ => ?_) (fun h => absurd (by decide +kernel) h)
              refine lv_iload hx hb dX9_candidate_177 (lv_at hl 9 rfl) ?_
              refine lv_iload hx hb dX9_candidate_179 (lv_at hl 0 rfl) ?_
              refine lv_if_eq (tgt := 188) hx hb dX9_candidate_181 (by decide) (fun _ => ?_) (fun h => absurd (by decide +kernel) h)
              refine lv_iconst (v := nI 0) hx hb dX9_candidate_188 (by decide +kernel) ?_
              refine um_addN hx hb dX9_candidate_189 ?_
              refine lv_istore (lv' := [(7, .int (nI ((tb_ccn q d p (3 * t + f) i) + 0))), (10, .int (nI (0))), (9, .int (nI (i % 200))), (0, .ref (md 13)), (1, .int (nI (d))), (2, .int (nI (p))), (3, .int (nI (t))), (4, .int (nI (f))), (5, .int (x4)), (6, .int (tb_m1 (tb_rank q d p (3 * t + f)))), (8, .int (nI (i)))]) hx hb dX9_candidate_190 hl (by decide) rfl (fun ls hl => ?_)
              refine lv_iinc (k := 10) (v := nI (i + 1)) (lv' := [(8, .int (nI (i + 1))), (7, .int (nI ((tb_ccn q d p (3 * t + f) i) + 0))), (10, .int (nI (0))), (9, .int (nI (i % 200))), (0, .ref (md 13)), (1, .int (nI (d))), (2, .int (nI (p))), (3, .int (nI (t))), (4, .int (nI (f))), (5, .int (x4)), (6, .int (tb_m1 (tb_rank q d p (3 * t + f))))]) hx hb dX9_candidate_192 hl rfl (nI_add _ _) (by decide) rfl (fun ls hl => ?_)
              refine lv_goto (tgt := 59) hx hb dX9_candidate_195 (by decide) ?_
              have hl : lv_has ls 11 [(0, .ref (md 13)), (1, .int (nI (d))), (2, .int (nI (p))), (3, .int (nI (t))), (4, .int (nI (f))), (5, .int (x4)), (6, .int (tb_m1 (tb_rank q d p (3 * t + f)))), (7, .int (nI (tb_ccn q d p (3 * t + f) (i + 1)))), (8, .int (nI ((i + 1))))] := by
                rw [show (tb_ccn q d p (3 * t + f) (i + 1)) = ((tb_ccn q d p (3 * t + f) i) + 0) from by first | rfl | simp [tb_ccn, tb_cis, c1, c2, c3, c7]]
                exact lv_sub hl [4, 5, 6, 7, 8, 9, 10, 1, 0] rfl
              exact ih d p t f (i + 1) ls _ _ _ (by omega) (by omega) z2 z3 z4 z5 (by simp [tb_cfd, tb_cis, z6, c1, c2, c3, c7]) z7 z8 z9 z10 z11 h hU hl
            · refine lv_iconst (v := nI 1) hx hb dX9_candidate_117 (by decide +kernel) ?_
              refine lv_goto (tgt := 122) hx hb dX9_candidate_118 (by decide) ?_
              refine um_neN (tgt := 129) hx hb dX9_candidate_122 (by decide) (by decide) (by decide) (fun h => absurd h (by decide)) (fun _ => ?_)
              refine lv_iconst (v := nI 1) hx hb dX9_candidate_125 (by decide +kernel) ?_
              refine lv_goto (tgt := 130) hx hb dX9_candidate_126 (by decide) ?_
              refine lv_istore (lv' := [(10, .int (nI (1))), (9, .int (nI (i % 200))), (0, .ref (md 13)), (1, .int (nI (d))), (2, .int (nI (p))), (3, .int (nI (t))), (4, .int (nI (f))), (5, .int (x4)), (6, .int (tb_m1 (tb_rank q d p (3 * t + f)))), (7, .int (nI (tb_ccn q d p (3 * t + f) i))), (8, .int (nI (i)))]) hx hb dX9_candidate_130 hl (by decide) rfl (fun ls hl => ?_)
              refine lv_iload hx hb dX9_candidate_132 (lv_at hl 0 rfl) ?_
              refine lv_if_eq (tgt := 177) hx hb dX9_candidate_134 (by decide) (fun h => absurd h (by decide +kernel)) (fun _ => ?_)
              refine lv_iload hx hb dX9_candidate_137 (lv_at hl 9 rfl) ?_
              refine lv_iload hx hb dX9_candidate_139 (lv_at hl 7 rfl) ?_
              refine lv_icmp_ne (tgt := 177) hx hb dX9_candidate_141 (by decide) (fun c8 => ?_) (fun c8 => ?_)
              · refine lv_iload hx hb dX9_candidate_177 (lv_at hl 9 rfl) ?_
                refine lv_iload hx hb dX9_candidate_179 (lv_at hl 0 rfl) ?_
                refine lv_if_eq (tgt := 188) hx hb dX9_candidate_181 (by decide) (fun h => absurd h (by decide +kernel)) (fun _ => ?_)
                refine lv_iconst (v := nI 1) hx hb dX9_candidate_184 (by decide +kernel) ?_
                refine lv_goto (tgt := 189) hx hb dX9_candidate_185 (by decide) ?_
                refine um_addN hx hb dX9_candidate_189 ?_
                refine lv_istore (lv' := [(7, .int (nI ((tb_ccn q d p (3 * t + f) i) + 1))), (10, .int (nI (1))), (9, .int (nI (i % 200))), (0, .ref (md 13)), (1, .int (nI (d))), (2, .int (nI (p))), (3, .int (nI (t))), (4, .int (nI (f))), (5, .int (x4)), (6, .int (tb_m1 (tb_rank q d p (3 * t + f)))), (8, .int (nI (i)))]) hx hb dX9_candidate_190 hl (by decide) rfl (fun ls hl => ?_)
                refine lv_iinc (k := 10) (v := nI (i + 1)) (lv' := [(8, .int (nI (i + 1))), (7, .int (nI ((tb_ccn q d p (3 * t + f) i) + 1))), (10, .int (nI (1))), (9, .int (nI (i % 200))), (0, .ref (md 13)), (1, .int (nI (d))), (2, .int (nI (p))), (3, .int (nI (t))), (4, .int (nI (f))), (5, .int (x4)), (6, .int (tb_m1 (tb_rank q d p (3 * t + f))))]) hx hb dX9_candidate_192 hl rfl (nI_add _ _) (by decide) rfl (fun ls hl => ?_)
                refine lv_goto (tgt := 59) hx hb dX9_candidate_195 (by decide) ?_
                have hl : lv_has ls 11 [(0, .ref (md 13)), (1, .int (nI (d))), (2, .int (nI (p))), (3, .int (nI (t))), (4, .int (nI (f))), (5, .int (x4)), (6, .int (tb_m1 (tb_rank q d p (3 * t + f)))), (7, .int (nI (tb_ccn q d p (3 * t + f) (i + 1)))), (8, .int (nI ((i + 1))))] := by
                  rw [show (tb_ccn q d p (3 * t + f) (i + 1)) = ((tb_ccn q d p (3 * t + f) i) + 1) from by first | rfl | simp [tb_ccn, tb_cis, c1, c2, c3, c7, c8]]
                  exact lv_sub hl [4, 5, 6, 7, 8, 9, 10, 1, 0] rfl
                exact ih d p t f (i + 1) ls _ _ _ (by omega) (by omega) z2 z3 z4 z5 (by simp [tb_cfd, tb_cis, z6, c1, c2, c3, c7, c8]) z7 z8 z9 z10 z11 h hU hl
              · refine lv_bipush (v := nI 100) hx hb dX9_candidate_144 (by decide +kernel) ?_
                refine lv_iload hx hb dX9_candidate_146 (lv_at hl 1 rfl) ?_
                refine lv_bipush (v := nI 40) hx hb dX9_candidate_148 (by decide +kernel) ?_
                refine um_divN hx hb dX9_candidate_150 (by omega) (by decide) (by decide) ?_
                refine um_mulN hx hb dX9_candidate_151 ?_
                refine lv_iload hx hb dX9_candidate_152 (lv_at hl 1 rfl) ?_
                refine lv_bipush (v := nI 40) hx hb dX9_candidate_154 (by decide +kernel) ?_
                refine um_remN hx hb dX9_candidate_156 (by omega) (by decide) (by decide) ?_
                refine um_addN hx hb dX9_candidate_157 ?_
                refine lv_iconst (v := nI 1) hx hb dX9_candidate_158 (by decide +kernel) ?_
                refine um_addN hx hb dX9_candidate_159 ?_
                refine lv_iload hx hb dX9_candidate_160 (lv_at hl 10 rfl) ?_
                refine lv_sipush (v := nI 200) hx hb dX9_candidate_162 (by decide +kernel) ?_
                refine um_geN (tgt := 172) hx hb dX9_candidate_165 (by decide) (by omega) (by decide) (fun c9 => ?_) (fun c9 => ?_)
                · refine lv_sipush (v := nI 1000) hx hb dX9_candidate_172 (by decide +kernel) ?_
                  refine um_addN hx hb dX9_candidate_175 ?_
                  exact um_iret hx hb hr hlocks hK hJ hU dX9_candidate_176 ⟨by first | (exfalso; omega) | (have ek := tb_cfd_at (q := q) (d := d) (p := p) (f := 3 * t + f) (x := x4) (i := i) (by simp [tb_cfd, tb_cis, z6, c1, c2, c3, c7, c8, c9]) (by omega); rw [tbA_candidate, if_pos z11, z7, z8, z9, z10, nI_clamp (by omega), nI_clamp (by omega), nI_clamp (by omega), nI_clamp (by omega), tb_cand, if_neg (by omega), ek]; simp [tb_ccode, c1, c2, c3, c7, c8, c9]), (by rw [show tbT_candidate x0 x1 x2 x3 x4 = if false = true then 1 else 0 from by rw [tbT_candidate, if_pos z11]; rfl]; exact h)⟩
                · refine lv_iconst (v := nI 0) hx hb dX9_candidate_168 (by decide +kernel) ?_
                  refine lv_goto (tgt := 175) hx hb dX9_candidate_169 (by decide) ?_
                  refine um_addN hx hb dX9_candidate_175 ?_
                  exact um_iret hx hb hr hlocks hK hJ hU dX9_candidate_176 ⟨by first | (exfalso; omega) | (have ek := tb_cfd_at (q := q) (d := d) (p := p) (f := 3 * t + f) (x := x4) (i := i) (by simp [tb_cfd, tb_cis, z6, c1, c2, c3, c7, c8, c9]) (by omega); rw [tbA_candidate, if_pos z11, z7, z8, z9, z10, nI_clamp (by omega), nI_clamp (by omega), nI_clamp (by omega), nI_clamp (by omega), tb_cand, if_neg (by omega), ek]; simp [tb_ccode, c1, c2, c3, c7, c8, c9]), (by rw [show tbT_candidate x0 x1 x2 x3 x4 = if false = true then 1 else 0 from by rw [tbT_candidate, if_pos z11]; rfl]; exact h)⟩
  refine lv_aload_n hx hb dX9_candidate_0 rfl (lv_at hl 0 rfl) ?_
  refine lv_iload_n hx hb dX9_candidate_1 rfl (lv_at hl 1 rfl) ?_
  refine lv_iconst (v := nI 0) hx hb dX9_candidate_2 (by decide +kernel) ?_
  refine lv_iconst (v := nI 4) hx hb dX9_candidate_3 (by decide +kernel) ?_
  refine um_callP (va_runS (As := [.int (x0), .int (nI (0)), .int (nI (4))]) (rest := [.ref (md 13)]) ⟨hx, hb, hml, hown, htg⟩ (mm_in l D κ τ A σ x0 (nI 0) (nI 4)) (cwS 3 htg (lw_cS tg_695 tg_696 tg_8 tg_697) rfl rfl rfl (by decide +kernel) ⟨Nat.le_of_ble_eq_true rfl, Nat.le_of_ble_eq_true rfl⟩) (um_preS hU hK hJ) rfl rfl hl.1 rfl (lv_room (Nat.le_of_ble_eq_true rfl)) dX9_candidate_4 ⟨Nat.le_of_ble_eq_true rfl, Nat.le_of_ble_eq_true rfl⟩) hU (fun H locs hU => ?_)
  refine um_eqB (tgt := 25) hx hb dX9_candidate_7 (by decide) (fun c10 => ?_) (fun c10 => ?_)
  · refine lv_iconst (v := nI 1) hx hb dX9_candidate_25 (by decide +kernel) ?_
    refine lv_goto (tgt := 30) hx hb dX9_candidate_26 (by decide) ?_
    refine lv_iconst (v := nI 1) hx hb dX9_candidate_30 (by decide +kernel) ?_
    refine um_calli (va_runV (As := [.int (nI (1)), .int (nI (1))]) (rest := []) ⟨hx, hb, hml, hown, htg⟩ (mm_fails l D κ τ A σ md q th h true 1) (cwV 2 htg (lw_cV tg_698 tg_700 slX9_fails tg_8 tg_701) rfl rfl rfl (by decide +kernel) ⟨Nat.le_of_ble_eq_true rfl, Nat.le_of_ble_eq_true rfl⟩) (um_preV hU hK hJ h.obj rfl) rfl rfl hl.1 rfl (lv_room (Nat.le_of_ble_eq_true rfl)) dX9_candidate_31 ⟨Nat.le_of_ble_eq_true rfl, Nat.le_of_ble_eq_true rfl⟩) hU (fun r9 σ H locs h hU => ?_)
    obtain ⟨rfl, h⟩ := h
    refine um_eqB (tgt := 39) hx hb dX9_candidate_34 (by decide) (fun h => by cases h) (fun _ => ?_)
    refine lv_iconst (v := nI 0) hx hb dX9_candidate_37 (by decide +kernel) ?_
    exact um_iret hx hb hr hlocks hK hJ hU dX9_candidate_38 ⟨by simp [tbA_candidate, c10], (by rw [show tbT_candidate x0 x1 x2 x3 x4 = if true = true then 1 else 0 from by simp [tbT_candidate, c10]]; exact h)⟩
  · refine lv_iload_n hx hb dX9_candidate_10 rfl (lv_at hl 2 rfl) ?_
    refine lv_iload_n hx hb dX9_candidate_11 rfl (lv_at hl 3 rfl) ?_
    refine lv_iload hx hb dX9_candidate_12 (lv_at hl 4 rfl) ?_
    refine um_callP (va_runS (As := [.int (x1), .int (x2), .int (x3)]) (rest := [.ref (md 13)]) ⟨hx, hb, hml, hown, htg⟩ (mm_isField l D κ τ A σ x1 x2 x3) (cwS 3 htg (lw_cS tg_742 tg_743 tg_8 tg_744) rfl rfl rfl (by decide +kernel) ⟨Nat.le_of_ble_eq_true rfl, Nat.le_of_ble_eq_true rfl⟩) (um_preS hU hK hJ) rfl rfl hl.1 rfl (lv_room (Nat.le_of_ble_eq_true rfl)) dX9_candidate_14 ⟨Nat.le_of_ble_eq_true rfl, Nat.le_of_ble_eq_true rfl⟩) hU (fun H locs hU => ?_)
    refine um_eqB (tgt := 25) hx hb dX9_candidate_17 (by decide) (fun c11 => ?_) (fun c11 => ?_)
    · refine lv_iconst (v := nI 1) hx hb dX9_candidate_25 (by decide +kernel) ?_
      refine lv_goto (tgt := 30) hx hb dX9_candidate_26 (by decide) ?_
      refine lv_iconst (v := nI 1) hx hb dX9_candidate_30 (by decide +kernel) ?_
      refine um_calli (va_runV (As := [.int (nI (1)), .int (nI (1))]) (rest := []) ⟨hx, hb, hml, hown, htg⟩ (mm_fails l D κ τ A σ md q th h true 1) (cwV 2 htg (lw_cV tg_698 tg_700 slX9_fails tg_8 tg_701) rfl rfl rfl (by decide +kernel) ⟨Nat.le_of_ble_eq_true rfl, Nat.le_of_ble_eq_true rfl⟩) (um_preV hU hK hJ h.obj rfl) rfl rfl hl.1 rfl (lv_room (Nat.le_of_ble_eq_true rfl)) dX9_candidate_31 ⟨Nat.le_of_ble_eq_true rfl, Nat.le_of_ble_eq_true rfl⟩) hU (fun r9 σ H locs h hU => ?_)
      obtain ⟨rfl, h⟩ := h
      refine um_eqB (tgt := 39) hx hb dX9_candidate_34 (by decide) (fun h => by cases h) (fun _ => ?_)
      refine lv_iconst (v := nI 0) hx hb dX9_candidate_37 (by decide +kernel) ?_
      exact um_iret hx hb hr hlocks hK hJ hU dX9_candidate_38 ⟨by simp [tbA_candidate, c10, c11], (by rw [show tbT_candidate x0 x1 x2 x3 x4 = if true = true then 1 else 0 from by simp [tbT_candidate, c10, c11]]; exact h)⟩
    · refine lv_iload hx hb dX9_candidate_20 (lv_at hl 5 rfl) ?_
      refine lv_if_ge (tgt := 29) hx hb dX9_candidate_22 (by decide) (fun c12 => ?_) (fun c12 => ?_)
      · refine lv_iconst (v := nI 0) hx hb dX9_candidate_29 (by decide +kernel) ?_
        refine lv_iconst (v := nI 1) hx hb dX9_candidate_30 (by decide +kernel) ?_
        refine um_calli (va_runV (As := [.int (nI (0)), .int (nI (1))]) (rest := []) ⟨hx, hb, hml, hown, htg⟩ (mm_fails l D κ τ A σ md q th h false 1) (cwV 2 htg (lw_cV tg_698 tg_700 slX9_fails tg_8 tg_701) rfl rfl rfl (by decide +kernel) ⟨Nat.le_of_ble_eq_true rfl, Nat.le_of_ble_eq_true rfl⟩) (um_preV hU hK hJ h.obj rfl) rfl rfl hl.1 rfl (lv_room (Nat.le_of_ble_eq_true rfl)) dX9_candidate_31 ⟨Nat.le_of_ble_eq_true rfl, Nat.le_of_ble_eq_true rfl⟩) hU (fun r9 σ H locs h hU => ?_)
        obtain ⟨rfl, h⟩ := h
        refine um_eqB (tgt := 39) hx hb dX9_candidate_34 (by decide) (fun _ => ?_) (fun h => by cases h)
        have hfd := c11
        simp only [tb_fd, Bool.and_eq_true] at hfd
        obtain ⟨⟨hf1, hf2⟩, hf3⟩ := hfd
        obtain ⟨j0, ha_j0, hb_j0, rfl⟩ := tb_inN (by decide) (by decide) c10
        have en_j0 : (nI j0).toNatClampNeg = j0 := nI_clamp (by omega)
        obtain ⟨j1, ha_j1, hb_j1, rfl⟩ := tb_inN (by decide) (by decide) hf1
        have en_j1 : (nI j1).toNatClampNeg = j1 := nI_clamp (by omega)
        obtain ⟨j2, ha_j2, hb_j2, rfl⟩ := tb_inN (by decide) (by decide) hf2
        have en_j2 : (nI j2).toNatClampNeg = j2 := nI_clamp (by omega)
        obtain ⟨j3, ha_j3, hb_j3, rfl⟩ := tb_inN (by decide) (by decide) hf3
        have en_j3 : (nI j3).toNatClampNeg = j3 := nI_clamp (by omega)
        refine lv_aload_n hx hb dX9_candidate_39 rfl (lv_at hl 0 rfl) ?_
        refine lv_iload_n hx hb dX9_candidate_40 rfl (lv_at hl 1 rfl) ?_
        refine lv_iload_n hx hb dX9_candidate_41 rfl (lv_at hl 2 rfl) ?_
        refine lv_iconst (v := nI 3) hx hb dX9_candidate_42 (by decide +kernel) ?_
        refine lv_iload_n hx hb dX9_candidate_43 rfl (lv_at hl 3 rfl) ?_
        refine um_mulN hx hb dX9_candidate_44 ?_
        refine lv_iload hx hb dX9_candidate_45 (lv_at hl 4 rfl) ?_
        refine um_addN hx hb dX9_candidate_47 ?_
        refine um_callP (va_runV (As := [.int (nI (j0)), .int (nI (j1)), .int (nI ((3 * j2) + j3))]) (rest := []) ⟨hx, hb, hml, hown, htg⟩ (mm_rankOf l D κ τ A σ md q (if false = true then 1 else 0) h hq j0 j1 ((3 * j2) + j3) (by omega) (by omega) (by omega)) (cwV 3 htg (lw_cV tg_764 tg_766 slX9_rankOf tg_8 tg_767) rfl rfl rfl (by decide +kernel) ⟨Nat.le_of_ble_eq_true rfl, Nat.le_of_ble_eq_true rfl⟩) (um_preV hU hK hJ h.obj rfl) rfl rfl hl.1 rfl (lv_room (Nat.le_of_ble_eq_true rfl)) dX9_candidate_48 ⟨Nat.le_of_ble_eq_true rfl, Nat.le_of_ble_eq_true rfl⟩) hU (fun H locs hU => ?_)
        refine lv_istore (lv' := [(6, .int (tb_m1 (tb_rank q j0 j1 ((3 * j2) + j3)))), (0, .ref (md 13)), (1, .int (nI (j0))), (2, .int (nI (j1))), (3, .int (nI (j2))), (4, .int (nI (j3))), (5, .int (x4))]) hx hb dX9_candidate_51 hl (by decide) rfl (fun ls hl => ?_)
        refine lv_iconst (v := nI 0) hx hb dX9_candidate_53 (by decide +kernel) ?_
        refine lv_istore (lv' := [(7, .int (nI (0))), (6, .int (tb_m1 (tb_rank q j0 j1 ((3 * j2) + j3)))), (0, .ref (md 13)), (1, .int (nI (j0))), (2, .int (nI (j1))), (3, .int (nI (j2))), (4, .int (nI (j3))), (5, .int (x4))]) hx hb dX9_candidate_54 hl (by decide) rfl (fun ls hl => ?_)
        refine lv_iconst (v := nI 0) hx hb dX9_candidate_56 (by decide +kernel) ?_
        refine lv_istore (lv' := [(8, .int (nI (0))), (7, .int (nI (0))), (6, .int (tb_m1 (tb_rank q j0 j1 ((3 * j2) + j3)))), (0, .ref (md 13)), (1, .int (nI (j0))), (2, .int (nI (j1))), (3, .int (nI (j2))), (4, .int (nI (j3))), (5, .int (x4))]) hx hb dX9_candidate_57 hl (by decide) rfl (fun ls hl => ?_)
        have hl : lv_has ls 11 [(0, .ref (md 13)), (1, .int (nI (j0))), (2, .int (nI (j1))), (3, .int (nI (j2))), (4, .int (nI (j3))), (5, .int (x4)), (6, .int (tb_m1 (tb_rank q j0 j1 (3 * j2 + j3)))), (7, .int (nI (tb_ccn q j0 j1 (3 * j2 + j3) 0))), (8, .int (nI (0)))] := by
          rw [show (tb_rank q j0 j1 (3 * j2 + j3)) = (tb_rank q j0 j1 ((3 * j2) + j3)) from rfl]
          rw [show (tb_ccn q j0 j1 (3 * j2 + j3) 0) = 0 from by first | rfl | simp [tb_ccn, tb_cis, c10, c11, c12, en_j0, en_j1, en_j2, en_j3]]
          exact lv_sub hl [3, 4, 5, 6, 7, 8, 2, 1, 0] rfl
        exact L1 401 j0 j1 j2 j3 0 ls _ _ _ (by omega) (by omega) (by omega) (by omega) (by omega) (by omega) rfl rfl rfl rfl rfl (by simp [c10, c11, c12, en_j0, en_j1, en_j2, en_j3]) h hU hl
      · refine lv_iconst (v := nI 1) hx hb dX9_candidate_25 (by decide +kernel) ?_
        refine lv_goto (tgt := 30) hx hb dX9_candidate_26 (by decide) ?_
        refine lv_iconst (v := nI 1) hx hb dX9_candidate_30 (by decide +kernel) ?_
        refine um_calli (va_runV (As := [.int (nI (1)), .int (nI (1))]) (rest := []) ⟨hx, hb, hml, hown, htg⟩ (mm_fails l D κ τ A σ md q th h true 1) (cwV 2 htg (lw_cV tg_698 tg_700 slX9_fails tg_8 tg_701) rfl rfl rfl (by decide +kernel) ⟨Nat.le_of_ble_eq_true rfl, Nat.le_of_ble_eq_true rfl⟩) (um_preV hU hK hJ h.obj rfl) rfl rfl hl.1 rfl (lv_room (Nat.le_of_ble_eq_true rfl)) dX9_candidate_31 ⟨Nat.le_of_ble_eq_true rfl, Nat.le_of_ble_eq_true rfl⟩) hU (fun r9 σ H locs h hU => ?_)
        obtain ⟨rfl, h⟩ := h
        refine um_eqB (tgt := 39) hx hb dX9_candidate_34 (by decide) (fun h => by cases h) (fun _ => ?_)
        refine lv_iconst (v := nI 0) hx hb dX9_candidate_37 (by decide +kernel) ?_
        exact um_iret hx hb hr hlocks hK hJ hU dX9_candidate_38 ⟨by simp [tbA_candidate, c10, c11, c12], (by rw [show tbT_candidate x0 x1 x2 x3 x4 = if true = true then 1 else 0 from by simp [tbT_candidate, c10, c11, c12]]; exact h)⟩
