set_option maxRecDepth 100000 in
set_option maxHeartbeats 4000000 in
theorem lc_species {p : Program} {l : Launch} {e : Env} {R : Room} {s : State} {m : MethodId} {args : Array Value} {below : List Frame} {meth : Method} {c : Code} {H : Heap} {locs : List Loc} {cells slots : Nat} {Q : State → Prop} {ls : Array Slot} {D : va_G} {A : Nat → Prop} {κ : Nat → ClassId} {τ : Nat → Nat} {xd md : Nat → Nat} {o b Ls i : Nat} {q : tb_Q} {xs : Nat → Int32} (hx : p.tables.exec = Jvm.exec) (hb : c.code = cL_law) (hst : l.stackTraces = false) (hml : c.maxLocals = 8) (hown : s.vm.findClass RL = some m.cls) (htg : ∀ w ∈ lw_g, w.before args s = true) (hK : va_K D vwCl (um_T κ) s) (hJ : um_J τ A s s.heap) (hX : va_X b Ls xs s s.heap) (hbl : b < s.heap.size) (hbA : ¬ A b) (hLs : Ls ≤ 3072) (hfr : 11 ≤ R.frames) (hlo : 432 ≤ R.locals) (ok : tb_ok q) (h : lw_W D κ A s xd md o q H locs) (hl : lv_has ls 8 [(0, .ref b), (1, .ref (xd 0)), (2, .ref (md 13)), (3, .ref o), (4, .int (nI i))]) (hi : i + 6 ≤ Ls) (hc : cells + 5 ≤ R.cells) (hs : slots + 29 ≤ R.slots)
    (kk : ∀ (H1 : Heap) (locs1 : List Loc) (ls1 : Array Slot), lw_W D κ A s xd md o (tbQ_species q (xs (i + 1)) (xs (i + 2)) (xs (i + 3)) (xs (i + 4))) H1 locs1 → lv_has ls1 8 [(0, .ref b), (1, .ref (xd 0)), (2, .ref (md 13)), (3, .ref o), (4, .int (nI i))] → W p l e R s m args below meth c H1 locs1 (cells + 5) (slots + 29) Q (F0 m 1281 ls1 [])) : W p l e R s m args below meth c H locs cells slots Q (F0 m 124 ls []) := by
  obtain ⟨π, σ, la, ma, va, sc, v, th, hxo, hmd, hU, hM, hap⟩ := h
  refine lv_aload_n hx hb dL_law_124 rfl (lv_at hl 1 rfl) ?_
  refine lv_aload_n hx hb dL_law_125 rfl (lv_at hl 0 rfl) ?_
  refine lv_iload hx hb dL_law_126 (lv_at hl 4 rfl) ?_
  refine lv_iconst (v := nI 1) hx hb dL_law_128 (by decide +kernel) ?_
  refine um_addN hx hb dL_law_129 ?_
  refine lw_sld hx hb hX hbl hbA hU.2.2.1 (j := i + 1) (by omega) hLs dL_law_130 ?_
  refine lv_aload_n hx hb dL_law_131 rfl (lv_at hl 0 rfl) ?_
  refine lv_iload hx hb dL_law_132 (lv_at hl 4 rfl) ?_
  refine lv_iconst (v := nI 2) hx hb dL_law_134 (by decide +kernel) ?_
  refine um_addN hx hb dL_law_135 ?_
  refine lw_sld hx hb hX hbl hbA hU.2.2.1 (j := i + 2) (by omega) hLs dL_law_136 ?_
  refine lv_aload_n hx hb dL_law_137 rfl (lv_at hl 0 rfl) ?_
  refine lv_iload hx hb dL_law_138 (lv_at hl 4 rfl) ?_
  refine lv_iconst (v := nI 3) hx hb dL_law_140 (by decide +kernel) ?_
  refine um_addN hx hb dL_law_141 ?_
  refine lw_sld hx hb hX hbl hbA hU.2.2.1 (j := i + 3) (by omega) hLs dL_law_142 ?_
  refine lv_aload_n hx hb dL_law_143 rfl (lv_at hl 0 rfl) ?_
  refine lv_iload hx hb dL_law_144 (lv_at hl 4 rfl) ?_
  refine lv_iconst (v := nI 4) hx hb dL_law_146 (by decide +kernel) ?_
  refine um_addN hx hb dL_law_147 ?_
  refine lw_sld hx hb hX hbl hbA hU.2.2.1 (j := i + 4) (by omega) hLs dL_law_148 ?_
  refine um_call2i (vx_runSW (As := [.ref (xd 0), .int (xs (i + 1)), .int (xs (i + 2)), .int (xs (i + 3)), .int (xs (i + 4))]) (rest := []) ⟨hx, hb, hml, hown, htg⟩ (lh_species l D κ τ (um_Am A σ) π hst xd la ma va q sc o v hxo ok (xs (i + 1)) (xs (i + 2)) (xs (i + 3)) (xs (i + 4))) (vx_cwSW 5 htg (lw_cW tg_182 tg_183 tg_0 tg_184) rfl rfl rfl (by decide +kernel) ⟨Nat.le_trans (by decide) hfr, Nat.le_trans (by decide) hlo⟩) (um_preS2 hU hM hap hK hJ) rfl rfl hl.1 rfl (lv_room (Nat.le_of_ble_eq_true rfl)) dL_law_149 ⟨by omega, by omega⟩) hU hM (fun r9 π H locs hp hU hM hap => ?_)
  obtain ⟨rfl, la, ma, va, sc, v, hxo⟩ := hp
  refine lv_istore (lv' := [(5, .int (nI (tbT_species (xs (i + 1)) (xs (i + 2)) (xs (i + 3)) (xs (i + 4))))), (0, .ref b), (1, .ref (xd 0)), (2, .ref (md 13)), (3, .ref o), (4, .int (nI i))]) hx hb dL_law_152 hl (by decide) rfl (fun ls hl => ?_)
  refine lv_aload_n hx hb dL_law_154 rfl (lv_at hl 3 rfl) ?_
  refine lv_aload_n hx hb dL_law_155 rfl (lv_at hl 1 rfl) ?_
  refine lv_iload hx hb dL_law_156 (lv_at hl 5 rfl) ?_
  refine lv_iconst (v := nI 1) hx hb dL_law_158 (by decide +kernel) ?_
  refine um_addN hx hb dL_law_159 ?_
  refine lw_sld hx hb hX hbl hbA hU.2.2.1 (j := i + 1) (by omega) hLs dL_law_160 ?_
  refine lv_aload_n hx hb dL_law_161 rfl (lv_at hl 1 rfl) ?_
  refine lv_iload hx hb dL_law_162 (lv_at hl 5 rfl) ?_
  refine lv_iconst (v := nI 2) hx hb dL_law_164 (by decide +kernel) ?_
  refine um_addN hx hb dL_law_165 ?_
  refine lw_sld hx hb hX hbl hbA hU.2.2.1 (j := i + 2) (by omega) hLs dL_law_166 ?_
  refine lv_aload_n hx hb dL_law_167 rfl (lv_at hl 1 rfl) ?_
  refine lv_iload hx hb dL_law_168 (lv_at hl 5 rfl) ?_
  refine lv_iconst (v := nI 3) hx hb dL_law_170 (by decide +kernel) ?_
  refine um_addN hx hb dL_law_171 ?_
  refine lw_sld hx hb hX hbl hbA hU.2.2.1 (j := i + 3) (by omega) hLs dL_law_172 ?_
  refine lv_aload_n hx hb dL_law_173 rfl (lv_at hl 1 rfl) ?_
  refine lv_iload hx hb dL_law_174 (lv_at hl 5 rfl) ?_
  refine lv_iconst (v := nI 4) hx hb dL_law_176 (by decide +kernel) ?_
  refine um_addN hx hb dL_law_177 ?_
  refine lw_sld hx hb hX hbl hbA hU.2.2.1 (j := i + 4) (by omega) hLs dL_law_178 ?_
  refine um_call2v (va_runV (As := [.int (xs (i + 1)), .int (xs (i + 2)), .int (xs (i + 3)), .int (xs (i + 4))]) (rest := []) ⟨hx, hb, hml, hown, htg⟩ (mm_species l D κ τ (um_Am A π) σ md q th hmd  (xs (i + 1)) (xs (i + 2)) (xs (i + 3)) (xs (i + 4))) (cwV 4 htg (lw_cV tg_691 tg_692 tg_693 tg_8 tg_694) rfl rfl rfl (by decide +kernel) ⟨Nat.le_trans (by decide) hfr, Nat.le_trans (by decide) hlo⟩) (um_preV2 hM hU (fun b9 h9 z => hap b9 z h9) hK hJ hmd.obj rfl) rfl rfl hl.1 rfl (lv_room (Nat.le_of_ble_eq_true rfl)) dL_law_179 ⟨by omega, by omega⟩) hM hU (fun σ H locs hp hM hU hap2 => ?_)
  have hmd := hp
  have hap : um_ap π σ := fun b9 h9 z => hap2 b9 z h9
  refine lv_aload_n hx hb dL_law_182 rfl (lv_at hl 3 rfl) ?_
  refine um_call2i (va_runV (As := []) (rest := []) ⟨hx, hb, hml, hown, htg⟩ (mm_thrown l D κ τ (um_Am A π) σ md _ _ hmd) (cwV 0 htg (lw_cV tg_687 tg_688 tg_689 tg_8 tg_690) rfl rfl rfl (by decide +kernel) ⟨Nat.le_trans (by decide) hfr, Nat.le_trans (by decide) hlo⟩) (um_preV2 hM hU (fun b9 h9 z => hap b9 z h9) hK hJ hmd.obj rfl) rfl rfl hl.1 rfl (lv_room (Nat.le_of_ble_eq_true rfl)) dL_law_183 ⟨by omega, by omega⟩) hM hU (fun r9 σ2 H locs hp hM hU hap2 => ?_)
  obtain ⟨hr9, hs9⟩ := hp
  subst hr9
  rw [hs9] at hM hap2
  have hap : um_ap π σ := fun b9 h9 z => hap2 b9 z h9
  refine lv_iload hx hb dL_law_186 (lv_at hl 0 rfl) ?_
  refine lv_icmp_eq (tgt := 193) hx hb dL_law_188 (by decide) (fun _ => ?_) (fun z9 => absurd rfl z9)
  refine lv_goto (tgt := 1281) hx hb dL_law_193 (by decide) ?_
  exact W.widen (by omega) (by omega) (kk _ _ _ ⟨π, σ, la, ma, va, sc, v, _, hxo, hmd, hU, hM, hap⟩ (lv_sub hl [1, 2, 3, 4, 5] rfl))

set_option maxRecDepth 100000 in
set_option maxHeartbeats 4000000 in
theorem lc_stand {p : Program} {l : Launch} {e : Env} {R : Room} {s : State} {m : MethodId} {args : Array Value} {below : List Frame} {meth : Method} {c : Code} {H : Heap} {locs : List Loc} {cells slots : Nat} {Q : State → Prop} {ls : Array Slot} {D : va_G} {A : Nat → Prop} {κ : Nat → ClassId} {τ : Nat → Nat} {xd md : Nat → Nat} {o b Ls i : Nat} {q : tb_Q} {xs : Nat → Int32} (hx : p.tables.exec = Jvm.exec) (hb : c.code = cL_law) (hst : l.stackTraces = false) (hml : c.maxLocals = 8) (hown : s.vm.findClass RL = some m.cls) (htg : ∀ w ∈ lw_g, w.before args s = true) (hK : va_K D vwCl (um_T κ) s) (hJ : um_J τ A s s.heap) (hX : va_X b Ls xs s s.heap) (hbl : b < s.heap.size) (hbA : ¬ A b) (hLs : Ls ≤ 3072) (hfr : 11 ≤ R.frames) (hlo : 432 ≤ R.locals) (ok : tb_ok q) (h : lw_W D κ A s xd md o q H locs) (hl : lv_has ls 8 [(0, .ref b), (1, .ref (xd 0)), (2, .ref (md 13)), (3, .ref o), (4, .int (nI i))]) (hi : i + 6 ≤ Ls) (hc : cells + 5 ≤ R.cells) (hs : slots + 29 ≤ R.slots)
    (kk : ∀ (H1 : Heap) (locs1 : List Loc) (ls1 : Array Slot), lw_W D κ A s xd md o (tbQ_stand q (xs (i + 1)) (xs (i + 2))) H1 locs1 → lv_has ls1 8 [(0, .ref b), (1, .ref (xd 0)), (2, .ref (md 13)), (3, .ref o), (4, .int (nI i))] → W p l e R s m args below meth c H1 locs1 (cells + 5) (slots + 29) Q (F0 m 1281 ls1 [])) : W p l e R s m args below meth c H locs cells slots Q (F0 m 196 ls []) := by
  obtain ⟨π, σ, la, ma, va, sc, v, th, hxo, hmd, hU, hM, hap⟩ := h
  refine lv_aload_n hx hb dL_law_196 rfl (lv_at hl 1 rfl) ?_
  refine lv_aload_n hx hb dL_law_197 rfl (lv_at hl 0 rfl) ?_
  refine lv_iload hx hb dL_law_198 (lv_at hl 4 rfl) ?_
  refine lv_iconst (v := nI 1) hx hb dL_law_200 (by decide +kernel) ?_
  refine um_addN hx hb dL_law_201 ?_
  refine lw_sld hx hb hX hbl hbA hU.2.2.1 (j := i + 1) (by omega) hLs dL_law_202 ?_
  refine lv_aload_n hx hb dL_law_203 rfl (lv_at hl 0 rfl) ?_
  refine lv_iload hx hb dL_law_204 (lv_at hl 4 rfl) ?_
  refine lv_iconst (v := nI 2) hx hb dL_law_206 (by decide +kernel) ?_
  refine um_addN hx hb dL_law_207 ?_
  refine lw_sld hx hb hX hbl hbA hU.2.2.1 (j := i + 2) (by omega) hLs dL_law_208 ?_
  refine um_call2i (vx_runSW (As := [.ref (xd 0), .int (xs (i + 1)), .int (xs (i + 2))]) (rest := []) ⟨hx, hb, hml, hown, htg⟩ (lh_stand l D κ τ (um_Am A σ) π hst xd la ma va q sc o v hxo ok (xs (i + 1)) (xs (i + 2))) (vx_cwSW 3 htg (lw_cW tg_259 tg_260 tg_0 tg_261) rfl rfl rfl (by decide +kernel) ⟨Nat.le_trans (by decide) hfr, Nat.le_trans (by decide) hlo⟩) (um_preS2 hU hM hap hK hJ) rfl rfl hl.1 rfl (lv_room (Nat.le_of_ble_eq_true rfl)) dL_law_209 ⟨by omega, by omega⟩) hU hM (fun r9 π H locs hp hU hM hap => ?_)
  obtain ⟨rfl, la, ma, va, sc, v, hxo⟩ := hp
  refine lv_istore (lv' := [(5, .int (nI (tbT_stand (xs (i + 1)) (xs (i + 2))))), (0, .ref b), (1, .ref (xd 0)), (2, .ref (md 13)), (3, .ref o), (4, .int (nI i))]) hx hb dL_law_212 hl (by decide) rfl (fun ls hl => ?_)
  refine lv_aload_n hx hb dL_law_214 rfl (lv_at hl 3 rfl) ?_
  refine lv_aload_n hx hb dL_law_215 rfl (lv_at hl 1 rfl) ?_
  refine lv_iload hx hb dL_law_216 (lv_at hl 5 rfl) ?_
  refine lv_iconst (v := nI 1) hx hb dL_law_218 (by decide +kernel) ?_
  refine um_addN hx hb dL_law_219 ?_
  refine lw_sld hx hb hX hbl hbA hU.2.2.1 (j := i + 1) (by omega) hLs dL_law_220 ?_
  refine lv_aload_n hx hb dL_law_221 rfl (lv_at hl 1 rfl) ?_
  refine lv_iload hx hb dL_law_222 (lv_at hl 5 rfl) ?_
  refine lv_iconst (v := nI 2) hx hb dL_law_224 (by decide +kernel) ?_
  refine um_addN hx hb dL_law_225 ?_
  refine lw_sld hx hb hX hbl hbA hU.2.2.1 (j := i + 2) (by omega) hLs dL_law_226 ?_
  refine um_call2v (va_runV (As := [.int (xs (i + 1)), .int (xs (i + 2))]) (rest := []) ⟨hx, hb, hml, hown, htg⟩ (mm_stand l D κ τ (um_Am A π) σ md q th hmd  (xs (i + 1)) (xs (i + 2))) (cwV 2 htg (lw_cV tg_702 tg_703 tg_704 tg_8 tg_705) rfl rfl rfl (by decide +kernel) ⟨Nat.le_trans (by decide) hfr, Nat.le_trans (by decide) hlo⟩) (um_preV2 hM hU (fun b9 h9 z => hap b9 z h9) hK hJ hmd.obj rfl) rfl rfl hl.1 rfl (lv_room (Nat.le_of_ble_eq_true rfl)) dL_law_227 ⟨by omega, by omega⟩) hM hU (fun σ H locs hp hM hU hap2 => ?_)
  have hmd := hp
  have hap : um_ap π σ := fun b9 h9 z => hap2 b9 z h9
  refine lv_aload_n hx hb dL_law_230 rfl (lv_at hl 3 rfl) ?_
  refine um_call2i (va_runV (As := []) (rest := []) ⟨hx, hb, hml, hown, htg⟩ (mm_thrown l D κ τ (um_Am A π) σ md _ _ hmd) (cwV 0 htg (lw_cV tg_687 tg_688 tg_689 tg_8 tg_690) rfl rfl rfl (by decide +kernel) ⟨Nat.le_trans (by decide) hfr, Nat.le_trans (by decide) hlo⟩) (um_preV2 hM hU (fun b9 h9 z => hap b9 z h9) hK hJ hmd.obj rfl) rfl rfl hl.1 rfl (lv_room (Nat.le_of_ble_eq_true rfl)) dL_law_231 ⟨by omega, by omega⟩) hM hU (fun r9 σ2 H locs hp hM hU hap2 => ?_)
  obtain ⟨hr9, hs9⟩ := hp
  subst hr9
  rw [hs9] at hM hap2
  have hap : um_ap π σ := fun b9 h9 z => hap2 b9 z h9
  refine lv_iload hx hb dL_law_234 (lv_at hl 0 rfl) ?_
  refine lv_icmp_eq (tgt := 241) hx hb dL_law_236 (by decide) (fun _ => ?_) (fun z9 => absurd rfl z9)
  refine lv_goto (tgt := 1281) hx hb dL_law_241 (by decide) ?_
  exact W.widen (by omega) (by omega) (kk _ _ _ ⟨π, σ, la, ma, va, sc, v, _, hxo, hmd, hU, hM, hap⟩ (lv_sub hl [1, 2, 3, 4, 5] rfl))

set_option maxRecDepth 100000 in
set_option maxHeartbeats 4000000 in
theorem lc_lend {p : Program} {l : Launch} {e : Env} {R : Room} {s : State} {m : MethodId} {args : Array Value} {below : List Frame} {meth : Method} {c : Code} {H : Heap} {locs : List Loc} {cells slots : Nat} {Q : State → Prop} {ls : Array Slot} {D : va_G} {A : Nat → Prop} {κ : Nat → ClassId} {τ : Nat → Nat} {xd md : Nat → Nat} {o b Ls i : Nat} {q : tb_Q} {xs : Nat → Int32} (hx : p.tables.exec = Jvm.exec) (hb : c.code = cL_law) (hst : l.stackTraces = false) (hml : c.maxLocals = 8) (hown : s.vm.findClass RL = some m.cls) (htg : ∀ w ∈ lw_g, w.before args s = true) (hK : va_K D vwCl (um_T κ) s) (hJ : um_J τ A s s.heap) (hX : va_X b Ls xs s s.heap) (hbl : b < s.heap.size) (hbA : ¬ A b) (hLs : Ls ≤ 3072) (hfr : 11 ≤ R.frames) (hlo : 432 ≤ R.locals) (ok : tb_ok q) (h : lw_W D κ A s xd md o q H locs) (hl : lv_has ls 8 [(0, .ref b), (1, .ref (xd 0)), (2, .ref (md 13)), (3, .ref o), (4, .int (nI i))]) (hi : i + 6 ≤ Ls) (hc : cells + 5 ≤ R.cells) (hs : slots + 29 ≤ R.slots)
    (kk : ∀ (H1 : Heap) (locs1 : List Loc) (ls1 : Array Slot), lw_W D κ A s xd md o (tbQ_lend q (xs (i + 1)) (xs (i + 2))) H1 locs1 → lv_has ls1 8 [(0, .ref b), (1, .ref (xd 0)), (2, .ref (md 13)), (3, .ref o), (4, .int (nI i))] → W p l e R s m args below meth c H1 locs1 (cells + 5) (slots + 29) Q (F0 m 1281 ls1 [])) : W p l e R s m args below meth c H locs cells slots Q (F0 m 244 ls []) := by
  obtain ⟨π, σ, la, ma, va, sc, v, th, hxo, hmd, hU, hM, hap⟩ := h
  refine lv_aload_n hx hb dL_law_244 rfl (lv_at hl 1 rfl) ?_
  refine lv_aload_n hx hb dL_law_245 rfl (lv_at hl 0 rfl) ?_
  refine lv_iload hx hb dL_law_246 (lv_at hl 4 rfl) ?_
  refine lv_iconst (v := nI 1) hx hb dL_law_248 (by decide +kernel) ?_
  refine um_addN hx hb dL_law_249 ?_
  refine lw_sld hx hb hX hbl hbA hU.2.2.1 (j := i + 1) (by omega) hLs dL_law_250 ?_
  refine lv_aload_n hx hb dL_law_251 rfl (lv_at hl 0 rfl) ?_
  refine lv_iload hx hb dL_law_252 (lv_at hl 4 rfl) ?_
  refine lv_iconst (v := nI 2) hx hb dL_law_254 (by decide +kernel) ?_
  refine um_addN hx hb dL_law_255 ?_
  refine lw_sld hx hb hX hbl hbA hU.2.2.1 (j := i + 2) (by omega) hLs dL_law_256 ?_
  refine lv_aload_n hx hb dL_law_257 rfl (lv_at hl 3 rfl) ?_
  refine um_call2i (vx_runSW (As := [.ref (xd 0), .int (xs (i + 1)), .int (xs (i + 2)), .ref (o)]) (rest := []) ⟨hx, hb, hml, hown, htg⟩ (lh_lend l D κ τ (um_Am A σ) π hst xd la ma va q sc o v hxo ok (xs (i + 1)) (xs (i + 2))) (vx_cwSW 4 htg (lw_cW tg_266 tg_267 tg_0 tg_268) rfl rfl rfl (by decide +kernel) ⟨Nat.le_trans (by decide) hfr, Nat.le_trans (by decide) hlo⟩) (um_preS2 hU hM hap hK hJ) rfl rfl hl.1 rfl (lv_room (Nat.le_of_ble_eq_true rfl)) dL_law_258 ⟨by omega, by omega⟩) hU hM (fun r9 π H locs hp hU hM hap => ?_)
  obtain ⟨rfl, la, ma, va, sc, v, hxo, hv⟩ := hp
  refine lv_istore (lv' := [(5, .int (nI (tbT_lend q (xs (i + 1)) (xs (i + 2))))), (0, .ref b), (1, .ref (xd 0)), (2, .ref (md 13)), (3, .ref o), (4, .int (nI i))]) hx hb dL_law_261 hl (by decide) rfl (fun ls hl => ?_)
  refine lv_aload_n hx hb dL_law_263 rfl (lv_at hl 3 rfl) ?_
  refine lv_aload_n hx hb dL_law_264 rfl (lv_at hl 1 rfl) ?_
  refine lv_iload hx hb dL_law_265 (lv_at hl 5 rfl) ?_
  refine lv_iconst (v := nI 1) hx hb dL_law_267 (by decide +kernel) ?_
  refine um_addN hx hb dL_law_268 ?_
  refine lw_sld hx hb hX hbl hbA hU.2.2.1 (j := i + 1) (by omega) hLs dL_law_269 ?_
  refine lv_aload_n hx hb dL_law_270 rfl (lv_at hl 1 rfl) ?_
  refine lv_iload hx hb dL_law_271 (lv_at hl 5 rfl) ?_
  refine lv_iconst (v := nI 2) hx hb dL_law_273 (by decide +kernel) ?_
  refine um_addN hx hb dL_law_274 ?_
  refine lw_sld hx hb hX hbl hbA hU.2.2.1 (j := i + 2) (by omega) hLs dL_law_275 ?_
  refine um_call2i (va_runV (As := [.int (xs (i + 1)), .int (xs (i + 2))]) (rest := []) ⟨hx, hb, hml, hown, htg⟩ (mm_lend l D κ τ (um_Am A π) σ md q th hmd ok.sm ok.m40 (xs (i + 1)) (xs (i + 2))) (cwV 2 htg (lw_cV tg_706 tg_707 tg_708 tg_8 tg_709) rfl rfl rfl (by decide +kernel) ⟨Nat.le_trans (by decide) hfr, Nat.le_trans (by decide) hlo⟩) (um_preV2 hM hU (fun b9 h9 z => hap b9 z h9) hK hJ hmd.obj rfl) rfl rfl hl.1 rfl (lv_room (Nat.le_of_ble_eq_true rfl)) dL_law_276 ⟨by omega, by omega⟩) hM hU (fun r9 σ H locs hp hM hU hap2 => ?_)
  obtain ⟨rfl, hmd⟩ := hp
  have hap : um_ap π σ := fun b9 h9 z => hap2 b9 z h9
  refine lv_istore (lv' := [(6, .int (nI (tbA_lend q (xs (i + 1)) (xs (i + 2))))), (5, .int (nI (tbT_lend q (xs (i + 1)) (xs (i + 2))))), (0, .ref b), (1, .ref (xd 0)), (2, .ref (md 13)), (3, .ref o), (4, .int (nI i))]) hx hb dL_law_279 hl (by decide) rfl (fun ls hl => ?_)
  refine lv_aload_n hx hb dL_law_281 rfl (lv_at hl 4 rfl) ?_
  refine um_call2i (va_runV (As := []) (rest := []) ⟨hx, hb, hml, hown, htg⟩ (mm_thrown l D κ τ (um_Am A π) σ md _ _ hmd) (cwV 0 htg (lw_cV tg_687 tg_688 tg_689 tg_8 tg_690) rfl rfl rfl (by decide +kernel) ⟨Nat.le_trans (by decide) hfr, Nat.le_trans (by decide) hlo⟩) (um_preV2 hM hU (fun b9 h9 z => hap b9 z h9) hK hJ hmd.obj rfl) rfl rfl hl.1 rfl (lv_room (Nat.le_of_ble_eq_true rfl)) dL_law_282 ⟨by omega, by omega⟩) hM hU (fun r9 σ2 H locs hp hM hU hap2 => ?_)
  obtain ⟨hr9, hs9⟩ := hp
  subst hr9
  rw [hs9] at hM hap2
  have hap : um_ap π σ := fun b9 h9 z => hap2 b9 z h9
  refine lv_iload hx hb dL_law_285 (lv_at hl 1 rfl) ?_
  refine lv_icmp_eq (tgt := 292) hx hb dL_law_287 (by decide) (fun _ => ?_) (fun z9 => absurd rfl z9)
  refine lv_iload hx hb dL_law_292 (lv_at hl 1 rfl) ?_
  refine um_ne0N (tgt := 309) hx hb dL_law_294 (by decide) (lw_T3 (by unfold tbT_lend; repeat (first | decide | split))) (fun hT => ?_) (fun hT => ?_)
  · refine lv_goto (tgt := 1281) hx hb dL_law_309 (by decide) ?_
    exact W.widen (by omega) (by omega) (kk _ _ _ ⟨π, σ, la, ma, va, sc, v, _, hxo, hmd, hU, hM, hap⟩ (lv_sub hl [2, 3, 4, 5, 6] rfl))
  · refine lv_aload_n hx hb dL_law_297 rfl (lv_at hl 5 rfl) ?_
    refine lv_iconst (v := nI 0) hx hb dL_law_298 (by decide +kernel) ?_
    refine xo_lald hx hb hK hU hxo dL_law_299 ?_
    refine lv_iload hx hb dL_law_300 (lv_at hl 0 rfl) ?_
    refine lv_i2l hx hb dL_law_302 rfl ?_
    refine W.lcmp hx hb dL_law_303 ?_
    refine um_eqC (tgt := 309) hx hb dL_law_304 (by decide) (fun _ => ?_) (fun z9 => absurd (hv hT) z9)
    refine lv_goto (tgt := 1281) hx hb dL_law_309 (by decide) ?_
    exact W.widen (by omega) (by omega) (kk _ _ _ ⟨π, σ, la, ma, va, sc, v, _, hxo, hmd, hU, hM, hap⟩ (lv_sub hl [2, 3, 4, 5, 6] rfl))

set_option maxRecDepth 100000 in
set_option maxHeartbeats 4000000 in
theorem lc_giveBack {p : Program} {l : Launch} {e : Env} {R : Room} {s : State} {m : MethodId} {args : Array Value} {below : List Frame} {meth : Method} {c : Code} {H : Heap} {locs : List Loc} {cells slots : Nat} {Q : State → Prop} {ls : Array Slot} {D : va_G} {A : Nat → Prop} {κ : Nat → ClassId} {τ : Nat → Nat} {xd md : Nat → Nat} {o b Ls i : Nat} {q : tb_Q} {xs : Nat → Int32} (hx : p.tables.exec = Jvm.exec) (hb : c.code = cL_law) (hst : l.stackTraces = false) (hml : c.maxLocals = 8) (hown : s.vm.findClass RL = some m.cls) (htg : ∀ w ∈ lw_g, w.before args s = true) (hK : va_K D vwCl (um_T κ) s) (hJ : um_J τ A s s.heap) (hX : va_X b Ls xs s s.heap) (hbl : b < s.heap.size) (hbA : ¬ A b) (hLs : Ls ≤ 3072) (hfr : 11 ≤ R.frames) (hlo : 432 ≤ R.locals) (ok : tb_ok q) (h : lw_W D κ A s xd md o q H locs) (hl : lv_has ls 8 [(0, .ref b), (1, .ref (xd 0)), (2, .ref (md 13)), (3, .ref o), (4, .int (nI i))]) (hi : i + 6 ≤ Ls) (hc : cells + 5 ≤ R.cells) (hs : slots + 29 ≤ R.slots)
    (kk : ∀ (H1 : Heap) (locs1 : List Loc) (ls1 : Array Slot), lw_W D κ A s xd md o (tbQ_giveBack q (xs (i + 1)) (xs (i + 2))) H1 locs1 → lv_has ls1 8 [(0, .ref b), (1, .ref (xd 0)), (2, .ref (md 13)), (3, .ref o), (4, .int (nI i))] → W p l e R s m args below meth c H1 locs1 (cells + 5) (slots + 29) Q (F0 m 1281 ls1 [])) : W p l e R s m args below meth c H locs cells slots Q (F0 m 312 ls []) := by
  obtain ⟨π, σ, la, ma, va, sc, v, th, hxo, hmd, hU, hM, hap⟩ := h
  refine lv_aload_n hx hb dL_law_312 rfl (lv_at hl 1 rfl) ?_
  refine lv_aload_n hx hb dL_law_313 rfl (lv_at hl 0 rfl) ?_
  refine lv_iload hx hb dL_law_314 (lv_at hl 4 rfl) ?_
  refine lv_iconst (v := nI 1) hx hb dL_law_316 (by decide +kernel) ?_
  refine um_addN hx hb dL_law_317 ?_
  refine lw_sld hx hb hX hbl hbA hU.2.2.1 (j := i + 1) (by omega) hLs dL_law_318 ?_
  refine lv_aload_n hx hb dL_law_319 rfl (lv_at hl 0 rfl) ?_
  refine lv_iload hx hb dL_law_320 (lv_at hl 4 rfl) ?_
  refine lv_iconst (v := nI 2) hx hb dL_law_322 (by decide +kernel) ?_
  refine um_addN hx hb dL_law_323 ?_
  refine lw_sld hx hb hX hbl hbA hU.2.2.1 (j := i + 2) (by omega) hLs dL_law_324 ?_
  refine lv_aload_n hx hb dL_law_325 rfl (lv_at hl 3 rfl) ?_
  refine um_call2i (vx_runSW (As := [.ref (xd 0), .int (xs (i + 1)), .int (xs (i + 2)), .ref (o)]) (rest := []) ⟨hx, hb, hml, hown, htg⟩ (lh_giveBack l D κ τ (um_Am A σ) π hst xd la ma va q sc o v hxo ok (xs (i + 1)) (xs (i + 2))) (vx_cwSW 4 htg (lw_cW tg_348 tg_349 tg_0 tg_350) rfl rfl rfl (by decide +kernel) ⟨Nat.le_trans (by decide) hfr, Nat.le_trans (by decide) hlo⟩) (um_preS2 hU hM hap hK hJ) rfl rfl hl.1 rfl (lv_room (Nat.le_of_ble_eq_true rfl)) dL_law_326 ⟨by omega, by omega⟩) hU hM (fun r9 π H locs hp hU hM hap => ?_)
  obtain ⟨rfl, la, ma, va, sc, v, hxo, hv⟩ := hp
  refine lv_istore (lv' := [(5, .int (nI (tbT_giveBack q (xs (i + 1)) (xs (i + 2))))), (0, .ref b), (1, .ref (xd 0)), (2, .ref (md 13)), (3, .ref o), (4, .int (nI i))]) hx hb dL_law_329 hl (by decide) rfl (fun ls hl => ?_)
  refine lv_aload_n hx hb dL_law_331 rfl (lv_at hl 3 rfl) ?_
  refine lv_aload_n hx hb dL_law_332 rfl (lv_at hl 1 rfl) ?_
  refine lv_iload hx hb dL_law_333 (lv_at hl 5 rfl) ?_
  refine lv_iconst (v := nI 1) hx hb dL_law_335 (by decide +kernel) ?_
  refine um_addN hx hb dL_law_336 ?_
  refine lw_sld hx hb hX hbl hbA hU.2.2.1 (j := i + 1) (by omega) hLs dL_law_337 ?_
  refine lv_aload_n hx hb dL_law_338 rfl (lv_at hl 1 rfl) ?_
  refine lv_iload hx hb dL_law_339 (lv_at hl 5 rfl) ?_
  refine lv_iconst (v := nI 2) hx hb dL_law_341 (by decide +kernel) ?_
  refine um_addN hx hb dL_law_342 ?_
  refine lw_sld hx hb hX hbl hbA hU.2.2.1 (j := i + 2) (by omega) hLs dL_law_343 ?_
  refine um_call2i (va_runV (As := [.int (xs (i + 1)), .int (xs (i + 2))]) (rest := []) ⟨hx, hb, hml, hown, htg⟩ (mm_giveBack l D κ τ (um_Am A π) σ md q th hmd ok.sm ok.m40 (xs (i + 1)) (xs (i + 2))) (cwV 2 htg (lw_cV tg_734 tg_735 tg_736 tg_8 tg_737) rfl rfl rfl (by decide +kernel) ⟨Nat.le_trans (by decide) hfr, Nat.le_trans (by decide) hlo⟩) (um_preV2 hM hU (fun b9 h9 z => hap b9 z h9) hK hJ hmd.obj rfl) rfl rfl hl.1 rfl (lv_room (Nat.le_of_ble_eq_true rfl)) dL_law_344 ⟨by omega, by omega⟩) hM hU (fun r9 σ H locs hp hM hU hap2 => ?_)
  obtain ⟨rfl, hmd⟩ := hp
  have hap : um_ap π σ := fun b9 h9 z => hap2 b9 z h9
  refine lv_istore (lv' := [(6, .int (nI (tbA_giveBack q (xs (i + 1)) (xs (i + 2))))), (5, .int (nI (tbT_giveBack q (xs (i + 1)) (xs (i + 2))))), (0, .ref b), (1, .ref (xd 0)), (2, .ref (md 13)), (3, .ref o), (4, .int (nI i))]) hx hb dL_law_347 hl (by decide) rfl (fun ls hl => ?_)
  refine lv_aload_n hx hb dL_law_349 rfl (lv_at hl 4 rfl) ?_
  refine um_call2i (va_runV (As := []) (rest := []) ⟨hx, hb, hml, hown, htg⟩ (mm_thrown l D κ τ (um_Am A π) σ md _ _ hmd) (cwV 0 htg (lw_cV tg_687 tg_688 tg_689 tg_8 tg_690) rfl rfl rfl (by decide +kernel) ⟨Nat.le_trans (by decide) hfr, Nat.le_trans (by decide) hlo⟩) (um_preV2 hM hU (fun b9 h9 z => hap b9 z h9) hK hJ hmd.obj rfl) rfl rfl hl.1 rfl (lv_room (Nat.le_of_ble_eq_true rfl)) dL_law_350 ⟨by omega, by omega⟩) hM hU (fun r9 σ2 H locs hp hM hU hap2 => ?_)
  obtain ⟨hr9, hs9⟩ := hp
  subst hr9
  rw [hs9] at hM hap2
  have hap : um_ap π σ := fun b9 h9 z => hap2 b9 z h9
  refine lv_iload hx hb dL_law_353 (lv_at hl 1 rfl) ?_
  refine lv_icmp_eq (tgt := 360) hx hb dL_law_355 (by decide) (fun _ => ?_) (fun z9 => absurd rfl z9)
  refine lv_iload hx hb dL_law_360 (lv_at hl 1 rfl) ?_
  refine um_ne0N (tgt := 377) hx hb dL_law_362 (by decide) (lw_T3 (by unfold tbT_giveBack; repeat (first | decide | split))) (fun hT => ?_) (fun hT => ?_)
  · refine lv_goto (tgt := 1281) hx hb dL_law_377 (by decide) ?_
    exact W.widen (by omega) (by omega) (kk _ _ _ ⟨π, σ, la, ma, va, sc, v, _, hxo, hmd, hU, hM, hap⟩ (lv_sub hl [2, 3, 4, 5, 6] rfl))
  · refine lv_aload_n hx hb dL_law_365 rfl (lv_at hl 5 rfl) ?_
    refine lv_iconst (v := nI 0) hx hb dL_law_366 (by decide +kernel) ?_
    refine xo_lald hx hb hK hU hxo dL_law_367 ?_
    refine lv_iload hx hb dL_law_368 (lv_at hl 0 rfl) ?_
    refine lv_i2l hx hb dL_law_370 rfl ?_
    refine W.lcmp hx hb dL_law_371 ?_
    refine um_eqC (tgt := 377) hx hb dL_law_372 (by decide) (fun _ => ?_) (fun z9 => absurd (hv hT) z9)
    refine lv_goto (tgt := 1281) hx hb dL_law_377 (by decide) ?_
    exact W.widen (by omega) (by omega) (kk _ _ _ ⟨π, σ, la, ma, va, sc, v, _, hxo, hmd, hU, hM, hap⟩ (lv_sub hl [2, 3, 4, 5, 6] rfl))

set_option maxRecDepth 100000 in
set_option maxHeartbeats 4000000 in
theorem lc_enter {p : Program} {l : Launch} {e : Env} {R : Room} {s : State} {m : MethodId} {args : Array Value} {below : List Frame} {meth : Method} {c : Code} {H : Heap} {locs : List Loc} {cells slots : Nat} {Q : State → Prop} {ls : Array Slot} {D : va_G} {A : Nat → Prop} {κ : Nat → ClassId} {τ : Nat → Nat} {xd md : Nat → Nat} {o b Ls i : Nat} {q : tb_Q} {xs : Nat → Int32} (hx : p.tables.exec = Jvm.exec) (hb : c.code = cL_law) (hst : l.stackTraces = false) (hml : c.maxLocals = 8) (hown : s.vm.findClass RL = some m.cls) (htg : ∀ w ∈ lw_g, w.before args s = true) (hK : va_K D vwCl (um_T κ) s) (hJ : um_J τ A s s.heap) (hX : va_X b Ls xs s s.heap) (hbl : b < s.heap.size) (hbA : ¬ A b) (hLs : Ls ≤ 3072) (hfr : 11 ≤ R.frames) (hlo : 432 ≤ R.locals) (ok : tb_ok q) (h : lw_W D κ A s xd md o q H locs) (hl : lv_has ls 8 [(0, .ref b), (1, .ref (xd 0)), (2, .ref (md 13)), (3, .ref o), (4, .int (nI i))]) (hi : i + 6 ≤ Ls) (hc : cells + 5 ≤ R.cells) (hs : slots + 29 ≤ R.slots)
    (kk : ∀ (H1 : Heap) (locs1 : List Loc) (ls1 : Array Slot), lw_W D κ A s xd md o (tbQ_enter q (xs (i + 1)) (xs (i + 2)) (xs (i + 3)) (xs (i + 4)) (xs (i + 5))) H1 locs1 → lv_has ls1 8 [(0, .ref b), (1, .ref (xd 0)), (2, .ref (md 13)), (3, .ref o), (4, .int (nI i))] → W p l e R s m args below meth c H1 locs1 (cells + 5) (slots + 29) Q (F0 m 1281 ls1 [])) : W p l e R s m args below meth c H locs cells slots Q (F0 m 380 ls []) := by
  obtain ⟨π, σ, la, ma, va, sc, v, th, hxo, hmd, hU, hM, hap⟩ := h
  refine lv_aload_n hx hb dL_law_380 rfl (lv_at hl 1 rfl) ?_
  refine lv_aload_n hx hb dL_law_381 rfl (lv_at hl 0 rfl) ?_
  refine lv_iload hx hb dL_law_382 (lv_at hl 4 rfl) ?_
  refine lv_iconst (v := nI 1) hx hb dL_law_384 (by decide +kernel) ?_
  refine um_addN hx hb dL_law_385 ?_
  refine lw_sld hx hb hX hbl hbA hU.2.2.1 (j := i + 1) (by omega) hLs dL_law_386 ?_
  refine lv_aload_n hx hb dL_law_387 rfl (lv_at hl 0 rfl) ?_
  refine lv_iload hx hb dL_law_388 (lv_at hl 4 rfl) ?_
  refine lv_iconst (v := nI 2) hx hb dL_law_390 (by decide +kernel) ?_
  refine um_addN hx hb dL_law_391 ?_
  refine lw_sld hx hb hX hbl hbA hU.2.2.1 (j := i + 2) (by omega) hLs dL_law_392 ?_
  refine lv_aload_n hx hb dL_law_393 rfl (lv_at hl 0 rfl) ?_
  refine lv_iload hx hb dL_law_394 (lv_at hl 4 rfl) ?_
  refine lv_iconst (v := nI 3) hx hb dL_law_396 (by decide +kernel) ?_
  refine um_addN hx hb dL_law_397 ?_
  refine lw_sld hx hb hX hbl hbA hU.2.2.1 (j := i + 3) (by omega) hLs dL_law_398 ?_
  refine lv_aload_n hx hb dL_law_399 rfl (lv_at hl 0 rfl) ?_
  refine lv_iload hx hb dL_law_400 (lv_at hl 4 rfl) ?_
  refine lv_iconst (v := nI 4) hx hb dL_law_402 (by decide +kernel) ?_
  refine um_addN hx hb dL_law_403 ?_
  refine lw_sld hx hb hX hbl hbA hU.2.2.1 (j := i + 4) (by omega) hLs dL_law_404 ?_
  refine lv_aload_n hx hb dL_law_405 rfl (lv_at hl 0 rfl) ?_
  refine lv_iload hx hb dL_law_406 (lv_at hl 4 rfl) ?_
  refine lv_iconst (v := nI 5) hx hb dL_law_408 (by decide +kernel) ?_
  refine um_addN hx hb dL_law_409 ?_
  refine lw_sld hx hb hX hbl hbA hU.2.2.1 (j := i + 5) (by omega) hLs dL_law_410 ?_
  refine lv_aload_n hx hb dL_law_411 rfl (lv_at hl 3 rfl) ?_
  refine um_call2i (vx_runSW (As := [.ref (xd 0), .int (xs (i + 1)), .int (xs (i + 2)), .int (xs (i + 3)), .int (xs (i + 4)), .int (xs (i + 5)), .ref (o)]) (rest := []) ⟨hx, hb, hml, hown, htg⟩ (lh_enter l D κ τ (um_Am A σ) π hst xd la ma va q sc o v hxo ok (xs (i + 1)) (xs (i + 2)) (xs (i + 3)) (xs (i + 4)) (xs (i + 5))) (vx_cwSW 7 htg (lw_cW tg_356 tg_357 tg_0 tg_358) rfl rfl rfl (by decide +kernel) ⟨Nat.le_trans (by decide) hfr, Nat.le_trans (by decide) hlo⟩) (um_preS2 hU hM hap hK hJ) rfl rfl hl.1 rfl (lv_room (Nat.le_of_ble_eq_true rfl)) dL_law_412 ⟨by omega, by omega⟩) hU hM (fun r9 π H locs hp hU hM hap => ?_)
  obtain ⟨rfl, la, ma, va, sc, v, hxo, hv⟩ := hp
  refine lv_istore (lv' := [(5, .int (nI (tbT_enter q (xs (i + 1)) (xs (i + 2)) (xs (i + 3)) (xs (i + 4)) (xs (i + 5))))), (0, .ref b), (1, .ref (xd 0)), (2, .ref (md 13)), (3, .ref o), (4, .int (nI i))]) hx hb dL_law_415 hl (by decide) rfl (fun ls hl => ?_)
  refine lv_aload_n hx hb dL_law_417 rfl (lv_at hl 3 rfl) ?_
  refine lv_aload_n hx hb dL_law_418 rfl (lv_at hl 1 rfl) ?_
  refine lv_iload hx hb dL_law_419 (lv_at hl 5 rfl) ?_
  refine lv_iconst (v := nI 1) hx hb dL_law_421 (by decide +kernel) ?_
  refine um_addN hx hb dL_law_422 ?_
  refine lw_sld hx hb hX hbl hbA hU.2.2.1 (j := i + 1) (by omega) hLs dL_law_423 ?_
  refine lv_aload_n hx hb dL_law_424 rfl (lv_at hl 1 rfl) ?_
  refine lv_iload hx hb dL_law_425 (lv_at hl 5 rfl) ?_
  refine lv_iconst (v := nI 2) hx hb dL_law_427 (by decide +kernel) ?_
  refine um_addN hx hb dL_law_428 ?_
  refine lw_sld hx hb hX hbl hbA hU.2.2.1 (j := i + 2) (by omega) hLs dL_law_429 ?_
  refine lv_aload_n hx hb dL_law_430 rfl (lv_at hl 1 rfl) ?_
  refine lv_iload hx hb dL_law_431 (lv_at hl 5 rfl) ?_
  refine lv_iconst (v := nI 3) hx hb dL_law_433 (by decide +kernel) ?_
  refine um_addN hx hb dL_law_434 ?_
  refine lw_sld hx hb hX hbl hbA hU.2.2.1 (j := i + 3) (by omega) hLs dL_law_435 ?_
  refine lv_aload_n hx hb dL_law_436 rfl (lv_at hl 1 rfl) ?_
  refine lv_iload hx hb dL_law_437 (lv_at hl 5 rfl) ?_
  refine lv_iconst (v := nI 4) hx hb dL_law_439 (by decide +kernel) ?_
  refine um_addN hx hb dL_law_440 ?_
  refine lw_sld hx hb hX hbl hbA hU.2.2.1 (j := i + 4) (by omega) hLs dL_law_441 ?_
  refine lv_aload_n hx hb dL_law_442 rfl (lv_at hl 1 rfl) ?_
  refine lv_iload hx hb dL_law_443 (lv_at hl 5 rfl) ?_
  refine lv_iconst (v := nI 5) hx hb dL_law_445 (by decide +kernel) ?_
  refine um_addN hx hb dL_law_446 ?_
  refine lw_sld hx hb hX hbl hbA hU.2.2.1 (j := i + 5) (by omega) hLs dL_law_447 ?_
  refine um_call2i (va_runV (As := [.int (xs (i + 1)), .int (xs (i + 2)), .int (xs (i + 3)), .int (xs (i + 4)), .int (xs (i + 5))]) (rest := []) ⟨hx, hb, hml, hown, htg⟩ (mm_enter l D κ τ (um_Am A π) σ md q th hmd ok.sm ok.m40 (xs (i + 1)) (xs (i + 2)) (xs (i + 3)) (xs (i + 4)) (xs (i + 5))) (cwV 5 htg (lw_cV tg_738 tg_739 tg_740 tg_8 tg_741) rfl rfl rfl (by decide +kernel) ⟨Nat.le_trans (by decide) hfr, Nat.le_trans (by decide) hlo⟩) (um_preV2 hM hU (fun b9 h9 z => hap b9 z h9) hK hJ hmd.obj rfl) rfl rfl hl.1 rfl (lv_room (Nat.le_of_ble_eq_true rfl)) dL_law_448 ⟨by omega, by omega⟩) hM hU (fun r9 σ H locs hp hM hU hap2 => ?_)
  obtain ⟨rfl, hmd⟩ := hp
  have hap : um_ap π σ := fun b9 h9 z => hap2 b9 z h9
  refine lv_istore (lv' := [(6, .int (nI (tbA_enter q (xs (i + 1)) (xs (i + 2)) (xs (i + 3)) (xs (i + 4)) (xs (i + 5))))), (5, .int (nI (tbT_enter q (xs (i + 1)) (xs (i + 2)) (xs (i + 3)) (xs (i + 4)) (xs (i + 5))))), (0, .ref b), (1, .ref (xd 0)), (2, .ref (md 13)), (3, .ref o), (4, .int (nI i))]) hx hb dL_law_451 hl (by decide) rfl (fun ls hl => ?_)
  refine lv_aload_n hx hb dL_law_453 rfl (lv_at hl 4 rfl) ?_
  refine um_call2i (va_runV (As := []) (rest := []) ⟨hx, hb, hml, hown, htg⟩ (mm_thrown l D κ τ (um_Am A π) σ md _ _ hmd) (cwV 0 htg (lw_cV tg_687 tg_688 tg_689 tg_8 tg_690) rfl rfl rfl (by decide +kernel) ⟨Nat.le_trans (by decide) hfr, Nat.le_trans (by decide) hlo⟩) (um_preV2 hM hU (fun b9 h9 z => hap b9 z h9) hK hJ hmd.obj rfl) rfl rfl hl.1 rfl (lv_room (Nat.le_of_ble_eq_true rfl)) dL_law_454 ⟨by omega, by omega⟩) hM hU (fun r9 σ2 H locs hp hM hU hap2 => ?_)
  obtain ⟨hr9, hs9⟩ := hp
  subst hr9
  rw [hs9] at hM hap2
  have hap : um_ap π σ := fun b9 h9 z => hap2 b9 z h9
  refine lv_iload hx hb dL_law_457 (lv_at hl 1 rfl) ?_
  refine lv_icmp_eq (tgt := 464) hx hb dL_law_459 (by decide) (fun _ => ?_) (fun z9 => absurd rfl z9)
  refine lv_iload hx hb dL_law_464 (lv_at hl 1 rfl) ?_
  refine um_ne0N (tgt := 481) hx hb dL_law_466 (by decide) (lw_T3 (by unfold tbT_enter; repeat (first | decide | split))) (fun hT => ?_) (fun hT => ?_)
  · refine lv_goto (tgt := 1281) hx hb dL_law_481 (by decide) ?_
    exact W.widen (by omega) (by omega) (kk _ _ _ ⟨π, σ, la, ma, va, sc, v, _, hxo, hmd, hU, hM, hap⟩ (lv_sub hl [2, 3, 4, 5, 6] rfl))
  · refine lv_aload_n hx hb dL_law_469 rfl (lv_at hl 5 rfl) ?_
    refine lv_iconst (v := nI 0) hx hb dL_law_470 (by decide +kernel) ?_
    refine xo_lald hx hb hK hU hxo dL_law_471 ?_
    refine lv_iload hx hb dL_law_472 (lv_at hl 0 rfl) ?_
    refine lv_i2l hx hb dL_law_474 rfl ?_
    refine W.lcmp hx hb dL_law_475 ?_
    refine um_eqC (tgt := 481) hx hb dL_law_476 (by decide) (fun _ => ?_) (fun z9 => absurd (hv hT) z9)
    refine lv_goto (tgt := 1281) hx hb dL_law_481 (by decide) ?_
    exact W.widen (by omega) (by omega) (kk _ _ _ ⟨π, σ, la, ma, va, sc, v, _, hxo, hmd, hU, hM, hap⟩ (lv_sub hl [2, 3, 4, 5, 6] rfl))

set_option maxRecDepth 100000 in
set_option maxHeartbeats 4000000 in
theorem lc_resolve {p : Program} {l : Launch} {e : Env} {R : Room} {s : State} {m : MethodId} {args : Array Value} {below : List Frame} {meth : Method} {c : Code} {H : Heap} {locs : List Loc} {cells slots : Nat} {Q : State → Prop} {ls : Array Slot} {D : va_G} {A : Nat → Prop} {κ : Nat → ClassId} {τ : Nat → Nat} {xd md : Nat → Nat} {o b Ls i : Nat} {q : tb_Q} {xs : Nat → Int32} (hx : p.tables.exec = Jvm.exec) (hb : c.code = cL_law) (hst : l.stackTraces = false) (hml : c.maxLocals = 8) (hown : s.vm.findClass RL = some m.cls) (htg : ∀ w ∈ lw_g, w.before args s = true) (hK : va_K D vwCl (um_T κ) s) (hJ : um_J τ A s s.heap) (hX : va_X b Ls xs s s.heap) (hbl : b < s.heap.size) (hbA : ¬ A b) (hLs : Ls ≤ 3072) (hfr : 11 ≤ R.frames) (hlo : 432 ≤ R.locals) (ok : tb_ok q) (h : lw_W D κ A s xd md o q H locs) (hl : lv_has ls 8 [(0, .ref b), (1, .ref (xd 0)), (2, .ref (md 13)), (3, .ref o), (4, .int (nI i))]) (hi : i + 6 ≤ Ls) (hc : cells + 5 ≤ R.cells) (hs : slots + 29 ≤ R.slots)
    (kk : ∀ (H1 : Heap) (locs1 : List Loc) (ls1 : Array Slot), lw_W D κ A s xd md o (tbQ_resolve q (xs (i + 1)) (xs (i + 2))) H1 locs1 → lv_has ls1 8 [(0, .ref b), (1, .ref (xd 0)), (2, .ref (md 13)), (3, .ref o), (4, .int (nI i))] → W p l e R s m args below meth c H1 locs1 (cells + 5) (slots + 29) Q (F0 m 1281 ls1 [])) : W p l e R s m args below meth c H locs cells slots Q (F0 m 484 ls []) := by
  obtain ⟨π, σ, la, ma, va, sc, v, th, hxo, hmd, hU, hM, hap⟩ := h
  refine lv_aload_n hx hb dL_law_484 rfl (lv_at hl 1 rfl) ?_
  refine lv_aload_n hx hb dL_law_485 rfl (lv_at hl 0 rfl) ?_
  refine lv_iload hx hb dL_law_486 (lv_at hl 4 rfl) ?_
  refine lv_iconst (v := nI 1) hx hb dL_law_488 (by decide +kernel) ?_
  refine um_addN hx hb dL_law_489 ?_
  refine lw_sld hx hb hX hbl hbA hU.2.2.1 (j := i + 1) (by omega) hLs dL_law_490 ?_
  refine lv_aload_n hx hb dL_law_491 rfl (lv_at hl 0 rfl) ?_
  refine lv_iload hx hb dL_law_492 (lv_at hl 4 rfl) ?_
  refine lv_iconst (v := nI 2) hx hb dL_law_494 (by decide +kernel) ?_
  refine um_addN hx hb dL_law_495 ?_
  refine lw_sld hx hb hX hbl hbA hU.2.2.1 (j := i + 2) (by omega) hLs dL_law_496 ?_
  refine lv_aload_n hx hb dL_law_497 rfl (lv_at hl 3 rfl) ?_
  refine um_call2i (vx_runSW (As := [.ref (xd 0), .int (xs (i + 1)), .int (xs (i + 2)), .ref (o)]) (rest := []) ⟨hx, hb, hml, hown, htg⟩ (lh_resolve l D κ τ (um_Am A σ) π hst xd la ma va q sc o v hxo ok (xs (i + 1)) (xs (i + 2))) (vx_cwSW 4 htg (lw_cW tg_429 tg_430 tg_0 tg_431) rfl rfl rfl (by decide +kernel) ⟨Nat.le_trans (by decide) hfr, Nat.le_trans (by decide) hlo⟩) (um_preS2 hU hM hap hK hJ) rfl rfl hl.1 rfl (lv_room (Nat.le_of_ble_eq_true rfl)) dL_law_498 ⟨by omega, by omega⟩) hU hM (fun r9 π H locs hp hU hM hap => ?_)
  obtain ⟨rfl, la, ma, va, sc, v, hxo, hv⟩ := hp
  refine lv_istore (lv' := [(5, .int (nI (tbT_resolve q (xs (i + 1)) (xs (i + 2))))), (0, .ref b), (1, .ref (xd 0)), (2, .ref (md 13)), (3, .ref o), (4, .int (nI i))]) hx hb dL_law_501 hl (by decide) rfl (fun ls hl => ?_)
  refine lv_aload_n hx hb dL_law_503 rfl (lv_at hl 3 rfl) ?_
  refine lv_aload_n hx hb dL_law_504 rfl (lv_at hl 1 rfl) ?_
  refine lv_iload hx hb dL_law_505 (lv_at hl 5 rfl) ?_
  refine lv_iconst (v := nI 1) hx hb dL_law_507 (by decide +kernel) ?_
  refine um_addN hx hb dL_law_508 ?_
  refine lw_sld hx hb hX hbl hbA hU.2.2.1 (j := i + 1) (by omega) hLs dL_law_509 ?_
  refine lv_aload_n hx hb dL_law_510 rfl (lv_at hl 1 rfl) ?_
  refine lv_iload hx hb dL_law_511 (lv_at hl 5 rfl) ?_
  refine lv_iconst (v := nI 2) hx hb dL_law_513 (by decide +kernel) ?_
  refine um_addN hx hb dL_law_514 ?_
  refine lw_sld hx hb hX hbl hbA hU.2.2.1 (j := i + 2) (by omega) hLs dL_law_515 ?_
  refine um_call2i (va_runV (As := [.int (xs (i + 1)), .int (xs (i + 2))]) (rest := []) ⟨hx, hb, hml, hown, htg⟩ (mm_resolve l D κ τ (um_Am A π) σ md q th hmd ok.sm ok.m40 (xs (i + 1)) (xs (i + 2))) (cwV 2 htg (lw_cV tg_748 tg_749 tg_750 tg_8 tg_751) rfl rfl rfl (by decide +kernel) ⟨Nat.le_trans (by decide) hfr, Nat.le_trans (by decide) hlo⟩) (um_preV2 hM hU (fun b9 h9 z => hap b9 z h9) hK hJ hmd.obj rfl) rfl rfl hl.1 rfl (lv_room (Nat.le_of_ble_eq_true rfl)) dL_law_516 ⟨by omega, by omega⟩) hM hU (fun r9 σ H locs hp hM hU hap2 => ?_)
  obtain ⟨rfl, hmd⟩ := hp
  have hap : um_ap π σ := fun b9 h9 z => hap2 b9 z h9
  refine lv_istore (lv' := [(6, .int (nI (tbA_resolve q (xs (i + 1)) (xs (i + 2))))), (5, .int (nI (tbT_resolve q (xs (i + 1)) (xs (i + 2))))), (0, .ref b), (1, .ref (xd 0)), (2, .ref (md 13)), (3, .ref o), (4, .int (nI i))]) hx hb dL_law_519 hl (by decide) rfl (fun ls hl => ?_)
  refine lv_aload_n hx hb dL_law_521 rfl (lv_at hl 4 rfl) ?_
  refine um_call2i (va_runV (As := []) (rest := []) ⟨hx, hb, hml, hown, htg⟩ (mm_thrown l D κ τ (um_Am A π) σ md _ _ hmd) (cwV 0 htg (lw_cV tg_687 tg_688 tg_689 tg_8 tg_690) rfl rfl rfl (by decide +kernel) ⟨Nat.le_trans (by decide) hfr, Nat.le_trans (by decide) hlo⟩) (um_preV2 hM hU (fun b9 h9 z => hap b9 z h9) hK hJ hmd.obj rfl) rfl rfl hl.1 rfl (lv_room (Nat.le_of_ble_eq_true rfl)) dL_law_522 ⟨by omega, by omega⟩) hM hU (fun r9 σ2 H locs hp hM hU hap2 => ?_)
  obtain ⟨hr9, hs9⟩ := hp
  subst hr9
  rw [hs9] at hM hap2
  have hap : um_ap π σ := fun b9 h9 z => hap2 b9 z h9
  refine lv_iload hx hb dL_law_525 (lv_at hl 1 rfl) ?_
  refine lv_icmp_eq (tgt := 532) hx hb dL_law_527 (by decide) (fun _ => ?_) (fun z9 => absurd rfl z9)
  refine lv_iload hx hb dL_law_532 (lv_at hl 1 rfl) ?_
  refine um_ne0N (tgt := 549) hx hb dL_law_534 (by decide) (lw_T3 (by unfold tbT_resolve; repeat (first | decide | split))) (fun hT => ?_) (fun hT => ?_)
  · refine lv_goto (tgt := 1281) hx hb dL_law_549 (by decide) ?_
    exact W.widen (by omega) (by omega) (kk _ _ _ ⟨π, σ, la, ma, va, sc, v, _, hxo, hmd, hU, hM, hap⟩ (lv_sub hl [2, 3, 4, 5, 6] rfl))
  · refine lv_aload_n hx hb dL_law_537 rfl (lv_at hl 5 rfl) ?_
    refine lv_iconst (v := nI 0) hx hb dL_law_538 (by decide +kernel) ?_
    refine xo_lald hx hb hK hU hxo dL_law_539 ?_
    refine lv_iload hx hb dL_law_540 (lv_at hl 0 rfl) ?_
    refine lv_i2l hx hb dL_law_542 rfl ?_
    refine W.lcmp hx hb dL_law_543 ?_
    refine um_eqC (tgt := 549) hx hb dL_law_544 (by decide) (fun _ => ?_) (fun z9 => absurd (hv hT) z9)
    refine lv_goto (tgt := 1281) hx hb dL_law_549 (by decide) ?_
    exact W.widen (by omega) (by omega) (kk _ _ _ ⟨π, σ, la, ma, va, sc, v, _, hxo, hmd, hU, hM, hap⟩ (lv_sub hl [2, 3, 4, 5, 6] rfl))

set_option maxRecDepth 100000 in
set_option maxHeartbeats 4000000 in
theorem lc_meet {p : Program} {l : Launch} {e : Env} {R : Room} {s : State} {m : MethodId} {args : Array Value} {below : List Frame} {meth : Method} {c : Code} {H : Heap} {locs : List Loc} {cells slots : Nat} {Q : State → Prop} {ls : Array Slot} {D : va_G} {A : Nat → Prop} {κ : Nat → ClassId} {τ : Nat → Nat} {xd md : Nat → Nat} {o b Ls i : Nat} {q : tb_Q} {xs : Nat → Int32} (hx : p.tables.exec = Jvm.exec) (hb : c.code = cL_law) (hst : l.stackTraces = false) (hml : c.maxLocals = 8) (hown : s.vm.findClass RL = some m.cls) (htg : ∀ w ∈ lw_g, w.before args s = true) (hK : va_K D vwCl (um_T κ) s) (hJ : um_J τ A s s.heap) (hX : va_X b Ls xs s s.heap) (hbl : b < s.heap.size) (hbA : ¬ A b) (hLs : Ls ≤ 3072) (hfr : 11 ≤ R.frames) (hlo : 432 ≤ R.locals) (ok : tb_ok q) (h : lw_W D κ A s xd md o q H locs) (hl : lv_has ls 8 [(0, .ref b), (1, .ref (xd 0)), (2, .ref (md 13)), (3, .ref o), (4, .int (nI i))]) (hi : i + 6 ≤ Ls) (hc : cells + 5 ≤ R.cells) (hs : slots + 29 ≤ R.slots)
    (kk : ∀ (H1 : Heap) (locs1 : List Loc) (ls1 : Array Slot), lw_W D κ A s xd md o (tbQ_meet q (xs (i + 1)) (xs (i + 2))) H1 locs1 → lv_has ls1 8 [(0, .ref b), (1, .ref (xd 0)), (2, .ref (md 13)), (3, .ref o), (4, .int (nI i))] → W p l e R s m args below meth c H1 locs1 (cells + 5) (slots + 29) Q (F0 m 1281 ls1 [])) : W p l e R s m args below meth c H locs cells slots Q (F0 m 552 ls []) := by
  obtain ⟨π, σ, la, ma, va, sc, v, th, hxo, hmd, hU, hM, hap⟩ := h
  refine lv_aload_n hx hb dL_law_552 rfl (lv_at hl 1 rfl) ?_
  refine lv_aload_n hx hb dL_law_553 rfl (lv_at hl 0 rfl) ?_
  refine lv_iload hx hb dL_law_554 (lv_at hl 4 rfl) ?_
  refine lv_iconst (v := nI 1) hx hb dL_law_556 (by decide +kernel) ?_
  refine um_addN hx hb dL_law_557 ?_
  refine lw_sld hx hb hX hbl hbA hU.2.2.1 (j := i + 1) (by omega) hLs dL_law_558 ?_
  refine lv_aload_n hx hb dL_law_559 rfl (lv_at hl 0 rfl) ?_
  refine lv_iload hx hb dL_law_560 (lv_at hl 4 rfl) ?_
  refine lv_iconst (v := nI 2) hx hb dL_law_562 (by decide +kernel) ?_
  refine um_addN hx hb dL_law_563 ?_
  refine lw_sld hx hb hX hbl hbA hU.2.2.1 (j := i + 2) (by omega) hLs dL_law_564 ?_
  refine um_call2i (vx_runSW (As := [.ref (xd 0), .int (xs (i + 1)), .int (xs (i + 2))]) (rest := []) ⟨hx, hb, hml, hown, htg⟩ (lh_meet l D κ τ (um_Am A σ) π hst xd la ma va q sc o v hxo ok (xs (i + 1)) (xs (i + 2))) (vx_cwSW 3 htg (lw_cW tg_487 tg_488 tg_0 tg_489) rfl rfl rfl (by decide +kernel) ⟨Nat.le_trans (by decide) hfr, Nat.le_trans (by decide) hlo⟩) (um_preS2 hU hM hap hK hJ) rfl rfl hl.1 rfl (lv_room (Nat.le_of_ble_eq_true rfl)) dL_law_565 ⟨by omega, by omega⟩) hU hM (fun r9 π H locs hp hU hM hap => ?_)
  obtain ⟨rfl, la, ma, va, sc, v, hxo⟩ := hp
  refine lv_istore (lv' := [(5, .int (nI (tbT_meet q (xs (i + 1)) (xs (i + 2))))), (0, .ref b), (1, .ref (xd 0)), (2, .ref (md 13)), (3, .ref o), (4, .int (nI i))]) hx hb dL_law_568 hl (by decide) rfl (fun ls hl => ?_)
  refine lv_aload_n hx hb dL_law_570 rfl (lv_at hl 3 rfl) ?_
  refine lv_aload_n hx hb dL_law_571 rfl (lv_at hl 1 rfl) ?_
  refine lv_iload hx hb dL_law_572 (lv_at hl 5 rfl) ?_
  refine lv_iconst (v := nI 1) hx hb dL_law_574 (by decide +kernel) ?_
  refine um_addN hx hb dL_law_575 ?_
  refine lw_sld hx hb hX hbl hbA hU.2.2.1 (j := i + 1) (by omega) hLs dL_law_576 ?_
  refine lv_aload_n hx hb dL_law_577 rfl (lv_at hl 1 rfl) ?_
  refine lv_iload hx hb dL_law_578 (lv_at hl 5 rfl) ?_
  refine lv_iconst (v := nI 2) hx hb dL_law_580 (by decide +kernel) ?_
  refine um_addN hx hb dL_law_581 ?_
  refine lw_sld hx hb hX hbl hbA hU.2.2.1 (j := i + 2) (by omega) hLs dL_law_582 ?_
  refine um_call2v (va_runV (As := [.int (xs (i + 1)), .int (xs (i + 2))]) (rest := []) ⟨hx, hb, hml, hown, htg⟩ (mm_meet l D κ τ (um_Am A π) σ md q th hmd ok.sm (xs (i + 1)) (xs (i + 2))) (cwV 2 htg (lw_cV tg_776 tg_777 tg_778 tg_8 tg_779) rfl rfl rfl (by decide +kernel) ⟨Nat.le_trans (by decide) hfr, Nat.le_trans (by decide) hlo⟩) (um_preV2 hM hU (fun b9 h9 z => hap b9 z h9) hK hJ hmd.obj rfl) rfl rfl hl.1 rfl (lv_room (Nat.le_of_ble_eq_true rfl)) dL_law_583 ⟨by omega, by omega⟩) hM hU (fun σ H locs hp hM hU hap2 => ?_)
  have hmd := hp
  have hap : um_ap π σ := fun b9 h9 z => hap2 b9 z h9
  refine lv_aload_n hx hb dL_law_586 rfl (lv_at hl 3 rfl) ?_
  refine um_call2i (va_runV (As := []) (rest := []) ⟨hx, hb, hml, hown, htg⟩ (mm_thrown l D κ τ (um_Am A π) σ md _ _ hmd) (cwV 0 htg (lw_cV tg_687 tg_688 tg_689 tg_8 tg_690) rfl rfl rfl (by decide +kernel) ⟨Nat.le_trans (by decide) hfr, Nat.le_trans (by decide) hlo⟩) (um_preV2 hM hU (fun b9 h9 z => hap b9 z h9) hK hJ hmd.obj rfl) rfl rfl hl.1 rfl (lv_room (Nat.le_of_ble_eq_true rfl)) dL_law_587 ⟨by omega, by omega⟩) hM hU (fun r9 σ2 H locs hp hM hU hap2 => ?_)
  obtain ⟨hr9, hs9⟩ := hp
  subst hr9
  rw [hs9] at hM hap2
  have hap : um_ap π σ := fun b9 h9 z => hap2 b9 z h9
  refine lv_iload hx hb dL_law_590 (lv_at hl 0 rfl) ?_
  refine lv_icmp_eq (tgt := 597) hx hb dL_law_592 (by decide) (fun _ => ?_) (fun z9 => absurd rfl z9)
  refine lv_goto (tgt := 1281) hx hb dL_law_597 (by decide) ?_
  exact W.widen (by omega) (by omega) (kk _ _ _ ⟨π, σ, la, ma, va, sc, v, _, hxo, hmd, hU, hM, hap⟩ (lv_sub hl [1, 2, 3, 4, 5] rfl))

set_option maxRecDepth 100000 in
set_option maxHeartbeats 4000000 in
theorem lc_swap {p : Program} {l : Launch} {e : Env} {R : Room} {s : State} {m : MethodId} {args : Array Value} {below : List Frame} {meth : Method} {c : Code} {H : Heap} {locs : List Loc} {cells slots : Nat} {Q : State → Prop} {ls : Array Slot} {D : va_G} {A : Nat → Prop} {κ : Nat → ClassId} {τ : Nat → Nat} {xd md : Nat → Nat} {o b Ls i : Nat} {q : tb_Q} {xs : Nat → Int32} (hx : p.tables.exec = Jvm.exec) (hb : c.code = cL_law) (hst : l.stackTraces = false) (hml : c.maxLocals = 8) (hown : s.vm.findClass RL = some m.cls) (htg : ∀ w ∈ lw_g, w.before args s = true) (hK : va_K D vwCl (um_T κ) s) (hJ : um_J τ A s s.heap) (hX : va_X b Ls xs s s.heap) (hbl : b < s.heap.size) (hbA : ¬ A b) (hLs : Ls ≤ 3072) (hfr : 11 ≤ R.frames) (hlo : 432 ≤ R.locals) (ok : tb_ok q) (h : lw_W D κ A s xd md o q H locs) (hl : lv_has ls 8 [(0, .ref b), (1, .ref (xd 0)), (2, .ref (md 13)), (3, .ref o), (4, .int (nI i))]) (hi : i + 6 ≤ Ls) (hc : cells + 5 ≤ R.cells) (hs : slots + 29 ≤ R.slots)
    (kk : ∀ (H1 : Heap) (locs1 : List Loc) (ls1 : Array Slot), lw_W D κ A s xd md o (tbQ_swap q) H1 locs1 → lv_has ls1 8 [(0, .ref b), (1, .ref (xd 0)), (2, .ref (md 13)), (3, .ref o), (4, .int (nI i))] → W p l e R s m args below meth c H1 locs1 (cells + 5) (slots + 29) Q (F0 m 1281 ls1 [])) : W p l e R s m args below meth c H locs cells slots Q (F0 m 600 ls []) := by
  obtain ⟨π, σ, la, ma, va, sc, v, th, hxo, hmd, hU, hM, hap⟩ := h
  refine lv_aload_n hx hb dL_law_600 rfl (lv_at hl 1 rfl) ?_
  refine lv_aload_n hx hb dL_law_601 rfl (lv_at hl 3 rfl) ?_
  refine um_call2i (vx_runSW (As := [.ref (xd 0), .ref (o)]) (rest := []) ⟨hx, hb, hml, hown, htg⟩ (lh_swap l D κ τ (um_Am A σ) π hst xd la ma va q sc o v hxo ok ) (vx_cwSW 2 htg (lw_cW tg_498 tg_499 tg_0 tg_500) rfl rfl rfl (by decide +kernel) ⟨Nat.le_trans (by decide) hfr, Nat.le_trans (by decide) hlo⟩) (um_preS2 hU hM hap hK hJ) rfl rfl hl.1 rfl (lv_room (Nat.le_of_ble_eq_true rfl)) dL_law_602 ⟨by omega, by omega⟩) hU hM (fun r9 π H locs hp hU hM hap => ?_)
  obtain ⟨rfl, la, ma, va, sc, v, hxo, hv⟩ := hp
  refine lv_istore (lv' := [(5, .int (nI (tbT_swap q))), (0, .ref b), (1, .ref (xd 0)), (2, .ref (md 13)), (3, .ref o), (4, .int (nI i))]) hx hb dL_law_605 hl (by decide) rfl (fun ls hl => ?_)
  refine lv_aload_n hx hb dL_law_607 rfl (lv_at hl 3 rfl) ?_
  refine um_call2i (va_runV (As := []) (rest := []) ⟨hx, hb, hml, hown, htg⟩ (mm_swap l D κ τ (um_Am A π) σ md q th hmd ok.sm ok.me.1 ok.me.2.1 ok.me.2.2.1 ) (cwV 0 htg (lw_cV tg_780 tg_781 tg_782 tg_8 tg_783) rfl rfl rfl (by decide +kernel) ⟨Nat.le_trans (by decide) hfr, Nat.le_trans (by decide) hlo⟩) (um_preV2 hM hU (fun b9 h9 z => hap b9 z h9) hK hJ hmd.obj rfl) rfl rfl hl.1 rfl (lv_room (Nat.le_of_ble_eq_true rfl)) dL_law_608 ⟨by omega, by omega⟩) hM hU (fun r9 σ H locs hp hM hU hap2 => ?_)
  obtain ⟨rfl, hmd⟩ := hp
  have hap : um_ap π σ := fun b9 h9 z => hap2 b9 z h9
  refine lv_istore (lv' := [(6, .int (um_b (tbA_swap q))), (5, .int (nI (tbT_swap q))), (0, .ref b), (1, .ref (xd 0)), (2, .ref (md 13)), (3, .ref o), (4, .int (nI i))]) hx hb dL_law_611 hl (by decide) rfl (fun ls hl => ?_)
  refine lv_aload_n hx hb dL_law_613 rfl (lv_at hl 4 rfl) ?_
  refine um_call2i (va_runV (As := []) (rest := []) ⟨hx, hb, hml, hown, htg⟩ (mm_thrown l D κ τ (um_Am A π) σ md _ _ hmd) (cwV 0 htg (lw_cV tg_687 tg_688 tg_689 tg_8 tg_690) rfl rfl rfl (by decide +kernel) ⟨Nat.le_trans (by decide) hfr, Nat.le_trans (by decide) hlo⟩) (um_preV2 hM hU (fun b9 h9 z => hap b9 z h9) hK hJ hmd.obj rfl) rfl rfl hl.1 rfl (lv_room (Nat.le_of_ble_eq_true rfl)) dL_law_614 ⟨by omega, by omega⟩) hM hU (fun r9 σ2 H locs hp hM hU hap2 => ?_)
  obtain ⟨hr9, hs9⟩ := hp
  subst hr9
  rw [hs9] at hM hap2
  have hap : um_ap π σ := fun b9 h9 z => hap2 b9 z h9
  refine lv_iload hx hb dL_law_617 (lv_at hl 1 rfl) ?_
  refine lv_icmp_eq (tgt := 624) hx hb dL_law_619 (by decide) (fun _ => ?_) (fun z9 => absurd rfl z9)
  refine lv_iload hx hb dL_law_624 (lv_at hl 1 rfl) ?_
  refine um_ne0N (tgt := 648) hx hb dL_law_626 (by decide) (lw_T3 (by unfold tbT_swap; repeat (first | decide | split))) (fun hT => ?_) (fun hT => ?_)
  · refine lv_goto (tgt := 1281) hx hb dL_law_648 (by decide) ?_
    exact W.widen (by omega) (by omega) (kk _ _ _ ⟨π, σ, la, ma, va, sc, v, _, hxo, hmd, hU, hM, hap⟩ (lv_sub hl [2, 3, 4, 5, 6] rfl))
  · refine lv_aload_n hx hb dL_law_629 rfl (lv_at hl 5 rfl) ?_
    refine lv_iconst (v := nI 0) hx hb dL_law_630 (by decide +kernel) ?_
    refine xo_lald hx hb hK hU hxo dL_law_631 ?_
    refine lv_iload hx hb dL_law_632 (lv_at hl 0 rfl) ?_
    refine um_eqB (tgt := 641) hx hb dL_law_634 (by decide) (fun cb => ?_) (fun cb => ?_)
    · refine lv_lconst (v := 0) hx hb dL_law_641 (by decide +kernel) ?_
      refine W.lcmp hx hb dL_law_642 ?_
      refine um_eqC (tgt := 648) hx hb dL_law_643 (by decide) (fun _ => ?_) (fun z9 => absurd ((hv hT).trans (by rw [cb]; rfl)) z9)
      refine lv_goto (tgt := 1281) hx hb dL_law_648 (by decide) ?_
      exact W.widen (by omega) (by omega) (kk _ _ _ ⟨π, σ, la, ma, va, sc, v, _, hxo, hmd, hU, hM, hap⟩ (lv_sub hl [2, 3, 4, 5, 6] rfl))
    · refine lv_lconst (v := 1) hx hb dL_law_637 (by decide +kernel) ?_
      refine lv_goto (tgt := 642) hx hb dL_law_638 (by decide) ?_
      refine W.lcmp hx hb dL_law_642 ?_
      refine um_eqC (tgt := 648) hx hb dL_law_643 (by decide) (fun _ => ?_) (fun z9 => absurd ((hv hT).trans (by rw [cb]; rfl)) z9)
      refine lv_goto (tgt := 1281) hx hb dL_law_648 (by decide) ?_
      exact W.widen (by omega) (by omega) (kk _ _ _ ⟨π, σ, la, ma, va, sc, v, _, hxo, hmd, hU, hM, hap⟩ (lv_sub hl [2, 3, 4, 5, 6] rfl))

set_option maxRecDepth 100000 in
set_option maxHeartbeats 4000000 in
theorem lc_part {p : Program} {l : Launch} {e : Env} {R : Room} {s : State} {m : MethodId} {args : Array Value} {below : List Frame} {meth : Method} {c : Code} {H : Heap} {locs : List Loc} {cells slots : Nat} {Q : State → Prop} {ls : Array Slot} {D : va_G} {A : Nat → Prop} {κ : Nat → ClassId} {τ : Nat → Nat} {xd md : Nat → Nat} {o b Ls i : Nat} {q : tb_Q} {xs : Nat → Int32} (hx : p.tables.exec = Jvm.exec) (hb : c.code = cL_law) (hst : l.stackTraces = false) (hml : c.maxLocals = 8) (hown : s.vm.findClass RL = some m.cls) (htg : ∀ w ∈ lw_g, w.before args s = true) (hK : va_K D vwCl (um_T κ) s) (hJ : um_J τ A s s.heap) (hX : va_X b Ls xs s s.heap) (hbl : b < s.heap.size) (hbA : ¬ A b) (hLs : Ls ≤ 3072) (hfr : 11 ≤ R.frames) (hlo : 432 ≤ R.locals) (ok : tb_ok q) (h : lw_W D κ A s xd md o q H locs) (hl : lv_has ls 8 [(0, .ref b), (1, .ref (xd 0)), (2, .ref (md 13)), (3, .ref o), (4, .int (nI i))]) (hi : i + 6 ≤ Ls) (hc : cells + 5 ≤ R.cells) (hs : slots + 29 ≤ R.slots)
    (kk : ∀ (H1 : Heap) (locs1 : List Loc) (ls1 : Array Slot), lw_W D κ A s xd md o (tbQ_part q) H1 locs1 → lv_has ls1 8 [(0, .ref b), (1, .ref (xd 0)), (2, .ref (md 13)), (3, .ref o), (4, .int (nI i))] → W p l e R s m args below meth c H1 locs1 (cells + 5) (slots + 29) Q (F0 m 1281 ls1 [])) : W p l e R s m args below meth c H locs cells slots Q (F0 m 651 ls []) := by
  obtain ⟨π, σ, la, ma, va, sc, v, th, hxo, hmd, hU, hM, hap⟩ := h
  refine lv_aload_n hx hb dL_law_651 rfl (lv_at hl 1 rfl) ?_
  refine um_call2i (vx_runSW (As := [.ref (xd 0)]) (rest := []) ⟨hx, hb, hml, hown, htg⟩ (lh_part l D κ τ (um_Am A σ) π hst xd la ma va q sc o v hxo ok ) (vx_cwSW 1 htg (lw_cW tg_509 tg_510 tg_0 tg_511) rfl rfl rfl (by decide +kernel) ⟨Nat.le_trans (by decide) hfr, Nat.le_trans (by decide) hlo⟩) (um_preS2 hU hM hap hK hJ) rfl rfl hl.1 rfl (lv_room (Nat.le_of_ble_eq_true rfl)) dL_law_652 ⟨by omega, by omega⟩) hU hM (fun r9 π H locs hp hU hM hap => ?_)
  obtain ⟨rfl, la, ma, va, sc, v, hxo⟩ := hp
  refine lv_istore (lv' := [(5, .int (nI (tbT_part q))), (0, .ref b), (1, .ref (xd 0)), (2, .ref (md 13)), (3, .ref o), (4, .int (nI i))]) hx hb dL_law_655 hl (by decide) rfl (fun ls hl => ?_)
  refine lv_aload_n hx hb dL_law_657 rfl (lv_at hl 3 rfl) ?_
  refine um_call2v (va_runV (As := []) (rest := []) ⟨hx, hb, hml, hown, htg⟩ (mm_part l D κ τ (um_Am A π) σ md q th hmd ok.sm ok.me.1 ok.me.2.1 ok.me.2.2.1 ) (cwV 0 htg (lw_cV tg_788 tg_789 tg_790 tg_8 tg_791) rfl rfl rfl (by decide +kernel) ⟨Nat.le_trans (by decide) hfr, Nat.le_trans (by decide) hlo⟩) (um_preV2 hM hU (fun b9 h9 z => hap b9 z h9) hK hJ hmd.obj rfl) rfl rfl hl.1 rfl (lv_room (Nat.le_of_ble_eq_true rfl)) dL_law_658 ⟨by omega, by omega⟩) hM hU (fun σ H locs hp hM hU hap2 => ?_)
  have hmd := hp
  have hap : um_ap π σ := fun b9 h9 z => hap2 b9 z h9
  refine lv_aload_n hx hb dL_law_661 rfl (lv_at hl 3 rfl) ?_
  refine um_call2i (va_runV (As := []) (rest := []) ⟨hx, hb, hml, hown, htg⟩ (mm_thrown l D κ τ (um_Am A π) σ md _ _ hmd) (cwV 0 htg (lw_cV tg_687 tg_688 tg_689 tg_8 tg_690) rfl rfl rfl (by decide +kernel) ⟨Nat.le_trans (by decide) hfr, Nat.le_trans (by decide) hlo⟩) (um_preV2 hM hU (fun b9 h9 z => hap b9 z h9) hK hJ hmd.obj rfl) rfl rfl hl.1 rfl (lv_room (Nat.le_of_ble_eq_true rfl)) dL_law_662 ⟨by omega, by omega⟩) hM hU (fun r9 σ2 H locs hp hM hU hap2 => ?_)
  obtain ⟨hr9, hs9⟩ := hp
  subst hr9
  rw [hs9] at hM hap2
  have hap : um_ap π σ := fun b9 h9 z => hap2 b9 z h9
  refine lv_iload hx hb dL_law_665 (lv_at hl 0 rfl) ?_
  refine lv_icmp_eq (tgt := 672) hx hb dL_law_667 (by decide) (fun _ => ?_) (fun z9 => absurd rfl z9)
  refine lv_goto (tgt := 1281) hx hb dL_law_672 (by decide) ?_
  exact W.widen (by omega) (by omega) (kk _ _ _ ⟨π, σ, la, ma, va, sc, v, _, hxo, hmd, hU, hM, hap⟩ (lv_sub hl [1, 2, 3, 4, 5] rfl))

set_option maxRecDepth 100000 in
set_option maxHeartbeats 4000000 in
theorem lc_crash {p : Program} {l : Launch} {e : Env} {R : Room} {s : State} {m : MethodId} {args : Array Value} {below : List Frame} {meth : Method} {c : Code} {H : Heap} {locs : List Loc} {cells slots : Nat} {Q : State → Prop} {ls : Array Slot} {D : va_G} {A : Nat → Prop} {κ : Nat → ClassId} {τ : Nat → Nat} {xd md : Nat → Nat} {o b Ls i : Nat} {q : tb_Q} {xs : Nat → Int32} (hx : p.tables.exec = Jvm.exec) (hb : c.code = cL_law) (hst : l.stackTraces = false) (hml : c.maxLocals = 8) (hown : s.vm.findClass RL = some m.cls) (htg : ∀ w ∈ lw_g, w.before args s = true) (hK : va_K D vwCl (um_T κ) s) (hJ : um_J τ A s s.heap) (hX : va_X b Ls xs s s.heap) (hbl : b < s.heap.size) (hbA : ¬ A b) (hLs : Ls ≤ 3072) (hfr : 11 ≤ R.frames) (hlo : 432 ≤ R.locals) (ok : tb_ok q) (h : lw_W D κ A s xd md o q H locs) (hl : lv_has ls 8 [(0, .ref b), (1, .ref (xd 0)), (2, .ref (md 13)), (3, .ref o), (4, .int (nI i))]) (hi : i + 6 ≤ Ls) (hc : cells + 5 ≤ R.cells) (hs : slots + 29 ≤ R.slots)
    (kk : ∀ (H1 : Heap) (locs1 : List Loc) (ls1 : Array Slot), lw_W D κ A s xd md o (tbQ_crash q (xs (i + 1))) H1 locs1 → lv_has ls1 8 [(0, .ref b), (1, .ref (xd 0)), (2, .ref (md 13)), (3, .ref o), (4, .int (nI i))] → W p l e R s m args below meth c H1 locs1 (cells + 5) (slots + 29) Q (F0 m 1281 ls1 [])) : W p l e R s m args below meth c H locs cells slots Q (F0 m 675 ls []) := by
  obtain ⟨π, σ, la, ma, va, sc, v, th, hxo, hmd, hU, hM, hap⟩ := h
  refine lv_aload_n hx hb dL_law_675 rfl (lv_at hl 1 rfl) ?_
  refine lv_aload_n hx hb dL_law_676 rfl (lv_at hl 0 rfl) ?_
  refine lv_iload hx hb dL_law_677 (lv_at hl 4 rfl) ?_
  refine lv_iconst (v := nI 1) hx hb dL_law_679 (by decide +kernel) ?_
  refine um_addN hx hb dL_law_680 ?_
  refine lw_sld hx hb hX hbl hbA hU.2.2.1 (j := i + 1) (by omega) hLs dL_law_681 ?_
  refine um_call2i (vx_runSW (As := [.ref (xd 0), .int (xs (i + 1))]) (rest := []) ⟨hx, hb, hml, hown, htg⟩ (lh_crash l D κ τ (um_Am A σ) π hst xd la ma va q sc o v hxo ok (xs (i + 1))) (vx_cwSW 2 htg (lw_cW tg_520 tg_521 tg_0 tg_522) rfl rfl rfl (by decide +kernel) ⟨Nat.le_trans (by decide) hfr, Nat.le_trans (by decide) hlo⟩) (um_preS2 hU hM hap hK hJ) rfl rfl hl.1 rfl (lv_room (Nat.le_of_ble_eq_true rfl)) dL_law_682 ⟨by omega, by omega⟩) hU hM (fun r9 π H locs hp hU hM hap => ?_)
  obtain ⟨rfl, la, ma, va, sc, v, hxo⟩ := hp
  refine lv_istore (lv' := [(5, .int (nI (tbT_crash (xs (i + 1))))), (0, .ref b), (1, .ref (xd 0)), (2, .ref (md 13)), (3, .ref o), (4, .int (nI i))]) hx hb dL_law_685 hl (by decide) rfl (fun ls hl => ?_)
  refine lv_aload_n hx hb dL_law_687 rfl (lv_at hl 3 rfl) ?_
  refine lv_aload_n hx hb dL_law_688 rfl (lv_at hl 1 rfl) ?_
  refine lv_iload hx hb dL_law_689 (lv_at hl 5 rfl) ?_
  refine lv_iconst (v := nI 1) hx hb dL_law_691 (by decide +kernel) ?_
  refine um_addN hx hb dL_law_692 ?_
  refine lw_sld hx hb hX hbl hbA hU.2.2.1 (j := i + 1) (by omega) hLs dL_law_693 ?_
  refine um_call2v (va_runV (As := [.int (xs (i + 1))]) (rest := []) ⟨hx, hb, hml, hown, htg⟩ (mm_crash l D κ τ (um_Am A π) σ md q th hmd ok.sm ok.me.1 ok.me.2.1 ok.me.2.2.1 (xs (i + 1))) (cwV 1 htg (lw_cV tg_796 tg_797 tg_798 tg_8 tg_799) rfl rfl rfl (by decide +kernel) ⟨Nat.le_trans (by decide) hfr, Nat.le_trans (by decide) hlo⟩) (um_preV2 hM hU (fun b9 h9 z => hap b9 z h9) hK hJ hmd.obj rfl) rfl rfl hl.1 rfl (lv_room (Nat.le_of_ble_eq_true rfl)) dL_law_694 ⟨by omega, by omega⟩) hM hU (fun σ H locs hp hM hU hap2 => ?_)
  have hmd := hp
  have hap : um_ap π σ := fun b9 h9 z => hap2 b9 z h9
  refine lv_aload_n hx hb dL_law_697 rfl (lv_at hl 3 rfl) ?_
  refine um_call2i (va_runV (As := []) (rest := []) ⟨hx, hb, hml, hown, htg⟩ (mm_thrown l D κ τ (um_Am A π) σ md _ _ hmd) (cwV 0 htg (lw_cV tg_687 tg_688 tg_689 tg_8 tg_690) rfl rfl rfl (by decide +kernel) ⟨Nat.le_trans (by decide) hfr, Nat.le_trans (by decide) hlo⟩) (um_preV2 hM hU (fun b9 h9 z => hap b9 z h9) hK hJ hmd.obj rfl) rfl rfl hl.1 rfl (lv_room (Nat.le_of_ble_eq_true rfl)) dL_law_698 ⟨by omega, by omega⟩) hM hU (fun r9 σ2 H locs hp hM hU hap2 => ?_)
  obtain ⟨hr9, hs9⟩ := hp
  subst hr9
  rw [hs9] at hM hap2
  have hap : um_ap π σ := fun b9 h9 z => hap2 b9 z h9
  refine lv_iload hx hb dL_law_701 (lv_at hl 0 rfl) ?_
  refine lv_icmp_eq (tgt := 708) hx hb dL_law_703 (by decide) (fun _ => ?_) (fun z9 => absurd rfl z9)
  refine lv_goto (tgt := 1281) hx hb dL_law_708 (by decide) ?_
  exact W.widen (by omega) (by omega) (kk _ _ _ ⟨π, σ, la, ma, va, sc, v, _, hxo, hmd, hU, hM, hap⟩ (lv_sub hl [1, 2, 3, 4, 5] rfl))

set_option maxRecDepth 100000 in
set_option maxHeartbeats 4000000 in
theorem lc_known {p : Program} {l : Launch} {e : Env} {R : Room} {s : State} {m : MethodId} {args : Array Value} {below : List Frame} {meth : Method} {c : Code} {H : Heap} {locs : List Loc} {cells slots : Nat} {Q : State → Prop} {ls : Array Slot} {D : va_G} {A : Nat → Prop} {κ : Nat → ClassId} {τ : Nat → Nat} {xd md : Nat → Nat} {o b Ls i : Nat} {q : tb_Q} {xs : Nat → Int32} (hx : p.tables.exec = Jvm.exec) (hb : c.code = cL_law) (hst : l.stackTraces = false) (hml : c.maxLocals = 8) (hown : s.vm.findClass RL = some m.cls) (htg : ∀ w ∈ lw_g, w.before args s = true) (hK : va_K D vwCl (um_T κ) s) (hJ : um_J τ A s s.heap) (hX : va_X b Ls xs s s.heap) (hbl : b < s.heap.size) (hbA : ¬ A b) (hLs : Ls ≤ 3072) (hfr : 11 ≤ R.frames) (hlo : 432 ≤ R.locals) (ok : tb_ok q) (h : lw_W D κ A s xd md o q H locs) (hl : lv_has ls 8 [(0, .ref b), (1, .ref (xd 0)), (2, .ref (md 13)), (3, .ref o), (4, .int (nI i))]) (hi : i + 6 ≤ Ls) (hc : cells + 5 ≤ R.cells) (hs : slots + 29 ≤ R.slots)
    (kk : ∀ (H1 : Heap) (locs1 : List Loc) (ls1 : Array Slot), lw_W D κ A s xd md o q H1 locs1 → lv_has ls1 8 [(0, .ref b), (1, .ref (xd 0)), (2, .ref (md 13)), (3, .ref o), (4, .int (nI i))] → W p l e R s m args below meth c H1 locs1 (cells + 5) (slots + 29) Q (F0 m 1281 ls1 [])) : W p l e R s m args below meth c H locs cells slots Q (F0 m 711 ls []) := by
  obtain ⟨π, σ, la, ma, va, sc, v, th, hxo, hmd, hU, hM, hap⟩ := h
  refine lv_aload_n hx hb dL_law_711 rfl (lv_at hl 1 rfl) ?_
  refine lv_aload_n hx hb dL_law_712 rfl (lv_at hl 0 rfl) ?_
  refine lv_iload hx hb dL_law_713 (lv_at hl 4 rfl) ?_
  refine lv_iconst (v := nI 1) hx hb dL_law_715 (by decide +kernel) ?_
  refine um_addN hx hb dL_law_716 ?_
  refine lw_sld hx hb hX hbl hbA hU.2.2.1 (j := i + 1) (by omega) hLs dL_law_717 ?_
  refine lv_aload_n hx hb dL_law_718 rfl (lv_at hl 0 rfl) ?_
  refine lv_iload hx hb dL_law_719 (lv_at hl 4 rfl) ?_
  refine lv_iconst (v := nI 2) hx hb dL_law_721 (by decide +kernel) ?_
  refine um_addN hx hb dL_law_722 ?_
  refine lw_sld hx hb hX hbl hbA hU.2.2.1 (j := i + 2) (by omega) hLs dL_law_723 ?_
  refine lv_aload_n hx hb dL_law_724 rfl (lv_at hl 3 rfl) ?_
  refine um_call2i (vx_runSW (As := [.ref (xd 0), .int (xs (i + 1)), .int (xs (i + 2)), .ref (o)]) (rest := []) ⟨hx, hb, hml, hown, htg⟩ (lh_known l D κ τ (um_Am A σ) π hst xd la ma va q sc o v hxo ok (xs (i + 1)) (xs (i + 2))) (vx_cwSW 4 htg (lw_cW tg_531 tg_532 tg_0 tg_533) rfl rfl rfl (by decide +kernel) ⟨Nat.le_trans (by decide) hfr, Nat.le_trans (by decide) hlo⟩) (um_preS2 hU hM hap hK hJ) rfl rfl hl.1 rfl (lv_room (Nat.le_of_ble_eq_true rfl)) dL_law_725 ⟨by omega, by omega⟩) hU hM (fun r9 π H locs hp hU hM hap => ?_)
  obtain ⟨rfl, la, ma, va, sc, v, hxo, hv⟩ := hp
  refine lv_istore (lv' := [(5, .int (nI (tbT_known (xs (i + 1)) (xs (i + 2))))), (0, .ref b), (1, .ref (xd 0)), (2, .ref (md 13)), (3, .ref o), (4, .int (nI i))]) hx hb dL_law_728 hl (by decide) rfl (fun ls hl => ?_)
  refine lv_aload_n hx hb dL_law_730 rfl (lv_at hl 3 rfl) ?_
  refine lv_aload_n hx hb dL_law_731 rfl (lv_at hl 1 rfl) ?_
  refine lv_iload hx hb dL_law_732 (lv_at hl 5 rfl) ?_
  refine lv_iconst (v := nI 1) hx hb dL_law_734 (by decide +kernel) ?_
  refine um_addN hx hb dL_law_735 ?_
  refine lw_sld hx hb hX hbl hbA hU.2.2.1 (j := i + 1) (by omega) hLs dL_law_736 ?_
  refine lv_aload_n hx hb dL_law_737 rfl (lv_at hl 1 rfl) ?_
  refine lv_iload hx hb dL_law_738 (lv_at hl 5 rfl) ?_
  refine lv_iconst (v := nI 2) hx hb dL_law_740 (by decide +kernel) ?_
  refine um_addN hx hb dL_law_741 ?_
  refine lw_sld hx hb hX hbl hbA hU.2.2.1 (j := i + 2) (by omega) hLs dL_law_742 ?_
  refine um_call2i (va_runV (As := [.int (xs (i + 1)), .int (xs (i + 2))]) (rest := []) ⟨hx, hb, hml, hown, htg⟩ (mm_known l D κ τ (um_Am A π) σ md q th hmd  (xs (i + 1)) (xs (i + 2))) (cwV 2 htg (lw_cV tg_800 tg_801 tg_802 tg_8 tg_803) rfl rfl rfl (by decide +kernel) ⟨Nat.le_trans (by decide) hfr, Nat.le_trans (by decide) hlo⟩) (um_preV2 hM hU (fun b9 h9 z => hap b9 z h9) hK hJ hmd.obj rfl) rfl rfl hl.1 rfl (lv_room (Nat.le_of_ble_eq_true rfl)) dL_law_743 ⟨by omega, by omega⟩) hM hU (fun r9 σ H locs hp hM hU hap2 => ?_)
  obtain ⟨rfl, hmd⟩ := hp
  have hap : um_ap π σ := fun b9 h9 z => hap2 b9 z h9
  refine lv_istore (lv' := [(6, .int (nI (tbA_known q (xs (i + 1)) (xs (i + 2))))), (5, .int (nI (tbT_known (xs (i + 1)) (xs (i + 2))))), (0, .ref b), (1, .ref (xd 0)), (2, .ref (md 13)), (3, .ref o), (4, .int (nI i))]) hx hb dL_law_746 hl (by decide) rfl (fun ls hl => ?_)
  refine lv_aload_n hx hb dL_law_748 rfl (lv_at hl 4 rfl) ?_
  refine um_call2i (va_runV (As := []) (rest := []) ⟨hx, hb, hml, hown, htg⟩ (mm_thrown l D κ τ (um_Am A π) σ md _ _ hmd) (cwV 0 htg (lw_cV tg_687 tg_688 tg_689 tg_8 tg_690) rfl rfl rfl (by decide +kernel) ⟨Nat.le_trans (by decide) hfr, Nat.le_trans (by decide) hlo⟩) (um_preV2 hM hU (fun b9 h9 z => hap b9 z h9) hK hJ hmd.obj rfl) rfl rfl hl.1 rfl (lv_room (Nat.le_of_ble_eq_true rfl)) dL_law_749 ⟨by omega, by omega⟩) hM hU (fun r9 σ2 H locs hp hM hU hap2 => ?_)
  obtain ⟨hr9, hs9⟩ := hp
  subst hr9
  rw [hs9] at hM hap2
  have hap : um_ap π σ := fun b9 h9 z => hap2 b9 z h9
  refine lv_iload hx hb dL_law_752 (lv_at hl 1 rfl) ?_
  refine lv_icmp_eq (tgt := 759) hx hb dL_law_754 (by decide) (fun _ => ?_) (fun z9 => absurd rfl z9)
  refine lv_iload hx hb dL_law_759 (lv_at hl 1 rfl) ?_
  refine um_ne0N (tgt := 776) hx hb dL_law_761 (by decide) (lw_T3 (by unfold tbT_known; repeat (first | decide | split))) (fun hT => ?_) (fun hT => ?_)
  · refine lv_goto (tgt := 1281) hx hb dL_law_776 (by decide) ?_
    exact W.widen (by omega) (by omega) (kk _ _ _ ⟨π, σ, la, ma, va, sc, v, _, hxo, hmd, hU, hM, hap⟩ (lv_sub hl [2, 3, 4, 5, 6] rfl))
  · refine lv_aload_n hx hb dL_law_764 rfl (lv_at hl 5 rfl) ?_
    refine lv_iconst (v := nI 0) hx hb dL_law_765 (by decide +kernel) ?_
    refine xo_lald hx hb hK hU hxo dL_law_766 ?_
    refine lv_iload hx hb dL_law_767 (lv_at hl 0 rfl) ?_
    refine lv_i2l hx hb dL_law_769 rfl ?_
    refine W.lcmp hx hb dL_law_770 ?_
    refine um_eqC (tgt := 776) hx hb dL_law_771 (by decide) (fun _ => ?_) (fun z9 => absurd (hv hT) z9)
    refine lv_goto (tgt := 1281) hx hb dL_law_776 (by decide) ?_
    exact W.widen (by omega) (by omega) (kk _ _ _ ⟨π, σ, la, ma, va, sc, v, _, hxo, hmd, hU, hM, hap⟩ (lv_sub hl [2, 3, 4, 5, 6] rfl))

set_option maxRecDepth 100000 in
set_option maxHeartbeats 4000000 in
theorem lc_holder {p : Program} {l : Launch} {e : Env} {R : Room} {s : State} {m : MethodId} {args : Array Value} {below : List Frame} {meth : Method} {c : Code} {H : Heap} {locs : List Loc} {cells slots : Nat} {Q : State → Prop} {ls : Array Slot} {D : va_G} {A : Nat → Prop} {κ : Nat → ClassId} {τ : Nat → Nat} {xd md : Nat → Nat} {o b Ls i : Nat} {q : tb_Q} {xs : Nat → Int32} (hx : p.tables.exec = Jvm.exec) (hb : c.code = cL_law) (hst : l.stackTraces = false) (hml : c.maxLocals = 8) (hown : s.vm.findClass RL = some m.cls) (htg : ∀ w ∈ lw_g, w.before args s = true) (hK : va_K D vwCl (um_T κ) s) (hJ : um_J τ A s s.heap) (hX : va_X b Ls xs s s.heap) (hbl : b < s.heap.size) (hbA : ¬ A b) (hLs : Ls ≤ 3072) (hfr : 11 ≤ R.frames) (hlo : 432 ≤ R.locals) (ok : tb_ok q) (h : lw_W D κ A s xd md o q H locs) (hl : lv_has ls 8 [(0, .ref b), (1, .ref (xd 0)), (2, .ref (md 13)), (3, .ref o), (4, .int (nI i))]) (hi : i + 6 ≤ Ls) (hc : cells + 5 ≤ R.cells) (hs : slots + 29 ≤ R.slots)
    (kk : ∀ (H1 : Heap) (locs1 : List Loc) (ls1 : Array Slot), lw_W D κ A s xd md o q H1 locs1 → lv_has ls1 8 [(0, .ref b), (1, .ref (xd 0)), (2, .ref (md 13)), (3, .ref o), (4, .int (nI i))] → W p l e R s m args below meth c H1 locs1 (cells + 5) (slots + 29) Q (F0 m 1281 ls1 [])) : W p l e R s m args below meth c H locs cells slots Q (F0 m 779 ls []) := by
  obtain ⟨π, σ, la, ma, va, sc, v, th, hxo, hmd, hU, hM, hap⟩ := h
  refine lv_aload_n hx hb dL_law_779 rfl (lv_at hl 1 rfl) ?_
  refine lv_aload_n hx hb dL_law_780 rfl (lv_at hl 0 rfl) ?_
  refine lv_iload hx hb dL_law_781 (lv_at hl 4 rfl) ?_
  refine lv_iconst (v := nI 1) hx hb dL_law_783 (by decide +kernel) ?_
  refine um_addN hx hb dL_law_784 ?_
  refine lw_sld hx hb hX hbl hbA hU.2.2.1 (j := i + 1) (by omega) hLs dL_law_785 ?_
  refine lv_aload_n hx hb dL_law_786 rfl (lv_at hl 0 rfl) ?_
  refine lv_iload hx hb dL_law_787 (lv_at hl 4 rfl) ?_
  refine lv_iconst (v := nI 2) hx hb dL_law_789 (by decide +kernel) ?_
  refine um_addN hx hb dL_law_790 ?_
  refine lw_sld hx hb hX hbl hbA hU.2.2.1 (j := i + 2) (by omega) hLs dL_law_791 ?_
  refine lv_aload_n hx hb dL_law_792 rfl (lv_at hl 0 rfl) ?_
  refine lv_iload hx hb dL_law_793 (lv_at hl 4 rfl) ?_
  refine lv_iconst (v := nI 3) hx hb dL_law_795 (by decide +kernel) ?_
  refine um_addN hx hb dL_law_796 ?_
  refine lw_sld hx hb hX hbl hbA hU.2.2.1 (j := i + 3) (by omega) hLs dL_law_797 ?_
  refine lv_aload_n hx hb dL_law_798 rfl (lv_at hl 3 rfl) ?_
  refine um_call2i (vx_runSW (As := [.ref (xd 0), .int (xs (i + 1)), .int (xs (i + 2)), .int (xs (i + 3)), .ref (o)]) (rest := []) ⟨hx, hb, hml, hown, htg⟩ (lh_holder l D κ τ (um_Am A σ) π hst xd la ma va q sc o v hxo ok (xs (i + 1)) (xs (i + 2)) (xs (i + 3))) (vx_cwSW 5 htg (lw_cW tg_538 tg_539 tg_0 tg_540) rfl rfl rfl (by decide +kernel) ⟨Nat.le_trans (by decide) hfr, Nat.le_trans (by decide) hlo⟩) (um_preS2 hU hM hap hK hJ) rfl rfl hl.1 rfl (lv_room (Nat.le_of_ble_eq_true rfl)) dL_law_799 ⟨by omega, by omega⟩) hU hM (fun r9 π H locs hp hU hM hap => ?_)
  obtain ⟨rfl, la, ma, va, sc, v, hxo, hv⟩ := hp
  refine lv_istore (lv' := [(5, .int (nI (tbT_holder (xs (i + 1)) (xs (i + 2)) (xs (i + 3))))), (0, .ref b), (1, .ref (xd 0)), (2, .ref (md 13)), (3, .ref o), (4, .int (nI i))]) hx hb dL_law_802 hl (by decide) rfl (fun ls hl => ?_)
  refine lv_aload_n hx hb dL_law_804 rfl (lv_at hl 3 rfl) ?_
  refine lv_aload_n hx hb dL_law_805 rfl (lv_at hl 1 rfl) ?_
  refine lv_iload hx hb dL_law_806 (lv_at hl 5 rfl) ?_
  refine lv_iconst (v := nI 1) hx hb dL_law_808 (by decide +kernel) ?_
  refine um_addN hx hb dL_law_809 ?_
  refine lw_sld hx hb hX hbl hbA hU.2.2.1 (j := i + 1) (by omega) hLs dL_law_810 ?_
  refine lv_aload_n hx hb dL_law_811 rfl (lv_at hl 1 rfl) ?_
  refine lv_iload hx hb dL_law_812 (lv_at hl 5 rfl) ?_
  refine lv_iconst (v := nI 2) hx hb dL_law_814 (by decide +kernel) ?_
  refine um_addN hx hb dL_law_815 ?_
  refine lw_sld hx hb hX hbl hbA hU.2.2.1 (j := i + 2) (by omega) hLs dL_law_816 ?_
  refine lv_aload_n hx hb dL_law_817 rfl (lv_at hl 1 rfl) ?_
  refine lv_iload hx hb dL_law_818 (lv_at hl 5 rfl) ?_
  refine lv_iconst (v := nI 3) hx hb dL_law_820 (by decide +kernel) ?_
  refine um_addN hx hb dL_law_821 ?_
  refine lw_sld hx hb hX hbl hbA hU.2.2.1 (j := i + 3) (by omega) hLs dL_law_822 ?_
  refine um_call2i (va_runV (As := [.int (xs (i + 1)), .int (xs (i + 2)), .int (xs (i + 3))]) (rest := []) ⟨hx, hb, hml, hown, htg⟩ (mm_holder l D κ τ (um_Am A π) σ md q th hmd ok.sm ok.m40 (xs (i + 1)) (xs (i + 2)) (xs (i + 3))) (cwV 3 htg (lw_cV tg_804 tg_805 tg_806 tg_8 tg_807) rfl rfl rfl (by decide +kernel) ⟨Nat.le_trans (by decide) hfr, Nat.le_trans (by decide) hlo⟩) (um_preV2 hM hU (fun b9 h9 z => hap b9 z h9) hK hJ hmd.obj rfl) rfl rfl hl.1 rfl (lv_room (Nat.le_of_ble_eq_true rfl)) dL_law_823 ⟨by omega, by omega⟩) hM hU (fun r9 σ H locs hp hM hU hap2 => ?_)
  obtain ⟨rfl, hmd⟩ := hp
  have hap : um_ap π σ := fun b9 h9 z => hap2 b9 z h9
  refine lv_istore (lv' := [(6, .int (tbA_holder q (xs (i + 1)) (xs (i + 2)) (xs (i + 3)))), (5, .int (nI (tbT_holder (xs (i + 1)) (xs (i + 2)) (xs (i + 3))))), (0, .ref b), (1, .ref (xd 0)), (2, .ref (md 13)), (3, .ref o), (4, .int (nI i))]) hx hb dL_law_826 hl (by decide) rfl (fun ls hl => ?_)
  refine lv_aload_n hx hb dL_law_828 rfl (lv_at hl 4 rfl) ?_
  refine um_call2i (va_runV (As := []) (rest := []) ⟨hx, hb, hml, hown, htg⟩ (mm_thrown l D κ τ (um_Am A π) σ md _ _ hmd) (cwV 0 htg (lw_cV tg_687 tg_688 tg_689 tg_8 tg_690) rfl rfl rfl (by decide +kernel) ⟨Nat.le_trans (by decide) hfr, Nat.le_trans (by decide) hlo⟩) (um_preV2 hM hU (fun b9 h9 z => hap b9 z h9) hK hJ hmd.obj rfl) rfl rfl hl.1 rfl (lv_room (Nat.le_of_ble_eq_true rfl)) dL_law_829 ⟨by omega, by omega⟩) hM hU (fun r9 σ2 H locs hp hM hU hap2 => ?_)
  obtain ⟨hr9, hs9⟩ := hp
  subst hr9
  rw [hs9] at hM hap2
  have hap : um_ap π σ := fun b9 h9 z => hap2 b9 z h9
  refine lv_iload hx hb dL_law_832 (lv_at hl 1 rfl) ?_
  refine lv_icmp_eq (tgt := 839) hx hb dL_law_834 (by decide) (fun _ => ?_) (fun z9 => absurd rfl z9)
  refine lv_iload hx hb dL_law_839 (lv_at hl 1 rfl) ?_
  refine um_ne0N (tgt := 856) hx hb dL_law_841 (by decide) (lw_T3 (by unfold tbT_holder; repeat (first | decide | split))) (fun hT => ?_) (fun hT => ?_)
  · refine lv_goto (tgt := 1281) hx hb dL_law_856 (by decide) ?_
    exact W.widen (by omega) (by omega) (kk _ _ _ ⟨π, σ, la, ma, va, sc, v, _, hxo, hmd, hU, hM, hap⟩ (lv_sub hl [2, 3, 4, 5, 6] rfl))
  · refine lv_aload_n hx hb dL_law_844 rfl (lv_at hl 5 rfl) ?_
    refine lv_iconst (v := nI 0) hx hb dL_law_845 (by decide +kernel) ?_
    refine xo_lald hx hb hK hU hxo dL_law_846 ?_
    refine lv_iload hx hb dL_law_847 (lv_at hl 0 rfl) ?_
    refine lv_i2l hx hb dL_law_849 rfl ?_
    refine W.lcmp hx hb dL_law_850 ?_
    refine um_eqC (tgt := 856) hx hb dL_law_851 (by decide) (fun _ => ?_) (fun z9 => absurd (hv hT) z9)
    refine lv_goto (tgt := 1281) hx hb dL_law_856 (by decide) ?_
    exact W.widen (by omega) (by omega) (kk _ _ _ ⟨π, σ, la, ma, va, sc, v, _, hxo, hmd, hU, hM, hap⟩ (lv_sub hl [2, 3, 4, 5, 6] rfl))

set_option maxRecDepth 100000 in
set_option maxHeartbeats 4000000 in
theorem lc_value {p : Program} {l : Launch} {e : Env} {R : Room} {s : State} {m : MethodId} {args : Array Value} {below : List Frame} {meth : Method} {c : Code} {H : Heap} {locs : List Loc} {cells slots : Nat} {Q : State → Prop} {ls : Array Slot} {D : va_G} {A : Nat → Prop} {κ : Nat → ClassId} {τ : Nat → Nat} {xd md : Nat → Nat} {o b Ls i : Nat} {q : tb_Q} {xs : Nat → Int32} (hx : p.tables.exec = Jvm.exec) (hb : c.code = cL_law) (hst : l.stackTraces = false) (hml : c.maxLocals = 8) (hown : s.vm.findClass RL = some m.cls) (htg : ∀ w ∈ lw_g, w.before args s = true) (hK : va_K D vwCl (um_T κ) s) (hJ : um_J τ A s s.heap) (hX : va_X b Ls xs s s.heap) (hbl : b < s.heap.size) (hbA : ¬ A b) (hLs : Ls ≤ 3072) (hfr : 11 ≤ R.frames) (hlo : 432 ≤ R.locals) (ok : tb_ok q) (h : lw_W D κ A s xd md o q H locs) (hl : lv_has ls 8 [(0, .ref b), (1, .ref (xd 0)), (2, .ref (md 13)), (3, .ref o), (4, .int (nI i))]) (hi : i + 6 ≤ Ls) (hc : cells + 5 ≤ R.cells) (hs : slots + 29 ≤ R.slots)
    (kk : ∀ (H1 : Heap) (locs1 : List Loc) (ls1 : Array Slot), lw_W D κ A s xd md o q H1 locs1 → lv_has ls1 8 [(0, .ref b), (1, .ref (xd 0)), (2, .ref (md 13)), (3, .ref o), (4, .int (nI i))] → W p l e R s m args below meth c H1 locs1 (cells + 5) (slots + 29) Q (F0 m 1281 ls1 [])) : W p l e R s m args below meth c H locs cells slots Q (F0 m 859 ls []) := by
  obtain ⟨π, σ, la, ma, va, sc, v, th, hxo, hmd, hU, hM, hap⟩ := h
  refine lv_aload_n hx hb dL_law_859 rfl (lv_at hl 1 rfl) ?_
  refine lv_aload_n hx hb dL_law_860 rfl (lv_at hl 0 rfl) ?_
  refine lv_iload hx hb dL_law_861 (lv_at hl 4 rfl) ?_
  refine lv_iconst (v := nI 1) hx hb dL_law_863 (by decide +kernel) ?_
  refine um_addN hx hb dL_law_864 ?_
  refine lw_sld hx hb hX hbl hbA hU.2.2.1 (j := i + 1) (by omega) hLs dL_law_865 ?_
  refine lv_aload_n hx hb dL_law_866 rfl (lv_at hl 0 rfl) ?_
  refine lv_iload hx hb dL_law_867 (lv_at hl 4 rfl) ?_
  refine lv_iconst (v := nI 2) hx hb dL_law_869 (by decide +kernel) ?_
  refine um_addN hx hb dL_law_870 ?_
  refine lw_sld hx hb hX hbl hbA hU.2.2.1 (j := i + 2) (by omega) hLs dL_law_871 ?_
  refine lv_aload_n hx hb dL_law_872 rfl (lv_at hl 0 rfl) ?_
  refine lv_iload hx hb dL_law_873 (lv_at hl 4 rfl) ?_
  refine lv_iconst (v := nI 3) hx hb dL_law_875 (by decide +kernel) ?_
  refine um_addN hx hb dL_law_876 ?_
  refine lw_sld hx hb hX hbl hbA hU.2.2.1 (j := i + 3) (by omega) hLs dL_law_877 ?_
  refine lv_aload_n hx hb dL_law_878 rfl (lv_at hl 0 rfl) ?_
  refine lv_iload hx hb dL_law_879 (lv_at hl 4 rfl) ?_
  refine lv_iconst (v := nI 4) hx hb dL_law_881 (by decide +kernel) ?_
  refine um_addN hx hb dL_law_882 ?_
  refine lw_sld hx hb hX hbl hbA hU.2.2.1 (j := i + 4) (by omega) hLs dL_law_883 ?_
  refine lv_aload_n hx hb dL_law_884 rfl (lv_at hl 3 rfl) ?_
  refine um_call2i (vx_runSW (As := [.ref (xd 0), .int (xs (i + 1)), .int (xs (i + 2)), .int (xs (i + 3)), .int (xs (i + 4)), .ref (o)]) (rest := []) ⟨hx, hb, hml, hown, htg⟩ (lh_value l D κ τ (um_Am A σ) π hst xd la ma va q sc o v hxo ok (xs (i + 1)) (xs (i + 2)) (xs (i + 3)) (xs (i + 4))) (vx_cwSW 6 htg (lw_cW tg_545 tg_546 tg_0 tg_547) rfl rfl rfl (by decide +kernel) ⟨Nat.le_trans (by decide) hfr, Nat.le_trans (by decide) hlo⟩) (um_preS2 hU hM hap hK hJ) rfl rfl hl.1 rfl (lv_room (Nat.le_of_ble_eq_true rfl)) dL_law_885 ⟨by omega, by omega⟩) hU hM (fun r9 π H locs hp hU hM hap => ?_)
  obtain ⟨rfl, la, ma, va, sc, v, hxo, hv⟩ := hp
  refine lv_istore (lv' := [(5, .int (nI (tbT_value q (xs (i + 1)) (xs (i + 2)) (xs (i + 3)) (xs (i + 4))))), (0, .ref b), (1, .ref (xd 0)), (2, .ref (md 13)), (3, .ref o), (4, .int (nI i))]) hx hb dL_law_888 hl (by decide) rfl (fun ls hl => ?_)
  refine lv_aload_n hx hb dL_law_890 rfl (lv_at hl 3 rfl) ?_
  refine lv_aload_n hx hb dL_law_891 rfl (lv_at hl 1 rfl) ?_
  refine lv_iload hx hb dL_law_892 (lv_at hl 5 rfl) ?_
  refine lv_iconst (v := nI 1) hx hb dL_law_894 (by decide +kernel) ?_
  refine um_addN hx hb dL_law_895 ?_
  refine lw_sld hx hb hX hbl hbA hU.2.2.1 (j := i + 1) (by omega) hLs dL_law_896 ?_
  refine lv_aload_n hx hb dL_law_897 rfl (lv_at hl 1 rfl) ?_
  refine lv_iload hx hb dL_law_898 (lv_at hl 5 rfl) ?_
  refine lv_iconst (v := nI 2) hx hb dL_law_900 (by decide +kernel) ?_
  refine um_addN hx hb dL_law_901 ?_
  refine lw_sld hx hb hX hbl hbA hU.2.2.1 (j := i + 2) (by omega) hLs dL_law_902 ?_
  refine lv_aload_n hx hb dL_law_903 rfl (lv_at hl 1 rfl) ?_
  refine lv_iload hx hb dL_law_904 (lv_at hl 5 rfl) ?_
  refine lv_iconst (v := nI 3) hx hb dL_law_906 (by decide +kernel) ?_
  refine um_addN hx hb dL_law_907 ?_
  refine lw_sld hx hb hX hbl hbA hU.2.2.1 (j := i + 3) (by omega) hLs dL_law_908 ?_
  refine lv_aload_n hx hb dL_law_909 rfl (lv_at hl 1 rfl) ?_
  refine lv_iload hx hb dL_law_910 (lv_at hl 5 rfl) ?_
  refine lv_iconst (v := nI 4) hx hb dL_law_912 (by decide +kernel) ?_
  refine um_addN hx hb dL_law_913 ?_
  refine lw_sld hx hb hX hbl hbA hU.2.2.1 (j := i + 4) (by omega) hLs dL_law_914 ?_
  refine um_call2i (va_runV (As := [.int (xs (i + 1)), .int (xs (i + 2)), .int (xs (i + 3)), .int (xs (i + 4))]) (rest := []) ⟨hx, hb, hml, hown, htg⟩ (mm_value l D κ τ (um_Am A π) σ md q th hmd ok.sm ok.m40 (xs (i + 1)) (xs (i + 2)) (xs (i + 3)) (xs (i + 4))) (cwV 4 htg (lw_cV tg_808 tg_809 tg_810 tg_8 tg_811) rfl rfl rfl (by decide +kernel) ⟨Nat.le_trans (by decide) hfr, Nat.le_trans (by decide) hlo⟩) (um_preV2 hM hU (fun b9 h9 z => hap b9 z h9) hK hJ hmd.obj rfl) rfl rfl hl.1 rfl (lv_room (Nat.le_of_ble_eq_true rfl)) dL_law_915 ⟨by omega, by omega⟩) hM hU (fun r9 σ H locs hp hM hU hap2 => ?_)
  obtain ⟨rfl, hmd⟩ := hp
  have hap : um_ap π σ := fun b9 h9 z => hap2 b9 z h9
  refine lv_istore (lv' := [(6, .int (nI (tbA_value q (xs (i + 1)) (xs (i + 2)) (xs (i + 3)) (xs (i + 4))))), (5, .int (nI (tbT_value q (xs (i + 1)) (xs (i + 2)) (xs (i + 3)) (xs (i + 4))))), (0, .ref b), (1, .ref (xd 0)), (2, .ref (md 13)), (3, .ref o), (4, .int (nI i))]) hx hb dL_law_918 hl (by decide) rfl (fun ls hl => ?_)
  refine lv_aload_n hx hb dL_law_920 rfl (lv_at hl 4 rfl) ?_
  refine um_call2i (va_runV (As := []) (rest := []) ⟨hx, hb, hml, hown, htg⟩ (mm_thrown l D κ τ (um_Am A π) σ md _ _ hmd) (cwV 0 htg (lw_cV tg_687 tg_688 tg_689 tg_8 tg_690) rfl rfl rfl (by decide +kernel) ⟨Nat.le_trans (by decide) hfr, Nat.le_trans (by decide) hlo⟩) (um_preV2 hM hU (fun b9 h9 z => hap b9 z h9) hK hJ hmd.obj rfl) rfl rfl hl.1 rfl (lv_room (Nat.le_of_ble_eq_true rfl)) dL_law_921 ⟨by omega, by omega⟩) hM hU (fun r9 σ2 H locs hp hM hU hap2 => ?_)
  obtain ⟨hr9, hs9⟩ := hp
  subst hr9
  rw [hs9] at hM hap2
  have hap : um_ap π σ := fun b9 h9 z => hap2 b9 z h9
  refine lv_iload hx hb dL_law_924 (lv_at hl 1 rfl) ?_
  refine lv_icmp_eq (tgt := 931) hx hb dL_law_926 (by decide) (fun _ => ?_) (fun z9 => absurd rfl z9)
  refine lv_iload hx hb dL_law_931 (lv_at hl 1 rfl) ?_
  refine um_ne0N (tgt := 948) hx hb dL_law_933 (by decide) (lw_T3 (by unfold tbT_value; repeat (first | decide | split))) (fun hT => ?_) (fun hT => ?_)
  · refine lv_goto (tgt := 1281) hx hb dL_law_948 (by decide) ?_
    exact W.widen (by omega) (by omega) (kk _ _ _ ⟨π, σ, la, ma, va, sc, v, _, hxo, hmd, hU, hM, hap⟩ (lv_sub hl [2, 3, 4, 5, 6] rfl))
  · refine lv_aload_n hx hb dL_law_936 rfl (lv_at hl 5 rfl) ?_
    refine lv_iconst (v := nI 0) hx hb dL_law_937 (by decide +kernel) ?_
    refine xo_lald hx hb hK hU hxo dL_law_938 ?_
    refine lv_iload hx hb dL_law_939 (lv_at hl 0 rfl) ?_
    refine lv_i2l hx hb dL_law_941 rfl ?_
    refine W.lcmp hx hb dL_law_942 ?_
    refine um_eqC (tgt := 948) hx hb dL_law_943 (by decide) (fun _ => ?_) (fun z9 => absurd (hv hT) z9)
    refine lv_goto (tgt := 1281) hx hb dL_law_948 (by decide) ?_
    exact W.widen (by omega) (by omega) (kk _ _ _ ⟨π, σ, la, ma, va, sc, v, _, hxo, hmd, hU, hM, hap⟩ (lv_sub hl [2, 3, 4, 5, 6] rfl))

set_option maxRecDepth 100000 in
set_option maxHeartbeats 4000000 in
theorem lc_candidate {p : Program} {l : Launch} {e : Env} {R : Room} {s : State} {m : MethodId} {args : Array Value} {below : List Frame} {meth : Method} {c : Code} {H : Heap} {locs : List Loc} {cells slots : Nat} {Q : State → Prop} {ls : Array Slot} {D : va_G} {A : Nat → Prop} {κ : Nat → ClassId} {τ : Nat → Nat} {xd md : Nat → Nat} {o b Ls i : Nat} {q : tb_Q} {xs : Nat → Int32} (hx : p.tables.exec = Jvm.exec) (hb : c.code = cL_law) (hst : l.stackTraces = false) (hml : c.maxLocals = 8) (hown : s.vm.findClass RL = some m.cls) (htg : ∀ w ∈ lw_g, w.before args s = true) (hK : va_K D vwCl (um_T κ) s) (hJ : um_J τ A s s.heap) (hX : va_X b Ls xs s s.heap) (hbl : b < s.heap.size) (hbA : ¬ A b) (hLs : Ls ≤ 3072) (hfr : 11 ≤ R.frames) (hlo : 432 ≤ R.locals) (ok : tb_ok q) (h : lw_W D κ A s xd md o q H locs) (hl : lv_has ls 8 [(0, .ref b), (1, .ref (xd 0)), (2, .ref (md 13)), (3, .ref o), (4, .int (nI i))]) (hi : i + 6 ≤ Ls) (hc : cells + 5 ≤ R.cells) (hs : slots + 29 ≤ R.slots)
    (kk : ∀ (H1 : Heap) (locs1 : List Loc) (ls1 : Array Slot), lw_W D κ A s xd md o q H1 locs1 → lv_has ls1 8 [(0, .ref b), (1, .ref (xd 0)), (2, .ref (md 13)), (3, .ref o), (4, .int (nI i))] → W p l e R s m args below meth c H1 locs1 (cells + 5) (slots + 29) Q (F0 m 1281 ls1 [])) : W p l e R s m args below meth c H locs cells slots Q (F0 m 951 ls []) := by
  obtain ⟨π, σ, la, ma, va, sc, v, th, hxo, hmd, hU, hM, hap⟩ := h
  refine lv_aload_n hx hb dL_law_951 rfl (lv_at hl 1 rfl) ?_
  refine lv_aload_n hx hb dL_law_952 rfl (lv_at hl 0 rfl) ?_
  refine lv_iload hx hb dL_law_953 (lv_at hl 4 rfl) ?_
  refine lv_iconst (v := nI 1) hx hb dL_law_955 (by decide +kernel) ?_
  refine um_addN hx hb dL_law_956 ?_
  refine lw_sld hx hb hX hbl hbA hU.2.2.1 (j := i + 1) (by omega) hLs dL_law_957 ?_
  refine lv_aload_n hx hb dL_law_958 rfl (lv_at hl 0 rfl) ?_
  refine lv_iload hx hb dL_law_959 (lv_at hl 4 rfl) ?_
  refine lv_iconst (v := nI 2) hx hb dL_law_961 (by decide +kernel) ?_
  refine um_addN hx hb dL_law_962 ?_
  refine lw_sld hx hb hX hbl hbA hU.2.2.1 (j := i + 2) (by omega) hLs dL_law_963 ?_
  refine lv_aload_n hx hb dL_law_964 rfl (lv_at hl 0 rfl) ?_
  refine lv_iload hx hb dL_law_965 (lv_at hl 4 rfl) ?_
  refine lv_iconst (v := nI 3) hx hb dL_law_967 (by decide +kernel) ?_
  refine um_addN hx hb dL_law_968 ?_
  refine lw_sld hx hb hX hbl hbA hU.2.2.1 (j := i + 3) (by omega) hLs dL_law_969 ?_
  refine lv_aload_n hx hb dL_law_970 rfl (lv_at hl 0 rfl) ?_
  refine lv_iload hx hb dL_law_971 (lv_at hl 4 rfl) ?_
  refine lv_iconst (v := nI 4) hx hb dL_law_973 (by decide +kernel) ?_
  refine um_addN hx hb dL_law_974 ?_
  refine lw_sld hx hb hX hbl hbA hU.2.2.1 (j := i + 4) (by omega) hLs dL_law_975 ?_
  refine lv_aload_n hx hb dL_law_976 rfl (lv_at hl 0 rfl) ?_
  refine lv_iload hx hb dL_law_977 (lv_at hl 4 rfl) ?_
  refine lv_iconst (v := nI 5) hx hb dL_law_979 (by decide +kernel) ?_
  refine um_addN hx hb dL_law_980 ?_
  refine lw_sld hx hb hX hbl hbA hU.2.2.1 (j := i + 5) (by omega) hLs dL_law_981 ?_
  refine lv_aload_n hx hb dL_law_982 rfl (lv_at hl 3 rfl) ?_
  refine um_call2i (vx_runSW (As := [.ref (xd 0), .int (xs (i + 1)), .int (xs (i + 2)), .int (xs (i + 3)), .int (xs (i + 4)), .int (xs (i + 5)), .ref (o)]) (rest := []) ⟨hx, hb, hml, hown, htg⟩ (lh_candidate l D κ τ (um_Am A σ) π hst xd la ma va q sc o v hxo ok (xs (i + 1)) (xs (i + 2)) (xs (i + 3)) (xs (i + 4)) (xs (i + 5))) (vx_cwSW 7 htg (lw_cW tg_556 tg_557 tg_0 tg_558) rfl rfl rfl (by decide +kernel) ⟨Nat.le_trans (by decide) hfr, Nat.le_trans (by decide) hlo⟩) (um_preS2 hU hM hap hK hJ) rfl rfl hl.1 rfl (lv_room (Nat.le_of_ble_eq_true rfl)) dL_law_983 ⟨by omega, by omega⟩) hU hM (fun r9 π H locs hp hU hM hap => ?_)
  obtain ⟨rfl, la, ma, va, sc, v, hxo, hv⟩ := hp
  refine lv_istore (lv' := [(5, .int (nI (tbT_candidate (xs (i + 1)) (xs (i + 2)) (xs (i + 3)) (xs (i + 4)) (xs (i + 5))))), (0, .ref b), (1, .ref (xd 0)), (2, .ref (md 13)), (3, .ref o), (4, .int (nI i))]) hx hb dL_law_986 hl (by decide) rfl (fun ls hl => ?_)
  refine lv_aload_n hx hb dL_law_988 rfl (lv_at hl 3 rfl) ?_
  refine lv_aload_n hx hb dL_law_989 rfl (lv_at hl 1 rfl) ?_
  refine lv_iload hx hb dL_law_990 (lv_at hl 5 rfl) ?_
  refine lv_iconst (v := nI 1) hx hb dL_law_992 (by decide +kernel) ?_
  refine um_addN hx hb dL_law_993 ?_
  refine lw_sld hx hb hX hbl hbA hU.2.2.1 (j := i + 1) (by omega) hLs dL_law_994 ?_
  refine lv_aload_n hx hb dL_law_995 rfl (lv_at hl 1 rfl) ?_
  refine lv_iload hx hb dL_law_996 (lv_at hl 5 rfl) ?_
  refine lv_iconst (v := nI 2) hx hb dL_law_998 (by decide +kernel) ?_
  refine um_addN hx hb dL_law_999 ?_
  refine lw_sld hx hb hX hbl hbA hU.2.2.1 (j := i + 2) (by omega) hLs dL_law_1000 ?_
  refine lv_aload_n hx hb dL_law_1001 rfl (lv_at hl 1 rfl) ?_
  refine lv_iload hx hb dL_law_1002 (lv_at hl 5 rfl) ?_
  refine lv_iconst (v := nI 3) hx hb dL_law_1004 (by decide +kernel) ?_
  refine um_addN hx hb dL_law_1005 ?_
  refine lw_sld hx hb hX hbl hbA hU.2.2.1 (j := i + 3) (by omega) hLs dL_law_1006 ?_
  refine lv_aload_n hx hb dL_law_1007 rfl (lv_at hl 1 rfl) ?_
  refine lv_iload hx hb dL_law_1008 (lv_at hl 5 rfl) ?_
  refine lv_iconst (v := nI 4) hx hb dL_law_1010 (by decide +kernel) ?_
  refine um_addN hx hb dL_law_1011 ?_
  refine lw_sld hx hb hX hbl hbA hU.2.2.1 (j := i + 4) (by omega) hLs dL_law_1012 ?_
  refine lv_aload_n hx hb dL_law_1013 rfl (lv_at hl 1 rfl) ?_
  refine lv_iload hx hb dL_law_1014 (lv_at hl 5 rfl) ?_
  refine lv_iconst (v := nI 5) hx hb dL_law_1016 (by decide +kernel) ?_
  refine um_addN hx hb dL_law_1017 ?_
  refine lw_sld hx hb hX hbl hbA hU.2.2.1 (j := i + 5) (by omega) hLs dL_law_1018 ?_
  refine um_call2i (va_runV (As := [.int (xs (i + 1)), .int (xs (i + 2)), .int (xs (i + 3)), .int (xs (i + 4)), .int (xs (i + 5))]) (rest := []) ⟨hx, hb, hml, hown, htg⟩ (mm_candidate l D κ τ (um_Am A π) σ md q th hmd ok.sm (xs (i + 1)) (xs (i + 2)) (xs (i + 3)) (xs (i + 4)) (xs (i + 5))) (cwV 5 htg (lw_cV tg_812 tg_813 tg_814 tg_8 tg_815) rfl rfl rfl (by decide +kernel) ⟨Nat.le_trans (by decide) hfr, Nat.le_trans (by decide) hlo⟩) (um_preV2 hM hU (fun b9 h9 z => hap b9 z h9) hK hJ hmd.obj rfl) rfl rfl hl.1 rfl (lv_room (Nat.le_of_ble_eq_true rfl)) dL_law_1019 ⟨by omega, by omega⟩) hM hU (fun r9 σ H locs hp hM hU hap2 => ?_)
  obtain ⟨rfl, hmd⟩ := hp
  have hap : um_ap π σ := fun b9 h9 z => hap2 b9 z h9
  refine lv_istore (lv' := [(6, .int (tbA_candidate q (xs (i + 1)) (xs (i + 2)) (xs (i + 3)) (xs (i + 4)) (xs (i + 5)))), (5, .int (nI (tbT_candidate (xs (i + 1)) (xs (i + 2)) (xs (i + 3)) (xs (i + 4)) (xs (i + 5))))), (0, .ref b), (1, .ref (xd 0)), (2, .ref (md 13)), (3, .ref o), (4, .int (nI i))]) hx hb dL_law_1022 hl (by decide) rfl (fun ls hl => ?_)
  refine lv_aload_n hx hb dL_law_1024 rfl (lv_at hl 4 rfl) ?_
  refine um_call2i (va_runV (As := []) (rest := []) ⟨hx, hb, hml, hown, htg⟩ (mm_thrown l D κ τ (um_Am A π) σ md _ _ hmd) (cwV 0 htg (lw_cV tg_687 tg_688 tg_689 tg_8 tg_690) rfl rfl rfl (by decide +kernel) ⟨Nat.le_trans (by decide) hfr, Nat.le_trans (by decide) hlo⟩) (um_preV2 hM hU (fun b9 h9 z => hap b9 z h9) hK hJ hmd.obj rfl) rfl rfl hl.1 rfl (lv_room (Nat.le_of_ble_eq_true rfl)) dL_law_1025 ⟨by omega, by omega⟩) hM hU (fun r9 σ2 H locs hp hM hU hap2 => ?_)
  obtain ⟨hr9, hs9⟩ := hp
  subst hr9
  rw [hs9] at hM hap2
  have hap : um_ap π σ := fun b9 h9 z => hap2 b9 z h9
  refine lv_iload hx hb dL_law_1028 (lv_at hl 1 rfl) ?_
  refine lv_icmp_eq (tgt := 1035) hx hb dL_law_1030 (by decide) (fun _ => ?_) (fun z9 => absurd rfl z9)
  refine lv_iload hx hb dL_law_1035 (lv_at hl 1 rfl) ?_
  refine um_ne0N (tgt := 1052) hx hb dL_law_1037 (by decide) (lw_T3 (by unfold tbT_candidate; repeat (first | decide | split))) (fun hT => ?_) (fun hT => ?_)
  · refine lv_goto (tgt := 1281) hx hb dL_law_1052 (by decide) ?_
    exact W.widen (by omega) (by omega) (kk _ _ _ ⟨π, σ, la, ma, va, sc, v, _, hxo, hmd, hU, hM, hap⟩ (lv_sub hl [2, 3, 4, 5, 6] rfl))
  · refine lv_aload_n hx hb dL_law_1040 rfl (lv_at hl 5 rfl) ?_
    refine lv_iconst (v := nI 0) hx hb dL_law_1041 (by decide +kernel) ?_
    refine xo_lald hx hb hK hU hxo dL_law_1042 ?_
    refine lv_iload hx hb dL_law_1043 (lv_at hl 0 rfl) ?_
    refine lv_i2l hx hb dL_law_1045 rfl ?_
    refine W.lcmp hx hb dL_law_1046 ?_
    refine um_eqC (tgt := 1052) hx hb dL_law_1047 (by decide) (fun _ => ?_) (fun z9 => absurd (hv hT) z9)
    refine lv_goto (tgt := 1281) hx hb dL_law_1052 (by decide) ?_
    exact W.widen (by omega) (by omega) (kk _ _ _ ⟨π, σ, la, ma, va, sc, v, _, hxo, hmd, hU, hM, hap⟩ (lv_sub hl [2, 3, 4, 5, 6] rfl))

set_option maxRecDepth 100000 in
set_option maxHeartbeats 4000000 in
theorem lc_conflict {p : Program} {l : Launch} {e : Env} {R : Room} {s : State} {m : MethodId} {args : Array Value} {below : List Frame} {meth : Method} {c : Code} {H : Heap} {locs : List Loc} {cells slots : Nat} {Q : State → Prop} {ls : Array Slot} {D : va_G} {A : Nat → Prop} {κ : Nat → ClassId} {τ : Nat → Nat} {xd md : Nat → Nat} {o b Ls i : Nat} {q : tb_Q} {xs : Nat → Int32} (hx : p.tables.exec = Jvm.exec) (hb : c.code = cL_law) (hst : l.stackTraces = false) (hml : c.maxLocals = 8) (hown : s.vm.findClass RL = some m.cls) (htg : ∀ w ∈ lw_g, w.before args s = true) (hK : va_K D vwCl (um_T κ) s) (hJ : um_J τ A s s.heap) (hX : va_X b Ls xs s s.heap) (hbl : b < s.heap.size) (hbA : ¬ A b) (hLs : Ls ≤ 3072) (hfr : 11 ≤ R.frames) (hlo : 432 ≤ R.locals) (ok : tb_ok q) (h : lw_W D κ A s xd md o q H locs) (hl : lv_has ls 8 [(0, .ref b), (1, .ref (xd 0)), (2, .ref (md 13)), (3, .ref o), (4, .int (nI i))]) (hi : i + 6 ≤ Ls) (hc : cells + 5 ≤ R.cells) (hs : slots + 29 ≤ R.slots)
    (kk : ∀ (H1 : Heap) (locs1 : List Loc) (ls1 : Array Slot), lw_W D κ A s xd md o q H1 locs1 → lv_has ls1 8 [(0, .ref b), (1, .ref (xd 0)), (2, .ref (md 13)), (3, .ref o), (4, .int (nI i))] → W p l e R s m args below meth c H1 locs1 (cells + 5) (slots + 29) Q (F0 m 1281 ls1 [])) : W p l e R s m args below meth c H locs cells slots Q (F0 m 1055 ls []) := by
  obtain ⟨π, σ, la, ma, va, sc, v, th, hxo, hmd, hU, hM, hap⟩ := h
  refine lv_aload_n hx hb dL_law_1055 rfl (lv_at hl 1 rfl) ?_
  refine lv_aload_n hx hb dL_law_1056 rfl (lv_at hl 0 rfl) ?_
  refine lv_iload hx hb dL_law_1057 (lv_at hl 4 rfl) ?_
  refine lv_iconst (v := nI 1) hx hb dL_law_1059 (by decide +kernel) ?_
  refine um_addN hx hb dL_law_1060 ?_
  refine lw_sld hx hb hX hbl hbA hU.2.2.1 (j := i + 1) (by omega) hLs dL_law_1061 ?_
  refine lv_aload_n hx hb dL_law_1062 rfl (lv_at hl 0 rfl) ?_
  refine lv_iload hx hb dL_law_1063 (lv_at hl 4 rfl) ?_
  refine lv_iconst (v := nI 2) hx hb dL_law_1065 (by decide +kernel) ?_
  refine um_addN hx hb dL_law_1066 ?_
  refine lw_sld hx hb hX hbl hbA hU.2.2.1 (j := i + 2) (by omega) hLs dL_law_1067 ?_
  refine lv_aload_n hx hb dL_law_1068 rfl (lv_at hl 3 rfl) ?_
  refine um_call2i (vx_runSW (As := [.ref (xd 0), .int (xs (i + 1)), .int (xs (i + 2)), .ref (o)]) (rest := []) ⟨hx, hb, hml, hown, htg⟩ (lh_conflict l D κ τ (um_Am A σ) π hst xd la ma va q sc o v hxo ok (xs (i + 1)) (xs (i + 2))) (vx_cwSW 4 htg (lw_cW tg_567 tg_568 tg_0 tg_569) rfl rfl rfl (by decide +kernel) ⟨Nat.le_trans (by decide) hfr, Nat.le_trans (by decide) hlo⟩) (um_preS2 hU hM hap hK hJ) rfl rfl hl.1 rfl (lv_room (Nat.le_of_ble_eq_true rfl)) dL_law_1069 ⟨by omega, by omega⟩) hU hM (fun r9 π H locs hp hU hM hap => ?_)
  obtain ⟨rfl, la, ma, va, sc, v, hxo, hv⟩ := hp
  refine lv_istore (lv' := [(5, .int (nI (tbT_conflict (xs (i + 1)) (xs (i + 2))))), (0, .ref b), (1, .ref (xd 0)), (2, .ref (md 13)), (3, .ref o), (4, .int (nI i))]) hx hb dL_law_1072 hl (by decide) rfl (fun ls hl => ?_)
  refine lv_aload_n hx hb dL_law_1074 rfl (lv_at hl 3 rfl) ?_
  refine lv_aload_n hx hb dL_law_1075 rfl (lv_at hl 1 rfl) ?_
  refine lv_iload hx hb dL_law_1076 (lv_at hl 5 rfl) ?_
  refine lv_iconst (v := nI 1) hx hb dL_law_1078 (by decide +kernel) ?_
  refine um_addN hx hb dL_law_1079 ?_
  refine lw_sld hx hb hX hbl hbA hU.2.2.1 (j := i + 1) (by omega) hLs dL_law_1080 ?_
  refine lv_aload_n hx hb dL_law_1081 rfl (lv_at hl 1 rfl) ?_
  refine lv_iload hx hb dL_law_1082 (lv_at hl 5 rfl) ?_
  refine lv_iconst (v := nI 2) hx hb dL_law_1084 (by decide +kernel) ?_
  refine um_addN hx hb dL_law_1085 ?_
  refine lw_sld hx hb hX hbl hbA hU.2.2.1 (j := i + 2) (by omega) hLs dL_law_1086 ?_
  refine um_call2i (va_runV (As := [.int (xs (i + 1)), .int (xs (i + 2))]) (rest := []) ⟨hx, hb, hml, hown, htg⟩ (mm_conflict l D κ τ (um_Am A π) σ md q th hmd ok.sm ok.m40 (xs (i + 1)) (xs (i + 2))) (cwV 2 htg (lw_cV tg_816 tg_817 tg_818 tg_8 tg_819) rfl rfl rfl (by decide +kernel) ⟨Nat.le_trans (by decide) hfr, Nat.le_trans (by decide) hlo⟩) (um_preV2 hM hU (fun b9 h9 z => hap b9 z h9) hK hJ hmd.obj rfl) rfl rfl hl.1 rfl (lv_room (Nat.le_of_ble_eq_true rfl)) dL_law_1087 ⟨by omega, by omega⟩) hM hU (fun r9 σ H locs hp hM hU hap2 => ?_)
  obtain ⟨rfl, hmd⟩ := hp
  have hap : um_ap π σ := fun b9 h9 z => hap2 b9 z h9
  refine lv_istore (lv' := [(6, .int (tbA_conflict q (xs (i + 1)) (xs (i + 2)))), (5, .int (nI (tbT_conflict (xs (i + 1)) (xs (i + 2))))), (0, .ref b), (1, .ref (xd 0)), (2, .ref (md 13)), (3, .ref o), (4, .int (nI i))]) hx hb dL_law_1090 hl (by decide) rfl (fun ls hl => ?_)
  refine lv_aload_n hx hb dL_law_1092 rfl (lv_at hl 4 rfl) ?_
  refine um_call2i (va_runV (As := []) (rest := []) ⟨hx, hb, hml, hown, htg⟩ (mm_thrown l D κ τ (um_Am A π) σ md _ _ hmd) (cwV 0 htg (lw_cV tg_687 tg_688 tg_689 tg_8 tg_690) rfl rfl rfl (by decide +kernel) ⟨Nat.le_trans (by decide) hfr, Nat.le_trans (by decide) hlo⟩) (um_preV2 hM hU (fun b9 h9 z => hap b9 z h9) hK hJ hmd.obj rfl) rfl rfl hl.1 rfl (lv_room (Nat.le_of_ble_eq_true rfl)) dL_law_1093 ⟨by omega, by omega⟩) hM hU (fun r9 σ2 H locs hp hM hU hap2 => ?_)
  obtain ⟨hr9, hs9⟩ := hp
  subst hr9
  rw [hs9] at hM hap2
  have hap : um_ap π σ := fun b9 h9 z => hap2 b9 z h9
  refine lv_iload hx hb dL_law_1096 (lv_at hl 1 rfl) ?_
  refine lv_icmp_eq (tgt := 1103) hx hb dL_law_1098 (by decide) (fun _ => ?_) (fun z9 => absurd rfl z9)
  refine lv_iload hx hb dL_law_1103 (lv_at hl 1 rfl) ?_
  refine um_ne0N (tgt := 1120) hx hb dL_law_1105 (by decide) (lw_T3 (by unfold tbT_conflict; repeat (first | decide | split))) (fun hT => ?_) (fun hT => ?_)
  · refine lv_goto (tgt := 1281) hx hb dL_law_1120 (by decide) ?_
    exact W.widen (by omega) (by omega) (kk _ _ _ ⟨π, σ, la, ma, va, sc, v, _, hxo, hmd, hU, hM, hap⟩ (lv_sub hl [2, 3, 4, 5, 6] rfl))
  · refine lv_aload_n hx hb dL_law_1108 rfl (lv_at hl 5 rfl) ?_
    refine lv_iconst (v := nI 0) hx hb dL_law_1109 (by decide +kernel) ?_
    refine xo_lald hx hb hK hU hxo dL_law_1110 ?_
    refine lv_iload hx hb dL_law_1111 (lv_at hl 0 rfl) ?_
    refine lv_i2l hx hb dL_law_1113 rfl ?_
    refine W.lcmp hx hb dL_law_1114 ?_
    refine um_eqC (tgt := 1120) hx hb dL_law_1115 (by decide) (fun _ => ?_) (fun z9 => absurd (hv hT) z9)
    refine lv_goto (tgt := 1281) hx hb dL_law_1120 (by decide) ?_
    exact W.widen (by omega) (by omega) (kk _ _ _ ⟨π, σ, la, ma, va, sc, v, _, hxo, hmd, hU, hM, hap⟩ (lv_sub hl [2, 3, 4, 5, 6] rfl))

set_option maxRecDepth 100000 in
set_option maxHeartbeats 4000000 in
theorem lc_plot {p : Program} {l : Launch} {e : Env} {R : Room} {s : State} {m : MethodId} {args : Array Value} {below : List Frame} {meth : Method} {c : Code} {H : Heap} {locs : List Loc} {cells slots : Nat} {Q : State → Prop} {ls : Array Slot} {D : va_G} {A : Nat → Prop} {κ : Nat → ClassId} {τ : Nat → Nat} {xd md : Nat → Nat} {o b Ls i : Nat} {q : tb_Q} {xs : Nat → Int32} (hx : p.tables.exec = Jvm.exec) (hb : c.code = cL_law) (hst : l.stackTraces = false) (hml : c.maxLocals = 8) (hown : s.vm.findClass RL = some m.cls) (htg : ∀ w ∈ lw_g, w.before args s = true) (hK : va_K D vwCl (um_T κ) s) (hJ : um_J τ A s s.heap) (hX : va_X b Ls xs s s.heap) (hbl : b < s.heap.size) (hbA : ¬ A b) (hLs : Ls ≤ 3072) (hfr : 11 ≤ R.frames) (hlo : 432 ≤ R.locals) (ok : tb_ok q) (h : lw_W D κ A s xd md o q H locs) (hl : lv_has ls 8 [(0, .ref b), (1, .ref (xd 0)), (2, .ref (md 13)), (3, .ref o), (4, .int (nI i))]) (hi : i + 6 ≤ Ls) (hc : cells + 5 ≤ R.cells) (hs : slots + 29 ≤ R.slots)
    (kk : ∀ (H1 : Heap) (locs1 : List Loc) (ls1 : Array Slot), lw_W D κ A s xd md o q H1 locs1 → lv_has ls1 8 [(0, .ref b), (1, .ref (xd 0)), (2, .ref (md 13)), (3, .ref o), (4, .int (nI i))] → W p l e R s m args below meth c H1 locs1 (cells + 5) (slots + 29) Q (F0 m 1281 ls1 [])) : W p l e R s m args below meth c H locs cells slots Q (F0 m 1123 ls []) := by
  obtain ⟨π, σ, la, ma, va, sc, v, th, hxo, hmd, hU, hM, hap⟩ := h
  refine lv_aload_n hx hb dL_law_1123 rfl (lv_at hl 1 rfl) ?_
  refine lv_aload_n hx hb dL_law_1124 rfl (lv_at hl 0 rfl) ?_
  refine lv_iload hx hb dL_law_1125 (lv_at hl 4 rfl) ?_
  refine lv_iconst (v := nI 1) hx hb dL_law_1127 (by decide +kernel) ?_
  refine um_addN hx hb dL_law_1128 ?_
  refine lw_sld hx hb hX hbl hbA hU.2.2.1 (j := i + 1) (by omega) hLs dL_law_1129 ?_
  refine lv_aload_n hx hb dL_law_1130 rfl (lv_at hl 0 rfl) ?_
  refine lv_iload hx hb dL_law_1131 (lv_at hl 4 rfl) ?_
  refine lv_iconst (v := nI 2) hx hb dL_law_1133 (by decide +kernel) ?_
  refine um_addN hx hb dL_law_1134 ?_
  refine lw_sld hx hb hX hbl hbA hU.2.2.1 (j := i + 2) (by omega) hLs dL_law_1135 ?_
  refine lv_aload_n hx hb dL_law_1136 rfl (lv_at hl 0 rfl) ?_
  refine lv_iload hx hb dL_law_1137 (lv_at hl 4 rfl) ?_
  refine lv_iconst (v := nI 3) hx hb dL_law_1139 (by decide +kernel) ?_
  refine um_addN hx hb dL_law_1140 ?_
  refine lw_sld hx hb hX hbl hbA hU.2.2.1 (j := i + 3) (by omega) hLs dL_law_1141 ?_
  refine lv_aload_n hx hb dL_law_1142 rfl (lv_at hl 3 rfl) ?_
  refine um_call2i (vx_runSW (As := [.ref (xd 0), .int (xs (i + 1)), .int (xs (i + 2)), .int (xs (i + 3)), .ref (o)]) (rest := []) ⟨hx, hb, hml, hown, htg⟩ (lh_plot l D κ τ (um_Am A σ) π hst xd la ma va q sc o v hxo ok (xs (i + 1)) (xs (i + 2)) (xs (i + 3))) (vx_cwSW 5 htg (lw_cW tg_574 tg_575 tg_0 tg_576) rfl rfl rfl (by decide +kernel) ⟨Nat.le_trans (by decide) hfr, Nat.le_trans (by decide) hlo⟩) (um_preS2 hU hM hap hK hJ) rfl rfl hl.1 rfl (lv_room (Nat.le_of_ble_eq_true rfl)) dL_law_1143 ⟨by omega, by omega⟩) hU hM (fun r9 π H locs hp hU hM hap => ?_)
  obtain ⟨rfl, la, ma, va, sc, v, hxo, hv⟩ := hp
  refine lv_istore (lv' := [(5, .int (nI (tbT_plot (xs (i + 1)) (xs (i + 2)) (xs (i + 3))))), (0, .ref b), (1, .ref (xd 0)), (2, .ref (md 13)), (3, .ref o), (4, .int (nI i))]) hx hb dL_law_1146 hl (by decide) rfl (fun ls hl => ?_)
  refine lv_aload_n hx hb dL_law_1148 rfl (lv_at hl 3 rfl) ?_
  refine lv_aload_n hx hb dL_law_1149 rfl (lv_at hl 1 rfl) ?_
  refine lv_iload hx hb dL_law_1150 (lv_at hl 5 rfl) ?_
  refine lv_iconst (v := nI 1) hx hb dL_law_1152 (by decide +kernel) ?_
  refine um_addN hx hb dL_law_1153 ?_
  refine lw_sld hx hb hX hbl hbA hU.2.2.1 (j := i + 1) (by omega) hLs dL_law_1154 ?_
  refine lv_aload_n hx hb dL_law_1155 rfl (lv_at hl 1 rfl) ?_
  refine lv_iload hx hb dL_law_1156 (lv_at hl 5 rfl) ?_
  refine lv_iconst (v := nI 2) hx hb dL_law_1158 (by decide +kernel) ?_
  refine um_addN hx hb dL_law_1159 ?_
  refine lw_sld hx hb hX hbl hbA hU.2.2.1 (j := i + 2) (by omega) hLs dL_law_1160 ?_
  refine lv_aload_n hx hb dL_law_1161 rfl (lv_at hl 1 rfl) ?_
  refine lv_iload hx hb dL_law_1162 (lv_at hl 5 rfl) ?_
  refine lv_iconst (v := nI 3) hx hb dL_law_1164 (by decide +kernel) ?_
  refine um_addN hx hb dL_law_1165 ?_
  refine lw_sld hx hb hX hbl hbA hU.2.2.1 (j := i + 3) (by omega) hLs dL_law_1166 ?_
  refine um_call2l (va_runV (As := [.int (xs (i + 1)), .int (xs (i + 2)), .int (xs (i + 3))]) (rest := []) ⟨hx, hb, hml, hown, htg⟩ (mm_plot l D κ τ (um_Am A π) σ md q th hmd ok.sm ok.sp (xs (i + 1)) (xs (i + 2)) (xs (i + 3))) (cwV 3 htg (lw_cV tg_820 tg_821 tg_822 tg_8 tg_823) rfl rfl rfl (by decide +kernel) ⟨Nat.le_trans (by decide) hfr, Nat.le_trans (by decide) hlo⟩) (um_preV2 hM hU (fun b9 h9 z => hap b9 z h9) hK hJ hmd.obj rfl) rfl rfl hl.1 rfl (lv_room (Nat.le_of_ble_eq_true rfl)) dL_law_1167 ⟨by omega, by omega⟩) hM hU (fun r9 σ H locs hp hM hU hap2 => ?_)
  obtain ⟨rfl, hmd⟩ := hp
  have hap : um_ap π σ := fun b9 h9 z => hap2 b9 z h9
  refine lv_lstore (lv' := [(6, .long (tbA_plot q (xs (i + 1)) (xs (i + 2)) (xs (i + 3)))), (5, .int (nI (tbT_plot (xs (i + 1)) (xs (i + 2)) (xs (i + 3))))), (0, .ref b), (1, .ref (xd 0)), (2, .ref (md 13)), (3, .ref o), (4, .int (nI i))]) hx hb dL_law_1170 hl (by decide) rfl (fun ls hl => ?_)
  refine lv_aload_n hx hb dL_law_1172 rfl (lv_at hl 4 rfl) ?_
  refine um_call2i (va_runV (As := []) (rest := []) ⟨hx, hb, hml, hown, htg⟩ (mm_thrown l D κ τ (um_Am A π) σ md _ _ hmd) (cwV 0 htg (lw_cV tg_687 tg_688 tg_689 tg_8 tg_690) rfl rfl rfl (by decide +kernel) ⟨Nat.le_trans (by decide) hfr, Nat.le_trans (by decide) hlo⟩) (um_preV2 hM hU (fun b9 h9 z => hap b9 z h9) hK hJ hmd.obj rfl) rfl rfl hl.1 rfl (lv_room (Nat.le_of_ble_eq_true rfl)) dL_law_1173 ⟨by omega, by omega⟩) hM hU (fun r9 σ2 H locs hp hM hU hap2 => ?_)
  obtain ⟨hr9, hs9⟩ := hp
  subst hr9
  rw [hs9] at hM hap2
  have hap : um_ap π σ := fun b9 h9 z => hap2 b9 z h9
  refine lv_iload hx hb dL_law_1176 (lv_at hl 1 rfl) ?_
  refine lv_icmp_eq (tgt := 1183) hx hb dL_law_1178 (by decide) (fun _ => ?_) (fun z9 => absurd rfl z9)
  refine lv_iload hx hb dL_law_1183 (lv_at hl 1 rfl) ?_
  refine um_ne0N (tgt := 1199) hx hb dL_law_1185 (by decide) (lw_T3 (by unfold tbT_plot; repeat (first | decide | split))) (fun hT => ?_) (fun hT => ?_)
  · refine lv_goto (tgt := 1281) hx hb dL_law_1199 (by decide) ?_
    exact W.widen (by omega) (by omega) (kk _ _ _ ⟨π, σ, la, ma, va, sc, v, _, hxo, hmd, hU, hM, hap⟩ (lv_sub hl [2, 3, 4, 5, 6] rfl))
  · refine lv_aload_n hx hb dL_law_1188 rfl (lv_at hl 5 rfl) ?_
    refine lv_iconst (v := nI 0) hx hb dL_law_1189 (by decide +kernel) ?_
    refine xo_lald hx hb hK hU hxo dL_law_1190 ?_
    refine lv_lload hx hb dL_law_1191 (lv_at hl 0 rfl) ?_
    refine W.lcmp hx hb dL_law_1193 ?_
    refine um_eqC (tgt := 1199) hx hb dL_law_1194 (by decide) (fun _ => ?_) (fun z9 => absurd (hv hT) z9)
    refine lv_goto (tgt := 1281) hx hb dL_law_1199 (by decide) ?_
    exact W.widen (by omega) (by omega) (kk _ _ _ ⟨π, σ, la, ma, va, sc, v, _, hxo, hmd, hU, hM, hap⟩ (lv_sub hl [2, 3, 4, 5, 6] rfl))

set_option maxRecDepth 100000 in
set_option maxHeartbeats 4000000 in
theorem lc_total {p : Program} {l : Launch} {e : Env} {R : Room} {s : State} {m : MethodId} {args : Array Value} {below : List Frame} {meth : Method} {c : Code} {H : Heap} {locs : List Loc} {cells slots : Nat} {Q : State → Prop} {ls : Array Slot} {D : va_G} {A : Nat → Prop} {κ : Nat → ClassId} {τ : Nat → Nat} {xd md : Nat → Nat} {o b Ls i : Nat} {q : tb_Q} {xs : Nat → Int32} (hx : p.tables.exec = Jvm.exec) (hb : c.code = cL_law) (hst : l.stackTraces = false) (hml : c.maxLocals = 8) (hown : s.vm.findClass RL = some m.cls) (htg : ∀ w ∈ lw_g, w.before args s = true) (hK : va_K D vwCl (um_T κ) s) (hJ : um_J τ A s s.heap) (hX : va_X b Ls xs s s.heap) (hbl : b < s.heap.size) (hbA : ¬ A b) (hLs : Ls ≤ 3072) (hfr : 11 ≤ R.frames) (hlo : 432 ≤ R.locals) (ok : tb_ok q) (h : lw_W D κ A s xd md o q H locs) (hl : lv_has ls 8 [(0, .ref b), (1, .ref (xd 0)), (2, .ref (md 13)), (3, .ref o), (4, .int (nI i))]) (hi : i + 6 ≤ Ls) (hc : cells + 5 ≤ R.cells) (hs : slots + 29 ≤ R.slots)
    (kk : ∀ (H1 : Heap) (locs1 : List Loc) (ls1 : Array Slot), lw_W D κ A s xd md o q H1 locs1 → lv_has ls1 8 [(0, .ref b), (1, .ref (xd 0)), (2, .ref (md 13)), (3, .ref o), (4, .int (nI i))] → W p l e R s m args below meth c H1 locs1 (cells + 5) (slots + 29) Q (F0 m 1281 ls1 [])) : W p l e R s m args below meth c H locs cells slots Q (F0 m 1202 ls []) := by
  obtain ⟨π, σ, la, ma, va, sc, v, th, hxo, hmd, hU, hM, hap⟩ := h
  refine lv_aload_n hx hb dL_law_1202 rfl (lv_at hl 1 rfl) ?_
  refine lv_aload_n hx hb dL_law_1203 rfl (lv_at hl 0 rfl) ?_
  refine lv_iload hx hb dL_law_1204 (lv_at hl 4 rfl) ?_
  refine lv_iconst (v := nI 1) hx hb dL_law_1206 (by decide +kernel) ?_
  refine um_addN hx hb dL_law_1207 ?_
  refine lw_sld hx hb hX hbl hbA hU.2.2.1 (j := i + 1) (by omega) hLs dL_law_1208 ?_
  refine lv_aload_n hx hb dL_law_1209 rfl (lv_at hl 0 rfl) ?_
  refine lv_iload hx hb dL_law_1210 (lv_at hl 4 rfl) ?_
  refine lv_iconst (v := nI 2) hx hb dL_law_1212 (by decide +kernel) ?_
  refine um_addN hx hb dL_law_1213 ?_
  refine lw_sld hx hb hX hbl hbA hU.2.2.1 (j := i + 2) (by omega) hLs dL_law_1214 ?_
  refine lv_aload_n hx hb dL_law_1215 rfl (lv_at hl 0 rfl) ?_
  refine lv_iload hx hb dL_law_1216 (lv_at hl 4 rfl) ?_
  refine lv_iconst (v := nI 3) hx hb dL_law_1218 (by decide +kernel) ?_
  refine um_addN hx hb dL_law_1219 ?_
  refine lw_sld hx hb hX hbl hbA hU.2.2.1 (j := i + 3) (by omega) hLs dL_law_1220 ?_
  refine lv_aload_n hx hb dL_law_1221 rfl (lv_at hl 3 rfl) ?_
  refine um_call2i (vx_runSW (As := [.ref (xd 0), .int (xs (i + 1)), .int (xs (i + 2)), .int (xs (i + 3)), .ref (o)]) (rest := []) ⟨hx, hb, hml, hown, htg⟩ (lh_total l D κ τ (um_Am A σ) π hst xd la ma va q sc o v hxo ok (xs (i + 1)) (xs (i + 2)) (xs (i + 3))) (vx_cwSW 5 htg (lw_cW tg_606 tg_607 tg_0 tg_608) rfl rfl rfl (by decide +kernel) ⟨Nat.le_trans (by decide) hfr, Nat.le_trans (by decide) hlo⟩) (um_preS2 hU hM hap hK hJ) rfl rfl hl.1 rfl (lv_room (Nat.le_of_ble_eq_true rfl)) dL_law_1222 ⟨by omega, by omega⟩) hU hM (fun r9 π H locs hp hU hM hap => ?_)
  obtain ⟨rfl, la, ma, va, sc, v, hxo, hv⟩ := hp
  refine lv_istore (lv' := [(5, .int (nI (tbT_total (xs (i + 1)) (xs (i + 2)) (xs (i + 3))))), (0, .ref b), (1, .ref (xd 0)), (2, .ref (md 13)), (3, .ref o), (4, .int (nI i))]) hx hb dL_law_1225 hl (by decide) rfl (fun ls hl => ?_)
  refine lv_aload_n hx hb dL_law_1227 rfl (lv_at hl 3 rfl) ?_
  refine lv_aload_n hx hb dL_law_1228 rfl (lv_at hl 1 rfl) ?_
  refine lv_iload hx hb dL_law_1229 (lv_at hl 5 rfl) ?_
  refine lv_iconst (v := nI 1) hx hb dL_law_1231 (by decide +kernel) ?_
  refine um_addN hx hb dL_law_1232 ?_
  refine lw_sld hx hb hX hbl hbA hU.2.2.1 (j := i + 1) (by omega) hLs dL_law_1233 ?_
  refine lv_aload_n hx hb dL_law_1234 rfl (lv_at hl 1 rfl) ?_
  refine lv_iload hx hb dL_law_1235 (lv_at hl 5 rfl) ?_
  refine lv_iconst (v := nI 2) hx hb dL_law_1237 (by decide +kernel) ?_
  refine um_addN hx hb dL_law_1238 ?_
  refine lw_sld hx hb hX hbl hbA hU.2.2.1 (j := i + 2) (by omega) hLs dL_law_1239 ?_
  refine lv_aload_n hx hb dL_law_1240 rfl (lv_at hl 1 rfl) ?_
  refine lv_iload hx hb dL_law_1241 (lv_at hl 5 rfl) ?_
  refine lv_iconst (v := nI 3) hx hb dL_law_1243 (by decide +kernel) ?_
  refine um_addN hx hb dL_law_1244 ?_
  refine lw_sld hx hb hX hbl hbA hU.2.2.1 (j := i + 3) (by omega) hLs dL_law_1245 ?_
  refine um_call2l (va_runV (As := [.int (xs (i + 1)), .int (xs (i + 2)), .int (xs (i + 3))]) (rest := []) ⟨hx, hb, hml, hown, htg⟩ (mm_total l D κ τ (um_Am A π) σ md q th hmd ok.sm ok.sp (xs (i + 1)) (xs (i + 2)) (xs (i + 3))) (cwV 3 htg (lw_cV tg_833 tg_834 tg_835 tg_8 tg_836) rfl rfl rfl (by decide +kernel) ⟨Nat.le_trans (by decide) hfr, Nat.le_trans (by decide) hlo⟩) (um_preV2 hM hU (fun b9 h9 z => hap b9 z h9) hK hJ hmd.obj rfl) rfl rfl hl.1 rfl (lv_room (Nat.le_of_ble_eq_true rfl)) dL_law_1246 ⟨by omega, by omega⟩) hM hU (fun r9 σ H locs hp hM hU hap2 => ?_)
  obtain ⟨rfl, hmd⟩ := hp
  have hap : um_ap π σ := fun b9 h9 z => hap2 b9 z h9
  refine lv_lstore (lv' := [(6, .long (tbA_total q (xs (i + 1)) (xs (i + 2)) (xs (i + 3)))), (5, .int (nI (tbT_total (xs (i + 1)) (xs (i + 2)) (xs (i + 3))))), (0, .ref b), (1, .ref (xd 0)), (2, .ref (md 13)), (3, .ref o), (4, .int (nI i))]) hx hb dL_law_1249 hl (by decide) rfl (fun ls hl => ?_)
  refine lv_aload_n hx hb dL_law_1251 rfl (lv_at hl 4 rfl) ?_
  refine um_call2i (va_runV (As := []) (rest := []) ⟨hx, hb, hml, hown, htg⟩ (mm_thrown l D κ τ (um_Am A π) σ md _ _ hmd) (cwV 0 htg (lw_cV tg_687 tg_688 tg_689 tg_8 tg_690) rfl rfl rfl (by decide +kernel) ⟨Nat.le_trans (by decide) hfr, Nat.le_trans (by decide) hlo⟩) (um_preV2 hM hU (fun b9 h9 z => hap b9 z h9) hK hJ hmd.obj rfl) rfl rfl hl.1 rfl (lv_room (Nat.le_of_ble_eq_true rfl)) dL_law_1252 ⟨by omega, by omega⟩) hM hU (fun r9 σ2 H locs hp hM hU hap2 => ?_)
  obtain ⟨hr9, hs9⟩ := hp
  subst hr9
  rw [hs9] at hM hap2
  have hap : um_ap π σ := fun b9 h9 z => hap2 b9 z h9
  refine lv_iload hx hb dL_law_1255 (lv_at hl 1 rfl) ?_
  refine lv_icmp_eq (tgt := 1262) hx hb dL_law_1257 (by decide) (fun _ => ?_) (fun z9 => absurd rfl z9)
  refine lv_iload hx hb dL_law_1262 (lv_at hl 1 rfl) ?_
  refine um_ne0N (tgt := 1278) hx hb dL_law_1264 (by decide) (lw_T3 (by unfold tbT_total; repeat (first | decide | split))) (fun hT => ?_) (fun hT => ?_)
  · refine lv_goto (tgt := 1281) hx hb dL_law_1278 (by decide) ?_
    exact W.widen (by omega) (by omega) (kk _ _ _ ⟨π, σ, la, ma, va, sc, v, _, hxo, hmd, hU, hM, hap⟩ (lv_sub hl [2, 3, 4, 5, 6] rfl))
  · refine lv_aload_n hx hb dL_law_1267 rfl (lv_at hl 5 rfl) ?_
    refine lv_iconst (v := nI 0) hx hb dL_law_1268 (by decide +kernel) ?_
    refine xo_lald hx hb hK hU hxo dL_law_1269 ?_
    refine lv_lload hx hb dL_law_1270 (lv_at hl 0 rfl) ?_
    refine W.lcmp hx hb dL_law_1272 ?_
    refine um_eqC (tgt := 1278) hx hb dL_law_1273 (by decide) (fun _ => ?_) (fun z9 => absurd (hv hT) z9)
    refine lv_goto (tgt := 1281) hx hb dL_law_1278 (by decide) ?_
    exact W.widen (by omega) (by omega) (kk _ _ _ ⟨π, σ, la, ma, va, sc, v, _, hxo, hmd, hU, hM, hap⟩ (lv_sub hl [2, 3, 4, 5, 6] rfl))
