set_option maxRecDepth 100000 in
set_option maxHeartbeats 4000000 in
theorem lh_species (l : Launch) (D : va_G) (κ : Nat → ClassId) (τ : Nat → Nat) (A : Nat → Prop) (π : um_M) (hst : l.stackTraces = false) (xd la ma va : Nat → Nat) (q : tb_Q) (sc : xs_S) (o : Nat) (v : Int64) (h : xo_at κ π xd la ma va q sc o v) (ok : tb_ok q) (x0 x1 x2 x3 : Int32) : Met l yL_species wsL_species ({ frames := 8, cells := 3, slots := 18, locals := 125 }) (va_Pc [.ref (xd 0), .int x0, .int x1, .int x2, .int x3] (um_U D κ τ A π)) (va_Qi (fun (r9 : Int32) (π' : um_M) => r9 = nI (tbT_species x0 x1 x2 x3) ∧ ∃ la' ma' va' sc' v', xo_at κ π' xd la' ma' va' (tbQ_species q x0 x1 x2 x3) sc' o v') (um_U D κ τ A) A) 3 18 A := by
  refine um_metW (cc := cL_species) (maxL := 6) (ret := some .int) (hh := hL_species) (by decide) rfl rfl ?_
  intro pp ee s mm args below meth cd ls hx hb hr hts hown hlocks hml htab hK hJ hU hl
  have hown : s.vm.findClass RL = some mm.cls := hown
  have htg : ∀ w ∈ lw_g, w.before args s = true := fun w h => hts w (List.mem_cons_of_mem _ h)
  obtain ⟨σ, f, rfl, hap, hxs, hv⟩ := h
  obtain ⟨hU, hR⟩ := um_S.unjoin hap hU
  have hl : lv_has ls 6 [(0, .ref (xd 0)), (1, .int x0), (2, .int x1), (3, .int x2), (4, .int x3)] := hl
  refine lv_aload_n hx hb dL_species_0 rfl (lv_at hl 0 rfl) ?_
  refine lv_iload_n hx hb dL_species_1 rfl (lv_at hl 1 rfl) ?_
  refine lv_iload_n hx hb dL_species_2 rfl (lv_at hl 2 rfl) ?_
  refine lv_iload_n hx hb dL_species_3 rfl (lv_at hl 3 rfl) ?_
  refine lv_iload hx hb dL_species_4 (lv_at hl 4 rfl) ?_
  refine um_xcall2v (vx_runV (As := [.int x0, .int x1, .int x2, .int x3]) (rest := []) ⟨hx, hb, hml, hown, htg⟩ (xp_species l D κ τ (um_Am A _) σ xd la ma va q sc hxs hst ok ok.pure x0 x1 x2 x3) (cwV 4 htg (lw_cV tg_186 tg_187 tg_188 tg_1 tg_189) rfl rfl rfl (by decide +kernel) ⟨Nat.le_of_ble_eq_true rfl, Nat.le_of_ble_eq_true rfl⟩) (um_preV2 hU hR hap hK hJ hxs.c0 rfl) rfl rfl hl.1 rfl (lv_room (Nat.le_of_ble_eq_true rfl)) dL_species_6 ⟨Nat.le_of_ble_eq_true rfl, Nat.le_of_ble_eq_true rfl⟩) hU hR (fun E9 ce9 q9 σ H locs hp hE hU hR hap hce hcv hcl => ?_) (fun σ H locs hp hU hR hap => ?_)
  · obtain ⟨sc9, hxs⟩ := hp
    obtain ⟨rfl, hT⟩ := hE
    refine vx_catch (own := RL) (name := nIAE) hown [] ⟨0, 9, 12, 13⟩ [] htab (fun z hz => by cases hz) rfl (by decide) (htg _ tg_185) (va_Nw.use rfl hJ.2.2.2.2.1) hce hcv hcl ?_
    refine lv_astore (lv' := [(5, .ref q9), (0, .ref (xd 0)), (1, .int x0), (2, .int x1), (3, .int x2), (4, .int x3)]) hx hb dL_species_12 hl (by decide) rfl (fun ls hl => ?_)
    refine lv_iconst (v := nI 1) hx hb dL_species_14 (by decide +kernel) ?_
    exact um_iret hx hb hr hlocks hK hJ (hU.join hR hap) dL_species_15 ⟨by rw [hT], _, _, _, _, _, by rw [tbN_species (by rw [hT]; decide)]; exact xo_mk hap hxs⟩
  · obtain ⟨hT, la9, ma9, va9, sc9, hxs⟩ := hp
    refine lv_goto (tgt := 16) hx hb dL_species_9 (by decide) ?_
    refine lv_iconst (v := nI 0) hx hb dL_species_16 (by decide +kernel) ?_
    exact um_iret hx hb hr hlocks hK hJ (hU.join hR hap) dL_species_17 ⟨by rw [hT], _, _, _, _, _, xo_mk hap hxs⟩

set_option maxRecDepth 100000 in
set_option maxHeartbeats 4000000 in
theorem lh_stand (l : Launch) (D : va_G) (κ : Nat → ClassId) (τ : Nat → Nat) (A : Nat → Prop) (π : um_M) (hst : l.stackTraces = false) (xd la ma va : Nat → Nat) (q : tb_Q) (sc : xs_S) (o : Nat) (v : Int64) (h : xo_at κ π xd la ma va q sc o v) (ok : tb_ok q) (x0 x1 : Int32) : Met l yL_stand wsL_stand ({ frames := 8, cells := 1, slots := 6, locals := 123 }) (va_Pc [.ref (xd 0), .int x0, .int x1] (um_U D κ τ A π)) (va_Qi (fun (r9 : Int32) (π' : um_M) => r9 = nI (tbT_stand x0 x1) ∧ ∃ la' ma' va' sc' v', xo_at κ π' xd la' ma' va' (tbQ_stand q x0 x1) sc' o v') (um_U D κ τ A) A) 1 6 A := by
  refine um_metW (cc := cL_stand) (maxL := 4) (ret := some .int) (hh := hL_stand) (by decide) rfl rfl ?_
  intro pp ee s mm args below meth cd ls hx hb hr hts hown hlocks hml htab hK hJ hU hl
  have hown : s.vm.findClass RL = some mm.cls := hown
  have htg : ∀ w ∈ lw_g, w.before args s = true := fun w h => hts w (List.mem_cons_of_mem _ h)
  obtain ⟨σ, f, rfl, hap, hxs, hv⟩ := h
  obtain ⟨hU, hR⟩ := um_S.unjoin hap hU
  have hl : lv_has ls 4 [(0, .ref (xd 0)), (1, .int x0), (2, .int x1)] := hl
  refine lv_aload_n hx hb dL_stand_0 rfl (lv_at hl 0 rfl) ?_
  refine lv_iload_n hx hb dL_stand_1 rfl (lv_at hl 1 rfl) ?_
  refine lv_iload_n hx hb dL_stand_2 rfl (lv_at hl 2 rfl) ?_
  refine um_xcall2v (vx_runV (As := [.int x0, .int x1]) (rest := []) ⟨hx, hb, hml, hown, htg⟩ (xp_stand l D κ τ (um_Am A _) σ xd la ma va q sc hxs hst ok ok.pure x0 x1) (cwV 2 htg (lw_cV tg_262 tg_263 tg_264 tg_1 tg_265) rfl rfl rfl (by decide +kernel) ⟨Nat.le_of_ble_eq_true rfl, Nat.le_of_ble_eq_true rfl⟩) (um_preV2 hU hR hap hK hJ hxs.c0 rfl) rfl rfl hl.1 rfl (lv_room (Nat.le_of_ble_eq_true rfl)) dL_stand_3 ⟨Nat.le_of_ble_eq_true rfl, Nat.le_of_ble_eq_true rfl⟩) hU hR (fun E9 ce9 q9 σ H locs hp hE hU hR hap hce hcv hcl => ?_) (fun σ H locs hp hU hR hap => ?_)
  · obtain ⟨sc9, hxs⟩ := hp
    obtain ⟨rfl, hT⟩ := hE
    refine vx_catch (own := RL) (name := nIAE) hown [] ⟨0, 6, 9, 13⟩ [] htab (fun z hz => by cases hz) rfl (by decide) (htg _ tg_185) (va_Nw.use rfl hJ.2.2.2.2.1) hce hcv hcl ?_
    refine lv_astore_n (lv' := [(3, .ref q9), (0, .ref (xd 0)), (1, .int x0), (2, .int x1)]) hx hb dL_stand_9 rfl hl (by decide) rfl (fun ls hl => ?_)
    refine lv_iconst (v := nI 1) hx hb dL_stand_10 (by decide +kernel) ?_
    exact um_iret hx hb hr hlocks hK hJ (hU.join hR hap) dL_stand_11 ⟨by rw [hT], _, _, _, _, _, by rw [tbN_stand (by rw [hT]; decide)]; exact xo_mk hap hxs⟩
  · obtain ⟨hT, la9, ma9, va9, sc9, hxs⟩ := hp
    refine lv_goto (tgt := 12) hx hb dL_stand_6 (by decide) ?_
    refine lv_iconst (v := nI 0) hx hb dL_stand_12 (by decide +kernel) ?_
    exact um_iret hx hb hr hlocks hK hJ (hU.join hR hap) dL_stand_13 ⟨by rw [hT], _, _, _, _, _, xo_mk hap hxs⟩

set_option maxRecDepth 100000 in
set_option maxHeartbeats 4000000 in
theorem lh_lend (l : Launch) (D : va_G) (κ : Nat → ClassId) (τ : Nat → Nat) (A : Nat → Prop) (π : um_M) (hst : l.stackTraces = false) (xd la ma va : Nat → Nat) (q : tb_Q) (sc : xs_S) (o : Nat) (v : Int64) (h : xo_at κ π xd la ma va q sc o v) (ok : tb_ok q) (x0 x1 : Int32) : Met l yL_lend wsL_lend ({ frames := 8, cells := 4, slots := 23, locals := 124 }) (va_Pc [.ref (xd 0), .int x0, .int x1, .ref o] (um_U D κ τ A π)) (va_Qi (fun (r9 : Int32) (π' : um_M) => r9 = nI (tbT_lend q x0 x1) ∧ ∃ la' ma' va' sc' v', xo_at κ π' xd la' ma' va' (tbQ_lend q x0 x1) sc' o v' ∧ (tbT_lend q x0 x1 = 0 → v' = (nI (tbA_lend q x0 x1)).toInt64)) (um_U D κ τ A) A) 4 23 A := by
  refine um_metW (cc := cL_lend) (maxL := 5) (ret := some .int) (hh := hL_lend) (by decide) rfl rfl ?_
  intro pp ee s mm args below meth cd ls hx hb hr hts hown hlocks hml htab hK hJ hU hl
  have hown : s.vm.findClass RL = some mm.cls := hown
  have htg : ∀ w ∈ lw_g, w.before args s = true := fun w h => hts w (List.mem_cons_of_mem _ h)
  obtain ⟨σ, f, rfl, hap, hxs, hv⟩ := h
  obtain ⟨hU, hR⟩ := um_S.unjoin hap hU
  have hl : lv_has ls 5 [(0, .ref (xd 0)), (1, .int x0), (2, .int x1), (3, .ref o)] := hl
  refine lv_aload_n hx hb dL_lend_0 rfl (lv_at hl 3 rfl) ?_
  refine lv_iconst (v := nI 0) hx hb dL_lend_1 (by decide +kernel) ?_
  refine lv_aload_n hx hb dL_lend_2 rfl (lv_at hl 0 rfl) ?_
  refine lv_iload_n hx hb dL_lend_3 rfl (lv_at hl 1 rfl) ?_
  refine lv_iload_n hx hb dL_lend_4 rfl (lv_at hl 2 rfl) ?_
  refine um_xcall2i (vx_runV (As := [.int x0, .int x1]) (rest := [.int (nI 0), .ref o]) ⟨hx, hb, hml, hown, htg⟩ (xp_lend l D κ τ (um_Am A _) σ xd la ma va q sc hxs hst ok ok.pure x0 x1) (cwV 2 htg (lw_cV tg_270 tg_271 tg_272 tg_1 tg_273) rfl rfl rfl (by decide +kernel) ⟨Nat.le_of_ble_eq_true rfl, Nat.le_of_ble_eq_true rfl⟩) (um_preV2 hU hR hap hK hJ hxs.c0 rfl) rfl rfl hl.1 rfl (lv_room (Nat.le_of_ble_eq_true rfl)) dL_lend_5 ⟨Nat.le_of_ble_eq_true rfl, Nat.le_of_ble_eq_true rfl⟩) hU hR (fun E9 ce9 q9 σ H locs hp hE hU hR hap hce hcv hcl => ?_) (fun r9 σ H locs hp hU hR hap => ?_)
  · obtain ⟨sc9, hxs⟩ := hp
    rcases hE with ⟨rfl, hT⟩ | ⟨rfl, hT⟩
    · refine vx_catch (own := RL) (name := nIAE) hown [] ⟨0, 10, 13, 13⟩ [⟨0, 10, 17, 23⟩] htab (fun z hz => by cases hz) rfl (by decide) (htg _ tg_185) (va_Nw.use rfl hJ.2.2.2.2.1) hce hcv hcl ?_
      refine lv_astore (lv' := [(4, .ref q9), (0, .ref (xd 0)), (1, .int x0), (2, .int x1), (3, .ref o)]) hx hb dL_lend_13 hl (by decide) rfl (fun ls hl => ?_)
      refine lv_iconst (v := nI 1) hx hb dL_lend_15 (by decide +kernel) ?_
      exact um_iret hx hb hr hlocks hK hJ (hU.join hR hap) dL_lend_16 ⟨by rw [hT], _, _, _, _, _, by rw [tbN_lend (by rw [hT]; decide)]; exact xo_mk hap hxs, fun z => by rw [hT] at z; cases z⟩
    · refine vx_catch (own := RL) (name := nISE) hown [⟨0, 10, 13, 13⟩] ⟨0, 10, 17, 23⟩ [] htab (fun z hz => by
        simp only [List.mem_cons, List.not_mem_nil, or_false] at hz
        subst hz
        · exact Or.inr ⟨by decide, _, (htg _ tg_185), hJ.2.2.2.2.2.2.2.2.1⟩) rfl (by decide) (htg _ tg_269) (va_Nw.use rfl hJ.2.2.2.2.2.1) hce hcv hcl ?_
      refine lv_astore (lv' := [(4, .ref q9), (0, .ref (xd 0)), (1, .int x0), (2, .int x1), (3, .ref o)]) hx hb dL_lend_17 hl (by decide) rfl (fun ls hl => ?_)
      refine lv_iconst (v := nI 2) hx hb dL_lend_19 (by decide +kernel) ?_
      exact um_iret hx hb hr hlocks hK hJ (hU.join hR hap) dL_lend_20 ⟨by rw [hT], _, _, _, _, _, by rw [tbN_lend (by rw [hT]; decide)]; exact xo_mk hap hxs, fun z => by rw [hT] at z; cases z⟩
  · obtain ⟨hr9, hT, la9, ma9, va9, sc9, hxs⟩ := hp
    subst hr9
    refine lv_i2l hx hb dL_lend_8 rfl ?_
    refine xo_last hx hb hK hU hR hap dL_lend_9 (fun f9 H locs hf9 hU hap => ?_)
    refine lv_goto (tgt := 21) hx hb dL_lend_10 (by decide) ?_
    refine lv_iconst (v := nI 0) hx hb dL_lend_21 (by decide +kernel) ?_
    exact um_iret hx hb hr hlocks hK hJ hU dL_lend_22 ⟨by rw [hT], _, _, _, _, _, xo_mk hap hxs, fun _ => hf9.trans rfl⟩

set_option maxRecDepth 100000 in
set_option maxHeartbeats 4000000 in
theorem lh_giveBack (l : Launch) (D : va_G) (κ : Nat → ClassId) (τ : Nat → Nat) (A : Nat → Prop) (π : um_M) (hst : l.stackTraces = false) (xd la ma va : Nat → Nat) (q : tb_Q) (sc : xs_S) (o : Nat) (v : Int64) (h : xo_at κ π xd la ma va q sc o v) (ok : tb_ok q) (x0 x1 : Int32) : Met l yL_giveBack wsL_giveBack ({ frames := 8, cells := 3, slots := 18, locals := 126 }) (va_Pc [.ref (xd 0), .int x0, .int x1, .ref o] (um_U D κ τ A π)) (va_Qi (fun (r9 : Int32) (π' : um_M) => r9 = nI (tbT_giveBack q x0 x1) ∧ ∃ la' ma' va' sc' v', xo_at κ π' xd la' ma' va' (tbQ_giveBack q x0 x1) sc' o v' ∧ (tbT_giveBack q x0 x1 = 0 → v' = (nI (tbA_giveBack q x0 x1)).toInt64)) (um_U D κ τ A) A) 3 18 A := by
  refine um_metW (cc := cL_giveBack) (maxL := 5) (ret := some .int) (hh := hL_giveBack) (by decide) rfl rfl ?_
  intro pp ee s mm args below meth cd ls hx hb hr hts hown hlocks hml htab hK hJ hU hl
  have hown : s.vm.findClass RL = some mm.cls := hown
  have htg : ∀ w ∈ lw_g, w.before args s = true := fun w h => hts w (List.mem_cons_of_mem _ h)
  obtain ⟨σ, f, rfl, hap, hxs, hv⟩ := h
  obtain ⟨hU, hR⟩ := um_S.unjoin hap hU
  have hl : lv_has ls 5 [(0, .ref (xd 0)), (1, .int x0), (2, .int x1), (3, .ref o)] := hl
  refine lv_aload_n hx hb dL_giveBack_0 rfl (lv_at hl 3 rfl) ?_
  refine lv_iconst (v := nI 0) hx hb dL_giveBack_1 (by decide +kernel) ?_
  refine lv_aload_n hx hb dL_giveBack_2 rfl (lv_at hl 0 rfl) ?_
  refine lv_iload_n hx hb dL_giveBack_3 rfl (lv_at hl 1 rfl) ?_
  refine lv_iload_n hx hb dL_giveBack_4 rfl (lv_at hl 2 rfl) ?_
  refine um_xcall2i (vx_runV (As := [.int x0, .int x1]) (rest := [.int (nI 0), .ref o]) ⟨hx, hb, hml, hown, htg⟩ (xp_giveBack l D κ τ (um_Am A _) σ xd la ma va q sc hxs hst ok ok.pure x0 x1) (cwV 2 htg (lw_cV tg_351 tg_352 tg_353 tg_1 tg_354) rfl rfl rfl (by decide +kernel) ⟨Nat.le_of_ble_eq_true rfl, Nat.le_of_ble_eq_true rfl⟩) (um_preV2 hU hR hap hK hJ hxs.c0 rfl) rfl rfl hl.1 rfl (lv_room (Nat.le_of_ble_eq_true rfl)) dL_giveBack_5 ⟨Nat.le_of_ble_eq_true rfl, Nat.le_of_ble_eq_true rfl⟩) hU hR (fun E9 ce9 q9 σ H locs hp hE hU hR hap hce hcv hcl => ?_) (fun r9 σ H locs hp hU hR hap => ?_)
  · obtain ⟨sc9, hxs⟩ := hp
    rcases hE with ⟨rfl, hT⟩ | ⟨rfl, hT⟩
    · refine vx_catch (own := RL) (name := nIAE) hown [] ⟨0, 10, 13, 13⟩ [⟨0, 10, 17, 23⟩] htab (fun z hz => by cases hz) rfl (by decide) (htg _ tg_185) (va_Nw.use rfl hJ.2.2.2.2.1) hce hcv hcl ?_
      refine lv_astore (lv' := [(4, .ref q9), (0, .ref (xd 0)), (1, .int x0), (2, .int x1), (3, .ref o)]) hx hb dL_giveBack_13 hl (by decide) rfl (fun ls hl => ?_)
      refine lv_iconst (v := nI 1) hx hb dL_giveBack_15 (by decide +kernel) ?_
      exact um_iret hx hb hr hlocks hK hJ (hU.join hR hap) dL_giveBack_16 ⟨by rw [hT], _, _, _, _, _, by rw [tbN_giveBack (by rw [hT]; decide)]; exact xo_mk hap hxs, fun z => by rw [hT] at z; cases z⟩
    · refine vx_catch (own := RL) (name := nISE) hown [⟨0, 10, 13, 13⟩] ⟨0, 10, 17, 23⟩ [] htab (fun z hz => by
        simp only [List.mem_cons, List.not_mem_nil, or_false] at hz
        subst hz
        · exact Or.inr ⟨by decide, _, (htg _ tg_185), hJ.2.2.2.2.2.2.2.2.1⟩) rfl (by decide) (htg _ tg_269) (va_Nw.use rfl hJ.2.2.2.2.2.1) hce hcv hcl ?_
      refine lv_astore (lv' := [(4, .ref q9), (0, .ref (xd 0)), (1, .int x0), (2, .int x1), (3, .ref o)]) hx hb dL_giveBack_17 hl (by decide) rfl (fun ls hl => ?_)
      refine lv_iconst (v := nI 2) hx hb dL_giveBack_19 (by decide +kernel) ?_
      exact um_iret hx hb hr hlocks hK hJ (hU.join hR hap) dL_giveBack_20 ⟨by rw [hT], _, _, _, _, _, by rw [tbN_giveBack (by rw [hT]; decide)]; exact xo_mk hap hxs, fun z => by rw [hT] at z; cases z⟩
  · obtain ⟨hr9, hT, la9, ma9, va9, sc9, hxs⟩ := hp
    subst hr9
    refine lv_i2l hx hb dL_giveBack_8 rfl ?_
    refine xo_last hx hb hK hU hR hap dL_giveBack_9 (fun f9 H locs hf9 hU hap => ?_)
    refine lv_goto (tgt := 21) hx hb dL_giveBack_10 (by decide) ?_
    refine lv_iconst (v := nI 0) hx hb dL_giveBack_21 (by decide +kernel) ?_
    exact um_iret hx hb hr hlocks hK hJ hU dL_giveBack_22 ⟨by rw [hT], _, _, _, _, _, xo_mk hap hxs, fun _ => hf9.trans rfl⟩

set_option maxRecDepth 100000 in
set_option maxHeartbeats 4000000 in
theorem lh_enter (l : Launch) (D : va_G) (κ : Nat → ClassId) (τ : Nat → Nat) (A : Nat → Prop) (π : um_M) (hst : l.stackTraces = false) (xd la ma va : Nat → Nat) (q : tb_Q) (sc : xs_S) (o : Nat) (v : Int64) (h : xo_at κ π xd la ma va q sc o v) (ok : tb_ok q) (x0 x1 x2 x3 x4 : Int32) : Met l yL_enter wsL_enter ({ frames := 8, cells := 5, slots := 29, locals := 153 }) (va_Pc [.ref (xd 0), .int x0, .int x1, .int x2, .int x3, .int x4, .ref o] (um_U D κ τ A π)) (va_Qi (fun (r9 : Int32) (π' : um_M) => r9 = nI (tbT_enter q x0 x1 x2 x3 x4) ∧ ∃ la' ma' va' sc' v', xo_at κ π' xd la' ma' va' (tbQ_enter q x0 x1 x2 x3 x4) sc' o v' ∧ (tbT_enter q x0 x1 x2 x3 x4 = 0 → v' = (nI (tbA_enter q x0 x1 x2 x3 x4)).toInt64)) (um_U D κ τ A) A) 5 29 A := by
  refine um_metW (cc := cL_enter) (maxL := 8) (ret := some .int) (hh := hL_enter) (by decide) rfl rfl ?_
  intro pp ee s mm args below meth cd ls hx hb hr hts hown hlocks hml htab hK hJ hU hl
  have hown : s.vm.findClass RL = some mm.cls := hown
  have htg : ∀ w ∈ lw_g, w.before args s = true := fun w h => hts w (List.mem_cons_of_mem _ h)
  obtain ⟨σ, f, rfl, hap, hxs, hv⟩ := h
  obtain ⟨hU, hR⟩ := um_S.unjoin hap hU
  have hl : lv_has ls 8 [(0, .ref (xd 0)), (1, .int x0), (2, .int x1), (3, .int x2), (4, .int x3), (5, .int x4), (6, .ref o)] := hl
  refine lv_aload hx hb dL_enter_0 (lv_at hl 6 rfl) ?_
  refine lv_iconst (v := nI 0) hx hb dL_enter_2 (by decide +kernel) ?_
  refine lv_aload_n hx hb dL_enter_3 rfl (lv_at hl 0 rfl) ?_
  refine lv_iload_n hx hb dL_enter_4 rfl (lv_at hl 1 rfl) ?_
  refine lv_iload_n hx hb dL_enter_5 rfl (lv_at hl 2 rfl) ?_
  refine lv_iload_n hx hb dL_enter_6 rfl (lv_at hl 3 rfl) ?_
  refine lv_iload hx hb dL_enter_7 (lv_at hl 4 rfl) ?_
  refine lv_iload hx hb dL_enter_9 (lv_at hl 5 rfl) ?_
  refine um_xcall2i (vx_runV (As := [.int x0, .int x1, .int x2, .int x3, .int x4]) (rest := [.int (nI 0), .ref o]) ⟨hx, hb, hml, hown, htg⟩ (xp_enter l D κ τ (um_Am A _) σ xd la ma va q sc hxs hst ok ok.pure x0 x1 x2 x3 x4) (cwV 5 htg (lw_cV tg_359 tg_360 tg_361 tg_1 tg_362) rfl rfl rfl (by decide +kernel) ⟨Nat.le_of_ble_eq_true rfl, Nat.le_of_ble_eq_true rfl⟩) (um_preV2 hU hR hap hK hJ hxs.c0 rfl) rfl rfl hl.1 rfl (lv_room (Nat.le_of_ble_eq_true rfl)) dL_enter_11 ⟨Nat.le_of_ble_eq_true rfl, Nat.le_of_ble_eq_true rfl⟩) hU hR (fun E9 ce9 q9 σ H locs hp hE hU hR hap hce hcv hcl => ?_) (fun r9 σ H locs hp hU hR hap => ?_)
  · obtain ⟨sc9, hxs⟩ := hp
    rcases hE with ⟨rfl, hT⟩ | ⟨rfl, hT⟩
    · refine vx_catch (own := RL) (name := nIAE) hown [] ⟨0, 16, 19, 13⟩ [⟨0, 16, 23, 23⟩] htab (fun z hz => by cases hz) rfl (by decide) (htg _ tg_185) (va_Nw.use rfl hJ.2.2.2.2.1) hce hcv hcl ?_
      refine lv_astore (lv' := [(7, .ref q9), (0, .ref (xd 0)), (1, .int x0), (2, .int x1), (3, .int x2), (4, .int x3), (5, .int x4), (6, .ref o)]) hx hb dL_enter_19 hl (by decide) rfl (fun ls hl => ?_)
      refine lv_iconst (v := nI 1) hx hb dL_enter_21 (by decide +kernel) ?_
      exact um_iret hx hb hr hlocks hK hJ (hU.join hR hap) dL_enter_22 ⟨by rw [hT], _, _, _, _, _, by rw [tbN_enter (by rw [hT]; decide)]; exact xo_mk hap hxs, fun z => by rw [hT] at z; cases z⟩
    · refine vx_catch (own := RL) (name := nISE) hown [⟨0, 16, 19, 13⟩] ⟨0, 16, 23, 23⟩ [] htab (fun z hz => by
        simp only [List.mem_cons, List.not_mem_nil, or_false] at hz
        subst hz
        · exact Or.inr ⟨by decide, _, (htg _ tg_185), hJ.2.2.2.2.2.2.2.2.1⟩) rfl (by decide) (htg _ tg_269) (va_Nw.use rfl hJ.2.2.2.2.2.1) hce hcv hcl ?_
      refine lv_astore (lv' := [(7, .ref q9), (0, .ref (xd 0)), (1, .int x0), (2, .int x1), (3, .int x2), (4, .int x3), (5, .int x4), (6, .ref o)]) hx hb dL_enter_23 hl (by decide) rfl (fun ls hl => ?_)
      refine lv_iconst (v := nI 2) hx hb dL_enter_25 (by decide +kernel) ?_
      exact um_iret hx hb hr hlocks hK hJ (hU.join hR hap) dL_enter_26 ⟨by rw [hT], _, _, _, _, _, by rw [tbN_enter (by rw [hT]; decide)]; exact xo_mk hap hxs, fun z => by rw [hT] at z; cases z⟩
  · obtain ⟨hr9, hT, la9, ma9, va9, sc9, hxs⟩ := hp
    subst hr9
    refine lv_i2l hx hb dL_enter_14 rfl ?_
    refine xo_last hx hb hK hU hR hap dL_enter_15 (fun f9 H locs hf9 hU hap => ?_)
    refine lv_goto (tgt := 27) hx hb dL_enter_16 (by decide) ?_
    refine lv_iconst (v := nI 0) hx hb dL_enter_27 (by decide +kernel) ?_
    exact um_iret hx hb hr hlocks hK hJ hU dL_enter_28 ⟨by rw [hT], _, _, _, _, _, xo_mk hap hxs, fun _ => hf9.trans rfl⟩

set_option maxRecDepth 100000 in
set_option maxHeartbeats 4000000 in
theorem lh_resolve (l : Launch) (D : va_G) (κ : Nat → ClassId) (τ : Nat → Nat) (A : Nat → Prop) (π : um_M) (hst : l.stackTraces = false) (xd la ma va : Nat → Nat) (q : tb_Q) (sc : xs_S) (o : Nat) (v : Int64) (h : xo_at κ π xd la ma va q sc o v) (ok : tb_ok q) (x0 x1 : Int32) : Met l yL_resolve wsL_resolve ({ frames := 8, cells := 4, slots := 23, locals := 151 }) (va_Pc [.ref (xd 0), .int x0, .int x1, .ref o] (um_U D κ τ A π)) (va_Qi (fun (r9 : Int32) (π' : um_M) => r9 = nI (tbT_resolve q x0 x1) ∧ ∃ la' ma' va' sc' v', xo_at κ π' xd la' ma' va' (tbQ_resolve q x0 x1) sc' o v' ∧ (tbT_resolve q x0 x1 = 0 → v' = (nI (tbA_resolve q x0 x1)).toInt64)) (um_U D κ τ A) A) 4 23 A := by
  refine um_metW (cc := cL_resolve) (maxL := 5) (ret := some .int) (hh := hL_resolve) (by decide) rfl rfl ?_
  intro pp ee s mm args below meth cd ls hx hb hr hts hown hlocks hml htab hK hJ hU hl
  have hown : s.vm.findClass RL = some mm.cls := hown
  have htg : ∀ w ∈ lw_g, w.before args s = true := fun w h => hts w (List.mem_cons_of_mem _ h)
  obtain ⟨σ, f, rfl, hap, hxs, hv⟩ := h
  obtain ⟨hU, hR⟩ := um_S.unjoin hap hU
  have hl : lv_has ls 5 [(0, .ref (xd 0)), (1, .int x0), (2, .int x1), (3, .ref o)] := hl
  refine lv_aload_n hx hb dL_resolve_0 rfl (lv_at hl 3 rfl) ?_
  refine lv_iconst (v := nI 0) hx hb dL_resolve_1 (by decide +kernel) ?_
  refine lv_aload_n hx hb dL_resolve_2 rfl (lv_at hl 0 rfl) ?_
  refine lv_iload_n hx hb dL_resolve_3 rfl (lv_at hl 1 rfl) ?_
  refine lv_iload_n hx hb dL_resolve_4 rfl (lv_at hl 2 rfl) ?_
  refine um_xcall2i (vx_runV (As := [.int x0, .int x1]) (rest := [.int (nI 0), .ref o]) ⟨hx, hb, hml, hown, htg⟩ (xp_resolve l D κ τ (um_Am A _) σ xd la ma va q sc hxs hst ok ok.pure x0 x1) (cwV 2 htg (lw_cV tg_433 tg_434 tg_435 tg_1 tg_436) rfl rfl rfl (by decide +kernel) ⟨Nat.le_of_ble_eq_true rfl, Nat.le_of_ble_eq_true rfl⟩) (um_preV2 hU hR hap hK hJ hxs.c0 rfl) rfl rfl hl.1 rfl (lv_room (Nat.le_of_ble_eq_true rfl)) dL_resolve_5 ⟨Nat.le_of_ble_eq_true rfl, Nat.le_of_ble_eq_true rfl⟩) hU hR (fun E9 ce9 q9 σ H locs hp hE hU hR hap hce hcv hcl => ?_) (fun r9 σ H locs hp hU hR hap => ?_)
  · obtain ⟨sc9, hxs⟩ := hp
    rcases hE with ⟨rfl, hT⟩ | ⟨rfl, hT⟩ | ⟨rfl, hT⟩
    · refine vx_catch (own := RL) (name := nNSE) hown [] ⟨0, 10, 13, 35⟩ [⟨0, 10, 17, 13⟩, ⟨0, 10, 21, 23⟩] htab (fun z hz => by cases hz) rfl (by decide) (htg _ tg_432) (va_Nw.use rfl hJ.2.2.2.2.2.2.1) hce hcv hcl ?_
      refine lv_astore (lv' := [(4, .ref q9), (0, .ref (xd 0)), (1, .int x0), (2, .int x1), (3, .ref o)]) hx hb dL_resolve_13 hl (by decide) rfl (fun ls hl => ?_)
      refine lv_iconst (v := nI 1) hx hb dL_resolve_15 (by decide +kernel) ?_
      exact um_iret hx hb hr hlocks hK hJ (hU.join hR hap) dL_resolve_16 ⟨by rw [hT], _, _, _, _, _, by rw [tbN_resolve (by rw [hT]; decide)]; exact xo_mk hap hxs, fun z => by rw [hT] at z; cases z⟩
    · refine vx_catch (own := RL) (name := nIAE) hown [⟨0, 10, 13, 35⟩] ⟨0, 10, 17, 13⟩ [⟨0, 10, 21, 23⟩] htab (fun z hz => by
        simp only [List.mem_cons, List.not_mem_nil, or_false] at hz
        subst hz
        · exact Or.inr ⟨by decide, _, (htg _ tg_432), hJ.2.2.2.2.2.2.2.2.2.1⟩) rfl (by decide) (htg _ tg_185) (va_Nw.use rfl hJ.2.2.2.2.1) hce hcv hcl ?_
      refine lv_astore (lv' := [(4, .ref q9), (0, .ref (xd 0)), (1, .int x0), (2, .int x1), (3, .ref o)]) hx hb dL_resolve_17 hl (by decide) rfl (fun ls hl => ?_)
      refine lv_iconst (v := nI 2) hx hb dL_resolve_19 (by decide +kernel) ?_
      exact um_iret hx hb hr hlocks hK hJ (hU.join hR hap) dL_resolve_20 ⟨by rw [hT], _, _, _, _, _, by rw [tbN_resolve (by rw [hT]; decide)]; exact xo_mk hap hxs, fun z => by rw [hT] at z; cases z⟩
    · refine vx_catch (own := RL) (name := nISE) hown [⟨0, 10, 13, 35⟩, ⟨0, 10, 17, 13⟩] ⟨0, 10, 21, 23⟩ [] htab (fun z hz => by
        simp only [List.mem_cons, List.not_mem_nil, or_false] at hz
        rcases hz with rfl | rfl
        · exact Or.inr ⟨by decide, _, (htg _ tg_432), hJ.2.2.2.2.2.2.2.2.2.2.1⟩
        · exact Or.inr ⟨by decide, _, (htg _ tg_185), hJ.2.2.2.2.2.2.2.2.1⟩) rfl (by decide) (htg _ tg_269) (va_Nw.use rfl hJ.2.2.2.2.2.1) hce hcv hcl ?_
      refine lv_astore (lv' := [(4, .ref q9), (0, .ref (xd 0)), (1, .int x0), (2, .int x1), (3, .ref o)]) hx hb dL_resolve_21 hl (by decide) rfl (fun ls hl => ?_)
      refine lv_iconst (v := nI 3) hx hb dL_resolve_23 (by decide +kernel) ?_
      exact um_iret hx hb hr hlocks hK hJ (hU.join hR hap) dL_resolve_24 ⟨by rw [hT], _, _, _, _, _, by rw [tbN_resolve (by rw [hT]; decide)]; exact xo_mk hap hxs, fun z => by rw [hT] at z; cases z⟩
  · obtain ⟨hr9, hT, la9, ma9, va9, sc9, hxs⟩ := hp
    subst hr9
    refine lv_i2l hx hb dL_resolve_8 rfl ?_
    refine xo_last hx hb hK hU hR hap dL_resolve_9 (fun f9 H locs hf9 hU hap => ?_)
    refine lv_goto (tgt := 25) hx hb dL_resolve_10 (by decide) ?_
    refine lv_iconst (v := nI 0) hx hb dL_resolve_25 (by decide +kernel) ?_
    exact um_iret hx hb hr hlocks hK hJ hU dL_resolve_26 ⟨by rw [hT], _, _, _, _, _, xo_mk hap hxs, fun _ => hf9.trans rfl⟩

set_option maxRecDepth 100000 in
set_option maxHeartbeats 4000000 in
theorem lh_meet (l : Launch) (D : va_G) (κ : Nat → ClassId) (τ : Nat → Nat) (A : Nat → Prop) (π : um_M) (hst : l.stackTraces = false) (xd la ma va : Nat → Nat) (q : tb_Q) (sc : xs_S) (o : Nat) (v : Int64) (h : xo_at κ π xd la ma va q sc o v) (ok : tb_ok q) (x0 x1 : Int32) : Met l yL_meet wsL_meet ({ frames := 8, cells := 2, slots := 12, locals := 123 }) (va_Pc [.ref (xd 0), .int x0, .int x1] (um_U D κ τ A π)) (va_Qi (fun (r9 : Int32) (π' : um_M) => r9 = nI (tbT_meet q x0 x1) ∧ ∃ la' ma' va' sc' v', xo_at κ π' xd la' ma' va' (tbQ_meet q x0 x1) sc' o v') (um_U D κ τ A) A) 2 12 A := by
  refine um_metW (cc := cL_meet) (maxL := 4) (ret := some .int) (hh := hL_meet) (by decide) rfl rfl ?_
  intro pp ee s mm args below meth cd ls hx hb hr hts hown hlocks hml htab hK hJ hU hl
  have hown : s.vm.findClass RL = some mm.cls := hown
  have htg : ∀ w ∈ lw_g, w.before args s = true := fun w h => hts w (List.mem_cons_of_mem _ h)
  obtain ⟨σ, f, rfl, hap, hxs, hv⟩ := h
  obtain ⟨hU, hR⟩ := um_S.unjoin hap hU
  have hl : lv_has ls 4 [(0, .ref (xd 0)), (1, .int x0), (2, .int x1)] := hl
  refine lv_aload_n hx hb dL_meet_0 rfl (lv_at hl 0 rfl) ?_
  refine lv_iload_n hx hb dL_meet_1 rfl (lv_at hl 1 rfl) ?_
  refine lv_iload_n hx hb dL_meet_2 rfl (lv_at hl 2 rfl) ?_
  refine um_xcall2v (vx_runV (As := [.int x0, .int x1]) (rest := []) ⟨hx, hb, hml, hown, htg⟩ (xp_meet l D κ τ (um_Am A _) σ xd la ma va q sc hxs hst ok ok.pure x0 x1) (cwV 2 htg (lw_cV tg_490 tg_491 tg_492 tg_1 tg_493) rfl rfl rfl (by decide +kernel) ⟨Nat.le_of_ble_eq_true rfl, Nat.le_of_ble_eq_true rfl⟩) (um_preV2 hU hR hap hK hJ hxs.c0 rfl) rfl rfl hl.1 rfl (lv_room (Nat.le_of_ble_eq_true rfl)) dL_meet_3 ⟨Nat.le_of_ble_eq_true rfl, Nat.le_of_ble_eq_true rfl⟩) hU hR (fun E9 ce9 q9 σ H locs hp hE hU hR hap hce hcv hcl => ?_) (fun σ H locs hp hU hR hap => ?_)
  · obtain ⟨sc9, hxs⟩ := hp
    rcases hE with ⟨rfl, hT⟩ | ⟨rfl, hT⟩
    · refine vx_catch (own := RL) (name := nIAE) hown [] ⟨0, 6, 9, 13⟩ [⟨0, 6, 12, 23⟩] htab (fun z hz => by cases hz) rfl (by decide) (htg _ tg_185) (va_Nw.use rfl hJ.2.2.2.2.1) hce hcv hcl ?_
      refine lv_astore_n (lv' := [(3, .ref q9), (0, .ref (xd 0)), (1, .int x0), (2, .int x1)]) hx hb dL_meet_9 rfl hl (by decide) rfl (fun ls hl => ?_)
      refine lv_iconst (v := nI 1) hx hb dL_meet_10 (by decide +kernel) ?_
      exact um_iret hx hb hr hlocks hK hJ (hU.join hR hap) dL_meet_11 ⟨by rw [hT], _, _, _, _, _, by rw [tbN_meet (by rw [hT]; decide)]; exact xo_mk hap hxs⟩
    · refine vx_catch (own := RL) (name := nISE) hown [⟨0, 6, 9, 13⟩] ⟨0, 6, 12, 23⟩ [] htab (fun z hz => by
        simp only [List.mem_cons, List.not_mem_nil, or_false] at hz
        subst hz
        · exact Or.inr ⟨by decide, _, (htg _ tg_185), hJ.2.2.2.2.2.2.2.2.1⟩) rfl (by decide) (htg _ tg_269) (va_Nw.use rfl hJ.2.2.2.2.2.1) hce hcv hcl ?_
      refine lv_astore_n (lv' := [(3, .ref q9), (0, .ref (xd 0)), (1, .int x0), (2, .int x1)]) hx hb dL_meet_12 rfl hl (by decide) rfl (fun ls hl => ?_)
      refine lv_iconst (v := nI 2) hx hb dL_meet_13 (by decide +kernel) ?_
      exact um_iret hx hb hr hlocks hK hJ (hU.join hR hap) dL_meet_14 ⟨by rw [hT], _, _, _, _, _, by rw [tbN_meet (by rw [hT]; decide)]; exact xo_mk hap hxs⟩
  · obtain ⟨hT, la9, ma9, va9, sc9, hxs⟩ := hp
    refine lv_goto (tgt := 15) hx hb dL_meet_6 (by decide) ?_
    refine lv_iconst (v := nI 0) hx hb dL_meet_15 (by decide +kernel) ?_
    exact um_iret hx hb hr hlocks hK hJ (hU.join hR hap) dL_meet_16 ⟨by rw [hT], _, _, _, _, _, xo_mk hap hxs⟩

set_option maxRecDepth 100000 in
set_option maxHeartbeats 4000000 in
theorem lh_swap (l : Launch) (D : va_G) (κ : Nat → ClassId) (τ : Nat → Nat) (A : Nat → Prop) (π : um_M) (hst : l.stackTraces = false) (xd la ma va : Nat → Nat) (q : tb_Q) (sc : xs_S) (o : Nat) (v : Int64) (h : xo_at κ π xd la ma va q sc o v) (ok : tb_ok q)  : Met l yL_swap wsL_swap ({ frames := 8, cells := 1, slots := 6, locals := 121 }) (va_Pc [.ref (xd 0), .ref o] (um_U D κ τ A π)) (va_Qi (fun (r9 : Int32) (π' : um_M) => r9 = nI (tbT_swap q) ∧ ∃ la' ma' va' sc' v', xo_at κ π' xd la' ma' va' (tbQ_swap q) sc' o v' ∧ (tbT_swap q = 0 → v' = (if tbA_swap q = true then 1 else 0))) (um_U D κ τ A) A) 1 6 A := by
  refine um_metW (cc := cL_swap) (maxL := 3) (ret := some .int) (hh := hL_swap) (by decide) rfl rfl ?_
  intro pp ee s mm args below meth cd ls hx hb hr hts hown hlocks hml htab hK hJ hU hl
  have hown : s.vm.findClass RL = some mm.cls := hown
  have htg : ∀ w ∈ lw_g, w.before args s = true := fun w h => hts w (List.mem_cons_of_mem _ h)
  obtain ⟨σ, f, rfl, hap, hxs, hv⟩ := h
  obtain ⟨hU, hR⟩ := um_S.unjoin hap hU
  have hl : lv_has ls 3 [(0, .ref (xd 0)), (1, .ref o)] := hl
  refine lv_aload_n hx hb dL_swap_0 rfl (lv_at hl 1 rfl) ?_
  refine lv_iconst (v := nI 0) hx hb dL_swap_1 (by decide +kernel) ?_
  refine lv_aload_n hx hb dL_swap_2 rfl (lv_at hl 0 rfl) ?_
  refine um_xcall2i (vx_runV (As := []) (rest := [.int (nI 0), .ref o]) ⟨hx, hb, hml, hown, htg⟩ (xp_swap l D κ τ (um_Am A _) σ xd la ma va q sc hxs hst ok ok.pure ) (cwV 0 htg (lw_cV tg_501 tg_502 tg_503 tg_1 tg_504) rfl rfl rfl (by decide +kernel) ⟨Nat.le_of_ble_eq_true rfl, Nat.le_of_ble_eq_true rfl⟩) (um_preV2 hU hR hap hK hJ hxs.c0 rfl) rfl rfl hl.1 rfl (lv_room (Nat.le_of_ble_eq_true rfl)) dL_swap_3 ⟨Nat.le_of_ble_eq_true rfl, Nat.le_of_ble_eq_true rfl⟩) hU hR (fun E9 ce9 q9 σ H locs hp hE hU hR hap hce hcv hcl => ?_) (fun r9 σ H locs hp hU hR hap => ?_)
  · obtain ⟨sc9, hxs⟩ := hp
    obtain ⟨rfl, hT⟩ := hE
    refine vx_catch (own := RL) (name := nISE) hown [] ⟨0, 15, 18, 23⟩ [] htab (fun z hz => by cases hz) rfl (by decide) (htg _ tg_269) (va_Nw.use rfl hJ.2.2.2.2.2.1) hce hcv hcl ?_
    refine lv_astore_n (lv' := [(2, .ref q9), (0, .ref (xd 0)), (1, .ref o)]) hx hb dL_swap_18 rfl hl (by decide) rfl (fun ls hl => ?_)
    refine lv_iconst (v := nI 1) hx hb dL_swap_19 (by decide +kernel) ?_
    exact um_iret hx hb hr hlocks hK hJ (hU.join hR hap) dL_swap_20 ⟨by rw [hT], _, _, _, _, _, by rw [tbN_swap (by rw [hT]; decide)]; exact xo_mk hap hxs, fun z => by rw [hT] at z; cases z⟩
  · obtain ⟨hr9, hT, la9, ma9, va9, sc9, hxs⟩ := hp
    subst hr9
    refine um_eqB (tgt := 13) hx hb dL_swap_6 (by decide) (fun cb => ?_) (fun cb => ?_)
    · refine lv_lconst (v := 0) hx hb dL_swap_13 (by decide +kernel) ?_
      refine xo_last hx hb hK hU hR hap dL_swap_14 (fun f9 H locs hf9 hU hap => ?_)
      refine lv_goto (tgt := 21) hx hb dL_swap_15 (by decide) ?_
      refine lv_iconst (v := nI 0) hx hb dL_swap_21 (by decide +kernel) ?_
      exact um_iret hx hb hr hlocks hK hJ hU dL_swap_22 ⟨by rw [hT], _, _, _, _, _, xo_mk hap hxs, fun _ => hf9.trans (by rw [cb]; rfl)⟩
    · refine lv_lconst (v := 1) hx hb dL_swap_9 (by decide +kernel) ?_
      refine lv_goto (tgt := 14) hx hb dL_swap_10 (by decide) ?_
      refine xo_last hx hb hK hU hR hap dL_swap_14 (fun f9 H locs hf9 hU hap => ?_)
      refine lv_goto (tgt := 21) hx hb dL_swap_15 (by decide) ?_
      refine lv_iconst (v := nI 0) hx hb dL_swap_21 (by decide +kernel) ?_
      exact um_iret hx hb hr hlocks hK hJ hU dL_swap_22 ⟨by rw [hT], _, _, _, _, _, xo_mk hap hxs, fun _ => hf9.trans (by rw [cb]; rfl)⟩

set_option maxRecDepth 100000 in
set_option maxHeartbeats 4000000 in
theorem lh_part (l : Launch) (D : va_G) (κ : Nat → ClassId) (τ : Nat → Nat) (A : Nat → Prop) (π : um_M) (hst : l.stackTraces = false) (xd la ma va : Nat → Nat) (q : tb_Q) (sc : xs_S) (o : Nat) (v : Int64) (h : xo_at κ π xd la ma va q sc o v) (ok : tb_ok q)  : Met l yL_part wsL_part ({ frames := 8, cells := 1, slots := 6, locals := 121 }) (va_Pc [.ref (xd 0)] (um_U D κ τ A π)) (va_Qi (fun (r9 : Int32) (π' : um_M) => r9 = nI (tbT_part q) ∧ ∃ la' ma' va' sc' v', xo_at κ π' xd la' ma' va' (tbQ_part q) sc' o v') (um_U D κ τ A) A) 1 6 A := by
  refine um_metW (cc := cL_part) (maxL := 2) (ret := some .int) (hh := hL_part) (by decide) rfl rfl ?_
  intro pp ee s mm args below meth cd ls hx hb hr hts hown hlocks hml htab hK hJ hU hl
  have hown : s.vm.findClass RL = some mm.cls := hown
  have htg : ∀ w ∈ lw_g, w.before args s = true := fun w h => hts w (List.mem_cons_of_mem _ h)
  obtain ⟨σ, f, rfl, hap, hxs, hv⟩ := h
  obtain ⟨hU, hR⟩ := um_S.unjoin hap hU
  have hl : lv_has ls 2 [(0, .ref (xd 0))] := hl
  refine lv_aload_n hx hb dL_part_0 rfl (lv_at hl 0 rfl) ?_
  refine um_xcall2v (vx_runV (As := []) (rest := []) ⟨hx, hb, hml, hown, htg⟩ (xp_part l D κ τ (um_Am A _) σ xd la ma va q sc hxs hst ok ok.pure ) (cwV 0 htg (lw_cV tg_512 tg_513 tg_514 tg_1 tg_515) rfl rfl rfl (by decide +kernel) ⟨Nat.le_of_ble_eq_true rfl, Nat.le_of_ble_eq_true rfl⟩) (um_preV2 hU hR hap hK hJ hxs.c0 rfl) rfl rfl hl.1 rfl (lv_room (Nat.le_of_ble_eq_true rfl)) dL_part_1 ⟨Nat.le_of_ble_eq_true rfl, Nat.le_of_ble_eq_true rfl⟩) hU hR (fun E9 ce9 q9 σ H locs hp hE hU hR hap hce hcv hcl => ?_) (fun σ H locs hp hU hR hap => ?_)
  · obtain ⟨sc9, hxs⟩ := hp
    obtain ⟨rfl, hT⟩ := hE
    refine vx_catch (own := RL) (name := nISE) hown [] ⟨0, 4, 7, 23⟩ [] htab (fun z hz => by cases hz) rfl (by decide) (htg _ tg_269) (va_Nw.use rfl hJ.2.2.2.2.2.1) hce hcv hcl ?_
    refine lv_astore_n (lv' := [(1, .ref q9), (0, .ref (xd 0))]) hx hb dL_part_7 rfl hl (by decide) rfl (fun ls hl => ?_)
    refine lv_iconst (v := nI 1) hx hb dL_part_8 (by decide +kernel) ?_
    exact um_iret hx hb hr hlocks hK hJ (hU.join hR hap) dL_part_9 ⟨by rw [hT], _, _, _, _, _, by rw [tbN_part (by rw [hT]; decide)]; exact xo_mk hap hxs⟩
  · obtain ⟨hT, la9, ma9, va9, sc9, hxs⟩ := hp
    refine lv_goto (tgt := 10) hx hb dL_part_4 (by decide) ?_
    refine lv_iconst (v := nI 0) hx hb dL_part_10 (by decide +kernel) ?_
    exact um_iret hx hb hr hlocks hK hJ (hU.join hR hap) dL_part_11 ⟨by rw [hT], _, _, _, _, _, xo_mk hap hxs⟩

set_option maxRecDepth 100000 in
set_option maxHeartbeats 4000000 in
theorem lh_crash (l : Launch) (D : va_G) (κ : Nat → ClassId) (τ : Nat → Nat) (A : Nat → Prop) (π : um_M) (hst : l.stackTraces = false) (xd la ma va : Nat → Nat) (q : tb_Q) (sc : xs_S) (o : Nat) (v : Int64) (h : xo_at κ π xd la ma va q sc o v) (ok : tb_ok q) (x0 : Int32) : Met l yL_crash wsL_crash ({ frames := 8, cells := 1, slots := 6, locals := 122 }) (va_Pc [.ref (xd 0), .int x0] (um_U D κ τ A π)) (va_Qi (fun (r9 : Int32) (π' : um_M) => r9 = nI (tbT_crash x0) ∧ ∃ la' ma' va' sc' v', xo_at κ π' xd la' ma' va' (tbQ_crash q x0) sc' o v') (um_U D κ τ A) A) 1 6 A := by
  refine um_metW (cc := cL_crash) (maxL := 3) (ret := some .int) (hh := hL_crash) (by decide) rfl rfl ?_
  intro pp ee s mm args below meth cd ls hx hb hr hts hown hlocks hml htab hK hJ hU hl
  have hown : s.vm.findClass RL = some mm.cls := hown
  have htg : ∀ w ∈ lw_g, w.before args s = true := fun w h => hts w (List.mem_cons_of_mem _ h)
  obtain ⟨σ, f, rfl, hap, hxs, hv⟩ := h
  obtain ⟨hU, hR⟩ := um_S.unjoin hap hU
  have hl : lv_has ls 3 [(0, .ref (xd 0)), (1, .int x0)] := hl
  refine lv_aload_n hx hb dL_crash_0 rfl (lv_at hl 0 rfl) ?_
  refine lv_iload_n hx hb dL_crash_1 rfl (lv_at hl 1 rfl) ?_
  refine um_xcall2v (vx_runV (As := [.int x0]) (rest := []) ⟨hx, hb, hml, hown, htg⟩ (xp_crash l D κ τ (um_Am A _) σ xd la ma va q sc hxs hst ok ok.pure x0) (cwV 1 htg (lw_cV tg_523 tg_524 tg_525 tg_1 tg_526) rfl rfl rfl (by decide +kernel) ⟨Nat.le_of_ble_eq_true rfl, Nat.le_of_ble_eq_true rfl⟩) (um_preV2 hU hR hap hK hJ hxs.c0 rfl) rfl rfl hl.1 rfl (lv_room (Nat.le_of_ble_eq_true rfl)) dL_crash_2 ⟨Nat.le_of_ble_eq_true rfl, Nat.le_of_ble_eq_true rfl⟩) hU hR (fun E9 ce9 q9 σ H locs hp hE hU hR hap hce hcv hcl => ?_) (fun σ H locs hp hU hR hap => ?_)
  · obtain ⟨sc9, hxs⟩ := hp
    obtain ⟨rfl, hT⟩ := hE
    refine vx_catch (own := RL) (name := nIAE) hown [] ⟨0, 5, 8, 13⟩ [] htab (fun z hz => by cases hz) rfl (by decide) (htg _ tg_185) (va_Nw.use rfl hJ.2.2.2.2.1) hce hcv hcl ?_
    refine lv_astore_n (lv' := [(2, .ref q9), (0, .ref (xd 0)), (1, .int x0)]) hx hb dL_crash_8 rfl hl (by decide) rfl (fun ls hl => ?_)
    refine lv_iconst (v := nI 1) hx hb dL_crash_9 (by decide +kernel) ?_
    exact um_iret hx hb hr hlocks hK hJ (hU.join hR hap) dL_crash_10 ⟨by rw [hT], _, _, _, _, _, by rw [tbN_crash (by rw [hT]; decide)]; exact xo_mk hap hxs⟩
  · obtain ⟨hT, la9, ma9, va9, sc9, hxs⟩ := hp
    refine lv_goto (tgt := 11) hx hb dL_crash_5 (by decide) ?_
    refine lv_iconst (v := nI 0) hx hb dL_crash_11 (by decide +kernel) ?_
    exact um_iret hx hb hr hlocks hK hJ (hU.join hR hap) dL_crash_12 ⟨by rw [hT], _, _, _, _, _, xo_mk hap hxs⟩

set_option maxRecDepth 100000 in
set_option maxHeartbeats 4000000 in
theorem lh_known (l : Launch) (D : va_G) (κ : Nat → ClassId) (τ : Nat → Nat) (A : Nat → Prop) (π : um_M) (hst : l.stackTraces = false) (xd la ma va : Nat → Nat) (q : tb_Q) (sc : xs_S) (o : Nat) (v : Int64) (h : xo_at κ π xd la ma va q sc o v) (ok : tb_ok q) (x0 x1 : Int32) : Met l yL_known wsL_known ({ frames := 8, cells := 1, slots := 6, locals := 123 }) (va_Pc [.ref (xd 0), .int x0, .int x1, .ref o] (um_U D κ τ A π)) (va_Qi (fun (r9 : Int32) (π' : um_M) => r9 = nI (tbT_known x0 x1) ∧ ∃ la' ma' va' sc' v', xo_at κ π' xd la' ma' va' q sc' o v' ∧ (tbT_known x0 x1 = 0 → v' = (nI (tbA_known q x0 x1)).toInt64)) (um_U D κ τ A) A) 1 6 A := by
  refine um_metW (cc := cL_known) (maxL := 5) (ret := some .int) (hh := hL_known) (by decide) rfl rfl ?_
  intro pp ee s mm args below meth cd ls hx hb hr hts hown hlocks hml htab hK hJ hU hl
  have hown : s.vm.findClass RL = some mm.cls := hown
  have htg : ∀ w ∈ lw_g, w.before args s = true := fun w h => hts w (List.mem_cons_of_mem _ h)
  obtain ⟨σ, f, rfl, hap, hxs, hv⟩ := h
  obtain ⟨hU, hR⟩ := um_S.unjoin hap hU
  have hl : lv_has ls 5 [(0, .ref (xd 0)), (1, .int x0), (2, .int x1), (3, .ref o)] := hl
  refine lv_aload_n hx hb dL_known_0 rfl (lv_at hl 3 rfl) ?_
  refine lv_iconst (v := nI 0) hx hb dL_known_1 (by decide +kernel) ?_
  refine lv_aload_n hx hb dL_known_2 rfl (lv_at hl 0 rfl) ?_
  refine lv_iload_n hx hb dL_known_3 rfl (lv_at hl 1 rfl) ?_
  refine lv_iload_n hx hb dL_known_4 rfl (lv_at hl 2 rfl) ?_
  refine um_xcall2i (vx_runV (As := [.int x0, .int x1]) (rest := [.int (nI 0), .ref o]) ⟨hx, hb, hml, hown, htg⟩ (xp_known l D κ τ (um_Am A _) σ xd la ma va q sc hxs hst ok ok.pure x0 x1) (cwV 2 htg (lw_cV tg_534 tg_535 tg_536 tg_1 tg_537) rfl rfl rfl (by decide +kernel) ⟨Nat.le_of_ble_eq_true rfl, Nat.le_of_ble_eq_true rfl⟩) (um_preV2 hU hR hap hK hJ hxs.c0 rfl) rfl rfl hl.1 rfl (lv_room (Nat.le_of_ble_eq_true rfl)) dL_known_5 ⟨Nat.le_of_ble_eq_true rfl, Nat.le_of_ble_eq_true rfl⟩) hU hR (fun E9 ce9 q9 σ H locs hp hE hU hR hap hce hcv hcl => ?_) (fun r9 σ H locs hp hU hR hap => ?_)
  · obtain ⟨sc9, hxs⟩ := hp
    obtain ⟨rfl, hT⟩ := hE
    refine vx_catch (own := RL) (name := nIAE) hown [] ⟨0, 10, 13, 13⟩ [] htab (fun z hz => by cases hz) rfl (by decide) (htg _ tg_185) (va_Nw.use rfl hJ.2.2.2.2.1) hce hcv hcl ?_
    refine lv_astore (lv' := [(4, .ref q9), (0, .ref (xd 0)), (1, .int x0), (2, .int x1), (3, .ref o)]) hx hb dL_known_13 hl (by decide) rfl (fun ls hl => ?_)
    refine lv_iconst (v := nI 1) hx hb dL_known_15 (by decide +kernel) ?_
    exact um_iret hx hb hr hlocks hK hJ (hU.join hR hap) dL_known_16 ⟨by rw [hT], _, _, _, _, _, xo_mk hap hxs, fun z => by rw [hT] at z; cases z⟩
  · obtain ⟨hr9, hT, la9, ma9, va9, sc9, hxs⟩ := hp
    subst hr9
    refine lv_i2l hx hb dL_known_8 rfl ?_
    refine xo_last hx hb hK hU hR hap dL_known_9 (fun f9 H locs hf9 hU hap => ?_)
    refine lv_goto (tgt := 17) hx hb dL_known_10 (by decide) ?_
    refine lv_iconst (v := nI 0) hx hb dL_known_17 (by decide +kernel) ?_
    exact um_iret hx hb hr hlocks hK hJ hU dL_known_18 ⟨by rw [hT], _, _, _, _, _, xo_mk hap hxs, fun _ => hf9.trans rfl⟩

set_option maxRecDepth 100000 in
set_option maxHeartbeats 4000000 in
theorem lh_holder (l : Launch) (D : va_G) (κ : Nat → ClassId) (τ : Nat → Nat) (A : Nat → Prop) (π : um_M) (hst : l.stackTraces = false) (xd la ma va : Nat → Nat) (q : tb_Q) (sc : xs_S) (o : Nat) (v : Int64) (h : xo_at κ π xd la ma va q sc o v) (ok : tb_ok q) (x0 x1 x2 : Int32) : Met l yL_holder wsL_holder ({ frames := 8, cells := 1, slots := 6, locals := 124 }) (va_Pc [.ref (xd 0), .int x0, .int x1, .int x2, .ref o] (um_U D κ τ A π)) (va_Qi (fun (r9 : Int32) (π' : um_M) => r9 = nI (tbT_holder x0 x1 x2) ∧ ∃ la' ma' va' sc' v', xo_at κ π' xd la' ma' va' q sc' o v' ∧ (tbT_holder x0 x1 x2 = 0 → v' = (tbA_holder q x0 x1 x2).toInt64)) (um_U D κ τ A) A) 1 6 A := by
  refine um_metW (cc := cL_holder) (maxL := 6) (ret := some .int) (hh := hL_holder) (by decide) rfl rfl ?_
  intro pp ee s mm args below meth cd ls hx hb hr hts hown hlocks hml htab hK hJ hU hl
  have hown : s.vm.findClass RL = some mm.cls := hown
  have htg : ∀ w ∈ lw_g, w.before args s = true := fun w h => hts w (List.mem_cons_of_mem _ h)
  obtain ⟨σ, f, rfl, hap, hxs, hv⟩ := h
  obtain ⟨hU, hR⟩ := um_S.unjoin hap hU
  have hl : lv_has ls 6 [(0, .ref (xd 0)), (1, .int x0), (2, .int x1), (3, .int x2), (4, .ref o)] := hl
  refine lv_aload hx hb dL_holder_0 (lv_at hl 4 rfl) ?_
  refine lv_iconst (v := nI 0) hx hb dL_holder_2 (by decide +kernel) ?_
  refine lv_aload_n hx hb dL_holder_3 rfl (lv_at hl 0 rfl) ?_
  refine lv_iload_n hx hb dL_holder_4 rfl (lv_at hl 1 rfl) ?_
  refine lv_iload_n hx hb dL_holder_5 rfl (lv_at hl 2 rfl) ?_
  refine lv_iload_n hx hb dL_holder_6 rfl (lv_at hl 3 rfl) ?_
  refine um_xcall2i (vx_runV (As := [.int x0, .int x1, .int x2]) (rest := [.int (nI 0), .ref o]) ⟨hx, hb, hml, hown, htg⟩ (xp_holder l D κ τ (um_Am A _) σ xd la ma va q sc hxs hst ok ok.pure x0 x1 x2) (cwV 3 htg (lw_cV tg_541 tg_542 tg_543 tg_1 tg_544) rfl rfl rfl (by decide +kernel) ⟨Nat.le_of_ble_eq_true rfl, Nat.le_of_ble_eq_true rfl⟩) (um_preV2 hU hR hap hK hJ hxs.c0 rfl) rfl rfl hl.1 rfl (lv_room (Nat.le_of_ble_eq_true rfl)) dL_holder_7 ⟨Nat.le_of_ble_eq_true rfl, Nat.le_of_ble_eq_true rfl⟩) hU hR (fun E9 ce9 q9 σ H locs hp hE hU hR hap hce hcv hcl => ?_) (fun r9 σ H locs hp hU hR hap => ?_)
  · obtain ⟨sc9, hxs⟩ := hp
    obtain ⟨rfl, hT⟩ := hE
    refine vx_catch (own := RL) (name := nIAE) hown [] ⟨0, 12, 15, 13⟩ [] htab (fun z hz => by cases hz) rfl (by decide) (htg _ tg_185) (va_Nw.use rfl hJ.2.2.2.2.1) hce hcv hcl ?_
    refine lv_astore (lv' := [(5, .ref q9), (0, .ref (xd 0)), (1, .int x0), (2, .int x1), (3, .int x2), (4, .ref o)]) hx hb dL_holder_15 hl (by decide) rfl (fun ls hl => ?_)
    refine lv_iconst (v := nI 1) hx hb dL_holder_17 (by decide +kernel) ?_
    exact um_iret hx hb hr hlocks hK hJ (hU.join hR hap) dL_holder_18 ⟨by rw [hT], _, _, _, _, _, xo_mk hap hxs, fun z => by rw [hT] at z; cases z⟩
  · obtain ⟨hr9, hT, la9, ma9, va9, sc9, hxs⟩ := hp
    subst hr9
    refine lv_i2l hx hb dL_holder_10 rfl ?_
    refine xo_last hx hb hK hU hR hap dL_holder_11 (fun f9 H locs hf9 hU hap => ?_)
    refine lv_goto (tgt := 19) hx hb dL_holder_12 (by decide) ?_
    refine lv_iconst (v := nI 0) hx hb dL_holder_19 (by decide +kernel) ?_
    exact um_iret hx hb hr hlocks hK hJ hU dL_holder_20 ⟨by rw [hT], _, _, _, _, _, xo_mk hap hxs, fun _ => hf9.trans rfl⟩

set_option maxRecDepth 100000 in
set_option maxHeartbeats 4000000 in
theorem lh_value (l : Launch) (D : va_G) (κ : Nat → ClassId) (τ : Nat → Nat) (A : Nat → Prop) (π : um_M) (hst : l.stackTraces = false) (xd la ma va : Nat → Nat) (q : tb_Q) (sc : xs_S) (o : Nat) (v : Int64) (h : xo_at κ π xd la ma va q sc o v) (ok : tb_ok q) (x0 x1 x2 x3 : Int32) : Met l yL_value wsL_value ({ frames := 8, cells := 2, slots := 12, locals := 126 }) (va_Pc [.ref (xd 0), .int x0, .int x1, .int x2, .int x3, .ref o] (um_U D κ τ A π)) (va_Qi (fun (r9 : Int32) (π' : um_M) => r9 = nI (tbT_value q x0 x1 x2 x3) ∧ ∃ la' ma' va' sc' v', xo_at κ π' xd la' ma' va' q sc' o v' ∧ (tbT_value q x0 x1 x2 x3 = 0 → v' = (nI (tbA_value q x0 x1 x2 x3)).toInt64)) (um_U D κ τ A) A) 2 12 A := by
  refine um_metW (cc := cL_value) (maxL := 7) (ret := some .int) (hh := hL_value) (by decide) rfl rfl ?_
  intro pp ee s mm args below meth cd ls hx hb hr hts hown hlocks hml htab hK hJ hU hl
  have hown : s.vm.findClass RL = some mm.cls := hown
  have htg : ∀ w ∈ lw_g, w.before args s = true := fun w h => hts w (List.mem_cons_of_mem _ h)
  obtain ⟨σ, f, rfl, hap, hxs, hv⟩ := h
  obtain ⟨hU, hR⟩ := um_S.unjoin hap hU
  have hl : lv_has ls 7 [(0, .ref (xd 0)), (1, .int x0), (2, .int x1), (3, .int x2), (4, .int x3), (5, .ref o)] := hl
  refine lv_aload hx hb dL_value_0 (lv_at hl 5 rfl) ?_
  refine lv_iconst (v := nI 0) hx hb dL_value_2 (by decide +kernel) ?_
  refine lv_aload_n hx hb dL_value_3 rfl (lv_at hl 0 rfl) ?_
  refine lv_iload_n hx hb dL_value_4 rfl (lv_at hl 1 rfl) ?_
  refine lv_iload_n hx hb dL_value_5 rfl (lv_at hl 2 rfl) ?_
  refine lv_iload_n hx hb dL_value_6 rfl (lv_at hl 3 rfl) ?_
  refine lv_iload hx hb dL_value_7 (lv_at hl 4 rfl) ?_
  refine um_xcall2i (vx_runV (As := [.int x0, .int x1, .int x2, .int x3]) (rest := [.int (nI 0), .ref o]) ⟨hx, hb, hml, hown, htg⟩ (xp_value l D κ τ (um_Am A _) σ xd la ma va q sc hxs hst ok ok.pure x0 x1 x2 x3) (cwV 4 htg (lw_cV tg_548 tg_549 tg_550 tg_1 tg_551) rfl rfl rfl (by decide +kernel) ⟨Nat.le_of_ble_eq_true rfl, Nat.le_of_ble_eq_true rfl⟩) (um_preV2 hU hR hap hK hJ hxs.c0 rfl) rfl rfl hl.1 rfl (lv_room (Nat.le_of_ble_eq_true rfl)) dL_value_9 ⟨Nat.le_of_ble_eq_true rfl, Nat.le_of_ble_eq_true rfl⟩) hU hR (fun E9 ce9 q9 σ H locs hp hE hU hR hap hce hcv hcl => ?_) (fun r9 σ H locs hp hU hR hap => ?_)
  · obtain ⟨sc9, hxs⟩ := hp
    rcases hE with ⟨rfl, hT⟩ | ⟨rfl, hT⟩
    · refine vx_catch (own := RL) (name := nIAE) hown [] ⟨0, 14, 17, 13⟩ [⟨0, 14, 21, 35⟩] htab (fun z hz => by cases hz) rfl (by decide) (htg _ tg_185) (va_Nw.use rfl hJ.2.2.2.2.1) hce hcv hcl ?_
      refine lv_astore (lv' := [(6, .ref q9), (0, .ref (xd 0)), (1, .int x0), (2, .int x1), (3, .int x2), (4, .int x3), (5, .ref o)]) hx hb dL_value_17 hl (by decide) rfl (fun ls hl => ?_)
      refine lv_iconst (v := nI 1) hx hb dL_value_19 (by decide +kernel) ?_
      exact um_iret hx hb hr hlocks hK hJ (hU.join hR hap) dL_value_20 ⟨by rw [hT], _, _, _, _, _, xo_mk hap hxs, fun z => by rw [hT] at z; cases z⟩
    · refine vx_catch (own := RL) (name := nNSE) hown [⟨0, 14, 17, 13⟩] ⟨0, 14, 21, 35⟩ [] htab (fun z hz => by
        simp only [List.mem_cons, List.not_mem_nil, or_false] at hz
        subst hz
        · exact Or.inr ⟨by decide, _, (htg _ tg_185), hJ.2.2.2.2.2.2.2.2.2.2.2.1⟩) rfl (by decide) (htg _ tg_432) (va_Nw.use rfl hJ.2.2.2.2.2.2.1) hce hcv hcl ?_
      refine lv_astore (lv' := [(6, .ref q9), (0, .ref (xd 0)), (1, .int x0), (2, .int x1), (3, .int x2), (4, .int x3), (5, .ref o)]) hx hb dL_value_21 hl (by decide) rfl (fun ls hl => ?_)
      refine lv_iconst (v := nI 2) hx hb dL_value_23 (by decide +kernel) ?_
      exact um_iret hx hb hr hlocks hK hJ (hU.join hR hap) dL_value_24 ⟨by rw [hT], _, _, _, _, _, xo_mk hap hxs, fun z => by rw [hT] at z; cases z⟩
  · obtain ⟨hr9, hT, la9, ma9, va9, sc9, hxs⟩ := hp
    subst hr9
    refine lv_i2l hx hb dL_value_12 rfl ?_
    refine xo_last hx hb hK hU hR hap dL_value_13 (fun f9 H locs hf9 hU hap => ?_)
    refine lv_goto (tgt := 25) hx hb dL_value_14 (by decide) ?_
    refine lv_iconst (v := nI 0) hx hb dL_value_25 (by decide +kernel) ?_
    exact um_iret hx hb hr hlocks hK hJ hU dL_value_26 ⟨by rw [hT], _, _, _, _, _, xo_mk hap hxs, fun _ => hf9.trans rfl⟩

set_option maxRecDepth 100000 in
set_option maxHeartbeats 4000000 in
theorem lh_candidate (l : Launch) (D : va_G) (κ : Nat → ClassId) (τ : Nat → Nat) (A : Nat → Prop) (π : um_M) (hst : l.stackTraces = false) (xd la ma va : Nat → Nat) (q : tb_Q) (sc : xs_S) (o : Nat) (v : Int64) (h : xo_at κ π xd la ma va q sc o v) (ok : tb_ok q) (x0 x1 x2 x3 x4 : Int32) : Met l yL_candidate wsL_candidate ({ frames := 8, cells := 1, slots := 6, locals := 126 }) (va_Pc [.ref (xd 0), .int x0, .int x1, .int x2, .int x3, .int x4, .ref o] (um_U D κ τ A π)) (va_Qi (fun (r9 : Int32) (π' : um_M) => r9 = nI (tbT_candidate x0 x1 x2 x3 x4) ∧ ∃ la' ma' va' sc' v', xo_at κ π' xd la' ma' va' q sc' o v' ∧ (tbT_candidate x0 x1 x2 x3 x4 = 0 → v' = (tbA_candidate q x0 x1 x2 x3 x4).toInt64)) (um_U D κ τ A) A) 1 6 A := by
  refine um_metW (cc := cL_candidate) (maxL := 8) (ret := some .int) (hh := hL_candidate) (by decide) rfl rfl ?_
  intro pp ee s mm args below meth cd ls hx hb hr hts hown hlocks hml htab hK hJ hU hl
  have hown : s.vm.findClass RL = some mm.cls := hown
  have htg : ∀ w ∈ lw_g, w.before args s = true := fun w h => hts w (List.mem_cons_of_mem _ h)
  obtain ⟨σ, f, rfl, hap, hxs, hv⟩ := h
  obtain ⟨hU, hR⟩ := um_S.unjoin hap hU
  have hl : lv_has ls 8 [(0, .ref (xd 0)), (1, .int x0), (2, .int x1), (3, .int x2), (4, .int x3), (5, .int x4), (6, .ref o)] := hl
  refine lv_aload hx hb dL_candidate_0 (lv_at hl 6 rfl) ?_
  refine lv_iconst (v := nI 0) hx hb dL_candidate_2 (by decide +kernel) ?_
  refine lv_aload_n hx hb dL_candidate_3 rfl (lv_at hl 0 rfl) ?_
  refine lv_iload_n hx hb dL_candidate_4 rfl (lv_at hl 1 rfl) ?_
  refine lv_iload_n hx hb dL_candidate_5 rfl (lv_at hl 2 rfl) ?_
  refine lv_iload_n hx hb dL_candidate_6 rfl (lv_at hl 3 rfl) ?_
  refine lv_iload hx hb dL_candidate_7 (lv_at hl 4 rfl) ?_
  refine lv_iload hx hb dL_candidate_9 (lv_at hl 5 rfl) ?_
  refine um_xcall2i (vx_runV (As := [.int x0, .int x1, .int x2, .int x3, .int x4]) (rest := [.int (nI 0), .ref o]) ⟨hx, hb, hml, hown, htg⟩ (xp_candidate l D κ τ (um_Am A _) σ xd la ma va q sc hxs hst ok ok.pure x0 x1 x2 x3 x4) (cwV 5 htg (lw_cV tg_559 tg_560 tg_561 tg_1 tg_562) rfl rfl rfl (by decide +kernel) ⟨Nat.le_of_ble_eq_true rfl, Nat.le_of_ble_eq_true rfl⟩) (um_preV2 hU hR hap hK hJ hxs.c0 rfl) rfl rfl hl.1 rfl (lv_room (Nat.le_of_ble_eq_true rfl)) dL_candidate_11 ⟨Nat.le_of_ble_eq_true rfl, Nat.le_of_ble_eq_true rfl⟩) hU hR (fun E9 ce9 q9 σ H locs hp hE hU hR hap hce hcv hcl => ?_) (fun r9 σ H locs hp hU hR hap => ?_)
  · obtain ⟨sc9, hxs⟩ := hp
    obtain ⟨rfl, hT⟩ := hE
    refine vx_catch (own := RL) (name := nIAE) hown [] ⟨0, 16, 19, 13⟩ [] htab (fun z hz => by cases hz) rfl (by decide) (htg _ tg_185) (va_Nw.use rfl hJ.2.2.2.2.1) hce hcv hcl ?_
    refine lv_astore (lv' := [(7, .ref q9), (0, .ref (xd 0)), (1, .int x0), (2, .int x1), (3, .int x2), (4, .int x3), (5, .int x4), (6, .ref o)]) hx hb dL_candidate_19 hl (by decide) rfl (fun ls hl => ?_)
    refine lv_iconst (v := nI 1) hx hb dL_candidate_21 (by decide +kernel) ?_
    exact um_iret hx hb hr hlocks hK hJ (hU.join hR hap) dL_candidate_22 ⟨by rw [hT], _, _, _, _, _, xo_mk hap hxs, fun z => by rw [hT] at z; cases z⟩
  · obtain ⟨hr9, hT, la9, ma9, va9, sc9, hxs⟩ := hp
    subst hr9
    refine lv_i2l hx hb dL_candidate_14 rfl ?_
    refine xo_last hx hb hK hU hR hap dL_candidate_15 (fun f9 H locs hf9 hU hap => ?_)
    refine lv_goto (tgt := 23) hx hb dL_candidate_16 (by decide) ?_
    refine lv_iconst (v := nI 0) hx hb dL_candidate_23 (by decide +kernel) ?_
    exact um_iret hx hb hr hlocks hK hJ hU dL_candidate_24 ⟨by rw [hT], _, _, _, _, _, xo_mk hap hxs, fun _ => hf9.trans rfl⟩

set_option maxRecDepth 100000 in
set_option maxHeartbeats 4000000 in
theorem lh_conflict (l : Launch) (D : va_G) (κ : Nat → ClassId) (τ : Nat → Nat) (A : Nat → Prop) (π : um_M) (hst : l.stackTraces = false) (xd la ma va : Nat → Nat) (q : tb_Q) (sc : xs_S) (o : Nat) (v : Int64) (h : xo_at κ π xd la ma va q sc o v) (ok : tb_ok q) (x0 x1 : Int32) : Met l yL_conflict wsL_conflict ({ frames := 8, cells := 1, slots := 6, locals := 134 }) (va_Pc [.ref (xd 0), .int x0, .int x1, .ref o] (um_U D κ τ A π)) (va_Qi (fun (r9 : Int32) (π' : um_M) => r9 = nI (tbT_conflict x0 x1) ∧ ∃ la' ma' va' sc' v', xo_at κ π' xd la' ma' va' q sc' o v' ∧ (tbT_conflict x0 x1 = 0 → v' = (tbA_conflict q x0 x1).toInt64)) (um_U D κ τ A) A) 1 6 A := by
  refine um_metW (cc := cL_conflict) (maxL := 5) (ret := some .int) (hh := hL_conflict) (by decide) rfl rfl ?_
  intro pp ee s mm args below meth cd ls hx hb hr hts hown hlocks hml htab hK hJ hU hl
  have hown : s.vm.findClass RL = some mm.cls := hown
  have htg : ∀ w ∈ lw_g, w.before args s = true := fun w h => hts w (List.mem_cons_of_mem _ h)
  obtain ⟨σ, f, rfl, hap, hxs, hv⟩ := h
  obtain ⟨hU, hR⟩ := um_S.unjoin hap hU
  have hl : lv_has ls 5 [(0, .ref (xd 0)), (1, .int x0), (2, .int x1), (3, .ref o)] := hl
  refine lv_aload_n hx hb dL_conflict_0 rfl (lv_at hl 3 rfl) ?_
  refine lv_iconst (v := nI 0) hx hb dL_conflict_1 (by decide +kernel) ?_
  refine lv_aload_n hx hb dL_conflict_2 rfl (lv_at hl 0 rfl) ?_
  refine lv_iload_n hx hb dL_conflict_3 rfl (lv_at hl 1 rfl) ?_
  refine lv_iload_n hx hb dL_conflict_4 rfl (lv_at hl 2 rfl) ?_
  refine um_xcall2i (vx_runV (As := [.int x0, .int x1]) (rest := [.int (nI 0), .ref o]) ⟨hx, hb, hml, hown, htg⟩ (xp_conflict l D κ τ (um_Am A _) σ xd la ma va q sc hxs hst ok ok.pure x0 x1) (cwV 2 htg (lw_cV tg_570 tg_571 tg_572 tg_1 tg_573) rfl rfl rfl (by decide +kernel) ⟨Nat.le_of_ble_eq_true rfl, Nat.le_of_ble_eq_true rfl⟩) (um_preV2 hU hR hap hK hJ hxs.c0 rfl) rfl rfl hl.1 rfl (lv_room (Nat.le_of_ble_eq_true rfl)) dL_conflict_5 ⟨Nat.le_of_ble_eq_true rfl, Nat.le_of_ble_eq_true rfl⟩) hU hR (fun E9 ce9 q9 σ H locs hp hE hU hR hap hce hcv hcl => ?_) (fun r9 σ H locs hp hU hR hap => ?_)
  · obtain ⟨sc9, hxs⟩ := hp
    obtain ⟨rfl, hT⟩ := hE
    refine vx_catch (own := RL) (name := nIAE) hown [] ⟨0, 10, 13, 13⟩ [] htab (fun z hz => by cases hz) rfl (by decide) (htg _ tg_185) (va_Nw.use rfl hJ.2.2.2.2.1) hce hcv hcl ?_
    refine lv_astore (lv' := [(4, .ref q9), (0, .ref (xd 0)), (1, .int x0), (2, .int x1), (3, .ref o)]) hx hb dL_conflict_13 hl (by decide) rfl (fun ls hl => ?_)
    refine lv_iconst (v := nI 1) hx hb dL_conflict_15 (by decide +kernel) ?_
    exact um_iret hx hb hr hlocks hK hJ (hU.join hR hap) dL_conflict_16 ⟨by rw [hT], _, _, _, _, _, xo_mk hap hxs, fun z => by rw [hT] at z; cases z⟩
  · obtain ⟨hr9, hT, la9, ma9, va9, sc9, hxs⟩ := hp
    subst hr9
    refine lv_i2l hx hb dL_conflict_8 rfl ?_
    refine xo_last hx hb hK hU hR hap dL_conflict_9 (fun f9 H locs hf9 hU hap => ?_)
    refine lv_goto (tgt := 17) hx hb dL_conflict_10 (by decide) ?_
    refine lv_iconst (v := nI 0) hx hb dL_conflict_17 (by decide +kernel) ?_
    exact um_iret hx hb hr hlocks hK hJ hU dL_conflict_18 ⟨by rw [hT], _, _, _, _, _, xo_mk hap hxs, fun _ => hf9.trans rfl⟩

set_option maxRecDepth 100000 in
set_option maxHeartbeats 4000000 in
theorem lh_plot (l : Launch) (D : va_G) (κ : Nat → ClassId) (τ : Nat → Nat) (A : Nat → Prop) (π : um_M) (hst : l.stackTraces = false) (xd la ma va : Nat → Nat) (q : tb_Q) (sc : xs_S) (o : Nat) (v : Int64) (h : xo_at κ π xd la ma va q sc o v) (ok : tb_ok q) (x0 x1 x2 : Int32) : Met l yL_plot wsL_plot ({ frames := 8, cells := 1, slots := 6, locals := 159 }) (va_Pc [.ref (xd 0), .int x0, .int x1, .int x2, .ref o] (um_U D κ τ A π)) (va_Qi (fun (r9 : Int32) (π' : um_M) => r9 = nI (tbT_plot x0 x1 x2) ∧ ∃ la' ma' va' sc' v', xo_at κ π' xd la' ma' va' q sc' o v' ∧ (tbT_plot x0 x1 x2 = 0 → v' = tbA_plot q x0 x1 x2)) (um_U D κ τ A) A) 1 6 A := by
  refine um_metW (cc := cL_plot) (maxL := 6) (ret := some .int) (hh := hL_plot) (by decide) rfl rfl ?_
  intro pp ee s mm args below meth cd ls hx hb hr hts hown hlocks hml htab hK hJ hU hl
  have hown : s.vm.findClass RL = some mm.cls := hown
  have htg : ∀ w ∈ lw_g, w.before args s = true := fun w h => hts w (List.mem_cons_of_mem _ h)
  obtain ⟨σ, f, rfl, hap, hxs, hv⟩ := h
  obtain ⟨hU, hR⟩ := um_S.unjoin hap hU
  have hl : lv_has ls 6 [(0, .ref (xd 0)), (1, .int x0), (2, .int x1), (3, .int x2), (4, .ref o)] := hl
  refine lv_aload hx hb dL_plot_0 (lv_at hl 4 rfl) ?_
  refine lv_iconst (v := nI 0) hx hb dL_plot_2 (by decide +kernel) ?_
  refine lv_aload_n hx hb dL_plot_3 rfl (lv_at hl 0 rfl) ?_
  refine lv_iload_n hx hb dL_plot_4 rfl (lv_at hl 1 rfl) ?_
  refine lv_iload_n hx hb dL_plot_5 rfl (lv_at hl 2 rfl) ?_
  refine lv_iload_n hx hb dL_plot_6 rfl (lv_at hl 3 rfl) ?_
  refine um_xcall2l (vx_runV (As := [.int x0, .int x1, .int x2]) (rest := [.int (nI 0), .ref o]) ⟨hx, hb, hml, hown, htg⟩ (xp_plot l D κ τ (um_Am A _) σ xd la ma va q sc hxs hst ok ok.pure x0 x1 x2) (cwV 3 htg (lw_cV tg_577 tg_578 tg_579 tg_1 tg_580) rfl rfl rfl (by decide +kernel) ⟨Nat.le_of_ble_eq_true rfl, Nat.le_of_ble_eq_true rfl⟩) (um_preV2 hU hR hap hK hJ hxs.c0 rfl) rfl rfl hl.1 rfl (lv_room (Nat.le_of_ble_eq_true rfl)) dL_plot_7 ⟨Nat.le_of_ble_eq_true rfl, Nat.le_of_ble_eq_true rfl⟩) hU hR (fun E9 ce9 q9 σ H locs hp hE hU hR hap hce hcv hcl => ?_) (fun r9 σ H locs hp hU hR hap => ?_)
  · obtain ⟨sc9, hxs⟩ := hp
    obtain ⟨rfl, hT⟩ := hE
    refine vx_catch (own := RL) (name := nIAE) hown [] ⟨0, 11, 14, 13⟩ [] htab (fun z hz => by cases hz) rfl (by decide) (htg _ tg_185) (va_Nw.use rfl hJ.2.2.2.2.1) hce hcv hcl ?_
    refine lv_astore (lv' := [(5, .ref q9), (0, .ref (xd 0)), (1, .int x0), (2, .int x1), (3, .int x2), (4, .ref o)]) hx hb dL_plot_14 hl (by decide) rfl (fun ls hl => ?_)
    refine lv_iconst (v := nI 1) hx hb dL_plot_16 (by decide +kernel) ?_
    exact um_iret hx hb hr hlocks hK hJ (hU.join hR hap) dL_plot_17 ⟨by rw [hT], _, _, _, _, _, xo_mk hap hxs, fun z => by rw [hT] at z; cases z⟩
  · obtain ⟨hr9, hT, la9, ma9, va9, sc9, hxs⟩ := hp
    subst hr9
    refine xo_last hx hb hK hU hR hap dL_plot_10 (fun f9 H locs hf9 hU hap => ?_)
    refine lv_goto (tgt := 18) hx hb dL_plot_11 (by decide) ?_
    refine lv_iconst (v := nI 0) hx hb dL_plot_18 (by decide +kernel) ?_
    exact um_iret hx hb hr hlocks hK hJ hU dL_plot_19 ⟨by rw [hT], _, _, _, _, _, xo_mk hap hxs, fun _ => hf9.trans rfl⟩

set_option maxRecDepth 100000 in
set_option maxHeartbeats 4000000 in
theorem lh_total (l : Launch) (D : va_G) (κ : Nat → ClassId) (τ : Nat → Nat) (A : Nat → Prop) (π : um_M) (hst : l.stackTraces = false) (xd la ma va : Nat → Nat) (q : tb_Q) (sc : xs_S) (o : Nat) (v : Int64) (h : xo_at κ π xd la ma va q sc o v) (ok : tb_ok q) (x0 x1 x2 : Int32) : Met l yL_total wsL_total ({ frames := 8, cells := 1, slots := 6, locals := 182 }) (va_Pc [.ref (xd 0), .int x0, .int x1, .int x2, .ref o] (um_U D κ τ A π)) (va_Qi (fun (r9 : Int32) (π' : um_M) => r9 = nI (tbT_total x0 x1 x2) ∧ ∃ la' ma' va' sc' v', xo_at κ π' xd la' ma' va' q sc' o v' ∧ (tbT_total x0 x1 x2 = 0 → v' = tbA_total q x0 x1 x2)) (um_U D κ τ A) A) 1 6 A := by
  refine um_metW (cc := cL_total) (maxL := 6) (ret := some .int) (hh := hL_total) (by decide) rfl rfl ?_
  intro pp ee s mm args below meth cd ls hx hb hr hts hown hlocks hml htab hK hJ hU hl
  have hown : s.vm.findClass RL = some mm.cls := hown
  have htg : ∀ w ∈ lw_g, w.before args s = true := fun w h => hts w (List.mem_cons_of_mem _ h)
  obtain ⟨σ, f, rfl, hap, hxs, hv⟩ := h
  obtain ⟨hU, hR⟩ := um_S.unjoin hap hU
  have hl : lv_has ls 6 [(0, .ref (xd 0)), (1, .int x0), (2, .int x1), (3, .int x2), (4, .ref o)] := hl
  refine lv_aload hx hb dL_total_0 (lv_at hl 4 rfl) ?_
  refine lv_iconst (v := nI 0) hx hb dL_total_2 (by decide +kernel) ?_
  refine lv_aload_n hx hb dL_total_3 rfl (lv_at hl 0 rfl) ?_
  refine lv_iload_n hx hb dL_total_4 rfl (lv_at hl 1 rfl) ?_
  refine lv_iload_n hx hb dL_total_5 rfl (lv_at hl 2 rfl) ?_
  refine lv_iload_n hx hb dL_total_6 rfl (lv_at hl 3 rfl) ?_
  refine um_xcall2l (vx_runV (As := [.int x0, .int x1, .int x2]) (rest := [.int (nI 0), .ref o]) ⟨hx, hb, hml, hown, htg⟩ (xp_total l D κ τ (um_Am A _) σ xd la ma va q sc hxs hst ok ok.pure x0 x1 x2) (cwV 3 htg (lw_cV tg_609 tg_610 tg_611 tg_1 tg_612) rfl rfl rfl (by decide +kernel) ⟨Nat.le_of_ble_eq_true rfl, Nat.le_of_ble_eq_true rfl⟩) (um_preV2 hU hR hap hK hJ hxs.c0 rfl) rfl rfl hl.1 rfl (lv_room (Nat.le_of_ble_eq_true rfl)) dL_total_7 ⟨Nat.le_of_ble_eq_true rfl, Nat.le_of_ble_eq_true rfl⟩) hU hR (fun E9 ce9 q9 σ H locs hp hE hU hR hap hce hcv hcl => ?_) (fun r9 σ H locs hp hU hR hap => ?_)
  · obtain ⟨sc9, hxs⟩ := hp
    obtain ⟨rfl, hT⟩ := hE
    refine vx_catch (own := RL) (name := nIAE) hown [] ⟨0, 11, 14, 13⟩ [] htab (fun z hz => by cases hz) rfl (by decide) (htg _ tg_185) (va_Nw.use rfl hJ.2.2.2.2.1) hce hcv hcl ?_
    refine lv_astore (lv' := [(5, .ref q9), (0, .ref (xd 0)), (1, .int x0), (2, .int x1), (3, .int x2), (4, .ref o)]) hx hb dL_total_14 hl (by decide) rfl (fun ls hl => ?_)
    refine lv_iconst (v := nI 1) hx hb dL_total_16 (by decide +kernel) ?_
    exact um_iret hx hb hr hlocks hK hJ (hU.join hR hap) dL_total_17 ⟨by rw [hT], _, _, _, _, _, xo_mk hap hxs, fun z => by rw [hT] at z; cases z⟩
  · obtain ⟨hr9, hT, la9, ma9, va9, sc9, hxs⟩ := hp
    subst hr9
    refine xo_last hx hb hK hU hR hap dL_total_10 (fun f9 H locs hf9 hU hap => ?_)
    refine lv_goto (tgt := 18) hx hb dL_total_11 (by decide) ?_
    refine lv_iconst (v := nI 0) hx hb dL_total_18 (by decide +kernel) ?_
    exact um_iret hx hb hr hlocks hK hJ hU dL_total_19 ⟨by rw [hT], _, _, _, _, _, xo_mk hap hxs, fun _ => hf9.trans rfl⟩
