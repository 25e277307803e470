set_option maxRecDepth 100000 in
set_option maxHeartbeats 4000000 in
theorem xk_Crew (l : Launch) (D : va_G) (κ : Nat → ClassId) (τ : Nat → Nat) (A : Nat → Prop) (σ : um_M) (a : Nat) (hs : um_hs σ [(a, .inr (0, [.null, .null, .int 0, .int 0]))]) : Met l yX0_init wsX0_init ({ frames := 1, cells := 12, slots := 60, locals := 12 }) (va_Pc [.ref a] (um_U D κ τ A σ)) (va_Qv (fun σ' : um_M => ∃ (q1 : Nat) (r1 : Nat → Nat) (q2 : Nat) (r2 : Nat → Nat), um_hs σ' [(a, .inr (0, [.ref q1, .ref q2, .int (-1), .int (-1)])), (q1, xs_R (κ 2) 5 (fun i => if i < 5 then some (r1 i) else none)), (r1 0, xs_A (κ 0) 5 (fun _ => 0)), (r1 1, xs_A (κ 0) 5 (fun _ => 0)), (r1 2, xs_A (κ 0) 5 (fun _ => 0)), (r1 3, xs_A (κ 0) 5 (fun _ => 0)), (r1 4, xs_A (κ 0) 5 (fun _ => 0)), (q2, xs_R (κ 2) 5 (fun i => if i < 5 then some (r2 i) else none)), (r2 0, xs_A (κ 0) 5 (fun _ => 0)), (r2 1, xs_A (κ 0) 5 (fun _ => 0)), (r2 2, xs_A (κ 0) 5 (fun _ => 0)), (r2 3, xs_A (κ 0) 5 (fun _ => 0)), (r2 4, xs_A (κ 0) 5 (fun _ => 0))]) (um_U D κ τ A) A) 12 60 A := by
  refine um_met (cc := cX0_init) (maxL := 1) (ret := none) (by decide) rfl rfl ?_
  intro pp ee s mm args below meth cd ls hx hb hr hts hown hlocks hml hnm hK hJ hU hl
  have hown : s.vm.findClass RX0 = some mm.cls := hown
  have htg : ∀ w ∈ lw_g, w.before args s = true := fun w h => hts w (List.mem_cons_of_mem _ h)
  have hl : lv_has ls 1 [(0, .ref a)] := hl
  refine lv_aload_n hx hb dX0_init_0 rfl (lv_at hl 0 rfl) ?_
  refine W.objInit hx hb hown (htg _ tg_32) (htg _ tg_25) (htg _ tg_26) rfl (by rw [hml]; exact hl.1) rfl dX0_init_1 (Nat.le_of_ble_eq_true rfl) (Nat.le_of_ble_eq_true rfl) ?_
  refine W.eq (g2 := F0 mm 4 ls []) rfl ?_
  refine lv_aload_n hx hb dX0_init_4 rfl (lv_at hl 0 rfl) ?_
  refine lv_iconst (v := nI 5) hx hb dX0_init_5 (by decide +kernel) ?_
  refine lv_iconst (v := nI 5) hx hb dX0_init_6 (by decide +kernel) ?_
  refine uh_mna hx hb hown (htg _ tg_33) hJ.2.2.2.2.2.2.2.2.2.2.2.2.2.2.2.2.2 (htg _ tg_51) hK hU hs rfl rfl (Nat.le_of_ble_eq_true rfl) (Nat.le_of_ble_eq_true rfl) dX0_init_7 (fun q1 r1 σ H hs hU => ?_)
  have hs : um_hs σ [(a, .inr (0, [.null, .null, .int 0, .int 0])), (q1, xs_R (κ 2) 5 (fun i => if i < 5 then some (r1 i) else none)), (r1 0, xs_A (κ 0) 5 (fun _ => 0)), (r1 1, xs_A (κ 0) 5 (fun _ => 0)), (r1 2, xs_A (κ 0) 5 (fun _ => 0)), (r1 3, xs_A (κ 0) 5 (fun _ => 0)), (r1 4, xs_A (κ 0) 5 (fun _ => 0))] := hs
  refine uh_putF (v := .ref q1) (ty := .array (.array .int)) (fs' := [.ref q1, .null, .int 0, .int 0]) hx hb htg inX0 tyX0 tyX0_ok nmX0 hown hK hU hs 0 rfl rfl 0 (by decide) (htg _ tg_35) rfl hnm rfl (by decide +kernel) rfl rfl rfl (Nat.le_of_ble_eq_true rfl) dX0_init_11 (fun σ H locs hs hU => ?_)
  have hs : um_hs σ [(a, .inr (0, [.ref q1, .null, .int 0, .int 0])), (q1, xs_R (κ 2) 5 (fun i => if i < 5 then some (r1 i) else none)), (r1 0, xs_A (κ 0) 5 (fun _ => 0)), (r1 1, xs_A (κ 0) 5 (fun _ => 0)), (r1 2, xs_A (κ 0) 5 (fun _ => 0)), (r1 3, xs_A (κ 0) 5 (fun _ => 0)), (r1 4, xs_A (κ 0) 5 (fun _ => 0))] := hs
  refine lv_aload_n hx hb dX0_init_14 rfl (lv_at hl 0 rfl) ?_
  refine lv_iconst (v := nI 5) hx hb dX0_init_15 (by decide +kernel) ?_
  refine lv_iconst (v := nI 5) hx hb dX0_init_16 (by decide +kernel) ?_
  refine uh_mna hx hb hown (htg _ tg_33) hJ.2.2.2.2.2.2.2.2.2.2.2.2.2.2.2.2.2 (htg _ tg_51) hK hU hs rfl rfl (Nat.le_of_ble_eq_true rfl) (Nat.le_of_ble_eq_true rfl) dX0_init_17 (fun q2 r2 σ H hs hU => ?_)
  have hs : um_hs σ [(a, .inr (0, [.ref q1, .null, .int 0, .int 0])), (q1, xs_R (κ 2) 5 (fun i => if i < 5 then some (r1 i) else none)), (r1 0, xs_A (κ 0) 5 (fun _ => 0)), (r1 1, xs_A (κ 0) 5 (fun _ => 0)), (r1 2, xs_A (κ 0) 5 (fun _ => 0)), (r1 3, xs_A (κ 0) 5 (fun _ => 0)), (r1 4, xs_A (κ 0) 5 (fun _ => 0)), (q2, xs_R (κ 2) 5 (fun i => if i < 5 then some (r2 i) else none)), (r2 0, xs_A (κ 0) 5 (fun _ => 0)), (r2 1, xs_A (κ 0) 5 (fun _ => 0)), (r2 2, xs_A (κ 0) 5 (fun _ => 0)), (r2 3, xs_A (κ 0) 5 (fun _ => 0)), (r2 4, xs_A (κ 0) 5 (fun _ => 0))] := hs
  refine uh_putF (v := .ref q2) (ty := .array (.array .int)) (fs' := [.ref q1, .ref q2, .int 0, .int 0]) hx hb htg inX0 tyX0 tyX0_ok nmX0 hown hK hU hs 0 rfl rfl 1 (by decide) (htg _ tg_37) rfl hnm rfl (by decide +kernel) rfl rfl rfl (Nat.le_of_ble_eq_true rfl) dX0_init_21 (fun σ H locs hs hU => ?_)
  have hs : um_hs σ [(a, .inr (0, [.ref q1, .ref q2, .int 0, .int 0])), (q1, xs_R (κ 2) 5 (fun i => if i < 5 then some (r1 i) else none)), (r1 0, xs_A (κ 0) 5 (fun _ => 0)), (r1 1, xs_A (κ 0) 5 (fun _ => 0)), (r1 2, xs_A (κ 0) 5 (fun _ => 0)), (r1 3, xs_A (κ 0) 5 (fun _ => 0)), (r1 4, xs_A (κ 0) 5 (fun _ => 0)), (q2, xs_R (κ 2) 5 (fun i => if i < 5 then some (r2 i) else none)), (r2 0, xs_A (κ 0) 5 (fun _ => 0)), (r2 1, xs_A (κ 0) 5 (fun _ => 0)), (r2 2, xs_A (κ 0) 5 (fun _ => 0)), (r2 3, xs_A (κ 0) 5 (fun _ => 0)), (r2 4, xs_A (κ 0) 5 (fun _ => 0))] := hs
  refine lv_aload_n hx hb dX0_init_24 rfl (lv_at hl 0 rfl) ?_
  refine lv_iconst (v := -1) hx hb dX0_init_25 (by decide +kernel) ?_
  refine uh_put (v := .int (-1)) (ty := .int) (fs' := [.ref q1, .ref q2, .int (-1), .int 0]) hx hb htg inX0 tyX0 tyX0_ok nmX0 hown hK hU hs 0 rfl rfl 2 (by decide) (htg _ tg_38) rfl (by decide +kernel) rfl rfl rfl (Nat.le_of_ble_eq_true rfl) dX0_init_26 (fun σ H locs hs hU => ?_)
  have hs : um_hs σ [(a, .inr (0, [.ref q1, .ref q2, .int (-1), .int 0])), (q1, xs_R (κ 2) 5 (fun i => if i < 5 then some (r1 i) else none)), (r1 0, xs_A (κ 0) 5 (fun _ => 0)), (r1 1, xs_A (κ 0) 5 (fun _ => 0)), (r1 2, xs_A (κ 0) 5 (fun _ => 0)), (r1 3, xs_A (κ 0) 5 (fun _ => 0)), (r1 4, xs_A (κ 0) 5 (fun _ => 0)), (q2, xs_R (κ 2) 5 (fun i => if i < 5 then some (r2 i) else none)), (r2 0, xs_A (κ 0) 5 (fun _ => 0)), (r2 1, xs_A (κ 0) 5 (fun _ => 0)), (r2 2, xs_A (κ 0) 5 (fun _ => 0)), (r2 3, xs_A (κ 0) 5 (fun _ => 0)), (r2 4, xs_A (κ 0) 5 (fun _ => 0))] := hs
  refine lv_aload_n hx hb dX0_init_29 rfl (lv_at hl 0 rfl) ?_
  refine lv_iconst (v := -1) hx hb dX0_init_30 (by decide +kernel) ?_
  refine uh_put (v := .int (-1)) (ty := .int) (fs' := [.ref q1, .ref q2, .int (-1), .int (-1)]) hx hb htg inX0 tyX0 tyX0_ok nmX0 hown hK hU hs 0 rfl rfl 3 (by decide) (htg _ tg_40) rfl (by decide +kernel) rfl rfl rfl (Nat.le_of_ble_eq_true rfl) dX0_init_31 (fun σ H locs hs hU => ?_)
  have hs : um_hs σ [(a, .inr (0, [.ref q1, .ref q2, .int (-1), .int (-1)])), (q1, xs_R (κ 2) 5 (fun i => if i < 5 then some (r1 i) else none)), (r1 0, xs_A (κ 0) 5 (fun _ => 0)), (r1 1, xs_A (κ 0) 5 (fun _ => 0)), (r1 2, xs_A (κ 0) 5 (fun _ => 0)), (r1 3, xs_A (κ 0) 5 (fun _ => 0)), (r1 4, xs_A (κ 0) 5 (fun _ => 0)), (q2, xs_R (κ 2) 5 (fun i => if i < 5 then some (r2 i) else none)), (r2 0, xs_A (κ 0) 5 (fun _ => 0)), (r2 1, xs_A (κ 0) 5 (fun _ => 0)), (r2 2, xs_A (κ 0) 5 (fun _ => 0)), (r2 3, xs_A (κ 0) 5 (fun _ => 0)), (r2 4, xs_A (κ 0) 5 (fun _ => 0))] := hs
  exact um_vret hx hb hr hlocks hK hJ hU dX0_init_34 ⟨q1, r1, q2, r2, hs⟩

set_option maxRecDepth 100000 in
set_option maxHeartbeats 4000000 in
theorem xk_Lending (l : Launch) (D : va_G) (κ : Nat → ClassId) (τ : Nat → Nat) (A : Nat → Prop) (σ : um_M) (a : Nat) (hs : um_hs σ [(a, .inr (2, [.null]))]) : Met l yX2_init wsX2_init ({ frames := 1, cells := 1, slots := 6, locals := 12 }) (va_Pc [.ref a] (um_U D κ τ A σ)) (va_Qv (fun σ' : um_M => ∃ (q1 : Nat), um_hs σ' [(a, .inr (2, [.ref q1])), (q1, xs_R (κ 3) 6 (fun _ => none))]) (um_U D κ τ A) A) 1 6 A := by
  refine um_met (cc := cX2_init) (maxL := 1) (ret := none) (by decide) rfl rfl ?_
  intro pp ee s mm args below meth cd ls hx hb hr hts hown hlocks hml hnm hK hJ hU hl
  have hown : s.vm.findClass RX2 = some mm.cls := hown
  have htg : ∀ w ∈ lw_g, w.before args s = true := fun w h => hts w (List.mem_cons_of_mem _ h)
  have hl : lv_has ls 1 [(0, .ref a)] := hl
  refine lv_aload_n hx hb dX2_init_0 rfl (lv_at hl 0 rfl) ?_
  refine W.objInit hx hb hown (htg _ tg_57) (htg _ tg_25) (htg _ tg_26) rfl (by rw [hml]; exact hl.1) rfl dX2_init_1 (Nat.le_of_ble_eq_true rfl) (Nat.le_of_ble_eq_true rfl) ?_
  refine W.eq (g2 := F0 mm 4 ls []) rfl ?_
  refine lv_aload_n hx hb dX2_init_4 rfl (lv_at hl 0 rfl) ?_
  refine lv_bipush (v := nI 6) hx hb dX2_init_5 (by decide +kernel) ?_
  refine uh_newq (C := "ForestTablets$Lend") (t0 := 3) hx hb hown (htg _ tg_58) hJ.2.2.2.2.2.2.2.2.2.2.2.2.2.2.2.1 hK hU hs rfl (N' := 6) rfl (by decide) (Nat.le_of_ble_eq_true rfl) (Nat.le_of_ble_eq_true rfl) dX2_init_7 (fun q1 σ H hs hU => ?_)
  have hs : um_hs σ [(a, .inr (2, [.null])), (q1, xs_R (κ 3) 6 (fun _ => none))] := hs
  refine uh_putF (v := .ref q1) (ty := .array (.object "ForestTablets$Lend")) (fs' := [.ref q1]) hx hb htg inX2 tyX2 tyX2_ok nmX2 hown hK hU hs 0 rfl rfl 0 (by decide) (htg _ tg_60) rfl hnm rfl (by decide +kernel) rfl rfl rfl (Nat.le_of_ble_eq_true rfl) dX2_init_10 (fun σ H locs hs hU => ?_)
  have hs : um_hs σ [(a, .inr (2, [.ref q1])), (q1, xs_R (κ 3) 6 (fun _ => none))] := hs
  exact um_vret hx hb hr hlocks hK hJ hU dX2_init_13 ⟨q1, hs⟩

set_option maxRecDepth 100000 in
set_option maxHeartbeats 4000000 in
theorem xk_Notebook (l : Launch) (D : va_G) (κ : Nat → ClassId) (τ : Nat → Nat) (A : Nat → Prop) (σ : um_M) (a : Nat) (hs : um_hs σ [(a, .inr (4, [.null, .null, .null, .null, .int 0, .int 0]))]) : Met l yX4_init wsX4_init ({ frames := 1, cells := 4, slots := 375, locals := 12 }) (va_Pc [.ref a] (um_U D κ τ A σ)) (va_Qv (fun σ' : um_M => ∃ (q1 : Nat) (q2 : Nat) (q3 : Nat) (q4 : Nat), um_hs σ' [(a, .inr (4, [.ref q1, .ref q2, .ref q3, .ref q4, .int 0, .int 0])), (q1, xs_R (κ 4) 360 (fun _ => none)), (q2, xs_R (κ 4) 5 (fun _ => none)), (q3, xs_R (κ 4) 5 (fun _ => none)), (q4, xs_R (κ 4) 5 (fun _ => none))]) (um_U D κ τ A) A) 4 375 A := by
  refine um_met (cc := cX4_init) (maxL := 1) (ret := none) (by decide) rfl rfl ?_
  intro pp ee s mm args below meth cd ls hx hb hr hts hown hlocks hml hnm hK hJ hU hl
  have hown : s.vm.findClass RX4 = some mm.cls := hown
  have htg : ∀ w ∈ lw_g, w.before args s = true := fun w h => hts w (List.mem_cons_of_mem _ h)
  have hl : lv_has ls 1 [(0, .ref a)] := hl
  refine lv_aload_n hx hb dX4_init_0 rfl (lv_at hl 0 rfl) ?_
  refine W.objInit hx hb hown (htg _ tg_69) (htg _ tg_25) (htg _ tg_26) rfl (by rw [hml]; exact hl.1) rfl dX4_init_1 (Nat.le_of_ble_eq_true rfl) (Nat.le_of_ble_eq_true rfl) ?_
  refine W.eq (g2 := F0 mm 4 ls []) rfl ?_
  refine lv_aload_n hx hb dX4_init_4 rfl (lv_at hl 0 rfl) ?_
  refine lv_sipush (v := nI 360) hx hb dX4_init_5 (by decide +kernel) ?_
  refine uh_newq (C := "ForestTablets$Measure") (t0 := 4) hx hb hown (htg _ tg_70) hJ.2.2.2.2.2.2.2.2.2.2.2.2.2.2.2.2.1 hK hU hs rfl (N' := 360) rfl (by decide) (Nat.le_of_ble_eq_true rfl) (Nat.le_of_ble_eq_true rfl) dX4_init_8 (fun q1 σ H hs hU => ?_)
  have hs : um_hs σ [(a, .inr (4, [.null, .null, .null, .null, .int 0, .int 0])), (q1, xs_R (κ 4) 360 (fun _ => none))] := hs
  refine uh_putF (v := .ref q1) (ty := .array (.object "ForestTablets$Measure")) (fs' := [.ref q1, .null, .null, .null, .int 0, .int 0]) hx hb htg inX4 tyX4 tyX4_ok nmX4 hown hK hU hs 0 rfl rfl 0 (by decide) (htg _ tg_72) rfl hnm rfl (by decide +kernel) rfl rfl rfl (Nat.le_of_ble_eq_true rfl) dX4_init_11 (fun σ H locs hs hU => ?_)
  have hs : um_hs σ [(a, .inr (4, [.ref q1, .null, .null, .null, .int 0, .int 0])), (q1, xs_R (κ 4) 360 (fun _ => none))] := hs
  refine lv_aload_n hx hb dX4_init_14 rfl (lv_at hl 0 rfl) ?_
  refine lv_iconst (v := nI 5) hx hb dX4_init_15 (by decide +kernel) ?_
  refine uh_newq (C := "ForestTablets$Measure") (t0 := 4) hx hb hown (htg _ tg_70) hJ.2.2.2.2.2.2.2.2.2.2.2.2.2.2.2.2.1 hK hU hs rfl (N' := 5) rfl (by decide) (Nat.le_of_ble_eq_true rfl) (Nat.le_of_ble_eq_true rfl) dX4_init_16 (fun q2 σ H hs hU => ?_)
  have hs : um_hs σ [(a, .inr (4, [.ref q1, .null, .null, .null, .int 0, .int 0])), (q1, xs_R (κ 4) 360 (fun _ => none)), (q2, xs_R (κ 4) 5 (fun _ => none))] := hs
  refine uh_putF (v := .ref q2) (ty := .array (.object "ForestTablets$Measure")) (fs' := [.ref q1, .ref q2, .null, .null, .int 0, .int 0]) hx hb htg inX4 tyX4 tyX4_ok nmX4 hown hK hU hs 0 rfl rfl 1 (by decide) (htg _ tg_73) rfl hnm rfl (by decide +kernel) rfl rfl rfl (Nat.le_of_ble_eq_true rfl) dX4_init_19 (fun σ H locs hs hU => ?_)
  have hs : um_hs σ [(a, .inr (4, [.ref q1, .ref q2, .null, .null, .int 0, .int 0])), (q1, xs_R (κ 4) 360 (fun _ => none)), (q2, xs_R (κ 4) 5 (fun _ => none))] := hs
  refine lv_aload_n hx hb dX4_init_22 rfl (lv_at hl 0 rfl) ?_
  refine lv_iconst (v := nI 5) hx hb dX4_init_23 (by decide +kernel) ?_
  refine uh_newq (C := "ForestTablets$Measure") (t0 := 4) hx hb hown (htg _ tg_70) hJ.2.2.2.2.2.2.2.2.2.2.2.2.2.2.2.2.1 hK hU hs rfl (N' := 5) rfl (by decide) (Nat.le_of_ble_eq_true rfl) (Nat.le_of_ble_eq_true rfl) dX4_init_24 (fun q3 σ H hs hU => ?_)
  have hs : um_hs σ [(a, .inr (4, [.ref q1, .ref q2, .null, .null, .int 0, .int 0])), (q1, xs_R (κ 4) 360 (fun _ => none)), (q2, xs_R (κ 4) 5 (fun _ => none)), (q3, xs_R (κ 4) 5 (fun _ => none))] := hs
  refine uh_putF (v := .ref q3) (ty := .array (.object "ForestTablets$Measure")) (fs' := [.ref q1, .ref q2, .ref q3, .null, .int 0, .int 0]) hx hb htg inX4 tyX4 tyX4_ok nmX4 hown hK hU hs 0 rfl rfl 2 (by decide) (htg _ tg_74) rfl hnm rfl (by decide +kernel) rfl rfl rfl (Nat.le_of_ble_eq_true rfl) dX4_init_27 (fun σ H locs hs hU => ?_)
  have hs : um_hs σ [(a, .inr (4, [.ref q1, .ref q2, .ref q3, .null, .int 0, .int 0])), (q1, xs_R (κ 4) 360 (fun _ => none)), (q2, xs_R (κ 4) 5 (fun _ => none)), (q3, xs_R (κ 4) 5 (fun _ => none))] := hs
  refine lv_aload_n hx hb dX4_init_30 rfl (lv_at hl 0 rfl) ?_
  refine lv_iconst (v := nI 5) hx hb dX4_init_31 (by decide +kernel) ?_
  refine uh_newq (C := "ForestTablets$Measure") (t0 := 4) hx hb hown (htg _ tg_70) hJ.2.2.2.2.2.2.2.2.2.2.2.2.2.2.2.2.1 hK hU hs rfl (N' := 5) rfl (by decide) (Nat.le_of_ble_eq_true rfl) (Nat.le_of_ble_eq_true rfl) dX4_init_32 (fun q4 σ H hs hU => ?_)
  have hs : um_hs σ [(a, .inr (4, [.ref q1, .ref q2, .ref q3, .null, .int 0, .int 0])), (q1, xs_R (κ 4) 360 (fun _ => none)), (q2, xs_R (κ 4) 5 (fun _ => none)), (q3, xs_R (κ 4) 5 (fun _ => none)), (q4, xs_R (κ 4) 5 (fun _ => none))] := hs
  refine uh_putF (v := .ref q4) (ty := .array (.object "ForestTablets$Measure")) (fs' := [.ref q1, .ref q2, .ref q3, .ref q4, .int 0, .int 0]) hx hb htg inX4 tyX4 tyX4_ok nmX4 hown hK hU hs 0 rfl rfl 3 (by decide) (htg _ tg_75) rfl hnm rfl (by decide +kernel) rfl rfl rfl (Nat.le_of_ble_eq_true rfl) dX4_init_35 (fun σ H locs hs hU => ?_)
  have hs : um_hs σ [(a, .inr (4, [.ref q1, .ref q2, .ref q3, .ref q4, .int 0, .int 0])), (q1, xs_R (κ 4) 360 (fun _ => none)), (q2, xs_R (κ 4) 5 (fun _ => none)), (q3, xs_R (κ 4) 5 (fun _ => none)), (q4, xs_R (κ 4) 5 (fun _ => none))] := hs
  exact um_vret hx hb hr hlocks hK hJ hU dX4_init_38 ⟨q1, q2, q3, q4, hs⟩

set_option maxRecDepth 100000 in
set_option maxHeartbeats 4000000 in
theorem xk_Tariff (l : Launch) (D : va_G) (κ : Nat → ClassId) (τ : Nat → Nat) (A : Nat → Prop) (σ : um_M) (a : Nat) (hs : um_hs σ [(a, .inr (7, [.null, .null, .null]))]) : Met l yX7_init wsX7_init ({ frames := 1, cells := 3, slots := 12, locals := 12 }) (va_Pc [.ref a] (um_U D κ τ A σ)) (va_Qv (fun σ' : um_M => ∃ (q1 : Nat) (q2 : Nat) (q3 : Nat), um_hs σ' [(a, .inr (7, [.ref q1, .ref q2, .ref q3])), (q1, xs_A (κ 0) 4 (upd (upd (upd (upd (fun _ => 0) 0 (nI 50)) 1 (nI 50)) 2 (nI 50)) 3 (nI 50))), (q2, xs_A (κ 0) 4 (upd (upd (upd (upd (fun _ => 0) 0 (nI 20)) 1 (nI 20)) 2 (nI 20)) 3 (nI 20))), (q3, xs_A (κ 0) 4 (upd (upd (upd (upd (fun _ => 0) 0 (nI 200)) 1 (nI 200)) 2 (nI 200)) 3 (nI 200)))]) (um_U D κ τ A) A) 3 12 A := by
  refine um_met (cc := cX7_init) (maxL := 2) (ret := none) (by decide) rfl rfl ?_
  intro pp ee s mm args below meth cd ls hx hb hr hts hown hlocks hml hnm hK hJ hU hl
  have hown : s.vm.findClass RX7 = some mm.cls := hown
  have htg : ∀ w ∈ lw_g, w.before args s = true := fun w h => hts w (List.mem_cons_of_mem _ h)
  have hl : lv_has ls 2 [(0, .ref a)] := hl
  refine lv_aload_n hx hb dX7_init_0 rfl (lv_at hl 0 rfl) ?_
  refine W.objInit hx hb hown (htg _ tg_96) (htg _ tg_25) (htg _ tg_26) rfl (by rw [hml]; exact hl.1) rfl dX7_init_1 (Nat.le_of_ble_eq_true rfl) (Nat.le_of_ble_eq_true rfl) ?_
  refine W.eq (g2 := F0 mm 4 ls []) rfl ?_
  refine lv_aload_n hx hb dX7_init_4 rfl (lv_at hl 0 rfl) ?_
  refine lv_iconst (v := nI 4) hx hb dX7_init_5 (by decide +kernel) ?_
  refine uh_int hx hb (htg _ tg_51) hK hU hs (N' := 4) rfl (by decide) (Nat.le_of_ble_eq_true rfl) (Nat.le_of_ble_eq_true rfl) dX7_init_6 (fun q1 σ H hs hU => ?_)
  have hs : um_hs σ [(a, .inr (7, [.null, .null, .null])), (q1, xs_A (κ 0) 4 (fun _ => 0))] := hs
  refine uh_putF (v := .ref q1) (ty := .array .int) (fs' := [.ref q1, .null, .null]) hx hb htg inX7 tyX7 tyX7_ok nmX7 hown hK hU hs 0 rfl rfl 0 (by decide) (htg _ tg_97) rfl hnm rfl (by decide +kernel) rfl rfl rfl (Nat.le_of_ble_eq_true rfl) dX7_init_8 (fun σ H locs hs hU => ?_)
  have hs : um_hs σ [(a, .inr (7, [.ref q1, .null, .null])), (q1, xs_A (κ 0) 4 (fun _ => 0))] := hs
  refine lv_aload_n hx hb dX7_init_11 rfl (lv_at hl 0 rfl) ?_
  refine lv_iconst (v := nI 4) hx hb dX7_init_12 (by decide +kernel) ?_
  refine uh_int hx hb (htg _ tg_51) hK hU hs (N' := 4) rfl (by decide) (Nat.le_of_ble_eq_true rfl) (Nat.le_of_ble_eq_true rfl) dX7_init_13 (fun q2 σ H hs hU => ?_)
  have hs : um_hs σ [(a, .inr (7, [.ref q1, .null, .null])), (q1, xs_A (κ 0) 4 (fun _ => 0)), (q2, xs_A (κ 0) 4 (fun _ => 0))] := hs
  refine uh_putF (v := .ref q2) (ty := .array .int) (fs' := [.ref q1, .ref q2, .null]) hx hb htg inX7 tyX7 tyX7_ok nmX7 hown hK hU hs 0 rfl rfl 1 (by decide) (htg _ tg_99) rfl hnm rfl (by decide +kernel) rfl rfl rfl (Nat.le_of_ble_eq_true rfl) dX7_init_15 (fun σ H locs hs hU => ?_)
  have hs : um_hs σ [(a, .inr (7, [.ref q1, .ref q2, .null])), (q1, xs_A (κ 0) 4 (fun _ => 0)), (q2, xs_A (κ 0) 4 (fun _ => 0))] := hs
  refine lv_aload_n hx hb dX7_init_18 rfl (lv_at hl 0 rfl) ?_
  refine lv_iconst (v := nI 4) hx hb dX7_init_19 (by decide +kernel) ?_
  refine uh_int hx hb (htg _ tg_51) hK hU hs (N' := 4) rfl (by decide) (Nat.le_of_ble_eq_true rfl) (Nat.le_of_ble_eq_true rfl) dX7_init_20 (fun q3 σ H hs hU => ?_)
  have hs : um_hs σ [(a, .inr (7, [.ref q1, .ref q2, .null])), (q1, xs_A (κ 0) 4 (fun _ => 0)), (q2, xs_A (κ 0) 4 (fun _ => 0)), (q3, xs_A (κ 0) 4 (fun _ => 0))] := hs
  refine uh_putF (v := .ref q3) (ty := .array .int) (fs' := [.ref q1, .ref q2, .ref q3]) hx hb htg inX7 tyX7 tyX7_ok nmX7 hown hK hU hs 0 rfl rfl 2 (by decide) (htg _ tg_101) rfl hnm rfl (by decide +kernel) rfl rfl rfl (Nat.le_of_ble_eq_true rfl) dX7_init_22 (fun σ H locs hs hU => ?_)
  have hs : um_hs σ [(a, .inr (7, [.ref q1, .ref q2, .ref q3])), (q1, xs_A (κ 0) 4 (fun _ => 0)), (q2, xs_A (κ 0) 4 (fun _ => 0)), (q3, xs_A (κ 0) 4 (fun _ => 0))] := hs
  refine lv_iconst (v := nI 0) hx hb dX7_init_25 (by decide +kernel) ?_
  refine lv_istore_n (lv' := [(1, .int (nI 0)), (0, .ref a)]) hx hb dX7_init_26 rfl hl (by decide) rfl (fun ls hl => ?_)
  refine lv_iload_n hx hb dX7_init_27 rfl (lv_at hl 0 rfl) ?_
  refine lv_iconst (v := nI 4) hx hb dX7_init_28 (by decide +kernel) ?_
  refine um_geN (tgt := 63) hx hb dX7_init_29 (by decide) (by decide) (by decide) (fun h => absurd h (by decide)) (fun _ => ?_)
  refine lv_aload_n hx hb dX7_init_32 rfl (lv_at hl 1 rfl) ?_
  refine uh_get (v := .ref q1) hx hb htg inX7 hown hK hU hs 0 rfl rfl 0 (by decide) (htg _ tg_97) rfl dX7_init_33 ?_
  refine lv_iload_n hx hb dX7_init_36 rfl (lv_at hl 0 rfl) ?_
  refine lv_bipush (v := nI 50) hx hb dX7_init_37 (by decide +kernel) ?_
  refine uh_ist hx hb hK hU hs 1 rfl 0 rfl (by decide) (by decide) dX7_init_39 (fun σ H locs hs hU => ?_)
  have hs : um_hs σ [(a, .inr (7, [.ref q1, .ref q2, .ref q3])), (q1, xs_A (κ 0) 4 (upd (fun _ => 0) 0 (nI 50))), (q2, xs_A (κ 0) 4 (fun _ => 0)), (q3, xs_A (κ 0) 4 (fun _ => 0))] := hs
  refine lv_aload_n hx hb dX7_init_40 rfl (lv_at hl 1 rfl) ?_
  refine uh_get (v := .ref q2) hx hb htg inX7 hown hK hU hs 0 rfl rfl 1 (by decide) (htg _ tg_99) rfl dX7_init_41 ?_
  refine lv_iload_n hx hb dX7_init_44 rfl (lv_at hl 0 rfl) ?_
  refine lv_bipush (v := nI 20) hx hb dX7_init_45 (by decide +kernel) ?_
  refine uh_ist hx hb hK hU hs 2 rfl 0 rfl (by decide) (by decide) dX7_init_47 (fun σ H locs hs hU => ?_)
  have hs : um_hs σ [(a, .inr (7, [.ref q1, .ref q2, .ref q3])), (q1, xs_A (κ 0) 4 (upd (fun _ => 0) 0 (nI 50))), (q2, xs_A (κ 0) 4 (upd (fun _ => 0) 0 (nI 20))), (q3, xs_A (κ 0) 4 (fun _ => 0))] := hs
  refine lv_aload_n hx hb dX7_init_48 rfl (lv_at hl 1 rfl) ?_
  refine uh_get (v := .ref q3) hx hb htg inX7 hown hK hU hs 0 rfl rfl 2 (by decide) (htg _ tg_101) rfl dX7_init_49 ?_
  refine lv_iload_n hx hb dX7_init_52 rfl (lv_at hl 0 rfl) ?_
  refine lv_sipush (v := nI 200) hx hb dX7_init_53 (by decide +kernel) ?_
  refine uh_ist hx hb hK hU hs 3 rfl 0 rfl (by decide) (by decide) dX7_init_56 (fun σ H locs hs hU => ?_)
  have hs : um_hs σ [(a, .inr (7, [.ref q1, .ref q2, .ref q3])), (q1, xs_A (κ 0) 4 (upd (fun _ => 0) 0 (nI 50))), (q2, xs_A (κ 0) 4 (upd (fun _ => 0) 0 (nI 20))), (q3, xs_A (κ 0) 4 (upd (fun _ => 0) 0 (nI 200)))] := hs
  refine lv_iinc (k := 0) (v := nI 1) (lv' := [(1, .int (nI 1)), (0, .ref a)]) hx hb dX7_init_57 hl rfl (by decide +kernel) (by decide) rfl (fun ls hl => ?_)
  refine lv_goto (tgt := 27) hx hb dX7_init_60 (by decide) ?_
  refine lv_iload_n hx hb dX7_init_27 rfl (lv_at hl 0 rfl) ?_
  refine lv_iconst (v := nI 4) hx hb dX7_init_28 (by decide +kernel) ?_
  refine um_geN (tgt := 63) hx hb dX7_init_29 (by decide) (by decide) (by decide) (fun h => absurd h (by decide)) (fun _ => ?_)
  refine lv_aload_n hx hb dX7_init_32 rfl (lv_at hl 1 rfl) ?_
  refine uh_get (v := .ref q1) hx hb htg inX7 hown hK hU hs 0 rfl rfl 0 (by decide) (htg _ tg_97) rfl dX7_init_33 ?_
  refine lv_iload_n hx hb dX7_init_36 rfl (lv_at hl 0 rfl) ?_
  refine lv_bipush (v := nI 50) hx hb dX7_init_37 (by decide +kernel) ?_
  refine uh_ist hx hb hK hU hs 1 rfl 1 rfl (by decide) (by decide) dX7_init_39 (fun σ H locs hs hU => ?_)
  have hs : um_hs σ [(a, .inr (7, [.ref q1, .ref q2, .ref q3])), (q1, xs_A (κ 0) 4 (upd (upd (fun _ => 0) 0 (nI 50)) 1 (nI 50))), (q2, xs_A (κ 0) 4 (upd (fun _ => 0) 0 (nI 20))), (q3, xs_A (κ 0) 4 (upd (fun _ => 0) 0 (nI 200)))] := hs
  refine lv_aload_n hx hb dX7_init_40 rfl (lv_at hl 1 rfl) ?_
  refine uh_get (v := .ref q2) hx hb htg inX7 hown hK hU hs 0 rfl rfl 1 (by decide) (htg _ tg_99) rfl dX7_init_41 ?_
  refine lv_iload_n hx hb dX7_init_44 rfl (lv_at hl 0 rfl) ?_
  refine lv_bipush (v := nI 20) hx hb dX7_init_45 (by decide +kernel) ?_
  refine uh_ist hx hb hK hU hs 2 rfl 1 rfl (by decide) (by decide) dX7_init_47 (fun σ H locs hs hU => ?_)
  have hs : um_hs σ [(a, .inr (7, [.ref q1, .ref q2, .ref q3])), (q1, xs_A (κ 0) 4 (upd (upd (fun _ => 0) 0 (nI 50)) 1 (nI 50))), (q2, xs_A (κ 0) 4 (upd (upd (fun _ => 0) 0 (nI 20)) 1 (nI 20))), (q3, xs_A (κ 0) 4 (upd (fun _ => 0) 0 (nI 200)))] := hs
  refine lv_aload_n hx hb dX7_init_48 rfl (lv_at hl 1 rfl) ?_
  refine uh_get (v := .ref q3) hx hb htg inX7 hown hK hU hs 0 rfl rfl 2 (by decide) (htg _ tg_101) rfl dX7_init_49 ?_
  refine lv_iload_n hx hb dX7_init_52 rfl (lv_at hl 0 rfl) ?_
  refine lv_sipush (v := nI 200) hx hb dX7_init_53 (by decide +kernel) ?_
  refine uh_ist hx hb hK hU hs 3 rfl 1 rfl (by decide) (by decide) dX7_init_56 (fun σ H locs hs hU => ?_)
  have hs : um_hs σ [(a, .inr (7, [.ref q1, .ref q2, .ref q3])), (q1, xs_A (κ 0) 4 (upd (upd (fun _ => 0) 0 (nI 50)) 1 (nI 50))), (q2, xs_A (κ 0) 4 (upd (upd (fun _ => 0) 0 (nI 20)) 1 (nI 20))), (q3, xs_A (κ 0) 4 (upd (upd (fun _ => 0) 0 (nI 200)) 1 (nI 200)))] := hs
  refine lv_iinc (k := 0) (v := nI 2) (lv' := [(1, .int (nI 2)), (0, .ref a)]) hx hb dX7_init_57 hl rfl (by decide +kernel) (by decide) rfl (fun ls hl => ?_)
  refine lv_goto (tgt := 27) hx hb dX7_init_60 (by decide) ?_
  refine lv_iload_n hx hb dX7_init_27 rfl (lv_at hl 0 rfl) ?_
  refine lv_iconst (v := nI 4) hx hb dX7_init_28 (by decide +kernel) ?_
  refine um_geN (tgt := 63) hx hb dX7_init_29 (by decide) (by decide) (by decide) (fun h => absurd h (by decide)) (fun _ => ?_)
  refine lv_aload_n hx hb dX7_init_32 rfl (lv_at hl 1 rfl) ?_
  refine uh_get (v := .ref q1) hx hb htg inX7 hown hK hU hs 0 rfl rfl 0 (by decide) (htg _ tg_97) rfl dX7_init_33 ?_
  refine lv_iload_n hx hb dX7_init_36 rfl (lv_at hl 0 rfl) ?_
  refine lv_bipush (v := nI 50) hx hb dX7_init_37 (by decide +kernel) ?_
  refine uh_ist hx hb hK hU hs 1 rfl 2 rfl (by decide) (by decide) dX7_init_39 (fun σ H locs hs hU => ?_)
  have hs : um_hs σ [(a, .inr (7, [.ref q1, .ref q2, .ref q3])), (q1, xs_A (κ 0) 4 (upd (upd (upd (fun _ => 0) 0 (nI 50)) 1 (nI 50)) 2 (nI 50))), (q2, xs_A (κ 0) 4 (upd (upd (fun _ => 0) 0 (nI 20)) 1 (nI 20))), (q3, xs_A (κ 0) 4 (upd (upd (fun _ => 0) 0 (nI 200)) 1 (nI 200)))] := hs
  refine lv_aload_n hx hb dX7_init_40 rfl (lv_at hl 1 rfl) ?_
  refine uh_get (v := .ref q2) hx hb htg inX7 hown hK hU hs 0 rfl rfl 1 (by decide) (htg _ tg_99) rfl dX7_init_41 ?_
  refine lv_iload_n hx hb dX7_init_44 rfl (lv_at hl 0 rfl) ?_
  refine lv_bipush (v := nI 20) hx hb dX7_init_45 (by decide +kernel) ?_
  refine uh_ist hx hb hK hU hs 2 rfl 2 rfl (by decide) (by decide) dX7_init_47 (fun σ H locs hs hU => ?_)
  have hs : um_hs σ [(a, .inr (7, [.ref q1, .ref q2, .ref q3])), (q1, xs_A (κ 0) 4 (upd (upd (upd (fun _ => 0) 0 (nI 50)) 1 (nI 50)) 2 (nI 50))), (q2, xs_A (κ 0) 4 (upd (upd (upd (fun _ => 0) 0 (nI 20)) 1 (nI 20)) 2 (nI 20))), (q3, xs_A (κ 0) 4 (upd (upd (fun _ => 0) 0 (nI 200)) 1 (nI 200)))] := hs
  refine lv_aload_n hx hb dX7_init_48 rfl (lv_at hl 1 rfl) ?_
  refine uh_get (v := .ref q3) hx hb htg inX7 hown hK hU hs 0 rfl rfl 2 (by decide) (htg _ tg_101) rfl dX7_init_49 ?_
  refine lv_iload_n hx hb dX7_init_52 rfl (lv_at hl 0 rfl) ?_
  refine lv_sipush (v := nI 200) hx hb dX7_init_53 (by decide +kernel) ?_
  refine uh_ist hx hb hK hU hs 3 rfl 2 rfl (by decide) (by decide) dX7_init_56 (fun σ H locs hs hU => ?_)
  have hs : um_hs σ [(a, .inr (7, [.ref q1, .ref q2, .ref q3])), (q1, xs_A (κ 0) 4 (upd (upd (upd (fun _ => 0) 0 (nI 50)) 1 (nI 50)) 2 (nI 50))), (q2, xs_A (κ 0) 4 (upd (upd (upd (fun _ => 0) 0 (nI 20)) 1 (nI 20)) 2 (nI 20))), (q3, xs_A (κ 0) 4 (upd (upd (upd (fun _ => 0) 0 (nI 200)) 1 (nI 200)) 2 (nI 200)))] := hs
  refine lv_iinc (k := 0) (v := nI 3) (lv' := [(1, .int (nI 3)), (0, .ref a)]) hx hb dX7_init_57 hl rfl (by decide +kernel) (by decide) rfl (fun ls hl => ?_)
  refine lv_goto (tgt := 27) hx hb dX7_init_60 (by decide) ?_
  refine lv_iload_n hx hb dX7_init_27 rfl (lv_at hl 0 rfl) ?_
  refine lv_iconst (v := nI 4) hx hb dX7_init_28 (by decide +kernel) ?_
  refine um_geN (tgt := 63) hx hb dX7_init_29 (by decide) (by decide) (by decide) (fun h => absurd h (by decide)) (fun _ => ?_)
  refine lv_aload_n hx hb dX7_init_32 rfl (lv_at hl 1 rfl) ?_
  refine uh_get (v := .ref q1) hx hb htg inX7 hown hK hU hs 0 rfl rfl 0 (by decide) (htg _ tg_97) rfl dX7_init_33 ?_
  refine lv_iload_n hx hb dX7_init_36 rfl (lv_at hl 0 rfl) ?_
  refine lv_bipush (v := nI 50) hx hb dX7_init_37 (by decide +kernel) ?_
  refine uh_ist hx hb hK hU hs 1 rfl 3 rfl (by decide) (by decide) dX7_init_39 (fun σ H locs hs hU => ?_)
  have hs : um_hs σ [(a, .inr (7, [.ref q1, .ref q2, .ref q3])), (q1, xs_A (κ 0) 4 (upd (upd (upd (upd (fun _ => 0) 0 (nI 50)) 1 (nI 50)) 2 (nI 50)) 3 (nI 50))), (q2, xs_A (κ 0) 4 (upd (upd (upd (fun _ => 0) 0 (nI 20)) 1 (nI 20)) 2 (nI 20))), (q3, xs_A (κ 0) 4 (upd (upd (upd (fun _ => 0) 0 (nI 200)) 1 (nI 200)) 2 (nI 200)))] := hs
  refine lv_aload_n hx hb dX7_init_40 rfl (lv_at hl 1 rfl) ?_
  refine uh_get (v := .ref q2) hx hb htg inX7 hown hK hU hs 0 rfl rfl 1 (by decide) (htg _ tg_99) rfl dX7_init_41 ?_
  refine lv_iload_n hx hb dX7_init_44 rfl (lv_at hl 0 rfl) ?_
  refine lv_bipush (v := nI 20) hx hb dX7_init_45 (by decide +kernel) ?_
  refine uh_ist hx hb hK hU hs 2 rfl 3 rfl (by decide) (by decide) dX7_init_47 (fun σ H locs hs hU => ?_)
  have hs : um_hs σ [(a, .inr (7, [.ref q1, .ref q2, .ref q3])), (q1, xs_A (κ 0) 4 (upd (upd (upd (upd (fun _ => 0) 0 (nI 50)) 1 (nI 50)) 2 (nI 50)) 3 (nI 50))), (q2, xs_A (κ 0) 4 (upd (upd (upd (upd (fun _ => 0) 0 (nI 20)) 1 (nI 20)) 2 (nI 20)) 3 (nI 20))), (q3, xs_A (κ 0) 4 (upd (upd (upd (fun _ => 0) 0 (nI 200)) 1 (nI 200)) 2 (nI 200)))] := hs
  refine lv_aload_n hx hb dX7_init_48 rfl (lv_at hl 1 rfl) ?_
  refine uh_get (v := .ref q3) hx hb htg inX7 hown hK hU hs 0 rfl rfl 2 (by decide) (htg _ tg_101) rfl dX7_init_49 ?_
  refine lv_iload_n hx hb dX7_init_52 rfl (lv_at hl 0 rfl) ?_
  refine lv_sipush (v := nI 200) hx hb dX7_init_53 (by decide +kernel) ?_
  refine uh_ist hx hb hK hU hs 3 rfl 3 rfl (by decide) (by decide) dX7_init_56 (fun σ H locs hs hU => ?_)
  have hs : um_hs σ [(a, .inr (7, [.ref q1, .ref q2, .ref q3])), (q1, xs_A (κ 0) 4 (upd (upd (upd (upd (fun _ => 0) 0 (nI 50)) 1 (nI 50)) 2 (nI 50)) 3 (nI 50))), (q2, xs_A (κ 0) 4 (upd (upd (upd (upd (fun _ => 0) 0 (nI 20)) 1 (nI 20)) 2 (nI 20)) 3 (nI 20))), (q3, xs_A (κ 0) 4 (upd (upd (upd (upd (fun _ => 0) 0 (nI 200)) 1 (nI 200)) 2 (nI 200)) 3 (nI 200)))] := hs
  refine lv_iinc (k := 0) (v := nI 4) (lv' := [(1, .int (nI 4)), (0, .ref a)]) hx hb dX7_init_57 hl rfl (by decide +kernel) (by decide) rfl (fun ls hl => ?_)
  refine lv_goto (tgt := 27) hx hb dX7_init_60 (by decide) ?_
  refine lv_iload_n hx hb dX7_init_27 rfl (lv_at hl 0 rfl) ?_
  refine lv_iconst (v := nI 4) hx hb dX7_init_28 (by decide +kernel) ?_
  refine um_geN (tgt := 63) hx hb dX7_init_29 (by decide) (by decide) (by decide) (fun _ => ?_) (fun h => absurd h (by decide))
  exact um_vret hx hb hr hlocks hK hJ hU dX7_init_63 ⟨q1, q2, q3, hs⟩

set_option maxRecDepth 100000 in
set_option maxHeartbeats 4000000 in
theorem xk_PlotSums (l : Launch) (D : va_G) (κ : Nat → ClassId) (τ : Nat → Nat) (A : Nat → Prop) (σ : um_M) (a : Nat) (hs : um_hs σ [(a, .inr (5, [.long 0, .long 0, .int 0, .int 0]))]) : Met l yX5_init wsX5_init ({ frames := 1, cells := 0, slots := 0, locals := 12 }) (va_Pc [.ref a] (um_U D κ τ A σ)) (va_Qv (fun σ' : um_M => um_hs σ' [(a, .inr (5, [.long 0, .long 0, .int 0, .int 0]))]) (um_U D κ τ A) A) 0 0 A := by
  refine um_met (cc := cX5_init) (maxL := 1) (ret := none) (by decide) rfl rfl ?_
  intro pp ee s mm args below meth cd ls hx hb hr hts hown hlocks hml hnm hK hJ hU hl
  have hown : s.vm.findClass RX5 = some mm.cls := hown
  have htg : ∀ w ∈ lw_g, w.before args s = true := fun w h => hts w (List.mem_cons_of_mem _ h)
  have hl : lv_has ls 1 [(0, .ref a)] := hl
  refine lv_aload_n hx hb dX5_init_0 rfl (lv_at hl 0 rfl) ?_
  refine W.objInit hx hb hown (htg _ tg_115) (htg _ tg_25) (htg _ tg_26) rfl (by rw [hml]; exact hl.1) rfl dX5_init_1 (Nat.le_of_ble_eq_true rfl) (Nat.le_of_ble_eq_true rfl) ?_
  refine W.eq (g2 := F0 mm 4 ls []) rfl ?_
  exact um_vret hx hb hr hlocks hK hJ hU dX5_init_4 hs

set_option maxRecDepth 100000 in
set_option maxHeartbeats 4000000 in
theorem xk_StandSums (l : Launch) (D : va_G) (κ : Nat → ClassId) (τ : Nat → Nat) (A : Nat → Prop) (σ : um_M) (a : Nat) (hs : um_hs σ [(a, .inr (6, [.long 0, .long 0, .int 0, .int 0]))]) : Met l yX6_init wsX6_init ({ frames := 1, cells := 0, slots := 0, locals := 12 }) (va_Pc [.ref a] (um_U D κ τ A σ)) (va_Qv (fun σ' : um_M => um_hs σ' [(a, .inr (6, [.long 0, .long 0, .int 0, .int 0]))]) (um_U D κ τ A) A) 0 0 A := by
  refine um_met (cc := cX6_init) (maxL := 1) (ret := none) (by decide) rfl rfl ?_
  intro pp ee s mm args below meth cd ls hx hb hr hts hown hlocks hml hnm hK hJ hU hl
  have hown : s.vm.findClass RX6 = some mm.cls := hown
  have htg : ∀ w ∈ lw_g, w.before args s = true := fun w h => hts w (List.mem_cons_of_mem _ h)
  have hl : lv_has ls 1 [(0, .ref a)] := hl
  refine lv_aload_n hx hb dX6_init_0 rfl (lv_at hl 0 rfl) ?_
  refine W.objInit hx hb hown (htg _ tg_140) (htg _ tg_25) (htg _ tg_26) rfl (by rw [hml]; exact hl.1) rfl dX6_init_1 (Nat.le_of_ble_eq_true rfl) (Nat.le_of_ble_eq_true rfl) ?_
  refine W.eq (g2 := F0 mm 4 ls []) rfl ?_
  exact um_vret hx hb hr hlocks hK hJ hU dX6_init_4 hs
def um_Nx (U : State) : Prop := va_Nw (Cond.methodLinkNest "ForestTablets" (11 : Nat) ({ cls := "ForestTablets$Crew", name := "<init>", desc := "()V" } : Jvm.MethodName) "ForestTablets") U ∧ va_Nw (Cond.methodLinkNest "ForestTablets" (18 : Nat) ({ cls := "ForestTablets$Lending", name := "<init>", desc := "()V" } : Jvm.MethodName) "ForestTablets") U ∧ va_Nw (Cond.methodLinkNest "ForestTablets" (25 : Nat) ({ cls := "ForestTablets$Notebook", name := "<init>", desc := "()V" } : Jvm.MethodName) "ForestTablets") U ∧ va_Nw (Cond.methodLinkNest "ForestTablets" (39 : Nat) ({ cls := "ForestTablets$PlotSums", name := "<init>", desc := "()V" } : Jvm.MethodName) "ForestTablets") U ∧ va_Nw (Cond.methodLinkNest "ForestTablets" (46 : Nat) ({ cls := "ForestTablets$StandSums", name := "<init>", desc := "()V" } : Jvm.MethodName) "ForestTablets") U
theorem um_Nx.warm {s U : State} (hW : s.WarmedH U.vm) (h : um_Nx s) : um_Nx U := ⟨va_Nw.warmM hW h.1, va_Nw.warmM hW h.2.1, va_Nw.warmM hW h.2.2.1, va_Nw.warmM hW h.2.2.2.1, va_Nw.warmM hW h.2.2.2.2⟩
theorem um_Nx.same {s U : State} (e : s.vm = U.vm) (h : um_Nx s) : um_Nx U := ⟨va_Nw.same rfl e h.1, va_Nw.same rfl e h.2.1, va_Nw.same rfl e h.2.2.1, va_Nw.same rfl e h.2.2.2.1, va_Nw.same rfl e h.2.2.2.2⟩
def xs_ad (l : List Nat) (i : Nat) : Nat := l.getD i 0
def xs_sc0 : xs_S := (fun _ _ => none, fun _ => 0, fun _ => 0, fun _ => 0)
theorem xs_rows5 {xd : Nat → Nat} {b : Nat} {r : Nat → Nat} (h : ∀ i, i < 5 → xd (b + i) = r i) : (fun i => if i < 5 then some (r i) else none) = xs_rows xd b := by
  funext i
  unfold xs_rows
  by_cases hi : i < 5
  · rw [if_pos hi, if_pos hi, h i hi]
  · rw [if_neg hi, if_neg hi]
theorem xs_row0 (r d : Nat) (h : ∀ i, md_q0 r i = 0) : (fun _ => (0 : Int32)) = fun j => nI (xs_row md_q0 r d j) := by
  funext j
  unfold xs_row
  rw [h]
  split <;> rfl
theorem xs_init {κ : Nat → ClassId} {σ : um_M} {a : Nat} {o1 : Nat} {q2 : Nat} {r3 : Nat → Nat} {q4 : Nat} {r5 : Nat → Nat} {o6 : Nat} {q7 : Nat} {o8 : Nat} {q9 : Nat} {q10 : Nat} {q11 : Nat} {q12 : Nat} {o13 : Nat} {q14 : Nat} {q15 : Nat} {q16 : Nat} {o17 : Nat} {o18 : Nat} {q19 : Nat} {q20 : Nat} (hs : um_hs σ [(a, .inr (8, [.ref o1, .ref o6, .ref o8, .ref o13, .ref o17, .ref o18, .ref q19, .ref q20])), (o1, .inr (0, [.ref q2, .ref q4, .int (-1), .int (-1)])), (q2, xs_R (κ 2) 5 (fun i => if i < 5 then some (r3 i) else none)), (r3 0, xs_A (κ 0) 5 (fun _ => 0)), (r3 1, xs_A (κ 0) 5 (fun _ => 0)), (r3 2, xs_A (κ 0) 5 (fun _ => 0)), (r3 3, xs_A (κ 0) 5 (fun _ => 0)), (r3 4, xs_A (κ 0) 5 (fun _ => 0)), (q4, xs_R (κ 2) 5 (fun i => if i < 5 then some (r5 i) else none)), (r5 0, xs_A (κ 0) 5 (fun _ => 0)), (r5 1, xs_A (κ 0) 5 (fun _ => 0)), (r5 2, xs_A (κ 0) 5 (fun _ => 0)), (r5 3, xs_A (κ 0) 5 (fun _ => 0)), (r5 4, xs_A (κ 0) 5 (fun _ => 0)), (o6, .inr (2, [.ref q7])), (q7, xs_R (κ 3) 6 (fun _ => none)), (o8, .inr (4, [.ref q9, .ref q10, .ref q11, .ref q12, .int 0, .int 0])), (q9, xs_R (κ 4) 360 (fun _ => none)), (q10, xs_R (κ 4) 5 (fun _ => none)), (q11, xs_R (κ 4) 5 (fun _ => none)), (q12, xs_R (κ 4) 5 (fun _ => none)), (o13, .inr (7, [.ref q14, .ref q15, .ref q16])), (q14, xs_A (κ 0) 4 (upd (upd (upd (upd (fun _ => 0) 0 (nI 50)) 1 (nI 50)) 2 (nI 50)) 3 (nI 50))), (q15, xs_A (κ 0) 4 (upd (upd (upd (upd (fun _ => 0) 0 (nI 20)) 1 (nI 20)) 2 (nI 20)) 3 (nI 20))), (q16, xs_A (κ 0) 4 (upd (upd (upd (upd (fun _ => 0) 0 (nI 200)) 1 (nI 200)) 2 (nI 200)) 3 (nI 200))), (o17, .inr (5, [.long 0, .long 0, .int 0, .int 0])), (o18, .inr (6, [.long 0, .long 0, .int 0, .int 0])), (q19, xs_A (κ 0) 6 (fun _ => 0)), (q20, xs_A (κ 0) 3 (fun _ => 0))]) : ∃ (xd la ma va : Nat → Nat) (sc : xs_S), xd 0 = a ∧ xs_at κ σ xd la ma va md_q0 sc := by
  refine ⟨xs_ad [a, o1, q2, q4, r3 0, r3 1, r3 2, r3 3, r3 4, r5 0, r5 1, r5 2, r5 3, r5 4, o6, q7, o8, q9, q10, q11, q12, o13, q14, q15, q16, o17, o18, q19, q20], fun _ => 0, fun _ => 0, fun _ => 0, xs_sc0, rfl, ?_, ?_, ?_, ?_⟩
  · intro i hi
    refine xs_29 (P := fun i => um_h σ (xs_ad [a, o1, q2, q4, r3 0, r3 1, r3 2, r3 3, r3 4, r5 0, r5 1, r5 2, r5 3, r5 4, o6, q7, o8, q9, q10, q11, q12, o13, q14, q15, q16, o17, o18, q19, q20] i) (xs_cell κ (xs_ad [a, o1, q2, q4, r3 0, r3 1, r3 2, r3 3, r3 4, r5 0, r5 1, r5 2, r5 3, r5 4, o6, q7, o8, q9, q10, q11, q12, o13, q14, q15, q16, o17, o18, q19, q20]) (fun _ => 0) (fun _ => 0) md_q0 xs_sc0 i)) ?_ ?_ ?_ ?_ ?_ ?_ ?_ ?_ ?_ ?_ ?_ ?_ ?_ ?_ ?_ ?_ ?_ ?_ ?_ ?_ ?_ ?_ ?_ ?_ ?_ ?_ ?_ ?_ ?_ hi
    · exact hs.at 0 rfl
    · have h1 := hs.at 1 rfl
      rw [show (-1 : Int32) = tb_m1 (md_q0 13 0) from tb_m1_0.symm] at h1
      exact h1
    · have h1 := hs.at 2 rfl
      rw [xs_rows5 (xd := xs_ad [a, o1, q2, q4, r3 0, r3 1, r3 2, r3 3, r3 4, r5 0, r5 1, r5 2, r5 3, r5 4, o6, q7, o8, q9, q10, q11, q12, o13, q14, q15, q16, o17, o18, q19, q20]) (b := 4) (fun i hi => by
        have h5 : i = 0 ∨ i = 1 ∨ i = 2 ∨ i = 3 ∨ i = 4 := by omega
        rcases h5 with rfl | rfl | rfl | rfl | rfl <;> rfl)] at h1
      exact h1
    · have h1 := hs.at 8 rfl
      rw [xs_rows5 (xd := xs_ad [a, o1, q2, q4, r3 0, r3 1, r3 2, r3 3, r3 4, r5 0, r5 1, r5 2, r5 3, r5 4, o6, q7, o8, q9, q10, q11, q12, o13, q14, q15, q16, o17, o18, q19, q20]) (b := 9) (fun i hi => by
        have h5 : i = 0 ∨ i = 1 ∨ i = 2 ∨ i = 3 ∨ i = 4 := by omega
        rcases h5 with rfl | rfl | rfl | rfl | rfl <;> rfl)] at h1
      exact h1
    · have h1 := hs.at 3 rfl
      rw [xs_row0 7 0 (fun _ => rfl)] at h1
      exact h1
    · have h1 := hs.at 4 rfl
      rw [xs_row0 7 1 (fun _ => rfl)] at h1
      exact h1
    · have h1 := hs.at 5 rfl
      rw [xs_row0 7 2 (fun _ => rfl)] at h1
      exact h1
    · have h1 := hs.at 6 rfl
      rw [xs_row0 7 3 (fun _ => rfl)] at h1
      exact h1
    · have h1 := hs.at 7 rfl
      rw [xs_row0 7 4 (fun _ => rfl)] at h1
      exact h1
    · have h1 := hs.at 9 rfl
      rw [xs_row0 8 0 (fun _ => rfl)] at h1
      exact h1
    · have h1 := hs.at 10 rfl
      rw [xs_row0 8 1 (fun _ => rfl)] at h1
      exact h1
    · have h1 := hs.at 11 rfl
      rw [xs_row0 8 2 (fun _ => rfl)] at h1
      exact h1
    · have h1 := hs.at 12 rfl
      rw [xs_row0 8 3 (fun _ => rfl)] at h1
      exact h1
    · have h1 := hs.at 13 rfl
      rw [xs_row0 8 4 (fun _ => rfl)] at h1
      exact h1
    · exact hs.at 14 rfl
    · exact hs.at 15 rfl
    · exact hs.at 16 rfl
    · exact hs.at 17 rfl
    · exact hs.at 18 rfl
    · exact hs.at 19 rfl
    · exact hs.at 20 rfl
    · exact hs.at 21 rfl
    · have h1 := hs.at 22 rfl
      rw [md_u4] at h1
      exact h1
    · have h1 := hs.at 23 rfl
      rw [md_u4] at h1
      exact h1
    · have h1 := hs.at 24 rfl
      rw [md_u4] at h1
      exact h1
    · exact hs.at 25 rfl
    · exact hs.at 26 rfl
    · exact hs.at 27 rfl
    · exact hs.at 28 rfl
  · intro i j hi hj hij
    have key : ∀ k, k < 29 → ∃ e9, ([(a, .inr (8, [.ref o1, .ref o6, .ref o8, .ref o13, .ref o17, .ref o18, .ref q19, .ref q20])), (o1, .inr (0, [.ref q2, .ref q4, .int (-1), .int (-1)])), (q2, xs_R (κ 2) 5 (fun i => if i < 5 then some (r3 i) else none)), (r3 0, xs_A (κ 0) 5 (fun _ => 0)), (r3 1, xs_A (κ 0) 5 (fun _ => 0)), (r3 2, xs_A (κ 0) 5 (fun _ => 0)), (r3 3, xs_A (κ 0) 5 (fun _ => 0)), (r3 4, xs_A (κ 0) 5 (fun _ => 0)), (q4, xs_R (κ 2) 5 (fun i => if i < 5 then some (r5 i) else none)), (r5 0, xs_A (κ 0) 5 (fun _ => 0)), (r5 1, xs_A (κ 0) 5 (fun _ => 0)), (r5 2, xs_A (κ 0) 5 (fun _ => 0)), (r5 3, xs_A (κ 0) 5 (fun _ => 0)), (r5 4, xs_A (κ 0) 5 (fun _ => 0)), (o6, .inr (2, [.ref q7])), (q7, xs_R (κ 3) 6 (fun _ => none)), (o8, .inr (4, [.ref q9, .ref q10, .ref q11, .ref q12, .int 0, .int 0])), (q9, xs_R (κ 4) 360 (fun _ => none)), (q10, xs_R (κ 4) 5 (fun _ => none)), (q11, xs_R (κ 4) 5 (fun _ => none)), (q12, xs_R (κ 4) 5 (fun _ => none)), (o13, .inr (7, [.ref q14, .ref q15, .ref q16])), (q14, xs_A (κ 0) 4 (upd (upd (upd (upd (fun _ => 0) 0 (nI 50)) 1 (nI 50)) 2 (nI 50)) 3 (nI 50))), (q15, xs_A (κ 0) 4 (upd (upd (upd (upd (fun _ => 0) 0 (nI 20)) 1 (nI 20)) 2 (nI 20)) 3 (nI 20))), (q16, xs_A (κ 0) 4 (upd (upd (upd (upd (fun _ => 0) 0 (nI 200)) 1 (nI 200)) 2 (nI 200)) 3 (nI 200))), (o17, .inr (5, [.long 0, .long 0, .int 0, .int 0])), (o18, .inr (6, [.long 0, .long 0, .int 0, .int 0])), (q19, xs_A (κ 0) 6 (fun _ => 0)), (q20, xs_A (κ 0) 3 (fun _ => 0))] : List (Nat × va_E))[([0, 1, 2, 8, 3, 4, 5, 6, 7, 9, 10, 11, 12, 13, 14, 15, 16, 17, 18, 19, 20, 21, 22, 23, 24, 25, 26, 27, 28] : List Nat).getD k 0]? = some (xs_ad [a, o1, q2, q4, r3 0, r3 1, r3 2, r3 3, r3 4, r5 0, r5 1, r5 2, r5 3, r5 4, o6, q7, o8, q9, q10, q11, q12, o13, q14, q15, q16, o17, o18, q19, q20] k, e9) := by
      intro k hk
      refine xs_29 (P := fun k => ∃ e9, ([(a, .inr (8, [.ref o1, .ref o6, .ref o8, .ref o13, .ref o17, .ref o18, .ref q19, .ref q20])), (o1, .inr (0, [.ref q2, .ref q4, .int (-1), .int (-1)])), (q2, xs_R (κ 2) 5 (fun i => if i < 5 then some (r3 i) else none)), (r3 0, xs_A (κ 0) 5 (fun _ => 0)), (r3 1, xs_A (κ 0) 5 (fun _ => 0)), (r3 2, xs_A (κ 0) 5 (fun _ => 0)), (r3 3, xs_A (κ 0) 5 (fun _ => 0)), (r3 4, xs_A (κ 0) 5 (fun _ => 0)), (q4, xs_R (κ 2) 5 (fun i => if i < 5 then some (r5 i) else none)), (r5 0, xs_A (κ 0) 5 (fun _ => 0)), (r5 1, xs_A (κ 0) 5 (fun _ => 0)), (r5 2, xs_A (κ 0) 5 (fun _ => 0)), (r5 3, xs_A (κ 0) 5 (fun _ => 0)), (r5 4, xs_A (κ 0) 5 (fun _ => 0)), (o6, .inr (2, [.ref q7])), (q7, xs_R (κ 3) 6 (fun _ => none)), (o8, .inr (4, [.ref q9, .ref q10, .ref q11, .ref q12, .int 0, .int 0])), (q9, xs_R (κ 4) 360 (fun _ => none)), (q10, xs_R (κ 4) 5 (fun _ => none)), (q11, xs_R (κ 4) 5 (fun _ => none)), (q12, xs_R (κ 4) 5 (fun _ => none)), (o13, .inr (7, [.ref q14, .ref q15, .ref q16])), (q14, xs_A (κ 0) 4 (upd (upd (upd (upd (fun _ => 0) 0 (nI 50)) 1 (nI 50)) 2 (nI 50)) 3 (nI 50))), (q15, xs_A (κ 0) 4 (upd (upd (upd (upd (fun _ => 0) 0 (nI 20)) 1 (nI 20)) 2 (nI 20)) 3 (nI 20))), (q16, xs_A (κ 0) 4 (upd (upd (upd (upd (fun _ => 0) 0 (nI 200)) 1 (nI 200)) 2 (nI 200)) 3 (nI 200))), (o17, .inr (5, [.long 0, .long 0, .int 0, .int 0])), (o18, .inr (6, [.long 0, .long 0, .int 0, .int 0])), (q19, xs_A (κ 0) 6 (fun _ => 0)), (q20, xs_A (κ 0) 3 (fun _ => 0))] : List (Nat × va_E))[([0, 1, 2, 8, 3, 4, 5, 6, 7, 9, 10, 11, 12, 13, 14, 15, 16, 17, 18, 19, 20, 21, 22, 23, 24, 25, 26, 27, 28] : List Nat).getD k 0]? = some (xs_ad [a, o1, q2, q4, r3 0, r3 1, r3 2, r3 3, r3 4, r5 0, r5 1, r5 2, r5 3, r5 4, o6, q7, o8, q9, q10, q11, q12, o13, q14, q15, q16, o17, o18, q19, q20] k, e9)) ⟨_, rfl⟩ ⟨_, rfl⟩ ⟨_, rfl⟩ ⟨_, rfl⟩ ⟨_, rfl⟩ ⟨_, rfl⟩ ⟨_, rfl⟩ ⟨_, rfl⟩ ⟨_, rfl⟩ ⟨_, rfl⟩ ⟨_, rfl⟩ ⟨_, rfl⟩ ⟨_, rfl⟩ ⟨_, rfl⟩ ⟨_, rfl⟩ ⟨_, rfl⟩ ⟨_, rfl⟩ ⟨_, rfl⟩ ⟨_, rfl⟩ ⟨_, rfl⟩ ⟨_, rfl⟩ ⟨_, rfl⟩ ⟨_, rfl⟩ ⟨_, rfl⟩ ⟨_, rfl⟩ ⟨_, rfl⟩ ⟨_, rfl⟩ ⟨_, rfl⟩ ⟨_, rfl⟩ hk
    obtain ⟨e1, h1⟩ := key i hi
    obtain ⟨e2, h2⟩ := key j hj
    have h3 := hs.2 _ _ _ _ h1 h2 hij
    exact (show ∀ i, i < 29 → ∀ j, j < 29 → ([0, 1, 2, 8, 3, 4, 5, 6, 7, 9, 10, 11, 12, 13, 14, 15, 16, 17, 18, 19, 20, 21, 22, 23, 24, 25, 26, 27, 28] : List Nat).getD i 0 = ([0, 1, 2, 8, 3, 4, 5, 6, 7, 9, 10, 11, 12, 13, 14, 15, 16, 17, 18, 19, 20, 21, 22, 23, 24, 25, 26, 27, 28] : List Nat).getD j 0 → i = j by decide +kernel) i hi j hj h3
  · intro k hk
    exact absurd hk.1 (Nat.not_lt_zero _)
  · intro e he
    exact absurd he.2.1 (Nat.not_lt_zero _)
set_option maxRecDepth 100000 in
set_option maxHeartbeats 4000000 in
theorem xk_FT (l : Launch) (D : va_G) (κ : Nat → ClassId) (τ : Nat → Nat) (A : Nat → Prop) (σ : um_M) (a : Nat) (hs : um_hs σ [(a, .inr (8, [.null, .null, .null, .null, .null, .null, .null, .null]))]) : Met l yX8_init wsX8_init ({ frames := 2, cells := 28, slots := 484, locals := 33 }) (fun a9 U => va_Pc [.ref a] (um_U D κ τ A σ) a9 U ∧ um_Nx U) (va_Qv (fun σ' : um_M => ∃ (xd la ma va : Nat → Nat) (sc : xs_S), xd 0 = a ∧ xs_at κ σ' xd la ma va md_q0 sc) (um_U D κ τ A) A) 28 484 A := by
  refine um_metN (X := um_Nx) (cc := cX8_init) (maxL := 1) (ret := none) (by decide) rfl rfl ?_
  intro pp ee s mm args below meth cd ls hx hb hr hts hown hlocks hml hnm hK hJ hU hN hl
  have hown : s.vm.findClass RX8 = some mm.cls := hown
  have htg : ∀ w ∈ lw_g, w.before args s = true := fun w h => hts w (List.mem_cons_of_mem _ h)
  have hl : lv_has ls 1 [(0, .ref a)] := hl
  refine lv_aload_n hx hb dX8_init_0 rfl (lv_at hl 0 rfl) ?_
  refine W.objInit hx hb hown (htg _ tg_24) (htg _ tg_25) (htg _ tg_26) rfl (by rw [hml]; exact hl.1) rfl dX8_init_1 (Nat.le_of_ble_eq_true rfl) (Nat.le_of_ble_eq_true rfl) ?_
  refine W.eq (g2 := F0 mm 4 ls []) rfl ?_
  refine lv_aload_n hx hb dX8_init_4 rfl (lv_at hl 0 rfl) ?_
  refine uh_obj (ci := 0) (fs := [.null, .null, .int 0, .int 0]) hx hb htg inX0 tyX0 tyX0_ok hown (htg _ tg_27) (htg _ tg_28) (htg _ tg_2) hK hU rfl dfX0 (Nat.le_of_ble_eq_true rfl) (Nat.le_of_ble_eq_true rfl) dX8_init_5 (fun o1 H hU hR hap => ?_)
  refine lv_dup hx hb dX8_init_8 rfl ?_
  refine um_call2v (va_runIN (As := []) (rest := [.ref o1, .ref a]) ⟨hx, hb, hml, hown, htg⟩ (xk_Crew l D κ τ (um_Am A σ) _ o1 (um_one_hs _ _)) ⟨va_cnB 0 htg (lw_cI tg_31) rfl rfl rfl hN.1 (htg _ tg_2) (by decide +kernel) ⟨Nat.le_of_ble_eq_true rfl, Nat.le_of_ble_eq_true rfl⟩, rfl, (htg _ tg_30)⟩ (um_preS2 hR hU hap hK hJ) rfl rfl hl.1 rfl (lv_room (Nat.le_of_ble_eq_true rfl)) dX8_init_9 ⟨Nat.le_of_ble_eq_true rfl, Nat.le_of_ble_eq_true rfl⟩) hR hU (fun σ2 H locs hs2 hR hU hap => ?_)
  obtain ⟨q2, r3, q4, r5, hs2⟩ := hs2
  have hs := hs.join hs2 (fun b h z => hap b z h)
  have hU := hU.join hR (fun b h z => hap b z h)
  generalize um_jn _ _ = σ at hs hU
  have hs : um_hs σ [(a, .inr (8, [.null, .null, .null, .null, .null, .null, .null, .null])), (o1, .inr (0, [.ref q2, .ref q4, .int (-1), .int (-1)])), (q2, xs_R (κ 2) 5 (fun i => if i < 5 then some (r3 i) else none)), (r3 0, xs_A (κ 0) 5 (fun _ => 0)), (r3 1, xs_A (κ 0) 5 (fun _ => 0)), (r3 2, xs_A (κ 0) 5 (fun _ => 0)), (r3 3, xs_A (κ 0) 5 (fun _ => 0)), (r3 4, xs_A (κ 0) 5 (fun _ => 0)), (q4, xs_R (κ 2) 5 (fun i => if i < 5 then some (r5 i) else none)), (r5 0, xs_A (κ 0) 5 (fun _ => 0)), (r5 1, xs_A (κ 0) 5 (fun _ => 0)), (r5 2, xs_A (κ 0) 5 (fun _ => 0)), (r5 3, xs_A (κ 0) 5 (fun _ => 0)), (r5 4, xs_A (κ 0) 5 (fun _ => 0))] := hs
  refine uh_putF (v := .ref o1) (ty := .object "ForestTablets$Crew") (fs' := [.ref o1, .null, .null, .null, .null, .null, .null, .null]) hx hb htg inX8 tyX8 tyX8_ok nmX8 hown hK hU hs 0 rfl rfl 0 (by decide) (htg _ tg_157) rfl hnm rfl (by decide +kernel) rfl rfl rfl (Nat.le_of_ble_eq_true rfl) dX8_init_12 (fun σ H locs hs hU => ?_)
  have hs : um_hs σ [(a, .inr (8, [.ref o1, .null, .null, .null, .null, .null, .null, .null])), (o1, .inr (0, [.ref q2, .ref q4, .int (-1), .int (-1)])), (q2, xs_R (κ 2) 5 (fun i => if i < 5 then some (r3 i) else none)), (r3 0, xs_A (κ 0) 5 (fun _ => 0)), (r3 1, xs_A (κ 0) 5 (fun _ => 0)), (r3 2, xs_A (κ 0) 5 (fun _ => 0)), (r3 3, xs_A (κ 0) 5 (fun _ => 0)), (r3 4, xs_A (κ 0) 5 (fun _ => 0)), (q4, xs_R (κ 2) 5 (fun i => if i < 5 then some (r5 i) else none)), (r5 0, xs_A (κ 0) 5 (fun _ => 0)), (r5 1, xs_A (κ 0) 5 (fun _ => 0)), (r5 2, xs_A (κ 0) 5 (fun _ => 0)), (r5 3, xs_A (κ 0) 5 (fun _ => 0)), (r5 4, xs_A (κ 0) 5 (fun _ => 0))] := hs
  refine lv_aload_n hx hb dX8_init_15 rfl (lv_at hl 0 rfl) ?_
  refine uh_obj (ci := 2) (fs := [.null]) hx hb htg inX2 tyX2 tyX2_ok hown (htg _ tg_52) (htg _ tg_53) (htg _ tg_3) hK hU rfl dfX2 (Nat.le_of_ble_eq_true rfl) (Nat.le_of_ble_eq_true rfl) dX8_init_16 (fun o6 H hU hR hap => ?_)
  refine lv_dup hx hb dX8_init_19 rfl ?_
  refine um_call2v (va_runIN (As := []) (rest := [.ref o6, .ref a]) ⟨hx, hb, hml, hown, htg⟩ (xk_Lending l D κ τ (um_Am A σ) _ o6 (um_one_hs _ _)) ⟨va_cnB 0 htg (lw_cI tg_56) rfl rfl rfl hN.2.1 (htg _ tg_3) (by decide +kernel) ⟨Nat.le_of_ble_eq_true rfl, Nat.le_of_ble_eq_true rfl⟩, rfl, (htg _ tg_55)⟩ (um_preS2 hR hU hap hK hJ) rfl rfl hl.1 rfl (lv_room (Nat.le_of_ble_eq_true rfl)) dX8_init_20 ⟨Nat.le_of_ble_eq_true rfl, Nat.le_of_ble_eq_true rfl⟩) hR hU (fun σ2 H locs hs2 hR hU hap => ?_)
  obtain ⟨q7, hs2⟩ := hs2
  have hs := hs.join hs2 (fun b h z => hap b z h)
  have hU := hU.join hR (fun b h z => hap b z h)
  generalize um_jn _ _ = σ at hs hU
  have hs : um_hs σ [(a, .inr (8, [.ref o1, .null, .null, .null, .null, .null, .null, .null])), (o1, .inr (0, [.ref q2, .ref q4, .int (-1), .int (-1)])), (q2, xs_R (κ 2) 5 (fun i => if i < 5 then some (r3 i) else none)), (r3 0, xs_A (κ 0) 5 (fun _ => 0)), (r3 1, xs_A (κ 0) 5 (fun _ => 0)), (r3 2, xs_A (κ 0) 5 (fun _ => 0)), (r3 3, xs_A (κ 0) 5 (fun _ => 0)), (r3 4, xs_A (κ 0) 5 (fun _ => 0)), (q4, xs_R (κ 2) 5 (fun i => if i < 5 then some (r5 i) else none)), (r5 0, xs_A (κ 0) 5 (fun _ => 0)), (r5 1, xs_A (κ 0) 5 (fun _ => 0)), (r5 2, xs_A (κ 0) 5 (fun _ => 0)), (r5 3, xs_A (κ 0) 5 (fun _ => 0)), (r5 4, xs_A (κ 0) 5 (fun _ => 0)), (o6, .inr (2, [.ref q7])), (q7, xs_R (κ 3) 6 (fun _ => none))] := hs
  refine uh_putF (v := .ref o6) (ty := .object "ForestTablets$Lending") (fs' := [.ref o1, .ref o6, .null, .null, .null, .null, .null, .null]) hx hb htg inX8 tyX8 tyX8_ok nmX8 hown hK hU hs 0 rfl rfl 1 (by decide) (htg _ tg_158) rfl hnm rfl (by decide +kernel) rfl rfl rfl (Nat.le_of_ble_eq_true rfl) dX8_init_23 (fun σ H locs hs hU => ?_)
  have hs : um_hs σ [(a, .inr (8, [.ref o1, .ref o6, .null, .null, .null, .null, .null, .null])), (o1, .inr (0, [.ref q2, .ref q4, .int (-1), .int (-1)])), (q2, xs_R (κ 2) 5 (fun i => if i < 5 then some (r3 i) else none)), (r3 0, xs_A (κ 0) 5 (fun _ => 0)), (r3 1, xs_A (κ 0) 5 (fun _ => 0)), (r3 2, xs_A (κ 0) 5 (fun _ => 0)), (r3 3, xs_A (κ 0) 5 (fun _ => 0)), (r3 4, xs_A (κ 0) 5 (fun _ => 0)), (q4, xs_R (κ 2) 5 (fun i => if i < 5 then some (r5 i) else none)), (r5 0, xs_A (κ 0) 5 (fun _ => 0)), (r5 1, xs_A (κ 0) 5 (fun _ => 0)), (r5 2, xs_A (κ 0) 5 (fun _ => 0)), (r5 3, xs_A (κ 0) 5 (fun _ => 0)), (r5 4, xs_A (κ 0) 5 (fun _ => 0)), (o6, .inr (2, [.ref q7])), (q7, xs_R (κ 3) 6 (fun _ => none))] := hs
  refine lv_aload_n hx hb dX8_init_26 rfl (lv_at hl 0 rfl) ?_
  refine uh_obj (ci := 4) (fs := [.null, .null, .null, .null, .int 0, .int 0]) hx hb htg inX4 tyX4 tyX4_ok hown (htg _ tg_64) (htg _ tg_65) (htg _ tg_4) hK hU rfl dfX4 (Nat.le_of_ble_eq_true rfl) (Nat.le_of_ble_eq_true rfl) dX8_init_27 (fun o8 H hU hR hap => ?_)
  refine lv_dup hx hb dX8_init_30 rfl ?_
  refine um_call2v (va_runIN (As := []) (rest := [.ref o8, .ref a]) ⟨hx, hb, hml, hown, htg⟩ (xk_Notebook l D κ τ (um_Am A σ) _ o8 (um_one_hs _ _)) ⟨va_cnB 0 htg (lw_cI tg_68) rfl rfl rfl hN.2.2.1 (htg _ tg_4) (by decide +kernel) ⟨Nat.le_of_ble_eq_true rfl, Nat.le_of_ble_eq_true rfl⟩, rfl, (htg _ tg_67)⟩ (um_preS2 hR hU hap hK hJ) rfl rfl hl.1 rfl (lv_room (Nat.le_of_ble_eq_true rfl)) dX8_init_31 ⟨Nat.le_of_ble_eq_true rfl, Nat.le_of_ble_eq_true rfl⟩) hR hU (fun σ2 H locs hs2 hR hU hap => ?_)
  obtain ⟨q9, q10, q11, q12, hs2⟩ := hs2
  have hs := hs.join hs2 (fun b h z => hap b z h)
  have hU := hU.join hR (fun b h z => hap b z h)
  generalize um_jn _ _ = σ at hs hU
  have hs : um_hs σ [(a, .inr (8, [.ref o1, .ref o6, .null, .null, .null, .null, .null, .null])), (o1, .inr (0, [.ref q2, .ref q4, .int (-1), .int (-1)])), (q2, xs_R (κ 2) 5 (fun i => if i < 5 then some (r3 i) else none)), (r3 0, xs_A (κ 0) 5 (fun _ => 0)), (r3 1, xs_A (κ 0) 5 (fun _ => 0)), (r3 2, xs_A (κ 0) 5 (fun _ => 0)), (r3 3, xs_A (κ 0) 5 (fun _ => 0)), (r3 4, xs_A (κ 0) 5 (fun _ => 0)), (q4, xs_R (κ 2) 5 (fun i => if i < 5 then some (r5 i) else none)), (r5 0, xs_A (κ 0) 5 (fun _ => 0)), (r5 1, xs_A (κ 0) 5 (fun _ => 0)), (r5 2, xs_A (κ 0) 5 (fun _ => 0)), (r5 3, xs_A (κ 0) 5 (fun _ => 0)), (r5 4, xs_A (κ 0) 5 (fun _ => 0)), (o6, .inr (2, [.ref q7])), (q7, xs_R (κ 3) 6 (fun _ => none)), (o8, .inr (4, [.ref q9, .ref q10, .ref q11, .ref q12, .int 0, .int 0])), (q9, xs_R (κ 4) 360 (fun _ => none)), (q10, xs_R (κ 4) 5 (fun _ => none)), (q11, xs_R (κ 4) 5 (fun _ => none)), (q12, xs_R (κ 4) 5 (fun _ => none))] := hs
  refine uh_putF (v := .ref o8) (ty := .object "ForestTablets$Notebook") (fs' := [.ref o1, .ref o6, .ref o8, .null, .null, .null, .null, .null]) hx hb htg inX8 tyX8 tyX8_ok nmX8 hown hK hU hs 0 rfl rfl 2 (by decide) (htg _ tg_159) rfl hnm rfl (by decide +kernel) rfl rfl rfl (Nat.le_of_ble_eq_true rfl) dX8_init_34 (fun σ H locs hs hU => ?_)
  have hs : um_hs σ [(a, .inr (8, [.ref o1, .ref o6, .ref o8, .null, .null, .null, .null, .null])), (o1, .inr (0, [.ref q2, .ref q4, .int (-1), .int (-1)])), (q2, xs_R (κ 2) 5 (fun i => if i < 5 then some (r3 i) else none)), (r3 0, xs_A (κ 0) 5 (fun _ => 0)), (r3 1, xs_A (κ 0) 5 (fun _ => 0)), (r3 2, xs_A (κ 0) 5 (fun _ => 0)), (r3 3, xs_A (κ 0) 5 (fun _ => 0)), (r3 4, xs_A (κ 0) 5 (fun _ => 0)), (q4, xs_R (κ 2) 5 (fun i => if i < 5 then some (r5 i) else none)), (r5 0, xs_A (κ 0) 5 (fun _ => 0)), (r5 1, xs_A (κ 0) 5 (fun _ => 0)), (r5 2, xs_A (κ 0) 5 (fun _ => 0)), (r5 3, xs_A (κ 0) 5 (fun _ => 0)), (r5 4, xs_A (κ 0) 5 (fun _ => 0)), (o6, .inr (2, [.ref q7])), (q7, xs_R (κ 3) 6 (fun _ => none)), (o8, .inr (4, [.ref q9, .ref q10, .ref q11, .ref q12, .int 0, .int 0])), (q9, xs_R (κ 4) 360 (fun _ => none)), (q10, xs_R (κ 4) 5 (fun _ => none)), (q11, xs_R (κ 4) 5 (fun _ => none)), (q12, xs_R (κ 4) 5 (fun _ => none))] := hs
  refine lv_aload_n hx hb dX8_init_37 rfl (lv_at hl 0 rfl) ?_
  refine uh_obj (ci := 7) (fs := [.null, .null, .null]) hx hb htg inX7 tyX7 tyX7_ok hown (htg _ tg_91) (htg _ tg_92) (htg _ tg_5) hK hU rfl dfX7 (Nat.le_of_ble_eq_true rfl) (Nat.le_of_ble_eq_true rfl) dX8_init_38 (fun o13 H hU hR hap => ?_)
  refine lv_dup hx hb dX8_init_41 rfl ?_
  refine um_call2v (va_runI (As := []) (rest := [.ref o13, .ref a]) ⟨hx, hb, hml, hown, htg⟩ (xk_Tariff l D κ τ (um_Am A σ) _ o13 (um_one_hs _ _)) (cwI 0 htg (lw_cI tg_95) rfl rfl rfl (htg _ tg_5) (htg _ tg_93) (htg _ tg_94) rfl (by decide +kernel) ⟨Nat.le_of_ble_eq_true rfl, Nat.le_of_ble_eq_true rfl⟩) (um_preS2 hR hU hap hK hJ) rfl rfl hl.1 rfl (lv_room (Nat.le_of_ble_eq_true rfl)) dX8_init_42 ⟨Nat.le_of_ble_eq_true rfl, Nat.le_of_ble_eq_true rfl⟩) hR hU (fun σ2 H locs hs2 hR hU hap => ?_)
  obtain ⟨q14, q15, q16, hs2⟩ := hs2
  have hs := hs.join hs2 (fun b h z => hap b z h)
  have hU := hU.join hR (fun b h z => hap b z h)
  generalize um_jn _ _ = σ at hs hU
  have hs : um_hs σ [(a, .inr (8, [.ref o1, .ref o6, .ref o8, .null, .null, .null, .null, .null])), (o1, .inr (0, [.ref q2, .ref q4, .int (-1), .int (-1)])), (q2, xs_R (κ 2) 5 (fun i => if i < 5 then some (r3 i) else none)), (r3 0, xs_A (κ 0) 5 (fun _ => 0)), (r3 1, xs_A (κ 0) 5 (fun _ => 0)), (r3 2, xs_A (κ 0) 5 (fun _ => 0)), (r3 3, xs_A (κ 0) 5 (fun _ => 0)), (r3 4, xs_A (κ 0) 5 (fun _ => 0)), (q4, xs_R (κ 2) 5 (fun i => if i < 5 then some (r5 i) else none)), (r5 0, xs_A (κ 0) 5 (fun _ => 0)), (r5 1, xs_A (κ 0) 5 (fun _ => 0)), (r5 2, xs_A (κ 0) 5 (fun _ => 0)), (r5 3, xs_A (κ 0) 5 (fun _ => 0)), (r5 4, xs_A (κ 0) 5 (fun _ => 0)), (o6, .inr (2, [.ref q7])), (q7, xs_R (κ 3) 6 (fun _ => none)), (o8, .inr (4, [.ref q9, .ref q10, .ref q11, .ref q12, .int 0, .int 0])), (q9, xs_R (κ 4) 360 (fun _ => none)), (q10, xs_R (κ 4) 5 (fun _ => none)), (q11, xs_R (κ 4) 5 (fun _ => none)), (q12, xs_R (κ 4) 5 (fun _ => none)), (o13, .inr (7, [.ref q14, .ref q15, .ref q16])), (q14, xs_A (κ 0) 4 (upd (upd (upd (upd (fun _ => 0) 0 (nI 50)) 1 (nI 50)) 2 (nI 50)) 3 (nI 50))), (q15, xs_A (κ 0) 4 (upd (upd (upd (upd (fun _ => 0) 0 (nI 20)) 1 (nI 20)) 2 (nI 20)) 3 (nI 20))), (q16, xs_A (κ 0) 4 (upd (upd (upd (upd (fun _ => 0) 0 (nI 200)) 1 (nI 200)) 2 (nI 200)) 3 (nI 200)))] := hs
  refine uh_putF (v := .ref o13) (ty := .object "ForestTablets$Tariff") (fs' := [.ref o1, .ref o6, .ref o8, .ref o13, .null, .null, .null, .null]) hx hb htg inX8 tyX8 tyX8_ok nmX8 hown hK hU hs 0 rfl rfl 3 (by decide) (htg _ tg_160) rfl hnm rfl (by decide +kernel) rfl rfl rfl (Nat.le_of_ble_eq_true rfl) dX8_init_45 (fun σ H locs hs hU => ?_)
  have hs : um_hs σ [(a, .inr (8, [.ref o1, .ref o6, .ref o8, .ref o13, .null, .null, .null, .null])), (o1, .inr (0, [.ref q2, .ref q4, .int (-1), .int (-1)])), (q2, xs_R (κ 2) 5 (fun i => if i < 5 then some (r3 i) else none)), (r3 0, xs_A (κ 0) 5 (fun _ => 0)), (r3 1, xs_A (κ 0) 5 (fun _ => 0)), (r3 2, xs_A (κ 0) 5 (fun _ => 0)), (r3 3, xs_A (κ 0) 5 (fun _ => 0)), (r3 4, xs_A (κ 0) 5 (fun _ => 0)), (q4, xs_R (κ 2) 5 (fun i => if i < 5 then some (r5 i) else none)), (r5 0, xs_A (κ 0) 5 (fun _ => 0)), (r5 1, xs_A (κ 0) 5 (fun _ => 0)), (r5 2, xs_A (κ 0) 5 (fun _ => 0)), (r5 3, xs_A (κ 0) 5 (fun _ => 0)), (r5 4, xs_A (κ 0) 5 (fun _ => 0)), (o6, .inr (2, [.ref q7])), (q7, xs_R (κ 3) 6 (fun _ => none)), (o8, .inr (4, [.ref q9, .ref q10, .ref q11, .ref q12, .int 0, .int 0])), (q9, xs_R (κ 4) 360 (fun _ => none)), (q10, xs_R (κ 4) 5 (fun _ => none)), (q11, xs_R (κ 4) 5 (fun _ => none)), (q12, xs_R (κ 4) 5 (fun _ => none)), (o13, .inr (7, [.ref q14, .ref q15, .ref q16])), (q14, xs_A (κ 0) 4 (upd (upd (upd (upd (fun _ => 0) 0 (nI 50)) 1 (nI 50)) 2 (nI 50)) 3 (nI 50))), (q15, xs_A (κ 0) 4 (upd (upd (upd (upd (fun _ => 0) 0 (nI 20)) 1 (nI 20)) 2 (nI 20)) 3 (nI 20))), (q16, xs_A (κ 0) 4 (upd (upd (upd (upd (fun _ => 0) 0 (nI 200)) 1 (nI 200)) 2 (nI 200)) 3 (nI 200)))] := hs
  refine lv_aload_n hx hb dX8_init_48 rfl (lv_at hl 0 rfl) ?_
  refine uh_obj (ci := 5) (fs := [.long 0, .long 0, .int 0, .int 0]) hx hb htg inX5 tyX5 tyX5_ok hown (htg _ tg_110) (htg _ tg_111) (htg _ tg_6) hK hU rfl dfX5 (Nat.le_of_ble_eq_true rfl) (Nat.le_of_ble_eq_true rfl) dX8_init_49 (fun o17 H hU hR hap => ?_)
  refine lv_dup hx hb dX8_init_52 rfl ?_
  refine um_call2v (va_runIN (As := []) (rest := [.ref o17, .ref a]) ⟨hx, hb, hml, hown, htg⟩ (xk_PlotSums l D κ τ (um_Am A σ) _ o17 (um_one_hs _ _)) ⟨va_cnB 0 htg (lw_cI tg_114) rfl rfl rfl hN.2.2.2.1 (htg _ tg_6) (by decide +kernel) ⟨Nat.le_of_ble_eq_true rfl, Nat.le_of_ble_eq_true rfl⟩, rfl, (htg _ tg_113)⟩ (um_preS2 hR hU hap hK hJ) rfl rfl hl.1 rfl (lv_room (Nat.le_of_ble_eq_true rfl)) dX8_init_53 ⟨Nat.le_of_ble_eq_true rfl, Nat.le_of_ble_eq_true rfl⟩) hR hU (fun σ2 H locs hs2 hR hU hap => ?_)
  have hs := hs.join hs2 (fun b h z => hap b z h)
  have hU := hU.join hR (fun b h z => hap b z h)
  generalize um_jn _ _ = σ at hs hU
  have hs : um_hs σ [(a, .inr (8, [.ref o1, .ref o6, .ref o8, .ref o13, .null, .null, .null, .null])), (o1, .inr (0, [.ref q2, .ref q4, .int (-1), .int (-1)])), (q2, xs_R (κ 2) 5 (fun i => if i < 5 then some (r3 i) else none)), (r3 0, xs_A (κ 0) 5 (fun _ => 0)), (r3 1, xs_A (κ 0) 5 (fun _ => 0)), (r3 2, xs_A (κ 0) 5 (fun _ => 0)), (r3 3, xs_A (κ 0) 5 (fun _ => 0)), (r3 4, xs_A (κ 0) 5 (fun _ => 0)), (q4, xs_R (κ 2) 5 (fun i => if i < 5 then some (r5 i) else none)), (r5 0, xs_A (κ 0) 5 (fun _ => 0)), (r5 1, xs_A (κ 0) 5 (fun _ => 0)), (r5 2, xs_A (κ 0) 5 (fun _ => 0)), (r5 3, xs_A (κ 0) 5 (fun _ => 0)), (r5 4, xs_A (κ 0) 5 (fun _ => 0)), (o6, .inr (2, [.ref q7])), (q7, xs_R (κ 3) 6 (fun _ => none)), (o8, .inr (4, [.ref q9, .ref q10, .ref q11, .ref q12, .int 0, .int 0])), (q9, xs_R (κ 4) 360 (fun _ => none)), (q10, xs_R (κ 4) 5 (fun _ => none)), (q11, xs_R (κ 4) 5 (fun _ => none)), (q12, xs_R (κ 4) 5 (fun _ => none)), (o13, .inr (7, [.ref q14, .ref q15, .ref q16])), (q14, xs_A (κ 0) 4 (upd (upd (upd (upd (fun _ => 0) 0 (nI 50)) 1 (nI 50)) 2 (nI 50)) 3 (nI 50))), (q15, xs_A (κ 0) 4 (upd (upd (upd (upd (fun _ => 0) 0 (nI 20)) 1 (nI 20)) 2 (nI 20)) 3 (nI 20))), (q16, xs_A (κ 0) 4 (upd (upd (upd (upd (fun _ => 0) 0 (nI 200)) 1 (nI 200)) 2 (nI 200)) 3 (nI 200))), (o17, .inr (5, [.long 0, .long 0, .int 0, .int 0]))] := hs
  refine uh_putF (v := .ref o17) (ty := .object "ForestTablets$PlotSums") (fs' := [.ref o1, .ref o6, .ref o8, .ref o13, .ref o17, .null, .null, .null]) hx hb htg inX8 tyX8 tyX8_ok nmX8 hown hK hU hs 0 rfl rfl 4 (by decide) (htg _ tg_161) rfl hnm rfl (by decide +kernel) rfl rfl rfl (Nat.le_of_ble_eq_true rfl) dX8_init_56 (fun σ H locs hs hU => ?_)
  have hs : um_hs σ [(a, .inr (8, [.ref o1, .ref o6, .ref o8, .ref o13, .ref o17, .null, .null, .null])), (o1, .inr (0, [.ref q2, .ref q4, .int (-1), .int (-1)])), (q2, xs_R (κ 2) 5 (fun i => if i < 5 then some (r3 i) else none)), (r3 0, xs_A (κ 0) 5 (fun _ => 0)), (r3 1, xs_A (κ 0) 5 (fun _ => 0)), (r3 2, xs_A (κ 0) 5 (fun _ => 0)), (r3 3, xs_A (κ 0) 5 (fun _ => 0)), (r3 4, xs_A (κ 0) 5 (fun _ => 0)), (q4, xs_R (κ 2) 5 (fun i => if i < 5 then some (r5 i) else none)), (r5 0, xs_A (κ 0) 5 (fun _ => 0)), (r5 1, xs_A (κ 0) 5 (fun _ => 0)), (r5 2, xs_A (κ 0) 5 (fun _ => 0)), (r5 3, xs_A (κ 0) 5 (fun _ => 0)), (r5 4, xs_A (κ 0) 5 (fun _ => 0)), (o6, .inr (2, [.ref q7])), (q7, xs_R (κ 3) 6 (fun _ => none)), (o8, .inr (4, [.ref q9, .ref q10, .ref q11, .ref q12, .int 0, .int 0])), (q9, xs_R (κ 4) 360 (fun _ => none)), (q10, xs_R (κ 4) 5 (fun _ => none)), (q11, xs_R (κ 4) 5 (fun _ => none)), (q12, xs_R (κ 4) 5 (fun _ => none)), (o13, .inr (7, [.ref q14, .ref q15, .ref q16])), (q14, xs_A (κ 0) 4 (upd (upd (upd (upd (fun _ => 0) 0 (nI 50)) 1 (nI 50)) 2 (nI 50)) 3 (nI 50))), (q15, xs_A (κ 0) 4 (upd (upd (upd (upd (fun _ => 0) 0 (nI 20)) 1 (nI 20)) 2 (nI 20)) 3 (nI 20))), (q16, xs_A (κ 0) 4 (upd (upd (upd (upd (fun _ => 0) 0 (nI 200)) 1 (nI 200)) 2 (nI 200)) 3 (nI 200))), (o17, .inr (5, [.long 0, .long 0, .int 0, .int 0]))] := hs
  refine lv_aload_n hx hb dX8_init_59 rfl (lv_at hl 0 rfl) ?_
  refine uh_obj (ci := 6) (fs := [.long 0, .long 0, .int 0, .int 0]) hx hb htg inX6 tyX6 tyX6_ok hown (htg _ tg_135) (htg _ tg_136) (htg _ tg_7) hK hU rfl dfX6 (Nat.le_of_ble_eq_true rfl) (Nat.le_of_ble_eq_true rfl) dX8_init_60 (fun o18 H hU hR hap => ?_)
  refine lv_dup hx hb dX8_init_63 rfl ?_
  refine um_call2v (va_runIN (As := []) (rest := [.ref o18, .ref a]) ⟨hx, hb, hml, hown, htg⟩ (xk_StandSums l D κ τ (um_Am A σ) _ o18 (um_one_hs _ _)) ⟨va_cnB 0 htg (lw_cI tg_139) rfl rfl rfl hN.2.2.2.2 (htg _ tg_7) (by decide +kernel) ⟨Nat.le_of_ble_eq_true rfl, Nat.le_of_ble_eq_true rfl⟩, rfl, (htg _ tg_138)⟩ (um_preS2 hR hU hap hK hJ) rfl rfl hl.1 rfl (lv_room (Nat.le_of_ble_eq_true rfl)) dX8_init_64 ⟨Nat.le_of_ble_eq_true rfl, Nat.le_of_ble_eq_true rfl⟩) hR hU (fun σ2 H locs hs2 hR hU hap => ?_)
  have hs := hs.join hs2 (fun b h z => hap b z h)
  have hU := hU.join hR (fun b h z => hap b z h)
  generalize um_jn _ _ = σ at hs hU
  have hs : um_hs σ [(a, .inr (8, [.ref o1, .ref o6, .ref o8, .ref o13, .ref o17, .null, .null, .null])), (o1, .inr (0, [.ref q2, .ref q4, .int (-1), .int (-1)])), (q2, xs_R (κ 2) 5 (fun i => if i < 5 then some (r3 i) else none)), (r3 0, xs_A (κ 0) 5 (fun _ => 0)), (r3 1, xs_A (κ 0) 5 (fun _ => 0)), (r3 2, xs_A (κ 0) 5 (fun _ => 0)), (r3 3, xs_A (κ 0) 5 (fun _ => 0)), (r3 4, xs_A (κ 0) 5 (fun _ => 0)), (q4, xs_R (κ 2) 5 (fun i => if i < 5 then some (r5 i) else none)), (r5 0, xs_A (κ 0) 5 (fun _ => 0)), (r5 1, xs_A (κ 0) 5 (fun _ => 0)), (r5 2, xs_A (κ 0) 5 (fun _ => 0)), (r5 3, xs_A (κ 0) 5 (fun _ => 0)), (r5 4, xs_A (κ 0) 5 (fun _ => 0)), (o6, .inr (2, [.ref q7])), (q7, xs_R (κ 3) 6 (fun _ => none)), (o8, .inr (4, [.ref q9, .ref q10, .ref q11, .ref q12, .int 0, .int 0])), (q9, xs_R (κ 4) 360 (fun _ => none)), (q10, xs_R (κ 4) 5 (fun _ => none)), (q11, xs_R (κ 4) 5 (fun _ => none)), (q12, xs_R (κ 4) 5 (fun _ => none)), (o13, .inr (7, [.ref q14, .ref q15, .ref q16])), (q14, xs_A (κ 0) 4 (upd (upd (upd (upd (fun _ => 0) 0 (nI 50)) 1 (nI 50)) 2 (nI 50)) 3 (nI 50))), (q15, xs_A (κ 0) 4 (upd (upd (upd (upd (fun _ => 0) 0 (nI 20)) 1 (nI 20)) 2 (nI 20)) 3 (nI 20))), (q16, xs_A (κ 0) 4 (upd (upd (upd (upd (fun _ => 0) 0 (nI 200)) 1 (nI 200)) 2 (nI 200)) 3 (nI 200))), (o17, .inr (5, [.long 0, .long 0, .int 0, .int 0])), (o18, .inr (6, [.long 0, .long 0, .int 0, .int 0]))] := hs
  refine uh_putF (v := .ref o18) (ty := .object "ForestTablets$StandSums") (fs' := [.ref o1, .ref o6, .ref o8, .ref o13, .ref o17, .ref o18, .null, .null]) hx hb htg inX8 tyX8 tyX8_ok nmX8 hown hK hU hs 0 rfl rfl 5 (by decide) (htg _ tg_162) rfl hnm rfl (by decide +kernel) rfl rfl rfl (Nat.le_of_ble_eq_true rfl) dX8_init_67 (fun σ H locs hs hU => ?_)
  have hs : um_hs σ [(a, .inr (8, [.ref o1, .ref o6, .ref o8, .ref o13, .ref o17, .ref o18, .null, .null])), (o1, .inr (0, [.ref q2, .ref q4, .int (-1), .int (-1)])), (q2, xs_R (κ 2) 5 (fun i => if i < 5 then some (r3 i) else none)), (r3 0, xs_A (κ 0) 5 (fun _ => 0)), (r3 1, xs_A (κ 0) 5 (fun _ => 0)), (r3 2, xs_A (κ 0) 5 (fun _ => 0)), (r3 3, xs_A (κ 0) 5 (fun _ => 0)), (r3 4, xs_A (κ 0) 5 (fun _ => 0)), (q4, xs_R (κ 2) 5 (fun i => if i < 5 then some (r5 i) else none)), (r5 0, xs_A (κ 0) 5 (fun _ => 0)), (r5 1, xs_A (κ 0) 5 (fun _ => 0)), (r5 2, xs_A (κ 0) 5 (fun _ => 0)), (r5 3, xs_A (κ 0) 5 (fun _ => 0)), (r5 4, xs_A (κ 0) 5 (fun _ => 0)), (o6, .inr (2, [.ref q7])), (q7, xs_R (κ 3) 6 (fun _ => none)), (o8, .inr (4, [.ref q9, .ref q10, .ref q11, .ref q12, .int 0, .int 0])), (q9, xs_R (κ 4) 360 (fun _ => none)), (q10, xs_R (κ 4) 5 (fun _ => none)), (q11, xs_R (κ 4) 5 (fun _ => none)), (q12, xs_R (κ 4) 5 (fun _ => none)), (o13, .inr (7, [.ref q14, .ref q15, .ref q16])), (q14, xs_A (κ 0) 4 (upd (upd (upd (upd (fun _ => 0) 0 (nI 50)) 1 (nI 50)) 2 (nI 50)) 3 (nI 50))), (q15, xs_A (κ 0) 4 (upd (upd (upd (upd (fun _ => 0) 0 (nI 20)) 1 (nI 20)) 2 (nI 20)) 3 (nI 20))), (q16, xs_A (κ 0) 4 (upd (upd (upd (upd (fun _ => 0) 0 (nI 200)) 1 (nI 200)) 2 (nI 200)) 3 (nI 200))), (o17, .inr (5, [.long 0, .long 0, .int 0, .int 0])), (o18, .inr (6, [.long 0, .long 0, .int 0, .int 0]))] := hs
  refine lv_aload_n hx hb dX8_init_70 rfl (lv_at hl 0 rfl) ?_
  refine lv_bipush (v := nI 6) hx hb dX8_init_71 (by decide +kernel) ?_
  refine uh_int hx hb (htg _ tg_51) hK hU hs (N' := 6) rfl (by decide) (Nat.le_of_ble_eq_true rfl) (Nat.le_of_ble_eq_true rfl) dX8_init_73 (fun q19 σ H hs hU => ?_)
  have hs : um_hs σ [(a, .inr (8, [.ref o1, .ref o6, .ref o8, .ref o13, .ref o17, .ref o18, .null, .null])), (o1, .inr (0, [.ref q2, .ref q4, .int (-1), .int (-1)])), (q2, xs_R (κ 2) 5 (fun i => if i < 5 then some (r3 i) else none)), (r3 0, xs_A (κ 0) 5 (fun _ => 0)), (r3 1, xs_A (κ 0) 5 (fun _ => 0)), (r3 2, xs_A (κ 0) 5 (fun _ => 0)), (r3 3, xs_A (κ 0) 5 (fun _ => 0)), (r3 4, xs_A (κ 0) 5 (fun _ => 0)), (q4, xs_R (κ 2) 5 (fun i => if i < 5 then some (r5 i) else none)), (r5 0, xs_A (κ 0) 5 (fun _ => 0)), (r5 1, xs_A (κ 0) 5 (fun _ => 0)), (r5 2, xs_A (κ 0) 5 (fun _ => 0)), (r5 3, xs_A (κ 0) 5 (fun _ => 0)), (r5 4, xs_A (κ 0) 5 (fun _ => 0)), (o6, .inr (2, [.ref q7])), (q7, xs_R (κ 3) 6 (fun _ => none)), (o8, .inr (4, [.ref q9, .ref q10, .ref q11, .ref q12, .int 0, .int 0])), (q9, xs_R (κ 4) 360 (fun _ => none)), (q10, xs_R (κ 4) 5 (fun _ => none)), (q11, xs_R (κ 4) 5 (fun _ => none)), (q12, xs_R (κ 4) 5 (fun _ => none)), (o13, .inr (7, [.ref q14, .ref q15, .ref q16])), (q14, xs_A (κ 0) 4 (upd (upd (upd (upd (fun _ => 0) 0 (nI 50)) 1 (nI 50)) 2 (nI 50)) 3 (nI 50))), (q15, xs_A (κ 0) 4 (upd (upd (upd (upd (fun _ => 0) 0 (nI 20)) 1 (nI 20)) 2 (nI 20)) 3 (nI 20))), (q16, xs_A (κ 0) 4 (upd (upd (upd (upd (fun _ => 0) 0 (nI 200)) 1 (nI 200)) 2 (nI 200)) 3 (nI 200))), (o17, .inr (5, [.long 0, .long 0, .int 0, .int 0])), (o18, .inr (6, [.long 0, .long 0, .int 0, .int 0])), (q19, xs_A (κ 0) 6 (fun _ => 0))] := hs
  refine uh_putF (v := .ref q19) (ty := .array .int) (fs' := [.ref o1, .ref o6, .ref o8, .ref o13, .ref o17, .ref o18, .ref q19, .null]) hx hb htg inX8 tyX8 tyX8_ok nmX8 hown hK hU hs 0 rfl rfl 6 (by decide) (htg _ tg_163) rfl hnm rfl (by decide +kernel) rfl rfl rfl (Nat.le_of_ble_eq_true rfl) dX8_init_75 (fun σ H locs hs hU => ?_)
  have hs : um_hs σ [(a, .inr (8, [.ref o1, .ref o6, .ref o8, .ref o13, .ref o17, .ref o18, .ref q19, .null])), (o1, .inr (0, [.ref q2, .ref q4, .int (-1), .int (-1)])), (q2, xs_R (κ 2) 5 (fun i => if i < 5 then some (r3 i) else none)), (r3 0, xs_A (κ 0) 5 (fun _ => 0)), (r3 1, xs_A (κ 0) 5 (fun _ => 0)), (r3 2, xs_A (κ 0) 5 (fun _ => 0)), (r3 3, xs_A (κ 0) 5 (fun _ => 0)), (r3 4, xs_A (κ 0) 5 (fun _ => 0)), (q4, xs_R (κ 2) 5 (fun i => if i < 5 then some (r5 i) else none)), (r5 0, xs_A (κ 0) 5 (fun _ => 0)), (r5 1, xs_A (κ 0) 5 (fun _ => 0)), (r5 2, xs_A (κ 0) 5 (fun _ => 0)), (r5 3, xs_A (κ 0) 5 (fun _ => 0)), (r5 4, xs_A (κ 0) 5 (fun _ => 0)), (o6, .inr (2, [.ref q7])), (q7, xs_R (κ 3) 6 (fun _ => none)), (o8, .inr (4, [.ref q9, .ref q10, .ref q11, .ref q12, .int 0, .int 0])), (q9, xs_R (κ 4) 360 (fun _ => none)), (q10, xs_R (κ 4) 5 (fun _ => none)), (q11, xs_R (κ 4) 5 (fun _ => none)), (q12, xs_R (κ 4) 5 (fun _ => none)), (o13, .inr (7, [.ref q14, .ref q15, .ref q16])), (q14, xs_A (κ 0) 4 (upd (upd (upd (upd (fun _ => 0) 0 (nI 50)) 1 (nI 50)) 2 (nI 50)) 3 (nI 50))), (q15, xs_A (κ 0) 4 (upd (upd (upd (upd (fun _ => 0) 0 (nI 20)) 1 (nI 20)) 2 (nI 20)) 3 (nI 20))), (q16, xs_A (κ 0) 4 (upd (upd (upd (upd (fun _ => 0) 0 (nI 200)) 1 (nI 200)) 2 (nI 200)) 3 (nI 200))), (o17, .inr (5, [.long 0, .long 0, .int 0, .int 0])), (o18, .inr (6, [.long 0, .long 0, .int 0, .int 0])), (q19, xs_A (κ 0) 6 (fun _ => 0))] := hs
  refine lv_aload_n hx hb dX8_init_78 rfl (lv_at hl 0 rfl) ?_
  refine lv_iconst (v := nI 3) hx hb dX8_init_79 (by decide +kernel) ?_
  refine uh_int hx hb (htg _ tg_51) hK hU hs (N' := 3) rfl (by decide) (Nat.le_of_ble_eq_true rfl) (Nat.le_of_ble_eq_true rfl) dX8_init_80 (fun q20 σ H hs hU => ?_)
  have hs : um_hs σ [(a, .inr (8, [.ref o1, .ref o6, .ref o8, .ref o13, .ref o17, .ref o18, .ref q19, .null])), (o1, .inr (0, [.ref q2, .ref q4, .int (-1), .int (-1)])), (q2, xs_R (κ 2) 5 (fun i => if i < 5 then some (r3 i) else none)), (r3 0, xs_A (κ 0) 5 (fun _ => 0)), (r3 1, xs_A (κ 0) 5 (fun _ => 0)), (r3 2, xs_A (κ 0) 5 (fun _ => 0)), (r3 3, xs_A (κ 0) 5 (fun _ => 0)), (r3 4, xs_A (κ 0) 5 (fun _ => 0)), (q4, xs_R (κ 2) 5 (fun i => if i < 5 then some (r5 i) else none)), (r5 0, xs_A (κ 0) 5 (fun _ => 0)), (r5 1, xs_A (κ 0) 5 (fun _ => 0)), (r5 2, xs_A (κ 0) 5 (fun _ => 0)), (r5 3, xs_A (κ 0) 5 (fun _ => 0)), (r5 4, xs_A (κ 0) 5 (fun _ => 0)), (o6, .inr (2, [.ref q7])), (q7, xs_R (κ 3) 6 (fun _ => none)), (o8, .inr (4, [.ref q9, .ref q10, .ref q11, .ref q12, .int 0, .int 0])), (q9, xs_R (κ 4) 360 (fun _ => none)), (q10, xs_R (κ 4) 5 (fun _ => none)), (q11, xs_R (κ 4) 5 (fun _ => none)), (q12, xs_R (κ 4) 5 (fun _ => none)), (o13, .inr (7, [.ref q14, .ref q15, .ref q16])), (q14, xs_A (κ 0) 4 (upd (upd (upd (upd (fun _ => 0) 0 (nI 50)) 1 (nI 50)) 2 (nI 50)) 3 (nI 50))), (q15, xs_A (κ 0) 4 (upd (upd (upd (upd (fun _ => 0) 0 (nI 20)) 1 (nI 20)) 2 (nI 20)) 3 (nI 20))), (q16, xs_A (κ 0) 4 (upd (upd (upd (upd (fun _ => 0) 0 (nI 200)) 1 (nI 200)) 2 (nI 200)) 3 (nI 200))), (o17, .inr (5, [.long 0, .long 0, .int 0, .int 0])), (o18, .inr (6, [.long 0, .long 0, .int 0, .int 0])), (q19, xs_A (κ 0) 6 (fun _ => 0)), (q20, xs_A (κ 0) 3 (fun _ => 0))] := hs
  refine uh_putF (v := .ref q20) (ty := .array .int) (fs' := [.ref o1, .ref o6, .ref o8, .ref o13, .ref o17, .ref o18, .ref q19, .ref q20]) hx hb htg inX8 tyX8 tyX8_ok nmX8 hown hK hU hs 0 rfl rfl 7 (by decide) (htg _ tg_164) rfl hnm rfl (by decide +kernel) rfl rfl rfl (Nat.le_of_ble_eq_true rfl) dX8_init_82 (fun σ H locs hs hU => ?_)
  have hs : um_hs σ [(a, .inr (8, [.ref o1, .ref o6, .ref o8, .ref o13, .ref o17, .ref o18, .ref q19, .ref q20])), (o1, .inr (0, [.ref q2, .ref q4, .int (-1), .int (-1)])), (q2, xs_R (κ 2) 5 (fun i => if i < 5 then some (r3 i) else none)), (r3 0, xs_A (κ 0) 5 (fun _ => 0)), (r3 1, xs_A (κ 0) 5 (fun _ => 0)), (r3 2, xs_A (κ 0) 5 (fun _ => 0)), (r3 3, xs_A (κ 0) 5 (fun _ => 0)), (r3 4, xs_A (κ 0) 5 (fun _ => 0)), (q4, xs_R (κ 2) 5 (fun i => if i < 5 then some (r5 i) else none)), (r5 0, xs_A (κ 0) 5 (fun _ => 0)), (r5 1, xs_A (κ 0) 5 (fun _ => 0)), (r5 2, xs_A (κ 0) 5 (fun _ => 0)), (r5 3, xs_A (κ 0) 5 (fun _ => 0)), (r5 4, xs_A (κ 0) 5 (fun _ => 0)), (o6, .inr (2, [.ref q7])), (q7, xs_R (κ 3) 6 (fun _ => none)), (o8, .inr (4, [.ref q9, .ref q10, .ref q11, .ref q12, .int 0, .int 0])), (q9, xs_R (κ 4) 360 (fun _ => none)), (q10, xs_R (κ 4) 5 (fun _ => none)), (q11, xs_R (κ 4) 5 (fun _ => none)), (q12, xs_R (κ 4) 5 (fun _ => none)), (o13, .inr (7, [.ref q14, .ref q15, .ref q16])), (q14, xs_A (κ 0) 4 (upd (upd (upd (upd (fun _ => 0) 0 (nI 50)) 1 (nI 50)) 2 (nI 50)) 3 (nI 50))), (q15, xs_A (κ 0) 4 (upd (upd (upd (upd (fun _ => 0) 0 (nI 20)) 1 (nI 20)) 2 (nI 20)) 3 (nI 20))), (q16, xs_A (κ 0) 4 (upd (upd (upd (upd (fun _ => 0) 0 (nI 200)) 1 (nI 200)) 2 (nI 200)) 3 (nI 200))), (o17, .inr (5, [.long 0, .long 0, .int 0, .int 0])), (o18, .inr (6, [.long 0, .long 0, .int 0, .int 0])), (q19, xs_A (κ 0) 6 (fun _ => 0)), (q20, xs_A (κ 0) 3 (fun _ => 0))] := hs
  exact um_vret hx hb hr hlocks hK hJ hU dX8_init_85 (xs_init hs)
