set_option maxRecDepth 100000 in
set_option maxHeartbeats 4000000 in
theorem mm_isField (l : Launch) (D : va_G) (κ : Nat → ClassId) (τ : Nat → Nat) (A : Nat → Prop) (σ : um_M) (x1 x2 x3 : Int32) : Met l yX9_isField wsX9_isField ({ frames := 1, cells := 0, slots := 0, locals := 22 }) (va_Pc [.int (x1), .int (x2), .int (x3)] (um_U D κ τ A σ)) (va_Qi (fun (r9 : Int32) (σ' : um_M) => r9 = um_b (tb_fd x1 x2 x3) ∧ σ' = σ) (um_U D κ τ A) A) 0 0 A := by
  refine um_met (cc := cX9_isField) (maxL := 3) (ret := (some .boolean)) (by decide) rfl rfl ?_
  intro pp ee s mm args below meth cd ls hx hb hr hts hown hlocks hml hnm hK hJ hU hl
  have hown : s.vm.findClass RX9 = some mm.cls := hown
  have htg : ∀ w ∈ lw_g, w.before args s = true := fun w h => hts w (List.mem_cons_of_mem _ h)
  have hl : lv_has ls 3 [(0, .int (x1)), (1, .int (x2)), (2, .int (x3))] := hl
  refine lv_iload_n hx hb dX9_isField_0 rfl (lv_at hl 0 rfl) ?_
  refine lv_iconst (v := nI 0) hx hb dX9_isField_1 (by decide +kernel) ?_
  refine lv_iconst (v := nI 5) hx hb dX9_isField_2 (by decide +kernel) ?_
  refine um_callP (va_runS (As := [.int (x1), .int (nI (0)), .int (nI (5))]) (rest := []) ⟨hx, hb, hml, hown, htg⟩ (mm_in l D κ τ A σ x1 (nI 0) (nI 5)) (cwS 3 htg (lw_cS tg_695 tg_696 tg_8 tg_697) rfl rfl rfl (by decide +kernel) ⟨Nat.le_of_ble_eq_true rfl, Nat.le_of_ble_eq_true rfl⟩) (um_preS hU hK hJ) rfl rfl hl.1 rfl (lv_room (Nat.le_of_ble_eq_true rfl)) dX9_isField_3 ⟨Nat.le_of_ble_eq_true rfl, Nat.le_of_ble_eq_true rfl⟩) hU (fun H locs hU => ?_)
  refine um_eqB (tgt := 31) hx hb dX9_isField_6 (by decide) (fun c1 => ?_) (fun c1 => ?_)
  · refine lv_iconst (v := nI 0) hx hb dX9_isField_31 (by decide +kernel) ?_
    exact um_zret hx hb hr hlocks hK hJ hU dX9_isField_32 false rfl ⟨congrArg um_b (by simp [tb_fd, c1]), rfl⟩
  · refine lv_iload_n hx hb dX9_isField_9 rfl (lv_at hl 1 rfl) ?_
    refine lv_iconst (v := nI 0) hx hb dX9_isField_10 (by decide +kernel) ?_
    refine lv_iconst (v := nI 3) hx hb dX9_isField_11 (by decide +kernel) ?_
    refine um_callP (va_runS (As := [.int (x2), .int (nI (0)), .int (nI (3))]) (rest := []) ⟨hx, hb, hml, hown, htg⟩ (mm_in l D κ τ A σ x2 (nI 0) (nI 3)) (cwS 3 htg (lw_cS tg_695 tg_696 tg_8 tg_697) rfl rfl rfl (by decide +kernel) ⟨Nat.le_of_ble_eq_true rfl, Nat.le_of_ble_eq_true rfl⟩) (um_preS hU hK hJ) rfl rfl hl.1 rfl (lv_room (Nat.le_of_ble_eq_true rfl)) dX9_isField_12 ⟨Nat.le_of_ble_eq_true rfl, Nat.le_of_ble_eq_true rfl⟩) hU (fun H locs hU => ?_)
    refine um_eqB (tgt := 31) hx hb dX9_isField_15 (by decide) (fun c2 => ?_) (fun c2 => ?_)
    · refine lv_iconst (v := nI 0) hx hb dX9_isField_31 (by decide +kernel) ?_
      exact um_zret hx hb hr hlocks hK hJ hU dX9_isField_32 false rfl ⟨congrArg um_b (by simp [tb_fd, c1, c2]), rfl⟩
    · refine lv_iload_n hx hb dX9_isField_18 rfl (lv_at hl 2 rfl) ?_
      refine lv_iconst (v := nI 0) hx hb dX9_isField_19 (by decide +kernel) ?_
      refine lv_iconst (v := nI 2) hx hb dX9_isField_20 (by decide +kernel) ?_
      refine um_callP (va_runS (As := [.int (x3), .int (nI (0)), .int (nI (2))]) (rest := []) ⟨hx, hb, hml, hown, htg⟩ (mm_in l D κ τ A σ x3 (nI 0) (nI 2)) (cwS 3 htg (lw_cS tg_695 tg_696 tg_8 tg_697) rfl rfl rfl (by decide +kernel) ⟨Nat.le_of_ble_eq_true rfl, Nat.le_of_ble_eq_true rfl⟩) (um_preS hU hK hJ) rfl rfl hl.1 rfl (lv_room (Nat.le_of_ble_eq_true rfl)) dX9_isField_21 ⟨Nat.le_of_ble_eq_true rfl, Nat.le_of_ble_eq_true rfl⟩) hU (fun H locs hU => ?_)
      refine um_eqB (tgt := 31) hx hb dX9_isField_24 (by decide) (fun c3 => ?_) (fun c3 => ?_)
      · refine lv_iconst (v := nI 0) hx hb dX9_isField_31 (by decide +kernel) ?_
        exact um_zret hx hb hr hlocks hK hJ hU dX9_isField_32 false rfl ⟨congrArg um_b (by simp [tb_fd, c1, c2, c3]), rfl⟩
      · refine lv_iconst (v := nI 1) hx hb dX9_isField_27 (by decide +kernel) ?_
        refine lv_goto (tgt := 32) hx hb dX9_isField_28 (by decide) ?_
        exact um_zret hx hb hr hlocks hK hJ hU dX9_isField_32 true rfl ⟨congrArg um_b (by simp [tb_fd, c1, c2, c3]), rfl⟩

set_option maxRecDepth 100000 in
set_option maxHeartbeats 4000000 in
theorem mm_isValue (l : Launch) (D : va_G) (κ : Nat → ClassId) (τ : Nat → Nat) (A : Nat → Prop) (σ : um_M) (x v : Int32) : Met l yX9_isValue wsX9_isValue ({ frames := 1, cells := 0, slots := 0, locals := 22 }) (va_Pc [.int (x), .int (v)] (um_U D κ τ A σ)) (va_Qi (fun (r9 : Int32) (σ' : um_M) => r9 = um_b (tb_isVx x v) ∧ σ' = σ) (um_U D κ τ A) A) 0 0 A := by
  refine um_met (cc := cX9_isValue) (maxL := 2) (ret := (some .boolean)) (by decide) rfl rfl ?_
  intro pp ee s mm args below meth cd ls hx hb hr hts hown hlocks hml hnm hK hJ hU hl
  have hown : s.vm.findClass RX9 = some mm.cls := hown
  have htg : ∀ w ∈ lw_g, w.before args s = true := fun w h => hts w (List.mem_cons_of_mem _ h)
  have hl : lv_has ls 2 [(0, .int (x)), (1, .int (v))] := hl
  refine lv_iload_n hx hb dX9_isValue_0 rfl (lv_at hl 0 rfl) ?_
  refine lv_if_ne (tgt := 13) hx hb dX9_isValue_1 (by decide) (fun c1 => ?_) (fun c1 => ?_)
  · refine lv_iload_n hx hb dX9_isValue_13 rfl (lv_at hl 1 rfl) ?_
    refine lv_bipush (v := nI 10) hx hb dX9_isValue_14 (by decide +kernel) ?_
    refine lv_iload_n hx hb dX9_isValue_16 rfl (lv_at hl 0 rfl) ?_
    refine lv_iconst (v := nI 1) hx hb dX9_isValue_17 (by decide +kernel) ?_
    refine lv_icmp_ne (tgt := 27) hx hb dX9_isValue_18 (by decide) (fun c2 => ?_) (fun c2 => ?_)
    · refine lv_sipush (v := nI 600) hx hb dX9_isValue_27 (by decide +kernel) ?_
      refine um_callP (va_runS (As := [.int (v), .int (nI (10)), .int (nI (600))]) (rest := []) ⟨hx, hb, hml, hown, htg⟩ (mm_in l D κ τ A σ v (nI 10) (nI 600)) (cwS 3 htg (lw_cS tg_695 tg_696 tg_8 tg_697) rfl rfl rfl (by decide +kernel) ⟨Nat.le_of_ble_eq_true rfl, Nat.le_of_ble_eq_true rfl⟩) (um_preS hU hK hJ) rfl rfl hl.1 rfl (lv_room (Nat.le_of_ble_eq_true rfl)) dX9_isValue_30 ⟨Nat.le_of_ble_eq_true rfl, Nat.le_of_ble_eq_true rfl⟩) hU (fun H locs hU => ?_)
      exact um_zret hx hb hr hlocks hK hJ hU dX9_isValue_33 (tb_in v (nI 10) (nI 600)) rfl ⟨congrArg um_b (by first | (simp [tb_isVx, c1, c2]; done) | rw [tb_isVx, if_neg c1, if_pos c2]), rfl⟩
    · refine lv_sipush (v := nI 2000) hx hb dX9_isValue_21 (by decide +kernel) ?_
      refine lv_goto (tgt := 30) hx hb dX9_isValue_24 (by decide) ?_
      refine um_callP (va_runS (As := [.int (v), .int (nI (10)), .int (nI (2000))]) (rest := []) ⟨hx, hb, hml, hown, htg⟩ (mm_in l D κ τ A σ v (nI 10) (nI 2000)) (cwS 3 htg (lw_cS tg_695 tg_696 tg_8 tg_697) rfl rfl rfl (by decide +kernel) ⟨Nat.le_of_ble_eq_true rfl, Nat.le_of_ble_eq_true rfl⟩) (um_preS hU hK hJ) rfl rfl hl.1 rfl (lv_room (Nat.le_of_ble_eq_true rfl)) dX9_isValue_30 ⟨Nat.le_of_ble_eq_true rfl, Nat.le_of_ble_eq_true rfl⟩) hU (fun H locs hU => ?_)
      exact um_zret hx hb hr hlocks hK hJ hU dX9_isValue_33 (tb_in v (nI 10) (nI 2000)) rfl ⟨congrArg um_b (by first | (simp [tb_isVx, c1, c2]; done) | rw [tb_isVx, if_neg c1, if_pos c2]), rfl⟩
  · refine lv_iload_n hx hb dX9_isValue_4 rfl (lv_at hl 1 rfl) ?_
    refine lv_iconst (v := nI 0) hx hb dX9_isValue_5 (by decide +kernel) ?_
    refine lv_iconst (v := nI 3) hx hb dX9_isValue_6 (by decide +kernel) ?_
    refine um_callP (va_runS (As := [.int (v), .int (nI (0)), .int (nI (3))]) (rest := []) ⟨hx, hb, hml, hown, htg⟩ (mm_in l D κ τ A σ v (nI 0) (nI 3)) (cwS 3 htg (lw_cS tg_695 tg_696 tg_8 tg_697) rfl rfl rfl (by decide +kernel) ⟨Nat.le_of_ble_eq_true rfl, Nat.le_of_ble_eq_true rfl⟩) (um_preS hU hK hJ) rfl rfl hl.1 rfl (lv_room (Nat.le_of_ble_eq_true rfl)) dX9_isValue_7 ⟨Nat.le_of_ble_eq_true rfl, Nat.le_of_ble_eq_true rfl⟩) hU (fun H locs hU => ?_)
    refine lv_goto (tgt := 33) hx hb dX9_isValue_10 (by decide) ?_
    exact um_zret hx hb hr hlocks hK hJ hU dX9_isValue_33 (tb_in v (nI 0) (nI 3)) rfl ⟨congrArg um_b (by simp [tb_isVx, c1]), rfl⟩

set_option maxRecDepth 100000 in
set_option maxHeartbeats 4000000 in
theorem mm_thrown (l : Launch) (D : va_G) (κ : Nat → ClassId) (τ : Nat → Nat) (A : Nat → Prop) (σ : um_M) (md : Nat → Nat) (q : tb_Q) (th : Nat) (h : md_at κ σ md q th)  : Met l yX9_thrown wsX9_thrown ({ frames := 0, cells := 0, slots := 0, locals := 0 }) (va_Pc [.ref (md 13)] (um_U D κ τ A σ)) (va_Qi (fun (r9 : Int32) (σ' : um_M) => r9 = nI (th) ∧ σ' = σ) (um_U D κ τ A) A) 0 0 A := by
  refine um_met (cc := cX9_thrown) (maxL := 1) (ret := (some .int)) (by decide) rfl rfl ?_
  intro pp ee s mm args below meth cd ls hx hb hr hts hown hlocks hml hnm hK hJ hU hl
  have hown : s.vm.findClass RX9 = some mm.cls := hown
  have htg : ∀ w ∈ lw_g, w.before args s = true := fun w h => hts w (List.mem_cons_of_mem _ h)
  have hl : lv_has ls 1 [(0, .ref (md 13))] := hl
  refine lv_aload_n hx hb dX9_thrown_0 rfl (lv_at hl 0 rfl) ?_
  refine um_get (v := .int (nI (th))) hx hb htg inX9 hown hK hU h.obj rfl 0 (by decide) (htg _ tg_638) rfl dX9_thrown_1 ?_
  exact um_iret hx hb hr hlocks hK hJ hU dX9_thrown_4 ⟨congrArg nI (by rfl), rfl⟩

set_option maxRecDepth 100000 in
set_option maxHeartbeats 4000000 in
theorem mm_species (l : Launch) (D : va_G) (κ : Nat → ClassId) (τ : Nat → Nat) (A : Nat → Prop) (σ : um_M) (md : Nat → Nat) (q : tb_Q) (th : Nat) (h : md_at κ σ md q th) (x0 x1 x2 x3 : Int32) : Met l yX9_species wsX9_species ({ frames := 1, cells := 0, slots := 0, locals := 22 }) (va_Pc [.ref (md 13), .int (x0), .int (x1), .int (x2), .int (x3)] (um_U D κ τ A σ)) (va_Qv (fun σ' : um_M => md_at κ σ' md (tbQ_species q x0 x1 x2 x3) (tbT_species x0 x1 x2 x3)) (um_U D κ τ A) A) 0 0 A := by
  refine um_met (cc := cX9_species) (maxL := 6) (ret := none) (by decide) rfl rfl ?_
  intro pp ee s mm args below meth cd ls hx hb hr hts hown hlocks hml hnm hK hJ hU hl
  have hown : s.vm.findClass RX9 = some mm.cls := hown
  have htg : ∀ w ∈ lw_g, w.before args s = true := fun w h => hts w (List.mem_cons_of_mem _ h)
  have hl : lv_has ls 6 [(0, .ref (md 13)), (1, .int (x0)), (2, .int (x1)), (3, .int (x2)), (4, .int (x3))] := hl
  refine lv_iload_n hx hb dX9_species_0 rfl (lv_at hl 1 rfl) ?_
  refine lv_iconst (v := nI 0) hx hb dX9_species_1 (by decide +kernel) ?_
  refine lv_iconst (v := nI 3) hx hb dX9_species_2 (by decide +kernel) ?_
  refine um_callP (va_runS (As := [.int (x0), .int (nI (0)), .int (nI (3))]) (rest := []) ⟨hx, hb, hml, hown, htg⟩ (mm_in l D κ τ A σ x0 (nI 0) (nI 3)) (cwS 3 htg (lw_cS tg_695 tg_696 tg_8 tg_697) rfl rfl rfl (by decide +kernel) ⟨Nat.le_of_ble_eq_true rfl, Nat.le_of_ble_eq_true rfl⟩) (um_preS hU hK hJ) rfl rfl hl.1 rfl (lv_room (Nat.le_of_ble_eq_true rfl)) dX9_species_3 ⟨Nat.le_of_ble_eq_true rfl, Nat.le_of_ble_eq_true rfl⟩) hU (fun H locs hU => ?_)
  refine um_eqB (tgt := 37) hx hb dX9_species_6 (by decide) (fun c1 => ?_) (fun c1 => ?_)
  · refine lv_iconst (v := nI 1) hx hb dX9_species_37 (by decide +kernel) ?_
    refine lv_goto (tgt := 42) hx hb dX9_species_38 (by decide) ?_
    refine lv_istore (lv' := [(5, .int (nI (1))), (0, .ref (md 13)), (1, .int (x0)), (2, .int (x1)), (3, .int (x2)), (4, .int (x3))]) hx hb dX9_species_42 hl (by decide) rfl (fun ls hl => ?_)
    refine lv_aload_n hx hb dX9_species_44 rfl (lv_at hl 1 rfl) ?_
    refine lv_iload hx hb dX9_species_45 (lv_at hl 0 rfl) ?_
    refine lv_iconst (v := nI 1) hx hb dX9_species_47 (by decide +kernel) ?_
    refine um_calli (va_runV (As := [.int (nI (1)), .int (nI (1))]) (rest := []) ⟨hx, hb, hml, hown, htg⟩ (mm_fails l D κ τ A σ md q th h true 1) (cwV 2 htg (lw_cV tg_698 tg_700 slX9_fails tg_8 tg_701) rfl rfl rfl (by decide +kernel) ⟨Nat.le_of_ble_eq_true rfl, Nat.le_of_ble_eq_true rfl⟩) (um_preV hU hK hJ h.obj rfl) rfl rfl hl.1 rfl (lv_room (Nat.le_of_ble_eq_true rfl)) dX9_species_48 ⟨Nat.le_of_ble_eq_true rfl, Nat.le_of_ble_eq_true rfl⟩) hU (fun r9 σ H locs h hU => ?_)
    obtain ⟨rfl, h⟩ := h
    refine um_eqB (tgt := 55) hx hb dX9_species_51 (by decide) (fun h => by cases h) (fun _ => ?_)
    exact um_vret hx hb hr hlocks hK hJ hU dX9_species_54 (by rw [show (tbQ_species q x0 x1 x2 x3) = q from by simp [tbQ_species, tbT_species, tb_spB, c1]]; rw [show (tbT_species x0 x1 x2 x3) = (if true = true then 1 else 0) from by simp [tbQ_species, tbT_species, tb_spB, c1]]; exact h)
  · refine lv_iload_n hx hb dX9_species_9 rfl (lv_at hl 2 rfl) ?_
    refine lv_iconst (v := nI 1) hx hb dX9_species_10 (by decide +kernel) ?_
    refine lv_bipush (v := nI 100) hx hb dX9_species_11 (by decide +kernel) ?_
    refine um_callP (va_runS (As := [.int (x1), .int (nI (1)), .int (nI (100))]) (rest := []) ⟨hx, hb, hml, hown, htg⟩ (mm_in l D κ τ A σ x1 (nI 1) (nI 100)) (cwS 3 htg (lw_cS tg_695 tg_696 tg_8 tg_697) rfl rfl rfl (by decide +kernel) ⟨Nat.le_of_ble_eq_true rfl, Nat.le_of_ble_eq_true rfl⟩) (um_preS hU hK hJ) rfl rfl hl.1 rfl (lv_room (Nat.le_of_ble_eq_true rfl)) dX9_species_13 ⟨Nat.le_of_ble_eq_true rfl, Nat.le_of_ble_eq_true rfl⟩) hU (fun H locs hU => ?_)
    refine um_eqB (tgt := 37) hx hb dX9_species_16 (by decide) (fun c2 => ?_) (fun c2 => ?_)
    · refine lv_iconst (v := nI 1) hx hb dX9_species_37 (by decide +kernel) ?_
      refine lv_goto (tgt := 42) hx hb dX9_species_38 (by decide) ?_
      refine lv_istore (lv' := [(5, .int (nI (1))), (0, .ref (md 13)), (1, .int (x0)), (2, .int (x1)), (3, .int (x2)), (4, .int (x3))]) hx hb dX9_species_42 hl (by decide) rfl (fun ls hl => ?_)
      refine lv_aload_n hx hb dX9_species_44 rfl (lv_at hl 1 rfl) ?_
      refine lv_iload hx hb dX9_species_45 (lv_at hl 0 rfl) ?_
      refine lv_iconst (v := nI 1) hx hb dX9_species_47 (by decide +kernel) ?_
      refine um_calli (va_runV (As := [.int (nI (1)), .int (nI (1))]) (rest := []) ⟨hx, hb, hml, hown, htg⟩ (mm_fails l D κ τ A σ md q th h true 1) (cwV 2 htg (lw_cV tg_698 tg_700 slX9_fails tg_8 tg_701) rfl rfl rfl (by decide +kernel) ⟨Nat.le_of_ble_eq_true rfl, Nat.le_of_ble_eq_true rfl⟩) (um_preV hU hK hJ h.obj rfl) rfl rfl hl.1 rfl (lv_room (Nat.le_of_ble_eq_true rfl)) dX9_species_48 ⟨Nat.le_of_ble_eq_true rfl, Nat.le_of_ble_eq_true rfl⟩) hU (fun r9 σ H locs h hU => ?_)
      obtain ⟨rfl, h⟩ := h
      refine um_eqB (tgt := 55) hx hb dX9_species_51 (by decide) (fun h => by cases h) (fun _ => ?_)
      exact um_vret hx hb hr hlocks hK hJ hU dX9_species_54 (by rw [show (tbQ_species q x0 x1 x2 x3) = q from by simp [tbQ_species, tbT_species, tb_spB, c1, c2]]; rw [show (tbT_species x0 x1 x2 x3) = (if true = true then 1 else 0) from by simp [tbQ_species, tbT_species, tb_spB, c1, c2]]; exact h)
    · refine lv_iload_n hx hb dX9_species_19 rfl (lv_at hl 3 rfl) ?_
      refine lv_if_lt (tgt := 37) hx hb dX9_species_20 (by decide) (fun c3 => ?_) (fun c3 => ?_)
      · refine lv_iconst (v := nI 1) hx hb dX9_species_37 (by decide +kernel) ?_
        refine lv_goto (tgt := 42) hx hb dX9_species_38 (by decide) ?_
        refine lv_istore (lv' := [(5, .int (nI (1))), (0, .ref (md 13)), (1, .int (x0)), (2, .int (x1)), (3, .int (x2)), (4, .int (x3))]) hx hb dX9_species_42 hl (by decide) rfl (fun ls hl => ?_)
        refine lv_aload_n hx hb dX9_species_44 rfl (lv_at hl 1 rfl) ?_
        refine lv_iload hx hb dX9_species_45 (lv_at hl 0 rfl) ?_
        refine lv_iconst (v := nI 1) hx hb dX9_species_47 (by decide +kernel) ?_
        refine um_calli (va_runV (As := [.int (nI (1)), .int (nI (1))]) (rest := []) ⟨hx, hb, hml, hown, htg⟩ (mm_fails l D κ τ A σ md q th h true 1) (cwV 2 htg (lw_cV tg_698 tg_700 slX9_fails tg_8 tg_701) rfl rfl rfl (by decide +kernel) ⟨Nat.le_of_ble_eq_true rfl, Nat.le_of_ble_eq_true rfl⟩) (um_preV hU hK hJ h.obj rfl) rfl rfl hl.1 rfl (lv_room (Nat.le_of_ble_eq_true rfl)) dX9_species_48 ⟨Nat.le_of_ble_eq_true rfl, Nat.le_of_ble_eq_true rfl⟩) hU (fun r9 σ H locs h hU => ?_)
        obtain ⟨rfl, h⟩ := h
        refine um_eqB (tgt := 55) hx hb dX9_species_51 (by decide) (fun h => by cases h) (fun _ => ?_)
        exact um_vret hx hb hr hlocks hK hJ hU dX9_species_54 (by rw [show (tbQ_species q x0 x1 x2 x3) = q from by simp [tbQ_species, tbT_species, tb_spB, c1, c2, c3]]; rw [show (tbT_species x0 x1 x2 x3) = (if true = true then 1 else 0) from by simp [tbQ_species, tbT_species, tb_spB, c1, c2, c3]]; exact h)
      · refine lv_iload_n hx hb dX9_species_23 rfl (lv_at hl 3 rfl) ?_
        refine lv_iload hx hb dX9_species_24 (lv_at hl 4 rfl) ?_
        refine lv_icmp_gt (tgt := 37) hx hb dX9_species_26 (by decide) (fun c4 => ?_) (fun c4 => ?_)
        · refine lv_iconst (v := nI 1) hx hb dX9_species_37 (by decide +kernel) ?_
          refine lv_goto (tgt := 42) hx hb dX9_species_38 (by decide) ?_
          refine lv_istore (lv' := [(5, .int (nI (1))), (0, .ref (md 13)), (1, .int (x0)), (2, .int (x1)), (3, .int (x2)), (4, .int (x3))]) hx hb dX9_species_42 hl (by decide) rfl (fun ls hl => ?_)
          refine lv_aload_n hx hb dX9_species_44 rfl (lv_at hl 1 rfl) ?_
          refine lv_iload hx hb dX9_species_45 (lv_at hl 0 rfl) ?_
          refine lv_iconst (v := nI 1) hx hb dX9_species_47 (by decide +kernel) ?_
          refine um_calli (va_runV (As := [.int (nI (1)), .int (nI (1))]) (rest := []) ⟨hx, hb, hml, hown, htg⟩ (mm_fails l D κ τ A σ md q th h true 1) (cwV 2 htg (lw_cV tg_698 tg_700 slX9_fails tg_8 tg_701) rfl rfl rfl (by decide +kernel) ⟨Nat.le_of_ble_eq_true rfl, Nat.le_of_ble_eq_true rfl⟩) (um_preV hU hK hJ h.obj rfl) rfl rfl hl.1 rfl (lv_room (Nat.le_of_ble_eq_true rfl)) dX9_species_48 ⟨Nat.le_of_ble_eq_true rfl, Nat.le_of_ble_eq_true rfl⟩) hU (fun r9 σ H locs h hU => ?_)
          obtain ⟨rfl, h⟩ := h
          refine um_eqB (tgt := 55) hx hb dX9_species_51 (by decide) (fun h => by cases h) (fun _ => ?_)
          exact um_vret hx hb hr hlocks hK hJ hU dX9_species_54 (by rw [show (tbQ_species q x0 x1 x2 x3) = q from by simp [tbQ_species, tbT_species, tb_spB, c1, c2, c3, c4]]; rw [show (tbT_species x0 x1 x2 x3) = (if true = true then 1 else 0) from by simp [tbQ_species, tbT_species, tb_spB, c1, c2, c3, c4]]; exact h)
        · refine lv_iload hx hb dX9_species_29 (lv_at hl 4 rfl) ?_
          refine lv_sipush (v := nI 1000) hx hb dX9_species_31 (by decide +kernel) ?_
          refine lv_icmp_le (tgt := 41) hx hb dX9_species_34 (by decide) (fun c5 => ?_) (fun c5 => ?_)
          · refine lv_iconst (v := nI 0) hx hb dX9_species_41 (by decide +kernel) ?_
            refine lv_istore (lv' := [(5, .int (nI (0))), (0, .ref (md 13)), (1, .int (x0)), (2, .int (x1)), (3, .int (x2)), (4, .int (x3))]) hx hb dX9_species_42 hl (by decide) rfl (fun ls hl => ?_)
            refine lv_aload_n hx hb dX9_species_44 rfl (lv_at hl 1 rfl) ?_
            refine lv_iload hx hb dX9_species_45 (lv_at hl 0 rfl) ?_
            refine lv_iconst (v := nI 1) hx hb dX9_species_47 (by decide +kernel) ?_
            refine um_calli (va_runV (As := [.int (nI (0)), .int (nI (1))]) (rest := []) ⟨hx, hb, hml, hown, htg⟩ (mm_fails l D κ τ A σ md q th h false 1) (cwV 2 htg (lw_cV tg_698 tg_700 slX9_fails tg_8 tg_701) rfl rfl rfl (by decide +kernel) ⟨Nat.le_of_ble_eq_true rfl, Nat.le_of_ble_eq_true rfl⟩) (um_preV hU hK hJ h.obj rfl) rfl rfl hl.1 rfl (lv_room (Nat.le_of_ble_eq_true rfl)) dX9_species_48 ⟨Nat.le_of_ble_eq_true rfl, Nat.le_of_ble_eq_true rfl⟩) hU (fun r9 σ H locs h hU => ?_)
            obtain ⟨rfl, h⟩ := h
            refine um_eqB (tgt := 55) hx hb dX9_species_51 (by decide) (fun _ => ?_) (fun h => by cases h)
            obtain ⟨j0, ha_j0, hb_j0, rfl⟩ := tb_inN (by decide) (by decide) c1
            have en_j0 : (nI j0).toNatClampNeg = j0 := nI_clamp (by omega)
            obtain ⟨j1, ha_j1, hb_j1, rfl⟩ := tb_inN (by decide) (by decide) c2
            have en_j1 : (nI j1).toNatClampNeg = j1 := nI_clamp (by omega)
            obtain ⟨j3, hb_j3, rfl⟩ : ∃ j : Nat, j ≤ 1000 ∧ x3 = nI j := nI_of2 (M := nI 1000) rfl (fun z => c3 (Int32.lt_of_le_of_lt (Int32.not_lt.mp c4) z)) c5
            obtain ⟨j2, hb_j2, rfl⟩ : ∃ j : Nat, j ≤ 1000 ∧ x2 = nI j := nI_of2 (M := nI 1000) rfl c3 (Int32.le_trans (Int32.not_lt.mp c4) c5)
            have en_j2 : (nI j2).toNatClampNeg = j2 := nI_clamp (by omega)
            have en_j3 : (nI j3).toNatClampNeg = j3 := nI_clamp (by omega)
            refine lv_aload_n hx hb dX9_species_55 rfl (lv_at hl 1 rfl) ?_
            refine um_get (v := .ref (md 9)) hx hb htg inX9 hown hK hU h.obj rfl 12 (by decide) (htg _ tg_650) rfl dX9_species_56 ?_
            refine lv_iload_n hx hb dX9_species_59 rfl (lv_at hl 2 rfl) ?_
            refine lv_iload_n hx hb dX9_species_60 rfl (lv_at hl 3 rfl) ?_
            refine md_ist hx hb hK hU h 9 j0 j1 (by decide) (show j0 < 4 by omega) dX9_species_61 (fun σ H locs h hU => ?_)
            refine lv_aload_n hx hb dX9_species_62 rfl (lv_at hl 1 rfl) ?_
            refine um_get (v := .ref (md 10)) hx hb htg inX9 hown hK hU h.obj rfl 13 (by decide) (htg _ tg_651) rfl dX9_species_63 ?_
            refine lv_iload_n hx hb dX9_species_66 rfl (lv_at hl 2 rfl) ?_
            refine lv_iload_n hx hb dX9_species_67 rfl (lv_at hl 4 rfl) ?_
            refine md_ist hx hb hK hU h 10 j0 j2 (by decide) (show j0 < 4 by omega) dX9_species_68 (fun σ H locs h hU => ?_)
            refine lv_aload_n hx hb dX9_species_69 rfl (lv_at hl 1 rfl) ?_
            refine um_get (v := .ref (md 11)) hx hb htg inX9 hown hK hU h.obj rfl 14 (by decide) (htg _ tg_652) rfl dX9_species_70 ?_
            refine lv_iload_n hx hb dX9_species_73 rfl (lv_at hl 2 rfl) ?_
            refine lv_iload hx hb dX9_species_74 (lv_at hl 5 rfl) ?_
            refine md_ist hx hb hK hU h 11 j0 j3 (by decide) (show j0 < 4 by omega) dX9_species_76 (fun σ H locs h hU => ?_)
            exact um_vret hx hb hr hlocks hK hJ hU dX9_species_77 (by rw [show (tbQ_species q (nI j0) (nI j1) (nI j2) (nI j3)) = (tb_set (tb_set (tb_set q 9 j0 j1) 10 j0 j2) 11 j0 j3) from by simp [tbQ_species, tbT_species, tb_spB, c1, c2, c3, c4, c5, en_j0, en_j1, en_j2, en_j3]]; rw [show (tbT_species (nI j0) (nI j1) (nI j2) (nI j3)) = (if false = true then 1 else 0) from by simp [tbQ_species, tbT_species, tb_spB, c1, c2, c3, c4, c5, en_j0, en_j1, en_j2, en_j3]]; exact h)
          · refine lv_iconst (v := nI 1) hx hb dX9_species_37 (by decide +kernel) ?_
            refine lv_goto (tgt := 42) hx hb dX9_species_38 (by decide) ?_
            refine lv_istore (lv' := [(5, .int (nI (1))), (0, .ref (md 13)), (1, .int (x0)), (2, .int (x1)), (3, .int (x2)), (4, .int (x3))]) hx hb dX9_species_42 hl (by decide) rfl (fun ls hl => ?_)
            refine lv_aload_n hx hb dX9_species_44 rfl (lv_at hl 1 rfl) ?_
            refine lv_iload hx hb dX9_species_45 (lv_at hl 0 rfl) ?_
            refine lv_iconst (v := nI 1) hx hb dX9_species_47 (by decide +kernel) ?_
            refine um_calli (va_runV (As := [.int (nI (1)), .int (nI (1))]) (rest := []) ⟨hx, hb, hml, hown, htg⟩ (mm_fails l D κ τ A σ md q th h true 1) (cwV 2 htg (lw_cV tg_698 tg_700 slX9_fails tg_8 tg_701) rfl rfl rfl (by decide +kernel) ⟨Nat.le_of_ble_eq_true rfl, Nat.le_of_ble_eq_true rfl⟩) (um_preV hU hK hJ h.obj rfl) rfl rfl hl.1 rfl (lv_room (Nat.le_of_ble_eq_true rfl)) dX9_species_48 ⟨Nat.le_of_ble_eq_true rfl, Nat.le_of_ble_eq_true rfl⟩) hU (fun r9 σ H locs h hU => ?_)
            obtain ⟨rfl, h⟩ := h
            refine um_eqB (tgt := 55) hx hb dX9_species_51 (by decide) (fun h => by cases h) (fun _ => ?_)
            exact um_vret hx hb hr hlocks hK hJ hU dX9_species_54 (by rw [show (tbQ_species q x0 x1 x2 x3) = q from by simp [tbQ_species, tbT_species, tb_spB, c1, c2, c3, c4, c5]]; rw [show (tbT_species x0 x1 x2 x3) = (if true = true then 1 else 0) from by simp [tbQ_species, tbT_species, tb_spB, c1, c2, c3, c4, c5]]; exact h)

set_option maxRecDepth 100000 in
set_option maxHeartbeats 4000000 in
theorem mm_stand (l : Launch) (D : va_G) (κ : Nat → ClassId) (τ : Nat → Nat) (A : Nat → Prop) (σ : um_M) (md : Nat → Nat) (q : tb_Q) (th : Nat) (h : md_at κ σ md q th) (x0 x1 : Int32) : Met l yX9_stand wsX9_stand ({ frames := 1, cells := 0, slots := 0, locals := 22 }) (va_Pc [.ref (md 13), .int (x0), .int (x1)] (um_U D κ τ A σ)) (va_Qv (fun σ' : um_M => md_at κ σ' md (tbQ_stand q x0 x1) (tbT_stand x0 x1)) (um_U D κ τ A) A) 0 0 A := by
  refine um_met (cc := cX9_stand) (maxL := 3) (ret := none) (by decide) rfl rfl ?_
  intro pp ee s mm args below meth cd ls hx hb hr hts hown hlocks hml hnm hK hJ hU hl
  have hown : s.vm.findClass RX9 = some mm.cls := hown
  have htg : ∀ w ∈ lw_g, w.before args s = true := fun w h => hts w (List.mem_cons_of_mem _ h)
  have hl : lv_has ls 3 [(0, .ref (md 13)), (1, .int (x0)), (2, .int (x1))] := hl
  refine lv_aload_n hx hb dX9_stand_0 rfl (lv_at hl 0 rfl) ?_
  refine lv_iload_n hx hb dX9_stand_1 rfl (lv_at hl 1 rfl) ?_
  refine lv_iconst (v := nI 0) hx hb dX9_stand_2 (by decide +kernel) ?_
  refine lv_iconst (v := nI 5) hx hb dX9_stand_3 (by decide +kernel) ?_
  refine um_callP (va_runS (As := [.int (x0), .int (nI (0)), .int (nI (5))]) (rest := [.ref (md 13)]) ⟨hx, hb, hml, hown, htg⟩ (mm_in l D κ τ A σ x0 (nI 0) (nI 5)) (cwS 3 htg (lw_cS tg_695 tg_696 tg_8 tg_697) rfl rfl rfl (by decide +kernel) ⟨Nat.le_of_ble_eq_true rfl, Nat.le_of_ble_eq_true rfl⟩) (um_preS hU hK hJ) rfl rfl hl.1 rfl (lv_room (Nat.le_of_ble_eq_true rfl)) dX9_stand_4 ⟨Nat.le_of_ble_eq_true rfl, Nat.le_of_ble_eq_true rfl⟩) hU (fun H locs hU => ?_)
  refine um_eqB (tgt := 19) hx hb dX9_stand_7 (by decide) (fun c1 => ?_) (fun c1 => ?_)
  · refine lv_iconst (v := nI 1) hx hb dX9_stand_19 (by decide +kernel) ?_
    refine lv_goto (tgt := 24) hx hb dX9_stand_20 (by decide) ?_
    refine lv_iconst (v := nI 1) hx hb dX9_stand_24 (by decide +kernel) ?_
    refine um_calli (va_runV (As := [.int (nI (1)), .int (nI (1))]) (rest := []) ⟨hx, hb, hml, hown, htg⟩ (mm_fails l D κ τ A σ md q th h true 1) (cwV 2 htg (lw_cV tg_698 tg_700 slX9_fails tg_8 tg_701) rfl rfl rfl (by decide +kernel) ⟨Nat.le_of_ble_eq_true rfl, Nat.le_of_ble_eq_true rfl⟩) (um_preV hU hK hJ h.obj rfl) rfl rfl hl.1 rfl (lv_room (Nat.le_of_ble_eq_true rfl)) dX9_stand_25 ⟨Nat.le_of_ble_eq_true rfl, Nat.le_of_ble_eq_true rfl⟩) hU (fun r9 σ H locs h hU => ?_)
    obtain ⟨rfl, h⟩ := h
    refine um_neB (tgt := 38) hx hb dX9_stand_28 (by decide) (fun _ => ?_) (fun h => by cases h)
    exact um_vret hx hb hr hlocks hK hJ hU dX9_stand_38 (by rw [show (tbQ_stand q x0 x1) = q from by simp [tbQ_stand, tbT_stand, tb_stB, c1]]; rw [show (tbT_stand x0 x1) = (if true = true then 1 else 0) from by simp [tbQ_stand, tbT_stand, tb_stB, c1]]; exact h)
  · refine lv_iload_n hx hb dX9_stand_10 rfl (lv_at hl 2 rfl) ?_
    refine lv_iconst (v := nI 0) hx hb dX9_stand_11 (by decide +kernel) ?_
    refine lv_iconst (v := nI 2) hx hb dX9_stand_12 (by decide +kernel) ?_
    refine um_callP (va_runS (As := [.int (x1), .int (nI (0)), .int (nI (2))]) (rest := [.ref (md 13)]) ⟨hx, hb, hml, hown, htg⟩ (mm_in l D κ τ A σ x1 (nI 0) (nI 2)) (cwS 3 htg (lw_cS tg_695 tg_696 tg_8 tg_697) rfl rfl rfl (by decide +kernel) ⟨Nat.le_of_ble_eq_true rfl, Nat.le_of_ble_eq_true rfl⟩) (um_preS hU hK hJ) rfl rfl hl.1 rfl (lv_room (Nat.le_of_ble_eq_true rfl)) dX9_stand_13 ⟨Nat.le_of_ble_eq_true rfl, Nat.le_of_ble_eq_true rfl⟩) hU (fun H locs hU => ?_)
    refine um_neB (tgt := 23) hx hb dX9_stand_16 (by decide) (fun c2 => ?_) (fun c2 => ?_)
    · refine lv_iconst (v := nI 0) hx hb dX9_stand_23 (by decide +kernel) ?_
      refine lv_iconst (v := nI 1) hx hb dX9_stand_24 (by decide +kernel) ?_
      refine um_calli (va_runV (As := [.int (nI (0)), .int (nI (1))]) (rest := []) ⟨hx, hb, hml, hown, htg⟩ (mm_fails l D κ τ A σ md q th h false 1) (cwV 2 htg (lw_cV tg_698 tg_700 slX9_fails tg_8 tg_701) rfl rfl rfl (by decide +kernel) ⟨Nat.le_of_ble_eq_true rfl, Nat.le_of_ble_eq_true rfl⟩) (um_preV hU hK hJ h.obj rfl) rfl rfl hl.1 rfl (lv_room (Nat.le_of_ble_eq_true rfl)) dX9_stand_25 ⟨Nat.le_of_ble_eq_true rfl, Nat.le_of_ble_eq_true rfl⟩) hU (fun r9 σ H locs h hU => ?_)
      obtain ⟨rfl, h⟩ := h
      refine um_neB (tgt := 38) hx hb dX9_stand_28 (by decide) (fun h => by cases h) (fun _ => ?_)
      obtain ⟨j0, ha_j0, hb_j0, rfl⟩ := tb_inN (by decide) (by decide) c1
      have en_j0 : (nI j0).toNatClampNeg = j0 := nI_clamp (by omega)
      obtain ⟨j1, ha_j1, hb_j1, rfl⟩ := tb_inN (by decide) (by decide) c2
      have en_j1 : (nI j1).toNatClampNeg = j1 := nI_clamp (by omega)
      refine lv_aload_n hx hb dX9_stand_31 rfl (lv_at hl 0 rfl) ?_
      refine um_get (v := .ref (md 12)) hx hb htg inX9 hown hK hU h.obj rfl 15 (by decide) (htg _ tg_653) rfl dX9_stand_32 ?_
      refine lv_iload_n hx hb dX9_stand_35 rfl (lv_at hl 1 rfl) ?_
      refine lv_iload_n hx hb dX9_stand_36 rfl (lv_at hl 2 rfl) ?_
      refine md_ist hx hb hK hU h 12 j0 j1 (by decide) (show j0 < 6 by omega) dX9_stand_37 (fun σ H locs h hU => ?_)
      exact um_vret hx hb hr hlocks hK hJ hU dX9_stand_38 (by rw [show (tbQ_stand q (nI j0) (nI j1)) = (tb_set q 12 j0 j1) from by simp [tbQ_stand, tbT_stand, tb_stB, c1, c2, en_j0, en_j1]]; rw [show (tbT_stand (nI j0) (nI j1)) = (if false = true then 1 else 0) from by simp [tbQ_stand, tbT_stand, tb_stB, c1, c2, en_j0, en_j1]]; exact h)
    · refine lv_iconst (v := nI 1) hx hb dX9_stand_19 (by decide +kernel) ?_
      refine lv_goto (tgt := 24) hx hb dX9_stand_20 (by decide) ?_
      refine lv_iconst (v := nI 1) hx hb dX9_stand_24 (by decide +kernel) ?_
      refine um_calli (va_runV (As := [.int (nI (1)), .int (nI (1))]) (rest := []) ⟨hx, hb, hml, hown, htg⟩ (mm_fails l D κ τ A σ md q th h true 1) (cwV 2 htg (lw_cV tg_698 tg_700 slX9_fails tg_8 tg_701) rfl rfl rfl (by decide +kernel) ⟨Nat.le_of_ble_eq_true rfl, Nat.le_of_ble_eq_true rfl⟩) (um_preV hU hK hJ h.obj rfl) rfl rfl hl.1 rfl (lv_room (Nat.le_of_ble_eq_true rfl)) dX9_stand_25 ⟨Nat.le_of_ble_eq_true rfl, Nat.le_of_ble_eq_true rfl⟩) hU (fun r9 σ H locs h hU => ?_)
      obtain ⟨rfl, h⟩ := h
      refine um_neB (tgt := 38) hx hb dX9_stand_28 (by decide) (fun _ => ?_) (fun h => by cases h)
      exact um_vret hx hb hr hlocks hK hJ hU dX9_stand_38 (by rw [show (tbQ_stand q x0 x1) = q from by simp [tbQ_stand, tbT_stand, tb_stB, c1, c2]]; rw [show (tbT_stand x0 x1) = (if true = true then 1 else 0) from by simp [tbQ_stand, tbT_stand, tb_stB, c1, c2]]; exact h)

set_option maxRecDepth 100000 in
set_option maxHeartbeats 4000000 in
theorem mm_lend (l : Launch) (D : va_G) (κ : Nat → ClassId) (τ : Nat → Nat) (A : Nat → Prop) (σ : um_M) (md : Nat → Nat) (q : tb_Q) (th : Nat) (h : md_at κ σ md q th) (hq : tb_sm q) (hm : ∀ d, q 0 d ≤ 40) (x0 x1 : Int32) : Met l yX9_lend wsX9_lend ({ frames := 3, cells := 0, slots := 0, locals := 74 }) (va_Pc [.ref (md 13), .int (x0), .int (x1)] (um_U D κ τ A σ)) (va_Qi (fun (r9 : Int32) (σ' : um_M) => r9 = nI (tbA_lend q x0 x1) ∧ md_at κ σ' md (tbQ_lend q x0 x1) (tbT_lend q x0 x1)) (um_U D κ τ A) A) 0 0 A := by
  refine um_met (cc := cX9_lend) (maxL := 6) (ret := (some .int)) (by decide) rfl rfl ?_
  intro pp ee s mm args below meth cd ls hx hb hr hts hown hlocks hml hnm hK hJ hU hl
  have hown : s.vm.findClass RX9 = some mm.cls := hown
  have htg : ∀ w ∈ lw_g, w.before args s = true := fun w h => hts w (List.mem_cons_of_mem _ h)
  have hl : lv_has ls 6 [(0, .ref (md 13)), (1, .int (x0)), (2, .int (x1))] := hl
  refine lv_iload_n hx hb dX9_lend_0 rfl (lv_at hl 1 rfl) ?_
  refine lv_iconst (v := nI 0) hx hb dX9_lend_1 (by decide +kernel) ?_
  refine lv_iconst (v := nI 5) hx hb dX9_lend_2 (by decide +kernel) ?_
  refine um_callP (va_runS (As := [.int (x0), .int (nI (0)), .int (nI (5))]) (rest := []) ⟨hx, hb, hml, hown, htg⟩ (mm_in l D κ τ A σ x0 (nI 0) (nI 5)) (cwS 3 htg (lw_cS tg_695 tg_696 tg_8 tg_697) rfl rfl rfl (by decide +kernel) ⟨Nat.le_of_ble_eq_true rfl, Nat.le_of_ble_eq_true rfl⟩) (um_preS hU hK hJ) rfl rfl hl.1 rfl (lv_room (Nat.le_of_ble_eq_true rfl)) dX9_lend_3 ⟨Nat.le_of_ble_eq_true rfl, Nat.le_of_ble_eq_true rfl⟩) hU (fun H locs hU => ?_)
  refine um_eqB (tgt := 18) hx hb dX9_lend_6 (by decide) (fun c1 => ?_) (fun c1 => ?_)
  · refine lv_iconst (v := nI 1) hx hb dX9_lend_18 (by decide +kernel) ?_
    refine lv_goto (tgt := 23) hx hb dX9_lend_19 (by decide) ?_
    refine lv_istore_n (lv' := [(3, .int (nI (1))), (0, .ref (md 13)), (1, .int (x0)), (2, .int (x1))]) hx hb dX9_lend_23 rfl hl (by decide) rfl (fun ls hl => ?_)
    refine lv_aload_n hx hb dX9_lend_24 rfl (lv_at hl 1 rfl) ?_
    refine lv_iload_n hx hb dX9_lend_25 rfl (lv_at hl 0 rfl) ?_
    refine lv_iconst (v := nI 1) hx hb dX9_lend_26 (by decide +kernel) ?_
    refine um_calli (va_runV (As := [.int (nI (1)), .int (nI (1))]) (rest := []) ⟨hx, hb, hml, hown, htg⟩ (mm_fails l D κ τ A σ md q th h true 1) (cwV 2 htg (lw_cV tg_698 tg_700 slX9_fails tg_8 tg_701) rfl rfl rfl (by decide +kernel) ⟨Nat.le_of_ble_eq_true rfl, Nat.le_of_ble_eq_true rfl⟩) (um_preV hU hK hJ h.obj rfl) rfl rfl hl.1 rfl (lv_room (Nat.le_of_ble_eq_true rfl)) dX9_lend_27 ⟨Nat.le_of_ble_eq_true rfl, Nat.le_of_ble_eq_true rfl⟩) hU (fun r9 σ H locs h hU => ?_)
    obtain ⟨rfl, h⟩ := h
    refine um_neB (tgt := 66) hx hb dX9_lend_30 (by decide) (fun _ => ?_) (fun h => by cases h)
    refine lv_iconst (v := nI 0) hx hb dX9_lend_66 (by decide +kernel) ?_
    exact um_iret hx hb hr hlocks hK hJ hU dX9_lend_67 ⟨congrArg nI (by simp [tbQ_lend, tbT_lend, tbA_lend, tb_ldB, tb_ldC, c1]), (by rw [show (tbQ_lend q x0 x1) = q from by simp [tbQ_lend, tbT_lend, tbA_lend, tb_ldB, tb_ldC, c1]]; rw [show (tbT_lend q x0 x1) = (if true = true then 1 else 0) from by simp [tbQ_lend, tbT_lend, tbA_lend, tb_ldB, tb_ldC, c1]]; exact h)⟩
  · refine lv_iload_n hx hb dX9_lend_9 rfl (lv_at hl 2 rfl) ?_
    refine lv_iconst (v := nI 1) hx hb dX9_lend_10 (by decide +kernel) ?_
    refine lv_iconst (v := nI 4) hx hb dX9_lend_11 (by decide +kernel) ?_
    refine um_callP (va_runS (As := [.int (x1), .int (nI (1)), .int (nI (4))]) (rest := []) ⟨hx, hb, hml, hown, htg⟩ (mm_in l D κ τ A σ x1 (nI 1) (nI 4)) (cwS 3 htg (lw_cS tg_695 tg_696 tg_8 tg_697) rfl rfl rfl (by decide +kernel) ⟨Nat.le_of_ble_eq_true rfl, Nat.le_of_ble_eq_true rfl⟩) (um_preS hU hK hJ) rfl rfl hl.1 rfl (lv_room (Nat.le_of_ble_eq_true rfl)) dX9_lend_12 ⟨Nat.le_of_ble_eq_true rfl, Nat.le_of_ble_eq_true rfl⟩) hU (fun H locs hU => ?_)
    refine um_neB (tgt := 22) hx hb dX9_lend_15 (by decide) (fun c2 => ?_) (fun c2 => ?_)
    · refine lv_iconst (v := nI 0) hx hb dX9_lend_22 (by decide +kernel) ?_
      refine lv_istore_n (lv' := [(3, .int (nI (0))), (0, .ref (md 13)), (1, .int (x0)), (2, .int (x1))]) hx hb dX9_lend_23 rfl hl (by decide) rfl (fun ls hl => ?_)
      refine lv_aload_n hx hb dX9_lend_24 rfl (lv_at hl 1 rfl) ?_
      refine lv_iload_n hx hb dX9_lend_25 rfl (lv_at hl 0 rfl) ?_
      refine lv_iconst (v := nI 1) hx hb dX9_lend_26 (by decide +kernel) ?_
      refine um_calli (va_runV (As := [.int (nI (0)), .int (nI (1))]) (rest := []) ⟨hx, hb, hml, hown, htg⟩ (mm_fails l D κ τ A σ md q th h false 1) (cwV 2 htg (lw_cV tg_698 tg_700 slX9_fails tg_8 tg_701) rfl rfl rfl (by decide +kernel) ⟨Nat.le_of_ble_eq_true rfl, Nat.le_of_ble_eq_true rfl⟩) (um_preV hU hK hJ h.obj rfl) rfl rfl hl.1 rfl (lv_room (Nat.le_of_ble_eq_true rfl)) dX9_lend_27 ⟨Nat.le_of_ble_eq_true rfl, Nat.le_of_ble_eq_true rfl⟩) hU (fun r9 σ H locs h hU => ?_)
      obtain ⟨rfl, h⟩ := h
      refine um_neB (tgt := 66) hx hb dX9_lend_30 (by decide) (fun h => by cases h) (fun _ => ?_)
      obtain ⟨j0, ha_j0, hb_j0, rfl⟩ := tb_inN (by decide) (by decide) c1
      have en_j0 : (nI j0).toNatClampNeg = j0 := nI_clamp (by omega)
      obtain ⟨j1, ha_j1, hb_j1, rfl⟩ := tb_inN (by decide) (by decide) c2
      have en_j1 : (nI j1).toNatClampNeg = j1 := nI_clamp (by omega)
      refine lv_aload_n hx hb dX9_lend_33 rfl (lv_at hl 1 rfl) ?_
      refine lv_aload_n hx hb dX9_lend_34 rfl (lv_at hl 1 rfl) ?_
      refine lv_iconst (v := nI 0) hx hb dX9_lend_35 (by decide +kernel) ?_
      refine lv_iload_n hx hb dX9_lend_36 rfl (lv_at hl 2 rfl) ?_
      refine um_callP (va_runV (As := [.int (nI (0)), .int (nI (j0))]) (rest := [.ref (md 13)]) ⟨hx, hb, hml, hown, htg⟩ (mm_holds l D κ τ A σ md q (if false = true then 1 else 0) h hq 0 j0 (by omega) (by omega)) (cwV 2 htg (lw_cV tg_710 tg_712 slX9_holds tg_8 tg_713) rfl rfl rfl (by decide +kernel) ⟨Nat.le_of_ble_eq_true rfl, Nat.le_of_ble_eq_true rfl⟩) (um_preV hU hK hJ h.obj rfl) rfl rfl hl.1 rfl (lv_room (Nat.le_of_ble_eq_true rfl)) dX9_lend_37 ⟨Nat.le_of_ble_eq_true rfl, Nat.le_of_ble_eq_true rfl⟩) hU (fun H locs hU => ?_)
      refine um_geM (tgt := 54) hx hb dX9_lend_40 (by decide) (tb_holdslt hq _ _) (fun c3 => ?_) (fun c3 => ?_)
      · refine lv_iconst (v := nI 1) hx hb dX9_lend_54 (by decide +kernel) ?_
        refine lv_goto (tgt := 59) hx hb dX9_lend_55 (by decide) ?_
        refine lv_iconst (v := nI 2) hx hb dX9_lend_59 (by decide +kernel) ?_
        refine um_calli (va_runV (As := [.int (nI (1)), .int (nI (2))]) (rest := []) ⟨hx, hb, hml, hown, htg⟩ (mm_fails l D κ τ A σ md q (if false = true then 1 else 0) h true 2) (cwV 2 htg (lw_cV tg_698 tg_700 slX9_fails tg_8 tg_701) rfl rfl rfl (by decide +kernel) ⟨Nat.le_of_ble_eq_true rfl, Nat.le_of_ble_eq_true rfl⟩) (um_preV hU hK hJ h.obj rfl) rfl rfl hl.1 rfl (lv_room (Nat.le_of_ble_eq_true rfl)) dX9_lend_60 ⟨Nat.le_of_ble_eq_true rfl, Nat.le_of_ble_eq_true rfl⟩) hU (fun r9 σ H locs h hU => ?_)
        obtain ⟨rfl, h⟩ := h
        refine um_eqB (tgt := 68) hx hb dX9_lend_63 (by decide) (fun h => by cases h) (fun _ => ?_)
        refine lv_iconst (v := nI 0) hx hb dX9_lend_66 (by decide +kernel) ?_
        exact um_iret hx hb hr hlocks hK hJ hU dX9_lend_67 ⟨congrArg nI (by simp [tbQ_lend, tbT_lend, tbA_lend, tb_ldB, tb_ldC, c1, c2, en_j0, en_j1, c3]), (by rw [show (tbQ_lend q (nI j0) (nI j1)) = q from by simp [tbQ_lend, tbT_lend, tbA_lend, tb_ldB, tb_ldC, c1, c2, en_j0, en_j1, c3]]; rw [show (tbT_lend q (nI j0) (nI j1)) = (if true = true then 2 else 0) from by simp [tbQ_lend, tbT_lend, tbA_lend, tb_ldB, tb_ldC, c1, c2, en_j0, en_j1, c3]]; exact h)⟩
      · refine lv_aload_n hx hb dX9_lend_43 rfl (lv_at hl 1 rfl) ?_
        refine um_get (v := .ref (md 0)) hx hb htg inX9 hown hK hU h.obj rfl 1 (by decide) (htg _ tg_639) rfl dX9_lend_44 ?_
        refine lv_iconst (v := nI 0) hx hb dX9_lend_47 (by decide +kernel) ?_
        refine md_ild hx hb hK hU h 0 0 (by decide) (show 0 < 5 from by omega) dX9_lend_48 ?_
        refine lv_bipush (v := nI 40) hx hb dX9_lend_49 (by decide +kernel) ?_
        refine um_neN (tgt := 58) hx hb dX9_lend_51 (by decide) (tb_sm_lt hq 0 _) (by decide) (fun c4 => ?_) (fun c4 => ?_)
        · refine lv_iconst (v := nI 0) hx hb dX9_lend_58 (by decide +kernel) ?_
          refine lv_iconst (v := nI 2) hx hb dX9_lend_59 (by decide +kernel) ?_
          refine um_calli (va_runV (As := [.int (nI (0)), .int (nI (2))]) (rest := []) ⟨hx, hb, hml, hown, htg⟩ (mm_fails l D κ τ A σ md q (if false = true then 1 else 0) h false 2) (cwV 2 htg (lw_cV tg_698 tg_700 slX9_fails tg_8 tg_701) rfl rfl rfl (by decide +kernel) ⟨Nat.le_of_ble_eq_true rfl, Nat.le_of_ble_eq_true rfl⟩) (um_preV hU hK hJ h.obj rfl) rfl rfl hl.1 rfl (lv_room (Nat.le_of_ble_eq_true rfl)) dX9_lend_60 ⟨Nat.le_of_ble_eq_true rfl, Nat.le_of_ble_eq_true rfl⟩) hU (fun r9 σ H locs h hU => ?_)
          obtain ⟨rfl, h⟩ := h
          refine um_eqB (tgt := 68) hx hb dX9_lend_63 (by decide) (fun _ => ?_) (fun h => by cases h)
          refine lv_aload_n hx hb dX9_lend_68 rfl (lv_at hl 1 rfl) ?_
          refine lv_iconst (v := nI 0) hx hb dX9_lend_69 (by decide +kernel) ?_
          refine lv_iload_n hx hb dX9_lend_70 rfl (lv_at hl 2 rfl) ?_
          refine um_callP (va_runV (As := [.int (nI (0)), .int (nI (j0))]) (rest := []) ⟨hx, hb, hml, hown, htg⟩ (mm_lent l D κ τ A σ md q (if false = true then 2 else 0) h hq 0 j0 (by omega) (by omega)) (cwV 2 htg (lw_cV tg_714 tg_716 slX9_lent tg_8 tg_717) rfl rfl rfl (by decide +kernel) ⟨Nat.le_of_ble_eq_true rfl, Nat.le_of_ble_eq_true rfl⟩) (um_preV hU hK hJ h.obj rfl) rfl rfl hl.1 rfl (lv_room (Nat.le_of_ble_eq_true rfl)) dX9_lend_71 ⟨Nat.le_of_ble_eq_true rfl, Nat.le_of_ble_eq_true rfl⟩) hU (fun H locs hU => ?_)
          refine lv_iconst (v := nI 1) hx hb dX9_lend_74 (by decide +kernel) ?_
          refine um_addN hx hb dX9_lend_75 ?_
          refine lv_istore (lv' := [(4, .int (nI ((tb_lent q 0 j0) + 1))), (3, .int (nI (0))), (0, .ref (md 13)), (1, .int (nI (j0))), (2, .int (nI (j1)))]) hx hb dX9_lend_76 hl (by decide) rfl (fun ls hl => ?_)
          refine lv_aload_n hx hb dX9_lend_78 rfl (lv_at hl 2 rfl) ?_
          refine lv_iconst (v := nI 0) hx hb dX9_lend_79 (by decide +kernel) ?_
          refine lv_iconst (v := nI 0) hx hb dX9_lend_80 (by decide +kernel) ?_
          refine lv_iload_n hx hb dX9_lend_81 rfl (lv_at hl 3 rfl) ?_
          refine lv_iconst (v := nI 0) hx hb dX9_lend_82 (by decide +kernel) ?_
          refine lv_iload_n hx hb dX9_lend_83 rfl (lv_at hl 4 rfl) ?_
          refine lv_iload hx hb dX9_lend_84 (lv_at hl 0 rfl) ?_
          refine um_calli (va_runV (As := [.int (nI (0)), .int (nI (0)), .int (nI (j0)), .int (nI (0)), .int (nI (j1)), .int (nI ((tb_lent q 0 j0) + 1))]) (rest := []) ⟨hx, hb, hml, hown, htg⟩ (mm_enters l D κ τ A σ md q (if false = true then 2 else 0) h 0 0 j0 0 j1 ((tb_lent q 0 j0) + 1) (by omega) (by have := hm 0; omega)) (cwV 6 htg (lw_cV tg_726 tg_728 slX9_enters tg_8 tg_729) rfl rfl rfl (by decide +kernel) ⟨Nat.le_of_ble_eq_true rfl, Nat.le_of_ble_eq_true rfl⟩) (um_preV hU hK hJ h.obj rfl) rfl rfl hl.1 rfl (lv_room (Nat.le_of_ble_eq_true rfl)) dX9_lend_86 ⟨Nat.le_of_ble_eq_true rfl, Nat.le_of_ble_eq_true rfl⟩) hU (fun r9 σ H locs h hU => ?_)
          obtain ⟨rfl, h⟩ := h
          refine lv_istore (lv' := [(5, .int (nI (tb_ent q 0 0 j0 0 j1 ((tb_lent q 0 j0) + 1) 0 0))), (4, .int (nI ((tb_lent q 0 j0) + 1))), (3, .int (nI (0))), (0, .ref (md 13)), (1, .int (nI (j0))), (2, .int (nI (j1)))]) hx hb dX9_lend_89 hl (by decide) rfl (fun ls hl => ?_)
          refine lv_iload hx hb dX9_lend_91 (lv_at hl 0 rfl) ?_
          refine lv_if_le (tgt := 101) hx hb dX9_lend_93 (by decide) (fun c5 => ?_) (fun c5 => ?_)
          · exact absurd c5 (nI_nle (by rw [tb_ent_0]; omega) (by rw [tb_ent_0]; have := hm 0; omega))
          · refine lv_iload hx hb dX9_lend_96 (lv_at hl 1 rfl) ?_
            refine lv_goto (tgt := 102) hx hb dX9_lend_98 (by decide) ?_
            exact um_iret hx hb hr hlocks hK hJ hU dX9_lend_102 ⟨congrArg nI (by simp [tbQ_lend, tbT_lend, tbA_lend, tb_ldB, tb_ldC, c1, c2, en_j0, en_j1, c3, c4, c5]), (by rw [show (tbQ_lend q (nI j0) (nI j1)) = (tb_ent q 0 0 j0 0 j1 ((tb_lent q 0 j0) + 1)) from by simp [tbQ_lend, tbT_lend, tbA_lend, tb_ldB, tb_ldC, c1, c2, en_j0, en_j1, c3, c4, c5]]; rw [show (tbT_lend q (nI j0) (nI j1)) = (if false = true then 2 else 0) from by simp [tbQ_lend, tbT_lend, tbA_lend, tb_ldB, tb_ldC, c1, c2, en_j0, en_j1, c3, c4, c5]]; exact h)⟩
        · refine lv_iconst (v := nI 1) hx hb dX9_lend_54 (by decide +kernel) ?_
          refine lv_goto (tgt := 59) hx hb dX9_lend_55 (by decide) ?_
          refine lv_iconst (v := nI 2) hx hb dX9_lend_59 (by decide +kernel) ?_
          refine um_calli (va_runV (As := [.int (nI (1)), .int (nI (2))]) (rest := []) ⟨hx, hb, hml, hown, htg⟩ (mm_fails l D κ τ A σ md q (if false = true then 1 else 0) h true 2) (cwV 2 htg (lw_cV tg_698 tg_700 slX9_fails tg_8 tg_701) rfl rfl rfl (by decide +kernel) ⟨Nat.le_of_ble_eq_true rfl, Nat.le_of_ble_eq_true rfl⟩) (um_preV hU hK hJ h.obj rfl) rfl rfl hl.1 rfl (lv_room (Nat.le_of_ble_eq_true rfl)) dX9_lend_60 ⟨Nat.le_of_ble_eq_true rfl, Nat.le_of_ble_eq_true rfl⟩) hU (fun r9 σ H locs h hU => ?_)
          obtain ⟨rfl, h⟩ := h
          refine um_eqB (tgt := 68) hx hb dX9_lend_63 (by decide) (fun h => by cases h) (fun _ => ?_)
          refine lv_iconst (v := nI 0) hx hb dX9_lend_66 (by decide +kernel) ?_
          exact um_iret hx hb hr hlocks hK hJ hU dX9_lend_67 ⟨congrArg nI (by simp [tbQ_lend, tbT_lend, tbA_lend, tb_ldB, tb_ldC, c1, c2, en_j0, en_j1, c3, c4]), (by rw [show (tbQ_lend q (nI j0) (nI j1)) = q from by simp [tbQ_lend, tbT_lend, tbA_lend, tb_ldB, tb_ldC, c1, c2, en_j0, en_j1, c3, c4]]; rw [show (tbT_lend q (nI j0) (nI j1)) = (if true = true then 2 else 0) from by simp [tbQ_lend, tbT_lend, tbA_lend, tb_ldB, tb_ldC, c1, c2, en_j0, en_j1, c3, c4]]; exact h)⟩
    · refine lv_iconst (v := nI 1) hx hb dX9_lend_18 (by decide +kernel) ?_
      refine lv_goto (tgt := 23) hx hb dX9_lend_19 (by decide) ?_
      refine lv_istore_n (lv' := [(3, .int (nI (1))), (0, .ref (md 13)), (1, .int (x0)), (2, .int (x1))]) hx hb dX9_lend_23 rfl hl (by decide) rfl (fun ls hl => ?_)
      refine lv_aload_n hx hb dX9_lend_24 rfl (lv_at hl 1 rfl) ?_
      refine lv_iload_n hx hb dX9_lend_25 rfl (lv_at hl 0 rfl) ?_
      refine lv_iconst (v := nI 1) hx hb dX9_lend_26 (by decide +kernel) ?_
      refine um_calli (va_runV (As := [.int (nI (1)), .int (nI (1))]) (rest := []) ⟨hx, hb, hml, hown, htg⟩ (mm_fails l D κ τ A σ md q th h true 1) (cwV 2 htg (lw_cV tg_698 tg_700 slX9_fails tg_8 tg_701) rfl rfl rfl (by decide +kernel) ⟨Nat.le_of_ble_eq_true rfl, Nat.le_of_ble_eq_true rfl⟩) (um_preV hU hK hJ h.obj rfl) rfl rfl hl.1 rfl (lv_room (Nat.le_of_ble_eq_true rfl)) dX9_lend_27 ⟨Nat.le_of_ble_eq_true rfl, Nat.le_of_ble_eq_true rfl⟩) hU (fun r9 σ H locs h hU => ?_)
      obtain ⟨rfl, h⟩ := h
      refine um_neB (tgt := 66) hx hb dX9_lend_30 (by decide) (fun _ => ?_) (fun h => by cases h)
      refine lv_iconst (v := nI 0) hx hb dX9_lend_66 (by decide +kernel) ?_
      exact um_iret hx hb hr hlocks hK hJ hU dX9_lend_67 ⟨congrArg nI (by simp [tbQ_lend, tbT_lend, tbA_lend, tb_ldB, tb_ldC, c1, c2]), (by rw [show (tbQ_lend q x0 x1) = q from by simp [tbQ_lend, tbT_lend, tbA_lend, tb_ldB, tb_ldC, c1, c2]]; rw [show (tbT_lend q x0 x1) = (if true = true then 1 else 0) from by simp [tbQ_lend, tbT_lend, tbA_lend, tb_ldB, tb_ldC, c1, c2]]; exact h)⟩

set_option maxRecDepth 100000 in
set_option maxHeartbeats 4000000 in
theorem mm_giveBack (l : Launch) (D : va_G) (κ : Nat → ClassId) (τ : Nat → Nat) (A : Nat → Prop) (σ : um_M) (md : Nat → Nat) (q : tb_Q) (th : Nat) (h : md_at κ σ md q th) (hq : tb_sm q) (hm : ∀ d, q 0 d ≤ 40) (x0 x1 : Int32) : Met l yX9_giveBack wsX9_giveBack ({ frames := 3, cells := 0, slots := 0, locals := 74 }) (va_Pc [.ref (md 13), .int (x0), .int (x1)] (um_U D κ τ A σ)) (va_Qi (fun (r9 : Int32) (σ' : um_M) => r9 = nI (tbA_giveBack q x0 x1) ∧ md_at κ σ' md (tbQ_giveBack q x0 x1) (tbT_giveBack q x0 x1)) (um_U D κ τ A) A) 0 0 A := by
  refine um_met (cc := cX9_giveBack) (maxL := 4) (ret := (some .int)) (by decide) rfl rfl ?_
  intro pp ee s mm args below meth cd ls hx hb hr hts hown hlocks hml hnm hK hJ hU hl
  have hown : s.vm.findClass RX9 = some mm.cls := hown
  have htg : ∀ w ∈ lw_g, w.before args s = true := fun w h => hts w (List.mem_cons_of_mem _ h)
  have hl : lv_has ls 4 [(0, .ref (md 13)), (1, .int (x0)), (2, .int (x1))] := hl
  refine lv_iload_n hx hb dX9_giveBack_0 rfl (lv_at hl 1 rfl) ?_
  refine lv_iconst (v := nI 1) hx hb dX9_giveBack_1 (by decide +kernel) ?_
  refine lv_iconst (v := nI 4) hx hb dX9_giveBack_2 (by decide +kernel) ?_
  refine um_callP (va_runS (As := [.int (x0), .int (nI (1)), .int (nI (4))]) (rest := []) ⟨hx, hb, hml, hown, htg⟩ (mm_in l D κ τ A σ x0 (nI 1) (nI 4)) (cwS 3 htg (lw_cS tg_695 tg_696 tg_8 tg_697) rfl rfl rfl (by decide +kernel) ⟨Nat.le_of_ble_eq_true rfl, Nat.le_of_ble_eq_true rfl⟩) (um_preS hU hK hJ) rfl rfl hl.1 rfl (lv_room (Nat.le_of_ble_eq_true rfl)) dX9_giveBack_3 ⟨Nat.le_of_ble_eq_true rfl, Nat.le_of_ble_eq_true rfl⟩) hU (fun H locs hU => ?_)
  refine um_eqB (tgt := 18) hx hb dX9_giveBack_6 (by decide) (fun c1 => ?_) (fun c1 => ?_)
  · refine lv_iconst (v := nI 1) hx hb dX9_giveBack_18 (by decide +kernel) ?_
    refine lv_goto (tgt := 23) hx hb dX9_giveBack_19 (by decide) ?_
    refine lv_istore_n (lv' := [(3, .int (nI (1))), (0, .ref (md 13)), (1, .int (x0)), (2, .int (x1))]) hx hb dX9_giveBack_23 rfl hl (by decide) rfl (fun ls hl => ?_)
    refine lv_aload_n hx hb dX9_giveBack_24 rfl (lv_at hl 1 rfl) ?_
    refine lv_iload_n hx hb dX9_giveBack_25 rfl (lv_at hl 0 rfl) ?_
    refine lv_iconst (v := nI 1) hx hb dX9_giveBack_26 (by decide +kernel) ?_
    refine um_calli (va_runV (As := [.int (nI (1)), .int (nI (1))]) (rest := []) ⟨hx, hb, hml, hown, htg⟩ (mm_fails l D κ τ A σ md q th h true 1) (cwV 2 htg (lw_cV tg_698 tg_700 slX9_fails tg_8 tg_701) rfl rfl rfl (by decide +kernel) ⟨Nat.le_of_ble_eq_true rfl, Nat.le_of_ble_eq_true rfl⟩) (um_preV hU hK hJ h.obj rfl) rfl rfl hl.1 rfl (lv_room (Nat.le_of_ble_eq_true rfl)) dX9_giveBack_27 ⟨Nat.le_of_ble_eq_true rfl, Nat.le_of_ble_eq_true rfl⟩) hU (fun r9 σ H locs h hU => ?_)
    obtain ⟨rfl, h⟩ := h
    refine um_neB (tgt := 67) hx hb dX9_giveBack_30 (by decide) (fun _ => ?_) (fun h => by cases h)
    refine lv_iconst (v := nI 0) hx hb dX9_giveBack_67 (by decide +kernel) ?_
    exact um_iret hx hb hr hlocks hK hJ hU dX9_giveBack_68 ⟨congrArg nI (by simp [tbQ_giveBack, tbT_giveBack, tbA_giveBack, tb_gbB, tb_gbC, c1]), (by rw [show (tbQ_giveBack q x0 x1) = q from by simp [tbQ_giveBack, tbT_giveBack, tbA_giveBack, tb_gbB, tb_gbC, c1]]; rw [show (tbT_giveBack q x0 x1) = (if true = true then 1 else 0) from by simp [tbQ_giveBack, tbT_giveBack, tbA_giveBack, tb_gbB, tb_gbC, c1]]; exact h)⟩
  · refine lv_iload_n hx hb dX9_giveBack_9 rfl (lv_at hl 2 rfl) ?_
    refine lv_iconst (v := nI 0) hx hb dX9_giveBack_10 (by decide +kernel) ?_
    refine lv_iconst (v := nI 5) hx hb dX9_giveBack_11 (by decide +kernel) ?_
    refine um_callP (va_runS (As := [.int (x1), .int (nI (0)), .int (nI (5))]) (rest := []) ⟨hx, hb, hml, hown, htg⟩ (mm_in l D κ τ A σ x1 (nI 0) (nI 5)) (cwS 3 htg (lw_cS tg_695 tg_696 tg_8 tg_697) rfl rfl rfl (by decide +kernel) ⟨Nat.le_of_ble_eq_true rfl, Nat.le_of_ble_eq_true rfl⟩) (um_preS hU hK hJ) rfl rfl hl.1 rfl (lv_room (Nat.le_of_ble_eq_true rfl)) dX9_giveBack_12 ⟨Nat.le_of_ble_eq_true rfl, Nat.le_of_ble_eq_true rfl⟩) hU (fun H locs hU => ?_)
    refine um_neB (tgt := 22) hx hb dX9_giveBack_15 (by decide) (fun c2 => ?_) (fun c2 => ?_)
    · refine lv_iconst (v := nI 0) hx hb dX9_giveBack_22 (by decide +kernel) ?_
      refine lv_istore_n (lv' := [(3, .int (nI (0))), (0, .ref (md 13)), (1, .int (x0)), (2, .int (x1))]) hx hb dX9_giveBack_23 rfl hl (by decide) rfl (fun ls hl => ?_)
      refine lv_aload_n hx hb dX9_giveBack_24 rfl (lv_at hl 1 rfl) ?_
      refine lv_iload_n hx hb dX9_giveBack_25 rfl (lv_at hl 0 rfl) ?_
      refine lv_iconst (v := nI 1) hx hb dX9_giveBack_26 (by decide +kernel) ?_
      refine um_calli (va_runV (As := [.int (nI (0)), .int (nI (1))]) (rest := []) ⟨hx, hb, hml, hown, htg⟩ (mm_fails l D κ τ A σ md q th h false 1) (cwV 2 htg (lw_cV tg_698 tg_700 slX9_fails tg_8 tg_701) rfl rfl rfl (by decide +kernel) ⟨Nat.le_of_ble_eq_true rfl, Nat.le_of_ble_eq_true rfl⟩) (um_preV hU hK hJ h.obj rfl) rfl rfl hl.1 rfl (lv_room (Nat.le_of_ble_eq_true rfl)) dX9_giveBack_27 ⟨Nat.le_of_ble_eq_true rfl, Nat.le_of_ble_eq_true rfl⟩) hU (fun r9 σ H locs h hU => ?_)
      obtain ⟨rfl, h⟩ := h
      refine um_neB (tgt := 67) hx hb dX9_giveBack_30 (by decide) (fun h => by cases h) (fun _ => ?_)
      obtain ⟨j0, ha_j0, hb_j0, rfl⟩ := tb_inN (by decide) (by decide) c1
      have en_j0 : (nI j0).toNatClampNeg = j0 := nI_clamp (by omega)
      obtain ⟨j1, ha_j1, hb_j1, rfl⟩ := tb_inN (by decide) (by decide) c2
      have en_j1 : (nI j1).toNatClampNeg = j1 := nI_clamp (by omega)
      refine lv_aload_n hx hb dX9_giveBack_33 rfl (lv_at hl 1 rfl) ?_
      refine lv_aload_n hx hb dX9_giveBack_34 rfl (lv_at hl 1 rfl) ?_
      refine lv_iload_n hx hb dX9_giveBack_35 rfl (lv_at hl 2 rfl) ?_
      refine lv_iload_n hx hb dX9_giveBack_36 rfl (lv_at hl 3 rfl) ?_
      refine um_callP (va_runV (As := [.int (nI (j0)), .int (nI (j1))]) (rest := [.ref (md 13)]) ⟨hx, hb, hml, hown, htg⟩ (mm_holds l D κ τ A σ md q (if false = true then 1 else 0) h hq j0 j1 (by omega) (by omega)) (cwV 2 htg (lw_cV tg_710 tg_712 slX9_holds tg_8 tg_713) rfl rfl rfl (by decide +kernel) ⟨Nat.le_of_ble_eq_true rfl, Nat.le_of_ble_eq_true rfl⟩) (um_preV hU hK hJ h.obj rfl) rfl rfl hl.1 rfl (lv_room (Nat.le_of_ble_eq_true rfl)) dX9_giveBack_37 ⟨Nat.le_of_ble_eq_true rfl, Nat.le_of_ble_eq_true rfl⟩) hU (fun H locs hU => ?_)
      refine lv_iload_n hx hb dX9_giveBack_40 rfl (lv_at hl 2 rfl) ?_
      refine um_neMN (tgt := 55) hx hb dX9_giveBack_41 (by decide) (by omega) (tb_holdslt hq _ _) (fun c3 => ?_) (fun c3 => ?_)
      · refine lv_iconst (v := nI 1) hx hb dX9_giveBack_55 (by decide +kernel) ?_
        refine lv_goto (tgt := 60) hx hb dX9_giveBack_56 (by decide) ?_
        refine lv_iconst (v := nI 2) hx hb dX9_giveBack_60 (by decide +kernel) ?_
        refine um_calli (va_runV (As := [.int (nI (1)), .int (nI (2))]) (rest := []) ⟨hx, hb, hml, hown, htg⟩ (mm_fails l D κ τ A σ md q (if false = true then 1 else 0) h true 2) (cwV 2 htg (lw_cV tg_698 tg_700 slX9_fails tg_8 tg_701) rfl rfl rfl (by decide +kernel) ⟨Nat.le_of_ble_eq_true rfl, Nat.le_of_ble_eq_true rfl⟩) (um_preV hU hK hJ h.obj rfl) rfl rfl hl.1 rfl (lv_room (Nat.le_of_ble_eq_true rfl)) dX9_giveBack_61 ⟨Nat.le_of_ble_eq_true rfl, Nat.le_of_ble_eq_true rfl⟩) hU (fun r9 σ H locs h hU => ?_)
        obtain ⟨rfl, h⟩ := h
        refine um_eqB (tgt := 69) hx hb dX9_giveBack_64 (by decide) (fun h => by cases h) (fun _ => ?_)
        refine lv_iconst (v := nI 0) hx hb dX9_giveBack_67 (by decide +kernel) ?_
        exact um_iret hx hb hr hlocks hK hJ hU dX9_giveBack_68 ⟨congrArg nI (by simp [tbQ_giveBack, tbT_giveBack, tbA_giveBack, tb_gbB, tb_gbC, c1, c2, en_j0, en_j1, c3]), (by rw [show (tbQ_giveBack q (nI j0) (nI j1)) = q from by simp [tbQ_giveBack, tbT_giveBack, tbA_giveBack, tb_gbB, tb_gbC, c1, c2, en_j0, en_j1, c3]]; rw [show (tbT_giveBack q (nI j0) (nI j1)) = (if true = true then 2 else 0) from by simp [tbQ_giveBack, tbT_giveBack, tbA_giveBack, tb_gbB, tb_gbC, c1, c2, en_j0, en_j1, c3]]; exact h)⟩
      · refine lv_aload_n hx hb dX9_giveBack_44 rfl (lv_at hl 1 rfl) ?_
        refine um_get (v := .ref (md 0)) hx hb htg inX9 hown hK hU h.obj rfl 1 (by decide) (htg _ tg_639) rfl dX9_giveBack_45 ?_
        refine lv_iload_n hx hb dX9_giveBack_48 rfl (lv_at hl 2 rfl) ?_
        refine md_ild hx hb hK hU h 0 j0 (by decide) (show j0 < 5 from by omega) dX9_giveBack_49 ?_
        refine lv_bipush (v := nI 40) hx hb dX9_giveBack_50 (by decide +kernel) ?_
        refine um_neN (tgt := 59) hx hb dX9_giveBack_52 (by decide) (tb_sm_lt hq 0 _) (by decide) (fun c4 => ?_) (fun c4 => ?_)
        · refine lv_iconst (v := nI 0) hx hb dX9_giveBack_59 (by decide +kernel) ?_
          refine lv_iconst (v := nI 2) hx hb dX9_giveBack_60 (by decide +kernel) ?_
          refine um_calli (va_runV (As := [.int (nI (0)), .int (nI (2))]) (rest := []) ⟨hx, hb, hml, hown, htg⟩ (mm_fails l D κ τ A σ md q (if false = true then 1 else 0) h false 2) (cwV 2 htg (lw_cV tg_698 tg_700 slX9_fails tg_8 tg_701) rfl rfl rfl (by decide +kernel) ⟨Nat.le_of_ble_eq_true rfl, Nat.le_of_ble_eq_true rfl⟩) (um_preV hU hK hJ h.obj rfl) rfl rfl hl.1 rfl (lv_room (Nat.le_of_ble_eq_true rfl)) dX9_giveBack_61 ⟨Nat.le_of_ble_eq_true rfl, Nat.le_of_ble_eq_true rfl⟩) hU (fun r9 σ H locs h hU => ?_)
          obtain ⟨rfl, h⟩ := h
          refine um_eqB (tgt := 69) hx hb dX9_giveBack_64 (by decide) (fun _ => ?_) (fun h => by cases h)
          refine lv_aload_n hx hb dX9_giveBack_69 rfl (lv_at hl 1 rfl) ?_
          refine lv_iload_n hx hb dX9_giveBack_70 rfl (lv_at hl 2 rfl) ?_
          refine lv_iconst (v := nI 1) hx hb dX9_giveBack_71 (by decide +kernel) ?_
          refine lv_iload_n hx hb dX9_giveBack_72 rfl (lv_at hl 3 rfl) ?_
          refine lv_iconst (v := nI 0) hx hb dX9_giveBack_73 (by decide +kernel) ?_
          refine lv_aload_n hx hb dX9_giveBack_74 rfl (lv_at hl 1 rfl) ?_
          refine lv_iload_n hx hb dX9_giveBack_75 rfl (lv_at hl 2 rfl) ?_
          refine lv_iload_n hx hb dX9_giveBack_76 rfl (lv_at hl 3 rfl) ?_
          refine um_callP (va_runV (As := [.int (nI (j0)), .int (nI (j1))]) (rest := [.int (nI (0)), .int (nI (j1)), .int (nI (1)), .int (nI (j0)), .ref (md 13)]) ⟨hx, hb, hml, hown, htg⟩ (mm_lent l D κ τ A σ md q (if false = true then 2 else 0) h hq j0 j1 (by omega) (by omega)) (cwV 2 htg (lw_cV tg_714 tg_716 slX9_lent tg_8 tg_717) rfl rfl rfl (by decide +kernel) ⟨Nat.le_of_ble_eq_true rfl, Nat.le_of_ble_eq_true rfl⟩) (um_preV hU hK hJ h.obj rfl) rfl rfl hl.1 rfl (lv_room (Nat.le_of_ble_eq_true rfl)) dX9_giveBack_77 ⟨Nat.le_of_ble_eq_true rfl, Nat.le_of_ble_eq_true rfl⟩) hU (fun H locs hU => ?_)
          refine lv_iconst (v := nI 0) hx hb dX9_giveBack_80 (by decide +kernel) ?_
          refine um_calli (va_runV (As := [.int (nI (j0)), .int (nI (1)), .int (nI (j1)), .int (nI (0)), .int (nI (tb_lent q j0 j1)), .int (nI (0))]) (rest := []) ⟨hx, hb, hml, hown, htg⟩ (mm_enters l D κ τ A σ md q (if false = true then 2 else 0) h j0 1 j1 0 (tb_lent q j0 j1) 0 (by omega) (by have := hm j0; omega)) (cwV 6 htg (lw_cV tg_726 tg_728 slX9_enters tg_8 tg_729) rfl rfl rfl (by decide +kernel) ⟨Nat.le_of_ble_eq_true rfl, Nat.le_of_ble_eq_true rfl⟩) (um_preV hU hK hJ h.obj rfl) rfl rfl hl.1 rfl (lv_room (Nat.le_of_ble_eq_true rfl)) dX9_giveBack_81 ⟨Nat.le_of_ble_eq_true rfl, Nat.le_of_ble_eq_true rfl⟩) hU (fun r9 σ H locs h hU => ?_)
          obtain ⟨rfl, h⟩ := h
          exact um_iret hx hb hr hlocks hK hJ hU dX9_giveBack_84 ⟨congrArg nI (by simp [tbQ_giveBack, tbT_giveBack, tbA_giveBack, tb_gbB, tb_gbC, c1, c2, en_j0, en_j1, c3, c4]), (by rw [show (tbQ_giveBack q (nI j0) (nI j1)) = (tb_ent q j0 1 j1 0 (tb_lent q j0 j1) 0) from by simp [tbQ_giveBack, tbT_giveBack, tbA_giveBack, tb_gbB, tb_gbC, c1, c2, en_j0, en_j1, c3, c4]]; rw [show (tbT_giveBack q (nI j0) (nI j1)) = (if false = true then 2 else 0) from by simp [tbQ_giveBack, tbT_giveBack, tbA_giveBack, tb_gbB, tb_gbC, c1, c2, en_j0, en_j1, c3, c4]]; exact h)⟩
        · refine lv_iconst (v := nI 1) hx hb dX9_giveBack_55 (by decide +kernel) ?_
          refine lv_goto (tgt := 60) hx hb dX9_giveBack_56 (by decide) ?_
          refine lv_iconst (v := nI 2) hx hb dX9_giveBack_60 (by decide +kernel) ?_
          refine um_calli (va_runV (As := [.int (nI (1)), .int (nI (2))]) (rest := []) ⟨hx, hb, hml, hown, htg⟩ (mm_fails l D κ τ A σ md q (if false = true then 1 else 0) h true 2) (cwV 2 htg (lw_cV tg_698 tg_700 slX9_fails tg_8 tg_701) rfl rfl rfl (by decide +kernel) ⟨Nat.le_of_ble_eq_true rfl, Nat.le_of_ble_eq_true rfl⟩) (um_preV hU hK hJ h.obj rfl) rfl rfl hl.1 rfl (lv_room (Nat.le_of_ble_eq_true rfl)) dX9_giveBack_61 ⟨Nat.le_of_ble_eq_true rfl, Nat.le_of_ble_eq_true rfl⟩) hU (fun r9 σ H locs h hU => ?_)
          obtain ⟨rfl, h⟩ := h
          refine um_eqB (tgt := 69) hx hb dX9_giveBack_64 (by decide) (fun h => by cases h) (fun _ => ?_)
          refine lv_iconst (v := nI 0) hx hb dX9_giveBack_67 (by decide +kernel) ?_
          exact um_iret hx hb hr hlocks hK hJ hU dX9_giveBack_68 ⟨congrArg nI (by simp [tbQ_giveBack, tbT_giveBack, tbA_giveBack, tb_gbB, tb_gbC, c1, c2, en_j0, en_j1, c3, c4]), (by rw [show (tbQ_giveBack q (nI j0) (nI j1)) = q from by simp [tbQ_giveBack, tbT_giveBack, tbA_giveBack, tb_gbB, tb_gbC, c1, c2, en_j0, en_j1, c3, c4]]; rw [show (tbT_giveBack q (nI j0) (nI j1)) = (if true = true then 2 else 0) from by simp [tbQ_giveBack, tbT_giveBack, tbA_giveBack, tb_gbB, tb_gbC, c1, c2, en_j0, en_j1, c3, c4]]; exact h)⟩
    · refine lv_iconst (v := nI 1) hx hb dX9_giveBack_18 (by decide +kernel) ?_
      refine lv_goto (tgt := 23) hx hb dX9_giveBack_19 (by decide) ?_
      refine lv_istore_n (lv' := [(3, .int (nI (1))), (0, .ref (md 13)), (1, .int (x0)), (2, .int (x1))]) hx hb dX9_giveBack_23 rfl hl (by decide) rfl (fun ls hl => ?_)
      refine lv_aload_n hx hb dX9_giveBack_24 rfl (lv_at hl 1 rfl) ?_
      refine lv_iload_n hx hb dX9_giveBack_25 rfl (lv_at hl 0 rfl) ?_
      refine lv_iconst (v := nI 1) hx hb dX9_giveBack_26 (by decide +kernel) ?_
      refine um_calli (va_runV (As := [.int (nI (1)), .int (nI (1))]) (rest := []) ⟨hx, hb, hml, hown, htg⟩ (mm_fails l D κ τ A σ md q th h true 1) (cwV 2 htg (lw_cV tg_698 tg_700 slX9_fails tg_8 tg_701) rfl rfl rfl (by decide +kernel) ⟨Nat.le_of_ble_eq_true rfl, Nat.le_of_ble_eq_true rfl⟩) (um_preV hU hK hJ h.obj rfl) rfl rfl hl.1 rfl (lv_room (Nat.le_of_ble_eq_true rfl)) dX9_giveBack_27 ⟨Nat.le_of_ble_eq_true rfl, Nat.le_of_ble_eq_true rfl⟩) hU (fun r9 σ H locs h hU => ?_)
      obtain ⟨rfl, h⟩ := h
      refine um_neB (tgt := 67) hx hb dX9_giveBack_30 (by decide) (fun _ => ?_) (fun h => by cases h)
      refine lv_iconst (v := nI 0) hx hb dX9_giveBack_67 (by decide +kernel) ?_
      exact um_iret hx hb hr hlocks hK hJ hU dX9_giveBack_68 ⟨congrArg nI (by simp [tbQ_giveBack, tbT_giveBack, tbA_giveBack, tb_gbB, tb_gbC, c1, c2]), (by rw [show (tbQ_giveBack q x0 x1) = q from by simp [tbQ_giveBack, tbT_giveBack, tbA_giveBack, tb_gbB, tb_gbC, c1, c2]]; rw [show (tbT_giveBack q x0 x1) = (if true = true then 1 else 0) from by simp [tbQ_giveBack, tbT_giveBack, tbA_giveBack, tb_gbB, tb_gbC, c1, c2]]; exact h)⟩

set_option maxRecDepth 100000 in
set_option maxHeartbeats 4000000 in
theorem mm_enter (l : Launch) (D : va_G) (κ : Nat → ClassId) (τ : Nat → Nat) (A : Nat → Prop) (σ : um_M) (md : Nat → Nat) (q : tb_Q) (th : Nat) (h : md_at κ σ md q th) (hq : tb_sm q) (hm : ∀ d, q 0 d ≤ 40) (x0 x1 x2 x3 x4 : Int32) : Met l yX9_enter wsX9_enter ({ frames := 3, cells := 0, slots := 0, locals := 74 }) (va_Pc [.ref (md 13), .int (x0), .int (x1), .int (x2), .int (x3), .int (x4)] (um_U D κ τ A σ)) (va_Qi (fun (r9 : Int32) (σ' : um_M) => r9 = nI (tbA_enter q x0 x1 x2 x3 x4) ∧ md_at κ σ' md (tbQ_enter q x0 x1 x2 x3 x4) (tbT_enter q x0 x1 x2 x3 x4)) (um_U D κ τ A) A) 0 0 A := by
  refine um_met (cc := cX9_enter) (maxL := 8) (ret := (some .int)) (by decide) rfl rfl ?_
  intro pp ee s mm args below meth cd ls hx hb hr hts hown hlocks hml hnm hK hJ hU hl
  have hown : s.vm.findClass RX9 = some mm.cls := hown
  have htg : ∀ w ∈ lw_g, w.before args s = true := fun w h => hts w (List.mem_cons_of_mem _ h)
  have hl : lv_has ls 8 [(0, .ref (md 13)), (1, .int (x0)), (2, .int (x1)), (3, .int (x2)), (4, .int (x3)), (5, .int (x4))] := hl
  refine lv_iload_n hx hb dX9_enter_0 rfl (lv_at hl 1 rfl) ?_
  refine lv_iconst (v := nI 0) hx hb dX9_enter_1 (by decide +kernel) ?_
  refine lv_iconst (v := nI 4) hx hb dX9_enter_2 (by decide +kernel) ?_
  refine um_callP (va_runS (As := [.int (x0), .int (nI (0)), .int (nI (4))]) (rest := []) ⟨hx, hb, hml, hown, htg⟩ (mm_in l D κ τ A σ x0 (nI 0) (nI 4)) (cwS 3 htg (lw_cS tg_695 tg_696 tg_8 tg_697) rfl rfl rfl (by decide +kernel) ⟨Nat.le_of_ble_eq_true rfl, Nat.le_of_ble_eq_true rfl⟩) (um_preS hU hK hJ) rfl rfl hl.1 rfl (lv_room (Nat.le_of_ble_eq_true rfl)) dX9_enter_3 ⟨Nat.le_of_ble_eq_true rfl, Nat.le_of_ble_eq_true rfl⟩) hU (fun H locs hU => ?_)
  refine um_eqB (tgt := 29) hx hb dX9_enter_6 (by decide) (fun c1 => ?_) (fun c1 => ?_)
  · refine lv_iconst (v := nI 1) hx hb dX9_enter_29 (by decide +kernel) ?_
    refine lv_goto (tgt := 34) hx hb dX9_enter_30 (by decide) ?_
    refine lv_istore (lv' := [(6, .int (nI (1))), (0, .ref (md 13)), (1, .int (x0)), (2, .int (x1)), (3, .int (x2)), (4, .int (x3)), (5, .int (x4))]) hx hb dX9_enter_34 hl (by decide) rfl (fun ls hl => ?_)
    refine lv_aload_n hx hb dX9_enter_36 rfl (lv_at hl 1 rfl) ?_
    refine lv_iload hx hb dX9_enter_37 (lv_at hl 0 rfl) ?_
    refine lv_iconst (v := nI 1) hx hb dX9_enter_39 (by decide +kernel) ?_
    refine um_calli (va_runV (As := [.int (nI (1)), .int (nI (1))]) (rest := []) ⟨hx, hb, hml, hown, htg⟩ (mm_fails l D κ τ A σ md q th h true 1) (cwV 2 htg (lw_cV tg_698 tg_700 slX9_fails tg_8 tg_701) rfl rfl rfl (by decide +kernel) ⟨Nat.le_of_ble_eq_true rfl, Nat.le_of_ble_eq_true rfl⟩) (um_preV hU hK hJ h.obj rfl) rfl rfl hl.1 rfl (lv_room (Nat.le_of_ble_eq_true rfl)) dX9_enter_40 ⟨Nat.le_of_ble_eq_true rfl, Nat.le_of_ble_eq_true rfl⟩) hU (fun r9 σ H locs h hU => ?_)
    obtain ⟨rfl, h⟩ := h
    refine um_neB (tgt := 70) hx hb dX9_enter_43 (by decide) (fun _ => ?_) (fun h => by cases h)
    refine lv_iconst (v := nI 0) hx hb dX9_enter_70 (by decide +kernel) ?_
    exact um_iret hx hb hr hlocks hK hJ hU dX9_enter_71 ⟨congrArg nI (by simp [tbQ_enter, tbT_enter, tbA_enter, tb_enB, tb_rkf, c1]), (by rw [show (tbQ_enter q x0 x1 x2 x3 x4) = q from by simp [tbQ_enter, tbT_enter, tbA_enter, tb_enB, tb_rkf, c1]]; rw [show (tbT_enter q x0 x1 x2 x3 x4) = (if true = true then 1 else 0) from by simp [tbQ_enter, tbT_enter, tbA_enter, tb_enB, tb_rkf, c1]]; exact h)⟩
  · refine lv_iload_n hx hb dX9_enter_9 rfl (lv_at hl 2 rfl) ?_
    refine lv_iload_n hx hb dX9_enter_10 rfl (lv_at hl 3 rfl) ?_
    refine lv_iload hx hb dX9_enter_11 (lv_at hl 4 rfl) ?_
    refine um_callP (va_runS (As := [.int (x1), .int (x2), .int (x3)]) (rest := []) ⟨hx, hb, hml, hown, htg⟩ (mm_isField l D κ τ A σ x1 x2 x3) (cwS 3 htg (lw_cS tg_742 tg_743 tg_8 tg_744) rfl rfl rfl (by decide +kernel) ⟨Nat.le_of_ble_eq_true rfl, Nat.le_of_ble_eq_true rfl⟩) (um_preS hU hK hJ) rfl rfl hl.1 rfl (lv_room (Nat.le_of_ble_eq_true rfl)) dX9_enter_13 ⟨Nat.le_of_ble_eq_true rfl, Nat.le_of_ble_eq_true rfl⟩) hU (fun H locs hU => ?_)
    refine um_eqB (tgt := 29) hx hb dX9_enter_16 (by decide) (fun c2 => ?_) (fun c2 => ?_)
    · refine lv_iconst (v := nI 1) hx hb dX9_enter_29 (by decide +kernel) ?_
      refine lv_goto (tgt := 34) hx hb dX9_enter_30 (by decide) ?_
      refine lv_istore (lv' := [(6, .int (nI (1))), (0, .ref (md 13)), (1, .int (x0)), (2, .int (x1)), (3, .int (x2)), (4, .int (x3)), (5, .int (x4))]) hx hb dX9_enter_34 hl (by decide) rfl (fun ls hl => ?_)
      refine lv_aload_n hx hb dX9_enter_36 rfl (lv_at hl 1 rfl) ?_
      refine lv_iload hx hb dX9_enter_37 (lv_at hl 0 rfl) ?_
      refine lv_iconst (v := nI 1) hx hb dX9_enter_39 (by decide +kernel) ?_
      refine um_calli (va_runV (As := [.int (nI (1)), .int (nI (1))]) (rest := []) ⟨hx, hb, hml, hown, htg⟩ (mm_fails l D κ τ A σ md q th h true 1) (cwV 2 htg (lw_cV tg_698 tg_700 slX9_fails tg_8 tg_701) rfl rfl rfl (by decide +kernel) ⟨Nat.le_of_ble_eq_true rfl, Nat.le_of_ble_eq_true rfl⟩) (um_preV hU hK hJ h.obj rfl) rfl rfl hl.1 rfl (lv_room (Nat.le_of_ble_eq_true rfl)) dX9_enter_40 ⟨Nat.le_of_ble_eq_true rfl, Nat.le_of_ble_eq_true rfl⟩) hU (fun r9 σ H locs h hU => ?_)
      obtain ⟨rfl, h⟩ := h
      refine um_neB (tgt := 70) hx hb dX9_enter_43 (by decide) (fun _ => ?_) (fun h => by cases h)
      refine lv_iconst (v := nI 0) hx hb dX9_enter_70 (by decide +kernel) ?_
      exact um_iret hx hb hr hlocks hK hJ hU dX9_enter_71 ⟨congrArg nI (by simp [tbQ_enter, tbT_enter, tbA_enter, tb_enB, tb_rkf, c1, c2]), (by rw [show (tbQ_enter q x0 x1 x2 x3 x4) = q from by simp [tbQ_enter, tbT_enter, tbA_enter, tb_enB, tb_rkf, c1, c2]]; rw [show (tbT_enter q x0 x1 x2 x3 x4) = (if true = true then 1 else 0) from by simp [tbQ_enter, tbT_enter, tbA_enter, tb_enB, tb_rkf, c1, c2]]; exact h)⟩
    · refine lv_iload hx hb dX9_enter_19 (lv_at hl 4 rfl) ?_
      refine lv_iload hx hb dX9_enter_21 (lv_at hl 5 rfl) ?_
      refine um_callP (va_runS (As := [.int (x3), .int (x4)]) (rest := []) ⟨hx, hb, hml, hown, htg⟩ (mm_isValue l D κ τ A σ x3 x4) (cwS 2 htg (lw_cS tg_745 tg_746 tg_8 tg_747) rfl rfl rfl (by decide +kernel) ⟨Nat.le_of_ble_eq_true rfl, Nat.le_of_ble_eq_true rfl⟩) (um_preS hU hK hJ) rfl rfl hl.1 rfl (lv_room (Nat.le_of_ble_eq_true rfl)) dX9_enter_23 ⟨Nat.le_of_ble_eq_true rfl, Nat.le_of_ble_eq_true rfl⟩) hU (fun H locs hU => ?_)
      refine um_neB (tgt := 33) hx hb dX9_enter_26 (by decide) (fun c3 => ?_) (fun c3 => ?_)
      · refine lv_iconst (v := nI 0) hx hb dX9_enter_33 (by decide +kernel) ?_
        refine lv_istore (lv' := [(6, .int (nI (0))), (0, .ref (md 13)), (1, .int (x0)), (2, .int (x1)), (3, .int (x2)), (4, .int (x3)), (5, .int (x4))]) hx hb dX9_enter_34 hl (by decide) rfl (fun ls hl => ?_)
        refine lv_aload_n hx hb dX9_enter_36 rfl (lv_at hl 1 rfl) ?_
        refine lv_iload hx hb dX9_enter_37 (lv_at hl 0 rfl) ?_
        refine lv_iconst (v := nI 1) hx hb dX9_enter_39 (by decide +kernel) ?_
        refine um_calli (va_runV (As := [.int (nI (0)), .int (nI (1))]) (rest := []) ⟨hx, hb, hml, hown, htg⟩ (mm_fails l D κ τ A σ md q th h false 1) (cwV 2 htg (lw_cV tg_698 tg_700 slX9_fails tg_8 tg_701) rfl rfl rfl (by decide +kernel) ⟨Nat.le_of_ble_eq_true rfl, Nat.le_of_ble_eq_true rfl⟩) (um_preV hU hK hJ h.obj rfl) rfl rfl hl.1 rfl (lv_room (Nat.le_of_ble_eq_true rfl)) dX9_enter_40 ⟨Nat.le_of_ble_eq_true rfl, Nat.le_of_ble_eq_true rfl⟩) hU (fun r9 σ H locs h hU => ?_)
        obtain ⟨rfl, h⟩ := h
        refine um_neB (tgt := 70) hx hb dX9_enter_43 (by decide) (fun h => by cases h) (fun _ => ?_)
        have hfd := c2
        simp only [tb_fd, Bool.and_eq_true] at hfd
        obtain ⟨⟨hf1, hf2⟩, hf3⟩ := hfd
        obtain ⟨j0, ha_j0, hb_j0, rfl⟩ := tb_inN (by decide) (by decide) c1
        have en_j0 : (nI j0).toNatClampNeg = j0 := nI_clamp (by omega)
        obtain ⟨j1, ha_j1, hb_j1, rfl⟩ := tb_inN (by decide) (by decide) hf1
        have en_j1 : (nI j1).toNatClampNeg = j1 := nI_clamp (by omega)
        obtain ⟨j2, ha_j2, hb_j2, rfl⟩ := tb_inN (by decide) (by decide) hf2
        have en_j2 : (nI j2).toNatClampNeg = j2 := nI_clamp (by omega)
        obtain ⟨j3, ha_j3, hb_j3, rfl⟩ := tb_inN (by decide) (by decide) hf3
        have en_j3 : (nI j3).toNatClampNeg = j3 := nI_clamp (by omega)
        obtain ⟨j4, hb_j4, rfl⟩ := tb_isVN c3
        have en_j4 : (nI j4).toNatClampNeg = j4 := nI_clamp (by omega)
        refine lv_aload_n hx hb dX9_enter_46 rfl (lv_at hl 1 rfl) ?_
        refine lv_aload_n hx hb dX9_enter_47 rfl (lv_at hl 1 rfl) ?_
        refine um_get (v := .ref (md 0)) hx hb htg inX9 hown hK hU h.obj rfl 1 (by decide) (htg _ tg_639) rfl dX9_enter_48 ?_
        refine lv_iload_n hx hb dX9_enter_51 rfl (lv_at hl 2 rfl) ?_
        refine md_ild hx hb hK hU h 0 j0 (by decide) (show j0 < 5 from by omega) dX9_enter_52 ?_
        refine lv_bipush (v := nI 40) hx hb dX9_enter_53 (by decide +kernel) ?_
        refine um_neN (tgt := 62) hx hb dX9_enter_55 (by decide) (tb_sm_lt hq 0 _) (by decide) (fun c4 => ?_) (fun c4 => ?_)
        · refine lv_iconst (v := nI 0) hx hb dX9_enter_62 (by decide +kernel) ?_
          refine lv_iconst (v := nI 2) hx hb dX9_enter_63 (by decide +kernel) ?_
          refine um_calli (va_runV (As := [.int (nI (0)), .int (nI (2))]) (rest := []) ⟨hx, hb, hml, hown, htg⟩ (mm_fails l D κ τ A σ md q (if false = true then 1 else 0) h false 2) (cwV 2 htg (lw_cV tg_698 tg_700 slX9_fails tg_8 tg_701) rfl rfl rfl (by decide +kernel) ⟨Nat.le_of_ble_eq_true rfl, Nat.le_of_ble_eq_true rfl⟩) (um_preV hU hK hJ h.obj rfl) rfl rfl hl.1 rfl (lv_room (Nat.le_of_ble_eq_true rfl)) dX9_enter_64 ⟨Nat.le_of_ble_eq_true rfl, Nat.le_of_ble_eq_true rfl⟩) hU (fun r9 σ H locs h hU => ?_)
          obtain ⟨rfl, h⟩ := h
          refine um_eqB (tgt := 72) hx hb dX9_enter_67 (by decide) (fun _ => ?_) (fun h => by cases h)
          refine lv_aload_n hx hb dX9_enter_72 rfl (lv_at hl 1 rfl) ?_
          refine lv_iload_n hx hb dX9_enter_73 rfl (lv_at hl 2 rfl) ?_
          refine lv_iload_n hx hb dX9_enter_74 rfl (lv_at hl 3 rfl) ?_
          refine um_callP (va_runV (As := [.int (nI (j0)), .int (nI (j1))]) (rest := []) ⟨hx, hb, hml, hown, htg⟩ (mm_holds l D κ τ A σ md q (if false = true then 2 else 0) h hq j0 j1 (by omega) (by omega)) (cwV 2 htg (lw_cV tg_710 tg_712 slX9_holds tg_8 tg_713) rfl rfl rfl (by decide +kernel) ⟨Nat.le_of_ble_eq_true rfl, Nat.le_of_ble_eq_true rfl⟩) (um_preV hU hK hJ h.obj rfl) rfl rfl hl.1 rfl (lv_room (Nat.le_of_ble_eq_true rfl)) dX9_enter_75 ⟨Nat.le_of_ble_eq_true rfl, Nat.le_of_ble_eq_true rfl⟩) hU (fun H locs hU => ?_)
          refine lv_iload_n hx hb dX9_enter_78 rfl (lv_at hl 2 rfl) ?_
          refine um_neMN (tgt := 91) hx hb dX9_enter_79 (by decide) (by omega) (tb_holdslt hq _ _) (fun c5 => ?_) (fun c5 => ?_)
          · refine lv_iconst (v := nI 0) hx hb dX9_enter_91 (by decide +kernel) ?_
            refine lv_istore (lv' := [(7, .int (nI (0))), (6, .int (nI (0))), (0, .ref (md 13)), (1, .int (nI (j0))), (2, .int (nI (j1))), (3, .int (nI (j2))), (4, .int (nI (j3))), (5, .int (nI (j4)))]) hx hb dX9_enter_92 hl (by decide) rfl (fun ls hl => ?_)
            refine lv_aload_n hx hb dX9_enter_94 rfl (lv_at hl 2 rfl) ?_
            refine lv_iload_n hx hb dX9_enter_95 rfl (lv_at hl 3 rfl) ?_
            refine lv_iconst (v := nI 2) hx hb dX9_enter_96 (by decide +kernel) ?_
            refine lv_iload_n hx hb dX9_enter_97 rfl (lv_at hl 4 rfl) ?_
            refine lv_iconst (v := nI 3) hx hb dX9_enter_98 (by decide +kernel) ?_
            refine lv_iload_n hx hb dX9_enter_99 rfl (lv_at hl 5 rfl) ?_
            refine um_mulN hx hb dX9_enter_100 ?_
            refine lv_iload hx hb dX9_enter_101 (lv_at hl 6 rfl) ?_
            refine um_addN hx hb dX9_enter_103 ?_
            refine lv_iload hx hb dX9_enter_104 (lv_at hl 7 rfl) ?_
            refine lv_iload hx hb dX9_enter_106 (lv_at hl 0 rfl) ?_
            refine um_calli (va_runV (As := [.int (nI (j0)), .int (nI (2)), .int (nI (j1)), .int (nI ((3 * j2) + j3)), .int (nI (j4)), .int (nI (0))]) (rest := []) ⟨hx, hb, hml, hown, htg⟩ (mm_enters l D κ τ A σ md q (if false = true then 2 else 0) h j0 2 j1 ((3 * j2) + j3) j4 0 (by omega) (by have := hm j0; omega)) (cwV 6 htg (lw_cV tg_726 tg_728 slX9_enters tg_8 tg_729) rfl rfl rfl (by decide +kernel) ⟨Nat.le_of_ble_eq_true rfl, Nat.le_of_ble_eq_true rfl⟩) (um_preV hU hK hJ h.obj rfl) rfl rfl hl.1 rfl (lv_room (Nat.le_of_ble_eq_true rfl)) dX9_enter_108 ⟨Nat.le_of_ble_eq_true rfl, Nat.le_of_ble_eq_true rfl⟩) hU (fun r9 σ H locs h hU => ?_)
            obtain ⟨rfl, h⟩ := h
            exact um_iret hx hb hr hlocks hK hJ hU dX9_enter_111 ⟨congrArg nI (by simp [tbQ_enter, tbT_enter, tbA_enter, tb_enB, tb_rkf, c1, c2, c3, en_j0, en_j1, en_j2, en_j3, en_j4, c4, c5]), (by rw [show (tbQ_enter q (nI j0) (nI j1) (nI j2) (nI j3) (nI j4)) = (tb_ent q j0 2 j1 ((3 * j2) + j3) j4 0) from by simp [tbQ_enter, tbT_enter, tbA_enter, tb_enB, tb_rkf, c1, c2, c3, en_j0, en_j1, en_j2, en_j3, en_j4, c4, c5]]; rw [show (tbT_enter q (nI j0) (nI j1) (nI j2) (nI j3) (nI j4)) = (if false = true then 2 else 0) from by simp [tbQ_enter, tbT_enter, tbA_enter, tb_enB, tb_rkf, c1, c2, c3, en_j0, en_j1, en_j2, en_j3, en_j4, c4, c5]]; exact h)⟩
          · refine lv_aload_n hx hb dX9_enter_82 rfl (lv_at hl 1 rfl) ?_
            refine lv_iload_n hx hb dX9_enter_83 rfl (lv_at hl 2 rfl) ?_
            refine lv_iload_n hx hb dX9_enter_84 rfl (lv_at hl 3 rfl) ?_
            refine um_callP (va_runV (As := [.int (nI (j0)), .int (nI (j1))]) (rest := []) ⟨hx, hb, hml, hown, htg⟩ (mm_lent l D κ τ A σ md q (if false = true then 2 else 0) h hq j0 j1 (by omega) (by omega)) (cwV 2 htg (lw_cV tg_714 tg_716 slX9_lent tg_8 tg_717) rfl rfl rfl (by decide +kernel) ⟨Nat.le_of_ble_eq_true rfl, Nat.le_of_ble_eq_true rfl⟩) (um_preV hU hK hJ h.obj rfl) rfl rfl hl.1 rfl (lv_room (Nat.le_of_ble_eq_true rfl)) dX9_enter_85 ⟨Nat.le_of_ble_eq_true rfl, Nat.le_of_ble_eq_true rfl⟩) hU (fun H locs hU => ?_)
            refine lv_goto (tgt := 92) hx hb dX9_enter_88 (by decide) ?_
            refine lv_istore (lv' := [(7, .int (nI (tb_lent q j0 j1))), (6, .int (nI (0))), (0, .ref (md 13)), (1, .int (nI (j0))), (2, .int (nI (j1))), (3, .int (nI (j2))), (4, .int (nI (j3))), (5, .int (nI (j4)))]) hx hb dX9_enter_92 hl (by decide) rfl (fun ls hl => ?_)
            refine lv_aload_n hx hb dX9_enter_94 rfl (lv_at hl 2 rfl) ?_
            refine lv_iload_n hx hb dX9_enter_95 rfl (lv_at hl 3 rfl) ?_
            refine lv_iconst (v := nI 2) hx hb dX9_enter_96 (by decide +kernel) ?_
            refine lv_iload_n hx hb dX9_enter_97 rfl (lv_at hl 4 rfl) ?_
            refine lv_iconst (v := nI 3) hx hb dX9_enter_98 (by decide +kernel) ?_
            refine lv_iload_n hx hb dX9_enter_99 rfl (lv_at hl 5 rfl) ?_
            refine um_mulN hx hb dX9_enter_100 ?_
            refine lv_iload hx hb dX9_enter_101 (lv_at hl 6 rfl) ?_
            refine um_addN hx hb dX9_enter_103 ?_
            refine lv_iload hx hb dX9_enter_104 (lv_at hl 7 rfl) ?_
            refine lv_iload hx hb dX9_enter_106 (lv_at hl 0 rfl) ?_
            refine um_calli (va_runV (As := [.int (nI (j0)), .int (nI (2)), .int (nI (j1)), .int (nI ((3 * j2) + j3)), .int (nI (j4)), .int (nI (tb_lent q j0 j1))]) (rest := []) ⟨hx, hb, hml, hown, htg⟩ (mm_enters l D κ τ A σ md q (if false = true then 2 else 0) h j0 2 j1 ((3 * j2) + j3) j4 (tb_lent q j0 j1) (by omega) (by have := hm j0; omega)) (cwV 6 htg (lw_cV tg_726 tg_728 slX9_enters tg_8 tg_729) rfl rfl rfl (by decide +kernel) ⟨Nat.le_of_ble_eq_true rfl, Nat.le_of_ble_eq_true rfl⟩) (um_preV hU hK hJ h.obj rfl) rfl rfl hl.1 rfl (lv_room (Nat.le_of_ble_eq_true rfl)) dX9_enter_108 ⟨Nat.le_of_ble_eq_true rfl, Nat.le_of_ble_eq_true rfl⟩) hU (fun r9 σ H locs h hU => ?_)
            obtain ⟨rfl, h⟩ := h
            exact um_iret hx hb hr hlocks hK hJ hU dX9_enter_111 ⟨congrArg nI (by simp [tbQ_enter, tbT_enter, tbA_enter, tb_enB, tb_rkf, c1, c2, c3, en_j0, en_j1, en_j2, en_j3, en_j4, c4, c5]), (by rw [show (tbQ_enter q (nI j0) (nI j1) (nI j2) (nI j3) (nI j4)) = (tb_ent q j0 2 j1 ((3 * j2) + j3) j4 (tb_lent q j0 j1)) from by simp [tbQ_enter, tbT_enter, tbA_enter, tb_enB, tb_rkf, c1, c2, c3, en_j0, en_j1, en_j2, en_j3, en_j4, c4, c5]]; rw [show (tbT_enter q (nI j0) (nI j1) (nI j2) (nI j3) (nI j4)) = (if false = true then 2 else 0) from by simp [tbQ_enter, tbT_enter, tbA_enter, tb_enB, tb_rkf, c1, c2, c3, en_j0, en_j1, en_j2, en_j3, en_j4, c4, c5]]; exact h)⟩
        · refine lv_iconst (v := nI 1) hx hb dX9_enter_58 (by decide +kernel) ?_
          refine lv_goto (tgt := 63) hx hb dX9_enter_59 (by decide) ?_
          refine lv_iconst (v := nI 2) hx hb dX9_enter_63 (by decide +kernel) ?_
          refine um_calli (va_runV (As := [.int (nI (1)), .int (nI (2))]) (rest := []) ⟨hx, hb, hml, hown, htg⟩ (mm_fails l D κ τ A σ md q (if false = true then 1 else 0) h true 2) (cwV 2 htg (lw_cV tg_698 tg_700 slX9_fails tg_8 tg_701) rfl rfl rfl (by decide +kernel) ⟨Nat.le_of_ble_eq_true rfl, Nat.le_of_ble_eq_true rfl⟩) (um_preV hU hK hJ h.obj rfl) rfl rfl hl.1 rfl (lv_room (Nat.le_of_ble_eq_true rfl)) dX9_enter_64 ⟨Nat.le_of_ble_eq_true rfl, Nat.le_of_ble_eq_true rfl⟩) hU (fun r9 σ H locs h hU => ?_)
          obtain ⟨rfl, h⟩ := h
          refine um_eqB (tgt := 72) hx hb dX9_enter_67 (by decide) (fun h => by cases h) (fun _ => ?_)
          refine lv_iconst (v := nI 0) hx hb dX9_enter_70 (by decide +kernel) ?_
          exact um_iret hx hb hr hlocks hK hJ hU dX9_enter_71 ⟨congrArg nI (by simp [tbQ_enter, tbT_enter, tbA_enter, tb_enB, tb_rkf, c1, c2, c3, en_j0, en_j1, en_j2, en_j3, en_j4, c4]), (by rw [show (tbQ_enter q (nI j0) (nI j1) (nI j2) (nI j3) (nI j4)) = q from by simp [tbQ_enter, tbT_enter, tbA_enter, tb_enB, tb_rkf, c1, c2, c3, en_j0, en_j1, en_j2, en_j3, en_j4, c4]]; rw [show (tbT_enter q (nI j0) (nI j1) (nI j2) (nI j3) (nI j4)) = (if true = true then 2 else 0) from by simp [tbQ_enter, tbT_enter, tbA_enter, tb_enB, tb_rkf, c1, c2, c3, en_j0, en_j1, en_j2, en_j3, en_j4, c4]]; exact h)⟩
      · refine lv_iconst (v := nI 1) hx hb dX9_enter_29 (by decide +kernel) ?_
        refine lv_goto (tgt := 34) hx hb dX9_enter_30 (by decide) ?_
        refine lv_istore (lv' := [(6, .int (nI (1))), (0, .ref (md 13)), (1, .int (x0)), (2, .int (x1)), (3, .int (x2)), (4, .int (x3)), (5, .int (x4))]) hx hb dX9_enter_34 hl (by decide) rfl (fun ls hl => ?_)
        refine lv_aload_n hx hb dX9_enter_36 rfl (lv_at hl 1 rfl) ?_
        refine lv_iload hx hb dX9_enter_37 (lv_at hl 0 rfl) ?_
        refine lv_iconst (v := nI 1) hx hb dX9_enter_39 (by decide +kernel) ?_
        refine um_calli (va_runV (As := [.int (nI (1)), .int (nI (1))]) (rest := []) ⟨hx, hb, hml, hown, htg⟩ (mm_fails l D κ τ A σ md q th h true 1) (cwV 2 htg (lw_cV tg_698 tg_700 slX9_fails tg_8 tg_701) rfl rfl rfl (by decide +kernel) ⟨Nat.le_of_ble_eq_true rfl, Nat.le_of_ble_eq_true rfl⟩) (um_preV hU hK hJ h.obj rfl) rfl rfl hl.1 rfl (lv_room (Nat.le_of_ble_eq_true rfl)) dX9_enter_40 ⟨Nat.le_of_ble_eq_true rfl, Nat.le_of_ble_eq_true rfl⟩) hU (fun r9 σ H locs h hU => ?_)
        obtain ⟨rfl, h⟩ := h
        refine um_neB (tgt := 70) hx hb dX9_enter_43 (by decide) (fun _ => ?_) (fun h => by cases h)
        refine lv_iconst (v := nI 0) hx hb dX9_enter_70 (by decide +kernel) ?_
        exact um_iret hx hb hr hlocks hK hJ hU dX9_enter_71 ⟨congrArg nI (by simp [tbQ_enter, tbT_enter, tbA_enter, tb_enB, tb_rkf, c1, c2, c3]), (by rw [show (tbQ_enter q x0 x1 x2 x3 x4) = q from by simp [tbQ_enter, tbT_enter, tbA_enter, tb_enB, tb_rkf, c1, c2, c3]]; rw [show (tbT_enter q x0 x1 x2 x3 x4) = (if true = true then 1 else 0) from by simp [tbQ_enter, tbT_enter, tbA_enter, tb_enB, tb_rkf, c1, c2, c3]]; exact h)⟩
