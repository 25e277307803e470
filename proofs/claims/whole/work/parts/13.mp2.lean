set_option maxRecDepth 100000 in
set_option maxHeartbeats 4000000 in
theorem mm_known (l : Launch) (D : va_G) (κ : Nat → ClassId) (τ : Nat → Nat) (A : Nat → Prop) (σ : um_M) (md : Nat → Nat) (q : tb_Q) (th : Nat) (h : md_at κ σ md q th) (x0 x1 : Int32) : Met l yX9_known wsX9_known ({ frames := 1, cells := 0, slots := 0, locals := 22 }) (va_Pc [.ref (md 13), .int (x0), .int (x1)] (um_U D κ τ A σ)) (va_Qi (fun (r9 : Int32) (σ' : um_M) => r9 = nI (tbA_known q x0 x1) ∧ md_at κ σ' md q (tbT_known x0 x1)) (um_U D κ τ A) A) 0 0 A := by
  refine um_met (cc := cX9_known) (maxL := 3) (ret := (some .int)) (by decide) rfl rfl ?_
  intro pp ee s mm args below meth cd ls hx hb hr hts hown hlocks hml hnm hK hJ hU hl
  have hown : s.vm.findClass RX9 = some mm.cls := hown
  have htg : ∀ w ∈ lw_g, w.before args s = true := fun w h => hts w (List.mem_cons_of_mem _ h)
  have hl : lv_has ls 3 [(0, .ref (md 13)), (1, .int (x0)), (2, .int (x1))] := hl
  refine lv_aload_n hx hb dX9_known_0 rfl (lv_at hl 0 rfl) ?_
  refine lv_iload_n hx hb dX9_known_1 rfl (lv_at hl 1 rfl) ?_
  refine lv_iconst (v := nI 0) hx hb dX9_known_2 (by decide +kernel) ?_
  refine lv_iconst (v := nI 4) hx hb dX9_known_3 (by decide +kernel) ?_
  refine um_callP (va_runS (As := [.int (x0), .int (nI (0)), .int (nI (4))]) (rest := [.ref (md 13)]) ⟨hx, hb, hml, hown, htg⟩ (mm_in l D κ τ A σ x0 (nI 0) (nI 4)) (cwS 3 htg (lw_cS tg_695 tg_696 tg_8 tg_697) rfl rfl rfl (by decide +kernel) ⟨Nat.le_of_ble_eq_true rfl, Nat.le_of_ble_eq_true rfl⟩) (um_preS hU hK hJ) rfl rfl hl.1 rfl (lv_room (Nat.le_of_ble_eq_true rfl)) dX9_known_4 ⟨Nat.le_of_ble_eq_true rfl, Nat.le_of_ble_eq_true rfl⟩) hU (fun H locs hU => ?_)
  refine um_eqB (tgt := 19) hx hb dX9_known_7 (by decide) (fun c1 => ?_) (fun c1 => ?_)
  · refine lv_iconst (v := nI 1) hx hb dX9_known_19 (by decide +kernel) ?_
    refine lv_goto (tgt := 24) hx hb dX9_known_20 (by decide) ?_
    refine lv_iconst (v := nI 1) hx hb dX9_known_24 (by decide +kernel) ?_
    refine um_calli (va_runV (As := [.int (nI (1)), .int (nI (1))]) (rest := []) ⟨hx, hb, hml, hown, htg⟩ (mm_fails l D κ τ A σ md q th h true 1) (cwV 2 htg (lw_cV tg_698 tg_700 slX9_fails tg_8 tg_701) rfl rfl rfl (by decide +kernel) ⟨Nat.le_of_ble_eq_true rfl, Nat.le_of_ble_eq_true rfl⟩) (um_preV hU hK hJ h.obj rfl) rfl rfl hl.1 rfl (lv_room (Nat.le_of_ble_eq_true rfl)) dX9_known_25 ⟨Nat.le_of_ble_eq_true rfl, Nat.le_of_ble_eq_true rfl⟩) hU (fun r9 σ H locs h hU => ?_)
    obtain ⟨rfl, h⟩ := h
    refine um_eqB (tgt := 35) hx hb dX9_known_28 (by decide) (fun h => by cases h) (fun _ => ?_)
    refine lv_iconst (v := nI 0) hx hb dX9_known_31 (by decide +kernel) ?_
    refine lv_goto (tgt := 45) hx hb dX9_known_32 (by decide) ?_
    exact um_iret hx hb hr hlocks hK hJ hU dX9_known_45 ⟨congrArg nI (by simp [tbT_known, tbA_known, tb_knB, c1]), (by rw [show (tbT_known x0 x1) = (if true = true then 1 else 0) from by simp [tbT_known, tbA_known, tb_knB, c1]]; exact h)⟩
  · refine lv_iload_n hx hb dX9_known_10 rfl (lv_at hl 2 rfl) ?_
    refine lv_iconst (v := nI 0) hx hb dX9_known_11 (by decide +kernel) ?_
    refine lv_iconst (v := nI 4) hx hb dX9_known_12 (by decide +kernel) ?_
    refine um_callP (va_runS (As := [.int (x1), .int (nI (0)), .int (nI (4))]) (rest := [.ref (md 13)]) ⟨hx, hb, hml, hown, htg⟩ (mm_in l D κ τ A σ x1 (nI 0) (nI 4)) (cwS 3 htg (lw_cS tg_695 tg_696 tg_8 tg_697) rfl rfl rfl (by decide +kernel) ⟨Nat.le_of_ble_eq_true rfl, Nat.le_of_ble_eq_true rfl⟩) (um_preS hU hK hJ) rfl rfl hl.1 rfl (lv_room (Nat.le_of_ble_eq_true rfl)) dX9_known_13 ⟨Nat.le_of_ble_eq_true rfl, Nat.le_of_ble_eq_true rfl⟩) hU (fun H locs hU => ?_)
    refine um_neB (tgt := 23) hx hb dX9_known_16 (by decide) (fun c2 => ?_) (fun c2 => ?_)
    · refine lv_iconst (v := nI 0) hx hb dX9_known_23 (by decide +kernel) ?_
      refine lv_iconst (v := nI 1) hx hb dX9_known_24 (by decide +kernel) ?_
      refine um_calli (va_runV (As := [.int (nI (0)), .int (nI (1))]) (rest := []) ⟨hx, hb, hml, hown, htg⟩ (mm_fails l D κ τ A σ md q th h false 1) (cwV 2 htg (lw_cV tg_698 tg_700 slX9_fails tg_8 tg_701) rfl rfl rfl (by decide +kernel) ⟨Nat.le_of_ble_eq_true rfl, Nat.le_of_ble_eq_true rfl⟩) (um_preV hU hK hJ h.obj rfl) rfl rfl hl.1 rfl (lv_room (Nat.le_of_ble_eq_true rfl)) dX9_known_25 ⟨Nat.le_of_ble_eq_true rfl, Nat.le_of_ble_eq_true rfl⟩) hU (fun r9 σ H locs h hU => ?_)
      obtain ⟨rfl, h⟩ := h
      refine um_eqB (tgt := 35) hx hb dX9_known_28 (by decide) (fun _ => ?_) (fun h => by cases h)
      obtain ⟨j0, ha_j0, hb_j0, rfl⟩ := tb_inN (by decide) (by decide) c1
      have en_j0 : (nI j0).toNatClampNeg = j0 := nI_clamp (by omega)
      obtain ⟨j1, ha_j1, hb_j1, rfl⟩ := tb_inN (by decide) (by decide) c2
      have en_j1 : (nI j1).toNatClampNeg = j1 := nI_clamp (by omega)
      refine lv_aload_n hx hb dX9_known_35 rfl (lv_at hl 0 rfl) ?_
      refine um_get (v := .ref (md 7)) hx hb htg inX9 hown hK hU h.obj rfl 8 (by decide) (htg _ tg_646) rfl dX9_known_36 ?_
      refine lv_iconst (v := nI 5) hx hb dX9_known_39 (by decide +kernel) ?_
      refine lv_iload_n hx hb dX9_known_40 rfl (lv_at hl 1 rfl) ?_
      refine um_mulN hx hb dX9_known_41 ?_
      refine lv_iload_n hx hb dX9_known_42 rfl (lv_at hl 2 rfl) ?_
      refine um_addN hx hb dX9_known_43 ?_
      refine md_ild hx hb hK hU h 7 ((5 * j0) + j1) (by decide) (show (5 * j0) + j1 < 25 from by omega) dX9_known_44 ?_
      exact um_iret hx hb hr hlocks hK hJ hU dX9_known_45 ⟨congrArg nI (by simp [tbT_known, tbA_known, tb_knB, c1, c2, en_j0, en_j1]), (by rw [show (tbT_known (nI j0) (nI j1)) = (if false = true then 1 else 0) from by simp [tbT_known, tbA_known, tb_knB, c1, c2, en_j0, en_j1]]; exact h)⟩
    · refine lv_iconst (v := nI 1) hx hb dX9_known_19 (by decide +kernel) ?_
      refine lv_goto (tgt := 24) hx hb dX9_known_20 (by decide) ?_
      refine lv_iconst (v := nI 1) hx hb dX9_known_24 (by decide +kernel) ?_
      refine um_calli (va_runV (As := [.int (nI (1)), .int (nI (1))]) (rest := []) ⟨hx, hb, hml, hown, htg⟩ (mm_fails l D κ τ A σ md q th h true 1) (cwV 2 htg (lw_cV tg_698 tg_700 slX9_fails tg_8 tg_701) rfl rfl rfl (by decide +kernel) ⟨Nat.le_of_ble_eq_true rfl, Nat.le_of_ble_eq_true rfl⟩) (um_preV hU hK hJ h.obj rfl) rfl rfl hl.1 rfl (lv_room (Nat.le_of_ble_eq_true rfl)) dX9_known_25 ⟨Nat.le_of_ble_eq_true rfl, Nat.le_of_ble_eq_true rfl⟩) hU (fun r9 σ H locs h hU => ?_)
      obtain ⟨rfl, h⟩ := h
      refine um_eqB (tgt := 35) hx hb dX9_known_28 (by decide) (fun h => by cases h) (fun _ => ?_)
      refine lv_iconst (v := nI 0) hx hb dX9_known_31 (by decide +kernel) ?_
      refine lv_goto (tgt := 45) hx hb dX9_known_32 (by decide) ?_
      exact um_iret hx hb hr hlocks hK hJ hU dX9_known_45 ⟨congrArg nI (by simp [tbT_known, tbA_known, tb_knB, c1, c2]), (by rw [show (tbT_known x0 x1) = (if true = true then 1 else 0) from by simp [tbT_known, tbA_known, tb_knB, c1, c2]]; exact h)⟩

set_option maxRecDepth 100000 in
set_option maxHeartbeats 4000000 in
theorem mm_holder (l : Launch) (D : va_G) (κ : Nat → ClassId) (τ : Nat → Nat) (A : Nat → Prop) (σ : um_M) (md : Nat → Nat) (q : tb_Q) (th : Nat) (h : md_at κ σ md q th) (hq : tb_sm q) (hm : ∀ d, q 0 d ≤ 40) (x0 x1 x2 : Int32) : Met l yX9_holder wsX9_holder ({ frames := 3, cells := 0, slots := 0, locals := 74 }) (va_Pc [.ref (md 13), .int (x0), .int (x1), .int (x2)] (um_U D κ τ A σ)) (va_Qi (fun (r9 : Int32) (σ' : um_M) => r9 = tbA_holder q x0 x1 x2 ∧ md_at κ σ' md q (tbT_holder x0 x1 x2)) (um_U D κ τ A) A) 0 0 A := by
  refine um_met (cc := cX9_holder) (maxL := 4) (ret := (some .int)) (by decide) rfl rfl ?_
  intro pp ee s mm args below meth cd ls hx hb hr hts hown hlocks hml hnm hK hJ hU hl
  have hown : s.vm.findClass RX9 = some mm.cls := hown
  have htg : ∀ w ∈ lw_g, w.before args s = true := fun w h => hts w (List.mem_cons_of_mem _ h)
  have hl : lv_has ls 4 [(0, .ref (md 13)), (1, .int (x0)), (2, .int (x1)), (3, .int (x2))] := hl
  refine lv_aload_n hx hb dX9_holder_0 rfl (lv_at hl 0 rfl) ?_
  refine lv_iload_n hx hb dX9_holder_1 rfl (lv_at hl 1 rfl) ?_
  refine lv_iconst (v := nI 0) hx hb dX9_holder_2 (by decide +kernel) ?_
  refine lv_iconst (v := nI 4) hx hb dX9_holder_3 (by decide +kernel) ?_
  refine um_callP (va_runS (As := [.int (x0), .int (nI (0)), .int (nI (4))]) (rest := [.ref (md 13)]) ⟨hx, hb, hml, hown, htg⟩ (mm_in l D κ τ A σ x0 (nI 0) (nI 4)) (cwS 3 htg (lw_cS tg_695 tg_696 tg_8 tg_697) rfl rfl rfl (by decide +kernel) ⟨Nat.le_of_ble_eq_true rfl, Nat.le_of_ble_eq_true rfl⟩) (um_preS hU hK hJ) rfl rfl hl.1 rfl (lv_room (Nat.le_of_ble_eq_true rfl)) dX9_holder_4 ⟨Nat.le_of_ble_eq_true rfl, Nat.le_of_ble_eq_true rfl⟩) hU (fun H locs hU => ?_)
  refine um_eqB (tgt := 28) hx hb dX9_holder_7 (by decide) (fun c1 => ?_) (fun c1 => ?_)
  · refine lv_iconst (v := nI 1) hx hb dX9_holder_28 (by decide +kernel) ?_
    refine lv_goto (tgt := 33) hx hb dX9_holder_29 (by decide) ?_
    refine lv_iconst (v := nI 1) hx hb dX9_holder_33 (by decide +kernel) ?_
    refine um_calli (va_runV (As := [.int (nI (1)), .int (nI (1))]) (rest := []) ⟨hx, hb, hml, hown, htg⟩ (mm_fails l D κ τ A σ md q th h true 1) (cwV 2 htg (lw_cV tg_698 tg_700 slX9_fails tg_8 tg_701) rfl rfl rfl (by decide +kernel) ⟨Nat.le_of_ble_eq_true rfl, Nat.le_of_ble_eq_true rfl⟩) (um_preV hU hK hJ h.obj rfl) rfl rfl hl.1 rfl (lv_room (Nat.le_of_ble_eq_true rfl)) dX9_holder_34 ⟨Nat.le_of_ble_eq_true rfl, Nat.le_of_ble_eq_true rfl⟩) hU (fun r9 σ H locs h hU => ?_)
    obtain ⟨rfl, h⟩ := h
    refine um_eqB (tgt := 42) hx hb dX9_holder_37 (by decide) (fun h => by cases h) (fun _ => ?_)
    refine lv_iconst (v := nI 0) hx hb dX9_holder_40 (by decide +kernel) ?_
    exact um_iret hx hb hr hlocks hK hJ hU dX9_holder_41 ⟨by simp [tbT_holder, tbA_holder, tb_hoB, c1], (by rw [show (tbT_holder x0 x1 x2) = (if true = true then 1 else 0) from by simp [tbT_holder, tbA_holder, tb_hoB, c1]]; exact h)⟩
  · refine lv_iload_n hx hb dX9_holder_10 rfl (lv_at hl 2 rfl) ?_
    refine lv_iconst (v := nI 0) hx hb dX9_holder_11 (by decide +kernel) ?_
    refine lv_iconst (v := nI 5) hx hb dX9_holder_12 (by decide +kernel) ?_
    refine um_callP (va_runS (As := [.int (x1), .int (nI (0)), .int (nI (5))]) (rest := [.ref (md 13)]) ⟨hx, hb, hml, hown, htg⟩ (mm_in l D κ τ A σ x1 (nI 0) (nI 5)) (cwS 3 htg (lw_cS tg_695 tg_696 tg_8 tg_697) rfl rfl rfl (by decide +kernel) ⟨Nat.le_of_ble_eq_true rfl, Nat.le_of_ble_eq_true rfl⟩) (um_preS hU hK hJ) rfl rfl hl.1 rfl (lv_room (Nat.le_of_ble_eq_true rfl)) dX9_holder_13 ⟨Nat.le_of_ble_eq_true rfl, Nat.le_of_ble_eq_true rfl⟩) hU (fun H locs hU => ?_)
    refine um_eqB (tgt := 28) hx hb dX9_holder_16 (by decide) (fun c2 => ?_) (fun c2 => ?_)
    · refine lv_iconst (v := nI 1) hx hb dX9_holder_28 (by decide +kernel) ?_
      refine lv_goto (tgt := 33) hx hb dX9_holder_29 (by decide) ?_
      refine lv_iconst (v := nI 1) hx hb dX9_holder_33 (by decide +kernel) ?_
      refine um_calli (va_runV (As := [.int (nI (1)), .int (nI (1))]) (rest := []) ⟨hx, hb, hml, hown, htg⟩ (mm_fails l D κ τ A σ md q th h true 1) (cwV 2 htg (lw_cV tg_698 tg_700 slX9_fails tg_8 tg_701) rfl rfl rfl (by decide +kernel) ⟨Nat.le_of_ble_eq_true rfl, Nat.le_of_ble_eq_true rfl⟩) (um_preV hU hK hJ h.obj rfl) rfl rfl hl.1 rfl (lv_room (Nat.le_of_ble_eq_true rfl)) dX9_holder_34 ⟨Nat.le_of_ble_eq_true rfl, Nat.le_of_ble_eq_true rfl⟩) hU (fun r9 σ H locs h hU => ?_)
      obtain ⟨rfl, h⟩ := h
      refine um_eqB (tgt := 42) hx hb dX9_holder_37 (by decide) (fun h => by cases h) (fun _ => ?_)
      refine lv_iconst (v := nI 0) hx hb dX9_holder_40 (by decide +kernel) ?_
      exact um_iret hx hb hr hlocks hK hJ hU dX9_holder_41 ⟨by simp [tbT_holder, tbA_holder, tb_hoB, c1, c2], (by rw [show (tbT_holder x0 x1 x2) = (if true = true then 1 else 0) from by simp [tbT_holder, tbA_holder, tb_hoB, c1, c2]]; exact h)⟩
    · refine lv_iload_n hx hb dX9_holder_19 rfl (lv_at hl 3 rfl) ?_
      refine lv_iconst (v := nI 0) hx hb dX9_holder_20 (by decide +kernel) ?_
      refine lv_iconst (v := nI 1) hx hb dX9_holder_21 (by decide +kernel) ?_
      refine um_callP (va_runS (As := [.int (x2), .int (nI (0)), .int (nI (1))]) (rest := [.ref (md 13)]) ⟨hx, hb, hml, hown, htg⟩ (mm_in l D κ τ A σ x2 (nI 0) (nI 1)) (cwS 3 htg (lw_cS tg_695 tg_696 tg_8 tg_697) rfl rfl rfl (by decide +kernel) ⟨Nat.le_of_ble_eq_true rfl, Nat.le_of_ble_eq_true rfl⟩) (um_preS hU hK hJ) rfl rfl hl.1 rfl (lv_room (Nat.le_of_ble_eq_true rfl)) dX9_holder_22 ⟨Nat.le_of_ble_eq_true rfl, Nat.le_of_ble_eq_true rfl⟩) hU (fun H locs hU => ?_)
      refine um_neB (tgt := 32) hx hb dX9_holder_25 (by decide) (fun c3 => ?_) (fun c3 => ?_)
      · refine lv_iconst (v := nI 0) hx hb dX9_holder_32 (by decide +kernel) ?_
        refine lv_iconst (v := nI 1) hx hb dX9_holder_33 (by decide +kernel) ?_
        refine um_calli (va_runV (As := [.int (nI (0)), .int (nI (1))]) (rest := []) ⟨hx, hb, hml, hown, htg⟩ (mm_fails l D κ τ A σ md q th h false 1) (cwV 2 htg (lw_cV tg_698 tg_700 slX9_fails tg_8 tg_701) rfl rfl rfl (by decide +kernel) ⟨Nat.le_of_ble_eq_true rfl, Nat.le_of_ble_eq_true rfl⟩) (um_preV hU hK hJ h.obj rfl) rfl rfl hl.1 rfl (lv_room (Nat.le_of_ble_eq_true rfl)) dX9_holder_34 ⟨Nat.le_of_ble_eq_true rfl, Nat.le_of_ble_eq_true rfl⟩) hU (fun r9 σ H locs h hU => ?_)
        obtain ⟨rfl, h⟩ := h
        refine um_eqB (tgt := 42) hx hb dX9_holder_37 (by decide) (fun _ => ?_) (fun h => by cases h)
        obtain ⟨j0, ha_j0, hb_j0, rfl⟩ := tb_inN (by decide) (by decide) c1
        have en_j0 : (nI j0).toNatClampNeg = j0 := nI_clamp (by omega)
        obtain ⟨j1, ha_j1, hb_j1, rfl⟩ := tb_inN (by decide) (by decide) c2
        have en_j1 : (nI j1).toNatClampNeg = j1 := nI_clamp (by omega)
        obtain ⟨j2, ha_j2, hb_j2, rfl⟩ := tb_inN (by decide) (by decide) c3
        have en_j2 : (nI j2).toNatClampNeg = j2 := nI_clamp (by omega)
        have e2z := tb_nI0 (j := j2) (by omega)
        refine lv_iload_n hx hb dX9_holder_42 rfl (lv_at hl 3 rfl) ?_
        refine um_ne0N (tgt := 55) hx hb dX9_holder_43 (by decide) (by omega) (fun c4 => ?_) (fun c4 => ?_)
        · refine lv_aload_n hx hb dX9_holder_55 rfl (lv_at hl 0 rfl) ?_
          refine lv_iload_n hx hb dX9_holder_56 rfl (lv_at hl 1 rfl) ?_
          refine lv_iload_n hx hb dX9_holder_57 rfl (lv_at hl 2 rfl) ?_
          refine um_callP (va_runV (As := [.int (nI (j0)), .int (nI (j1))]) (rest := []) ⟨hx, hb, hml, hown, htg⟩ (mm_lent l D κ τ A σ md q (if false = true then 1 else 0) h hq j0 j1 (by omega) (by omega)) (cwV 2 htg (lw_cV tg_714 tg_716 slX9_lent tg_8 tg_717) rfl rfl rfl (by decide +kernel) ⟨Nat.le_of_ble_eq_true rfl, Nat.le_of_ble_eq_true rfl⟩) (um_preV hU hK hJ h.obj rfl) rfl rfl hl.1 rfl (lv_room (Nat.le_of_ble_eq_true rfl)) dX9_holder_58 ⟨Nat.le_of_ble_eq_true rfl, Nat.le_of_ble_eq_true rfl⟩) hU (fun H locs hU => ?_)
          exact um_iret hx hb hr hlocks hK hJ hU dX9_holder_61 ⟨by simp [tbT_holder, tbA_holder, tb_hoB, c1, c2, c3, en_j0, en_j1, en_j2, e2z, c4], (by rw [show (tbT_holder (nI j0) (nI j1) (nI j2)) = (if false = true then 1 else 0) from by simp [tbT_holder, tbA_holder, tb_hoB, c1, c2, c3, en_j0, en_j1, en_j2, e2z, c4]]; exact h)⟩
        · refine lv_aload_n hx hb dX9_holder_46 rfl (lv_at hl 0 rfl) ?_
          refine lv_iload_n hx hb dX9_holder_47 rfl (lv_at hl 1 rfl) ?_
          refine lv_iload_n hx hb dX9_holder_48 rfl (lv_at hl 2 rfl) ?_
          refine um_callP (va_runV (As := [.int (nI (j0)), .int (nI (j1))]) (rest := []) ⟨hx, hb, hml, hown, htg⟩ (mm_holds l D κ τ A σ md q (if false = true then 1 else 0) h hq j0 j1 (by omega) (by omega)) (cwV 2 htg (lw_cV tg_710 tg_712 slX9_holds tg_8 tg_713) rfl rfl rfl (by decide +kernel) ⟨Nat.le_of_ble_eq_true rfl, Nat.le_of_ble_eq_true rfl⟩) (um_preV hU hK hJ h.obj rfl) rfl rfl hl.1 rfl (lv_room (Nat.le_of_ble_eq_true rfl)) dX9_holder_49 ⟨Nat.le_of_ble_eq_true rfl, Nat.le_of_ble_eq_true rfl⟩) hU (fun H locs hU => ?_)
          refine lv_goto (tgt := 61) hx hb dX9_holder_52 (by decide) ?_
          exact um_iret hx hb hr hlocks hK hJ hU dX9_holder_61 ⟨by simp [tbT_holder, tbA_holder, tb_hoB, c1, c2, c3, en_j0, en_j1, en_j2, e2z, (eq_true c4)], (by rw [show (tbT_holder (nI j0) (nI j1) (nI j2)) = (if false = true then 1 else 0) from by simp [tbT_holder, tbA_holder, tb_hoB, c1, c2, c3, en_j0, en_j1, en_j2, e2z, (eq_true c4)]]; exact h)⟩
      · refine lv_iconst (v := nI 1) hx hb dX9_holder_28 (by decide +kernel) ?_
        refine lv_goto (tgt := 33) hx hb dX9_holder_29 (by decide) ?_
        refine lv_iconst (v := nI 1) hx hb dX9_holder_33 (by decide +kernel) ?_
        refine um_calli (va_runV (As := [.int (nI (1)), .int (nI (1))]) (rest := []) ⟨hx, hb, hml, hown, htg⟩ (mm_fails l D κ τ A σ md q th h true 1) (cwV 2 htg (lw_cV tg_698 tg_700 slX9_fails tg_8 tg_701) rfl rfl rfl (by decide +kernel) ⟨Nat.le_of_ble_eq_true rfl, Nat.le_of_ble_eq_true rfl⟩) (um_preV hU hK hJ h.obj rfl) rfl rfl hl.1 rfl (lv_room (Nat.le_of_ble_eq_true rfl)) dX9_holder_34 ⟨Nat.le_of_ble_eq_true rfl, Nat.le_of_ble_eq_true rfl⟩) hU (fun r9 σ H locs h hU => ?_)
        obtain ⟨rfl, h⟩ := h
        refine um_eqB (tgt := 42) hx hb dX9_holder_37 (by decide) (fun h => by cases h) (fun _ => ?_)
        refine lv_iconst (v := nI 0) hx hb dX9_holder_40 (by decide +kernel) ?_
        exact um_iret hx hb hr hlocks hK hJ hU dX9_holder_41 ⟨by simp [tbT_holder, tbA_holder, tb_hoB, c1, c2, c3], (by rw [show (tbT_holder x0 x1 x2) = (if true = true then 1 else 0) from by simp [tbT_holder, tbA_holder, tb_hoB, c1, c2, c3]]; exact h)⟩

set_option maxRecDepth 100000 in
set_option maxHeartbeats 4000000 in
theorem mm_value (l : Launch) (D : va_G) (κ : Nat → ClassId) (τ : Nat → Nat) (A : Nat → Prop) (σ : um_M) (md : Nat → Nat) (q : tb_Q) (th : Nat) (h : md_at κ σ md q th) (hq : tb_sm q) (hm : ∀ d, q 0 d ≤ 40) (x0 x1 x2 x3 : Int32) : Met l yX9_value wsX9_value ({ frames := 5, cells := 0, slots := 0, locals := 124 }) (va_Pc [.ref (md 13), .int (x0), .int (x1), .int (x2), .int (x3)] (um_U D κ τ A σ)) (va_Qi (fun (r9 : Int32) (σ' : um_M) => r9 = nI (tbA_value q x0 x1 x2 x3) ∧ md_at κ σ' md q (tbT_value q x0 x1 x2 x3)) (um_U D κ τ A) A) 0 0 A := by
  refine um_met (cc := cX9_value) (maxL := 6) (ret := (some .int)) (by decide) rfl rfl ?_
  intro pp ee s mm args below meth cd ls hx hb hr hts hown hlocks hml hnm hK hJ hU hl
  have hown : s.vm.findClass RX9 = some mm.cls := hown
  have htg : ∀ w ∈ lw_g, w.before args s = true := fun w h => hts w (List.mem_cons_of_mem _ h)
  have hl : lv_has ls 6 [(0, .ref (md 13)), (1, .int (x0)), (2, .int (x1)), (3, .int (x2)), (4, .int (x3))] := hl
  refine lv_aload_n hx hb dX9_value_0 rfl (lv_at hl 0 rfl) ?_
  refine lv_iload_n hx hb dX9_value_1 rfl (lv_at hl 1 rfl) ?_
  refine lv_iconst (v := nI 0) hx hb dX9_value_2 (by decide +kernel) ?_
  refine lv_iconst (v := nI 4) hx hb dX9_value_3 (by decide +kernel) ?_
  refine um_callP (va_runS (As := [.int (x0), .int (nI (0)), .int (nI (4))]) (rest := [.ref (md 13)]) ⟨hx, hb, hml, hown, htg⟩ (mm_in l D κ τ A σ x0 (nI 0) (nI 4)) (cwS 3 htg (lw_cS tg_695 tg_696 tg_8 tg_697) rfl rfl rfl (by decide +kernel) ⟨Nat.le_of_ble_eq_true rfl, Nat.le_of_ble_eq_true rfl⟩) (um_preS hU hK hJ) rfl rfl hl.1 rfl (lv_room (Nat.le_of_ble_eq_true rfl)) dX9_value_4 ⟨Nat.le_of_ble_eq_true rfl, Nat.le_of_ble_eq_true rfl⟩) hU (fun H locs hU => ?_)
  refine um_eqB (tgt := 20) hx hb dX9_value_7 (by decide) (fun c1 => ?_) (fun c1 => ?_)
  · refine lv_iconst (v := nI 1) hx hb dX9_value_20 (by decide +kernel) ?_
    refine lv_goto (tgt := 25) hx hb dX9_value_21 (by decide) ?_
    refine lv_iconst (v := nI 1) hx hb dX9_value_25 (by decide +kernel) ?_
    refine um_calli (va_runV (As := [.int (nI (1)), .int (nI (1))]) (rest := []) ⟨hx, hb, hml, hown, htg⟩ (mm_fails l D κ τ A σ md q th h true 1) (cwV 2 htg (lw_cV tg_698 tg_700 slX9_fails tg_8 tg_701) rfl rfl rfl (by decide +kernel) ⟨Nat.le_of_ble_eq_true rfl, Nat.le_of_ble_eq_true rfl⟩) (um_preV hU hK hJ h.obj rfl) rfl rfl hl.1 rfl (lv_room (Nat.le_of_ble_eq_true rfl)) dX9_value_26 ⟨Nat.le_of_ble_eq_true rfl, Nat.le_of_ble_eq_true rfl⟩) hU (fun r9 σ H locs h hU => ?_)
    obtain ⟨rfl, h⟩ := h
    refine um_eqB (tgt := 34) hx hb dX9_value_29 (by decide) (fun h => by cases h) (fun _ => ?_)
    refine lv_iconst (v := nI 0) hx hb dX9_value_32 (by decide +kernel) ?_
    exact um_iret hx hb hr hlocks hK hJ hU dX9_value_33 ⟨congrArg nI (by simp [tbT_value, tbA_value, tb_vaB, tb_vaS, c1]), (by rw [show (tbT_value q x0 x1 x2 x3) = (if true = true then 1 else 0) from by simp [tbT_value, tbA_value, tb_vaB, tb_vaS, c1]]; exact h)⟩
  · refine lv_iload_n hx hb dX9_value_10 rfl (lv_at hl 2 rfl) ?_
    refine lv_iload_n hx hb dX9_value_11 rfl (lv_at hl 3 rfl) ?_
    refine lv_iload hx hb dX9_value_12 (lv_at hl 4 rfl) ?_
    refine um_callP (va_runS (As := [.int (x1), .int (x2), .int (x3)]) (rest := [.ref (md 13)]) ⟨hx, hb, hml, hown, htg⟩ (mm_isField l D κ τ A σ x1 x2 x3) (cwS 3 htg (lw_cS tg_742 tg_743 tg_8 tg_744) rfl rfl rfl (by decide +kernel) ⟨Nat.le_of_ble_eq_true rfl, Nat.le_of_ble_eq_true rfl⟩) (um_preS hU hK hJ) rfl rfl hl.1 rfl (lv_room (Nat.le_of_ble_eq_true rfl)) dX9_value_14 ⟨Nat.le_of_ble_eq_true rfl, Nat.le_of_ble_eq_true rfl⟩) hU (fun H locs hU => ?_)
    refine um_neB (tgt := 24) hx hb dX9_value_17 (by decide) (fun c2 => ?_) (fun c2 => ?_)
    · refine lv_iconst (v := nI 0) hx hb dX9_value_24 (by decide +kernel) ?_
      refine lv_iconst (v := nI 1) hx hb dX9_value_25 (by decide +kernel) ?_
      refine um_calli (va_runV (As := [.int (nI (0)), .int (nI (1))]) (rest := []) ⟨hx, hb, hml, hown, htg⟩ (mm_fails l D κ τ A σ md q th h false 1) (cwV 2 htg (lw_cV tg_698 tg_700 slX9_fails tg_8 tg_701) rfl rfl rfl (by decide +kernel) ⟨Nat.le_of_ble_eq_true rfl, Nat.le_of_ble_eq_true rfl⟩) (um_preV hU hK hJ h.obj rfl) rfl rfl hl.1 rfl (lv_room (Nat.le_of_ble_eq_true rfl)) dX9_value_26 ⟨Nat.le_of_ble_eq_true rfl, Nat.le_of_ble_eq_true rfl⟩) hU (fun r9 σ H locs h hU => ?_)
      obtain ⟨rfl, h⟩ := h
      refine um_eqB (tgt := 34) hx hb dX9_value_29 (by decide) (fun _ => ?_) (fun h => by cases h)
      have hfd := c2
      simp only [tb_fd, Bool.and_eq_true] at hfd
      obtain ⟨⟨hf1, hf2⟩, hf3⟩ := hfd
      obtain ⟨j0, ha_j0, hb_j0, rfl⟩ := tb_inN (by decide) (by decide) c1
      have en_j0 : (nI j0).toNatClampNeg = j0 := nI_clamp (by omega)
      obtain ⟨j1, ha_j1, hb_j1, rfl⟩ := tb_inN (by decide) (by decide) hf1
      have en_j1 : (nI j1).toNatClampNeg = j1 := nI_clamp (by omega)
      obtain ⟨j2, ha_j2, hb_j2, rfl⟩ := tb_inN (by decide) (by decide) hf2
      have en_j2 : (nI j2).toNatClampNeg = j2 := nI_clamp (by omega)
      obtain ⟨j3, ha_j3, hb_j3, rfl⟩ := tb_inN (by decide) (by decide) hf3
      have en_j3 : (nI j3).toNatClampNeg = j3 := nI_clamp (by omega)
      have hsl := tb_shown_le q j0 j1 (3 * j2 + j3)
      refine lv_aload_n hx hb dX9_value_34 rfl (lv_at hl 0 rfl) ?_
      refine lv_iload_n hx hb dX9_value_35 rfl (lv_at hl 1 rfl) ?_
      refine lv_iload_n hx hb dX9_value_36 rfl (lv_at hl 2 rfl) ?_
      refine lv_iconst (v := nI 3) hx hb dX9_value_37 (by decide +kernel) ?_
      refine lv_iload_n hx hb dX9_value_38 rfl (lv_at hl 3 rfl) ?_
      refine um_mulN hx hb dX9_value_39 ?_
      refine lv_iload hx hb dX9_value_40 (lv_at hl 4 rfl) ?_
      refine um_addN hx hb dX9_value_42 ?_
      refine um_callP (va_runV (As := [.int (nI (j0)), .int (nI (j1)), .int (nI ((3 * j2) + j3))]) (rest := []) ⟨hx, hb, hml, hown, htg⟩ (mm_shown l D κ τ A σ md q (if false = true then 1 else 0) h hq j0 j1 ((3 * j2) + j3) (by omega) (by omega) (by omega)) (cwV 3 htg (lw_cV tg_760 tg_762 slX9_shown tg_8 tg_763) rfl rfl rfl (by decide +kernel) ⟨Nat.le_of_ble_eq_true rfl, Nat.le_of_ble_eq_true rfl⟩) (um_preV hU hK hJ h.obj rfl) rfl rfl hl.1 rfl (lv_room (Nat.le_of_ble_eq_true rfl)) dX9_value_43 ⟨Nat.le_of_ble_eq_true rfl, Nat.le_of_ble_eq_true rfl⟩) hU (fun H locs hU => ?_)
      refine lv_istore (lv' := [(5, .int (tb_m1 (tb_shown q j0 j1 ((3 * j2) + j3)))), (0, .ref (md 13)), (1, .int (nI (j0))), (2, .int (nI (j1))), (3, .int (nI (j2))), (4, .int (nI (j3)))]) hx hb dX9_value_46 hl (by decide) rfl (fun ls hl => ?_)
      refine lv_aload_n hx hb dX9_value_48 rfl (lv_at hl 1 rfl) ?_
      refine lv_iload hx hb dX9_value_49 (lv_at hl 0 rfl) ?_
      refine um_geM (tgt := 58) hx hb dX9_value_51 (by decide) (Nat.lt_of_le_of_lt (tb_shown_le q _ _ _) (by decide)) (fun c3 => ?_) (fun c3 => ?_)
      · refine lv_iconst (v := nI 0) hx hb dX9_value_58 (by decide +kernel) ?_
        refine lv_iconst (v := nI 2) hx hb dX9_value_59 (by decide +kernel) ?_
        refine um_calli (va_runV (As := [.int (nI (0)), .int (nI (2))]) (rest := []) ⟨hx, hb, hml, hown, htg⟩ (mm_fails l D κ τ A σ md q (if false = true then 1 else 0) h false 2) (cwV 2 htg (lw_cV tg_698 tg_700 slX9_fails tg_8 tg_701) rfl rfl rfl (by decide +kernel) ⟨Nat.le_of_ble_eq_true rfl, Nat.le_of_ble_eq_true rfl⟩) (um_preV hU hK hJ h.obj rfl) rfl rfl hl.1 rfl (lv_room (Nat.le_of_ble_eq_true rfl)) dX9_value_60 ⟨Nat.le_of_ble_eq_true rfl, Nat.le_of_ble_eq_true rfl⟩) hU (fun r9 σ H locs h hU => ?_)
        obtain ⟨rfl, h⟩ := h
        refine um_eqB (tgt := 70) hx hb dX9_value_63 (by decide) (fun _ => ?_) (fun h => by cases h)
        rw [tb_m1_p c3] at hl
        refine lv_aload_n hx hb dX9_value_70 rfl (lv_at hl 1 rfl) ?_
        refine um_get (v := .ref (md 4)) hx hb htg inX9 hown hK hU h.obj rfl 5 (by decide) (htg _ tg_643) rfl dX9_value_71 ?_
        refine lv_iload hx hb dX9_value_74 (lv_at hl 0 rfl) ?_
        refine md_ild hx hb hK hU h 4 (tb_shown q j0 j1 (3 * j2 + j3) - 1) (by decide) (show tb_shown q j0 j1 (3 * j2 + j3) - 1 < 200 from by omega) dX9_value_76 ?_
        exact um_iret hx hb hr hlocks hK hJ hU dX9_value_77 ⟨congrArg nI (by simp [tbT_value, tbA_value, tb_vaB, tb_vaS, c1, c2, en_j0, en_j1, en_j2, en_j3, c3]), (by rw [show (tbT_value q (nI j0) (nI j1) (nI j2) (nI j3)) = (if false = true then 2 else 0) from by simp [tbT_value, tbA_value, tb_vaB, tb_vaS, c1, c2, en_j0, en_j1, en_j2, en_j3, c3]]; exact h)⟩
      · refine lv_iconst (v := nI 1) hx hb dX9_value_54 (by decide +kernel) ?_
        refine lv_goto (tgt := 59) hx hb dX9_value_55 (by decide) ?_
        refine lv_iconst (v := nI 2) hx hb dX9_value_59 (by decide +kernel) ?_
        refine um_calli (va_runV (As := [.int (nI (1)), .int (nI (2))]) (rest := []) ⟨hx, hb, hml, hown, htg⟩ (mm_fails l D κ τ A σ md q (if false = true then 1 else 0) h true 2) (cwV 2 htg (lw_cV tg_698 tg_700 slX9_fails tg_8 tg_701) rfl rfl rfl (by decide +kernel) ⟨Nat.le_of_ble_eq_true rfl, Nat.le_of_ble_eq_true rfl⟩) (um_preV hU hK hJ h.obj rfl) rfl rfl hl.1 rfl (lv_room (Nat.le_of_ble_eq_true rfl)) dX9_value_60 ⟨Nat.le_of_ble_eq_true rfl, Nat.le_of_ble_eq_true rfl⟩) hU (fun r9 σ H locs h hU => ?_)
        obtain ⟨rfl, h⟩ := h
        refine um_eqB (tgt := 70) hx hb dX9_value_63 (by decide) (fun h => by cases h) (fun _ => ?_)
        refine lv_iconst (v := nI 0) hx hb dX9_value_66 (by decide +kernel) ?_
        refine lv_goto (tgt := 77) hx hb dX9_value_67 (by decide) ?_
        exact um_iret hx hb hr hlocks hK hJ hU dX9_value_77 ⟨congrArg nI (by simp [tbT_value, tbA_value, tb_vaB, tb_vaS, c1, c2, en_j0, en_j1, en_j2, en_j3, c3]), (by rw [show (tbT_value q (nI j0) (nI j1) (nI j2) (nI j3)) = (if true = true then 2 else 0) from by simp [tbT_value, tbA_value, tb_vaB, tb_vaS, c1, c2, en_j0, en_j1, en_j2, en_j3, c3]]; exact h)⟩
    · refine lv_iconst (v := nI 1) hx hb dX9_value_20 (by decide +kernel) ?_
      refine lv_goto (tgt := 25) hx hb dX9_value_21 (by decide) ?_
      refine lv_iconst (v := nI 1) hx hb dX9_value_25 (by decide +kernel) ?_
      refine um_calli (va_runV (As := [.int (nI (1)), .int (nI (1))]) (rest := []) ⟨hx, hb, hml, hown, htg⟩ (mm_fails l D κ τ A σ md q th h true 1) (cwV 2 htg (lw_cV tg_698 tg_700 slX9_fails tg_8 tg_701) rfl rfl rfl (by decide +kernel) ⟨Nat.le_of_ble_eq_true rfl, Nat.le_of_ble_eq_true rfl⟩) (um_preV hU hK hJ h.obj rfl) rfl rfl hl.1 rfl (lv_room (Nat.le_of_ble_eq_true rfl)) dX9_value_26 ⟨Nat.le_of_ble_eq_true rfl, Nat.le_of_ble_eq_true rfl⟩) hU (fun r9 σ H locs h hU => ?_)
      obtain ⟨rfl, h⟩ := h
      refine um_eqB (tgt := 34) hx hb dX9_value_29 (by decide) (fun h => by cases h) (fun _ => ?_)
      refine lv_iconst (v := nI 0) hx hb dX9_value_32 (by decide +kernel) ?_
      exact um_iret hx hb hr hlocks hK hJ hU dX9_value_33 ⟨congrArg nI (by simp [tbT_value, tbA_value, tb_vaB, tb_vaS, c1, c2]), (by rw [show (tbT_value q x0 x1 x2 x3) = (if true = true then 1 else 0) from by simp [tbT_value, tbA_value, tb_vaB, tb_vaS, c1, c2]]; exact h)⟩

set_option maxRecDepth 100000 in
set_option maxHeartbeats 4000000 in
theorem mm_conflict (l : Launch) (D : va_G) (κ : Nat → ClassId) (τ : Nat → Nat) (A : Nat → Prop) (σ : um_M) (md : Nat → Nat) (q : tb_Q) (th : Nat) (h : md_at κ σ md q th) (hq : tb_sm q) (hm : ∀ d, q 0 d ≤ 40) (x0 x1 : Int32) : Met l yX9_conflict wsX9_conflict ({ frames := 7, cells := 0, slots := 0, locals := 174 }) (va_Pc [.ref (md 13), .int (x0), .int (x1)] (um_U D κ τ A σ)) (va_Qi (fun (r9 : Int32) (σ' : um_M) => r9 = tbA_conflict q x0 x1 ∧ md_at κ σ' md q (tbT_conflict x0 x1)) (um_U D κ τ A) A) 0 0 A := by
  refine um_met (cc := cX9_conflict) (maxL := 4) (ret := (some .int)) (by decide) rfl rfl ?_
  intro pp ee s mm args below meth cd ls hx hb hr hts hown hlocks hml hnm hK hJ hU hl
  have hown : s.vm.findClass RX9 = some mm.cls := hown
  have htg : ∀ w ∈ lw_g, w.before args s = true := fun w h => hts w (List.mem_cons_of_mem _ h)
  have hl : lv_has ls 4 [(0, .ref (md 13)), (1, .int (x0)), (2, .int (x1))] := hl
  refine lv_aload_n hx hb dX9_conflict_0 rfl (lv_at hl 0 rfl) ?_
  refine lv_iload_n hx hb dX9_conflict_1 rfl (lv_at hl 1 rfl) ?_
  refine lv_iconst (v := nI 0) hx hb dX9_conflict_2 (by decide +kernel) ?_
  refine lv_iconst (v := nI 4) hx hb dX9_conflict_3 (by decide +kernel) ?_
  refine um_callP (va_runS (As := [.int (x0), .int (nI (0)), .int (nI (4))]) (rest := [.ref (md 13)]) ⟨hx, hb, hml, hown, htg⟩ (mm_in l D κ τ A σ x0 (nI 0) (nI 4)) (cwS 3 htg (lw_cS tg_695 tg_696 tg_8 tg_697) rfl rfl rfl (by decide +kernel) ⟨Nat.le_of_ble_eq_true rfl, Nat.le_of_ble_eq_true rfl⟩) (um_preS hU hK hJ) rfl rfl hl.1 rfl (lv_room (Nat.le_of_ble_eq_true rfl)) dX9_conflict_4 ⟨Nat.le_of_ble_eq_true rfl, Nat.le_of_ble_eq_true rfl⟩) hU (fun H locs hU => ?_)
  refine um_eqB (tgt := 14) hx hb dX9_conflict_7 (by decide) (fun c1 => ?_) (fun c1 => ?_)
  · refine lv_iconst (v := nI 1) hx hb dX9_conflict_14 (by decide +kernel) ?_
    refine lv_goto (tgt := 19) hx hb dX9_conflict_15 (by decide) ?_
    refine lv_iconst (v := nI 1) hx hb dX9_conflict_19 (by decide +kernel) ?_
    refine um_calli (va_runV (As := [.int (nI (1)), .int (nI (1))]) (rest := []) ⟨hx, hb, hml, hown, htg⟩ (mm_fails l D κ τ A σ md q th h true 1) (cwV 2 htg (lw_cV tg_698 tg_700 slX9_fails tg_8 tg_701) rfl rfl rfl (by decide +kernel) ⟨Nat.le_of_ble_eq_true rfl, Nat.le_of_ble_eq_true rfl⟩) (um_preV hU hK hJ h.obj rfl) rfl rfl hl.1 rfl (lv_room (Nat.le_of_ble_eq_true rfl)) dX9_conflict_20 ⟨Nat.le_of_ble_eq_true rfl, Nat.le_of_ble_eq_true rfl⟩) hU (fun r9 σ H locs h hU => ?_)
    obtain ⟨rfl, h⟩ := h
    refine um_eqB (tgt := 28) hx hb dX9_conflict_23 (by decide) (fun h => by cases h) (fun _ => ?_)
    refine lv_iconst (v := nI 0) hx hb dX9_conflict_26 (by decide +kernel) ?_
    exact um_iret hx hb hr hlocks hK hJ hU dX9_conflict_27 ⟨by simp [tbT_conflict, tbA_conflict, tb_coB, tb_code, c1], (by rw [show (tbT_conflict x0 x1) = (if true = true then 1 else 0) from by simp [tbT_conflict, tbA_conflict, tb_coB, tb_code, c1]]; exact h)⟩
  · refine lv_iload_n hx hb dX9_conflict_10 rfl (lv_at hl 2 rfl) ?_
    refine lv_if_ge (tgt := 18) hx hb dX9_conflict_11 (by decide) (fun c2 => ?_) (fun c2 => ?_)
    · refine lv_iconst (v := nI 0) hx hb dX9_conflict_18 (by decide +kernel) ?_
      refine lv_iconst (v := nI 1) hx hb dX9_conflict_19 (by decide +kernel) ?_
      refine um_calli (va_runV (As := [.int (nI (0)), .int (nI (1))]) (rest := []) ⟨hx, hb, hml, hown, htg⟩ (mm_fails l D κ τ A σ md q th h false 1) (cwV 2 htg (lw_cV tg_698 tg_700 slX9_fails tg_8 tg_701) rfl rfl rfl (by decide +kernel) ⟨Nat.le_of_ble_eq_true rfl, Nat.le_of_ble_eq_true rfl⟩) (um_preV hU hK hJ h.obj rfl) rfl rfl hl.1 rfl (lv_room (Nat.le_of_ble_eq_true rfl)) dX9_conflict_20 ⟨Nat.le_of_ble_eq_true rfl, Nat.le_of_ble_eq_true rfl⟩) hU (fun r9 σ H locs h hU => ?_)
      obtain ⟨rfl, h⟩ := h
      refine um_eqB (tgt := 28) hx hb dX9_conflict_23 (by decide) (fun _ => ?_) (fun h => by cases h)
      obtain ⟨j0, ha_j0, hb_j0, rfl⟩ := tb_inN (by decide) (by decide) c1
      have en_j0 : (nI j0).toNatClampNeg = j0 := nI_clamp (by omega)
      have hil := tb_inc_le q j0 x1 72
      refine lv_aload_n hx hb dX9_conflict_28 rfl (lv_at hl 0 rfl) ?_
      refine lv_iload_n hx hb dX9_conflict_29 rfl (lv_at hl 1 rfl) ?_
      refine lv_iload_n hx hb dX9_conflict_30 rfl (lv_at hl 2 rfl) ?_
      refine um_callP (va_runV (As := [.int (nI (j0)), .int (x1)]) (rest := []) ⟨hx, hb, hml, hown, htg⟩ (mm_inConflict l D κ τ A σ md q (if false = true then 1 else 0) h hq j0 x1 (by omega)) (cwV 2 htg (lw_cV tg_752 tg_754 slX9_inConflict tg_8 tg_755) rfl rfl rfl (by decide +kernel) ⟨Nat.le_of_ble_eq_true rfl, Nat.le_of_ble_eq_true rfl⟩) (um_preV hU hK hJ h.obj rfl) rfl rfl hl.1 rfl (lv_room (Nat.le_of_ble_eq_true rfl)) dX9_conflict_31 ⟨Nat.le_of_ble_eq_true rfl, Nat.le_of_ble_eq_true rfl⟩) hU (fun H locs hU => ?_)
      refine lv_istore_n (lv' := [(3, .int (tb_m1 (tb_inc q j0 x1 72))), (0, .ref (md 13)), (1, .int (nI (j0))), (2, .int (x1))]) hx hb dX9_conflict_34 rfl hl (by decide) rfl (fun ls hl => ?_)
      refine lv_iload_n hx hb dX9_conflict_35 rfl (lv_at hl 0 rfl) ?_
      refine um_geM (tgt := 43) hx hb dX9_conflict_36 (by decide) (Nat.lt_of_le_of_lt (tb_inc_le q _ _ 72) (by decide)) (fun c3 => ?_) (fun c3 => ?_)
      · rw [tb_m1_p c3] at hl
        refine lv_bipush (v := nI 100) hx hb dX9_conflict_43 (by decide +kernel) ?_
        refine lv_iload_n hx hb dX9_conflict_45 rfl (lv_at hl 0 rfl) ?_
        refine lv_bipush (v := nI 12) hx hb dX9_conflict_46 (by decide +kernel) ?_
        refine um_divN hx hb dX9_conflict_48 (by omega) (by decide) (by decide) ?_
        refine um_mulN hx hb dX9_conflict_49 ?_
        refine lv_bipush (v := nI 10) hx hb dX9_conflict_50 (by decide +kernel) ?_
        refine lv_iload_n hx hb dX9_conflict_52 rfl (lv_at hl 0 rfl) ?_
        refine lv_bipush (v := nI 12) hx hb dX9_conflict_53 (by decide +kernel) ?_
        refine um_remN hx hb dX9_conflict_55 (by omega) (by decide) (by decide) ?_
        refine lv_iconst (v := nI 3) hx hb dX9_conflict_56 (by decide +kernel) ?_
        refine um_divN hx hb dX9_conflict_57 (by omega) (by decide) (by decide) ?_
        refine um_mulN hx hb dX9_conflict_58 ?_
        refine um_addN hx hb dX9_conflict_59 ?_
        refine lv_iload_n hx hb dX9_conflict_60 rfl (lv_at hl 0 rfl) ?_
        refine lv_iconst (v := nI 3) hx hb dX9_conflict_61 (by decide +kernel) ?_
        refine um_remN hx hb dX9_conflict_62 (by omega) (by decide) (by decide) ?_
        refine um_addN hx hb dX9_conflict_63 ?_
        exact um_iret hx hb hr hlocks hK hJ hU dX9_conflict_64 ⟨by simp [tbT_conflict, tbA_conflict, tb_coB, tb_code, c1, c2, en_j0, c3], (by rw [show (tbT_conflict (nI j0) x1) = (if false = true then 1 else 0) from by simp [tbT_conflict, tbA_conflict, tb_coB, tb_code, c1, c2, en_j0, c3]]; exact h)⟩
      · refine lv_iconst (v := -1) hx hb dX9_conflict_39 (by decide +kernel) ?_
        refine lv_goto (tgt := 64) hx hb dX9_conflict_40 (by decide) ?_
        exact um_iret hx hb hr hlocks hK hJ hU dX9_conflict_64 ⟨by simp [tbT_conflict, tbA_conflict, tb_coB, tb_code, c1, c2, en_j0, c3], (by rw [show (tbT_conflict (nI j0) x1) = (if false = true then 1 else 0) from by simp [tbT_conflict, tbA_conflict, tb_coB, tb_code, c1, c2, en_j0, c3]]; exact h)⟩
    · refine lv_iconst (v := nI 1) hx hb dX9_conflict_14 (by decide +kernel) ?_
      refine lv_goto (tgt := 19) hx hb dX9_conflict_15 (by decide) ?_
      refine lv_iconst (v := nI 1) hx hb dX9_conflict_19 (by decide +kernel) ?_
      refine um_calli (va_runV (As := [.int (nI (1)), .int (nI (1))]) (rest := []) ⟨hx, hb, hml, hown, htg⟩ (mm_fails l D κ τ A σ md q th h true 1) (cwV 2 htg (lw_cV tg_698 tg_700 slX9_fails tg_8 tg_701) rfl rfl rfl (by decide +kernel) ⟨Nat.le_of_ble_eq_true rfl, Nat.le_of_ble_eq_true rfl⟩) (um_preV hU hK hJ h.obj rfl) rfl rfl hl.1 rfl (lv_room (Nat.le_of_ble_eq_true rfl)) dX9_conflict_20 ⟨Nat.le_of_ble_eq_true rfl, Nat.le_of_ble_eq_true rfl⟩) hU (fun r9 σ H locs h hU => ?_)
      obtain ⟨rfl, h⟩ := h
      refine um_eqB (tgt := 28) hx hb dX9_conflict_23 (by decide) (fun h => by cases h) (fun _ => ?_)
      refine lv_iconst (v := nI 0) hx hb dX9_conflict_26 (by decide +kernel) ?_
      exact um_iret hx hb hr hlocks hK hJ hU dX9_conflict_27 ⟨by simp [tbT_conflict, tbA_conflict, tb_coB, tb_code, c1, c2], (by rw [show (tbT_conflict x0 x1) = (if true = true then 1 else 0) from by simp [tbT_conflict, tbA_conflict, tb_coB, tb_code, c1, c2]]; exact h)⟩

set_option maxRecDepth 100000 in
set_option maxHeartbeats 4000000 in
theorem mm_meet (l : Launch) (D : va_G) (κ : Nat → ClassId) (τ : Nat → Nat) (A : Nat → Prop) (σ : um_M) (md : Nat → Nat) (q : tb_Q) (th : Nat) (h : md_at κ σ md q th) (hq : tb_sm q) (x0 x1 : Int32) : Met l yX9_meet wsX9_meet ({ frames := 1, cells := 0, slots := 0, locals := 22 }) (va_Pc [.ref (md 13), .int (x0), .int (x1)] (um_U D κ τ A σ)) (va_Qv (fun σ' : um_M => md_at κ σ' md (tbQ_meet q x0 x1) (tbT_meet q x0 x1)) (um_U D κ τ A) A) 0 0 A := by
  refine um_met (cc := cX9_meet) (maxL := 4) (ret := none) (by decide) rfl rfl ?_
  intro pp ee s mm args below meth cd ls hx hb hr hts hown hlocks hml hnm hK hJ hU hl
  have hown : s.vm.findClass RX9 = some mm.cls := hown
  have htg : ∀ w ∈ lw_g, w.before args s = true := fun w h => hts w (List.mem_cons_of_mem _ h)
  have hl : lv_has ls 4 [(0, .ref (md 13)), (1, .int (x0)), (2, .int (x1))] := hl
  refine lv_iload_n hx hb dX9_meet_0 rfl (lv_at hl 1 rfl) ?_
  refine lv_iconst (v := nI 0) hx hb dX9_meet_1 (by decide +kernel) ?_
  refine lv_iconst (v := nI 4) hx hb dX9_meet_2 (by decide +kernel) ?_
  refine um_callP (va_runS (As := [.int (x0), .int (nI (0)), .int (nI (4))]) (rest := []) ⟨hx, hb, hml, hown, htg⟩ (mm_in l D κ τ A σ x0 (nI 0) (nI 4)) (cwS 3 htg (lw_cS tg_695 tg_696 tg_8 tg_697) rfl rfl rfl (by decide +kernel) ⟨Nat.le_of_ble_eq_true rfl, Nat.le_of_ble_eq_true rfl⟩) (um_preS hU hK hJ) rfl rfl hl.1 rfl (lv_room (Nat.le_of_ble_eq_true rfl)) dX9_meet_3 ⟨Nat.le_of_ble_eq_true rfl, Nat.le_of_ble_eq_true rfl⟩) hU (fun H locs hU => ?_)
  refine um_eqB (tgt := 23) hx hb dX9_meet_6 (by decide) (fun c1 => ?_) (fun c1 => ?_)
  · refine lv_iconst (v := nI 1) hx hb dX9_meet_23 (by decide +kernel) ?_
    refine lv_goto (tgt := 28) hx hb dX9_meet_24 (by decide) ?_
    refine lv_istore_n (lv' := [(3, .int (nI (1))), (0, .ref (md 13)), (1, .int (x0)), (2, .int (x1))]) hx hb dX9_meet_28 rfl hl (by decide) rfl (fun ls hl => ?_)
    refine lv_aload_n hx hb dX9_meet_29 rfl (lv_at hl 1 rfl) ?_
    refine lv_iload_n hx hb dX9_meet_30 rfl (lv_at hl 0 rfl) ?_
    refine lv_iconst (v := nI 1) hx hb dX9_meet_31 (by decide +kernel) ?_
    refine um_calli (va_runV (As := [.int (nI (1)), .int (nI (1))]) (rest := []) ⟨hx, hb, hml, hown, htg⟩ (mm_fails l D κ τ A σ md q th h true 1) (cwV 2 htg (lw_cV tg_698 tg_700 slX9_fails tg_8 tg_701) rfl rfl rfl (by decide +kernel) ⟨Nat.le_of_ble_eq_true rfl, Nat.le_of_ble_eq_true rfl⟩) (um_preV hU hK hJ h.obj rfl) rfl rfl hl.1 rfl (lv_room (Nat.le_of_ble_eq_true rfl)) dX9_meet_32 ⟨Nat.le_of_ble_eq_true rfl, Nat.le_of_ble_eq_true rfl⟩) hU (fun r9 σ H locs h hU => ?_)
    obtain ⟨rfl, h⟩ := h
    refine um_neB (tgt := 58) hx hb dX9_meet_35 (by decide) (fun _ => ?_) (fun h => by cases h)
    exact um_vret hx hb hr hlocks hK hJ hU dX9_meet_58 (by rw [show (tbQ_meet q x0 x1) = q from by simp [tbT_meet, tbQ_meet, tb_meB, c1]]; rw [show (tbT_meet q x0 x1) = (if true = true then 1 else 0) from by simp [tbT_meet, tbQ_meet, tb_meB, c1]]; exact h)
  · refine lv_iload_n hx hb dX9_meet_9 rfl (lv_at hl 2 rfl) ?_
    refine lv_iconst (v := nI 0) hx hb dX9_meet_10 (by decide +kernel) ?_
    refine lv_iconst (v := nI 4) hx hb dX9_meet_11 (by decide +kernel) ?_
    refine um_callP (va_runS (As := [.int (x1), .int (nI (0)), .int (nI (4))]) (rest := []) ⟨hx, hb, hml, hown, htg⟩ (mm_in l D κ τ A σ x1 (nI 0) (nI 4)) (cwS 3 htg (lw_cS tg_695 tg_696 tg_8 tg_697) rfl rfl rfl (by decide +kernel) ⟨Nat.le_of_ble_eq_true rfl, Nat.le_of_ble_eq_true rfl⟩) (um_preS hU hK hJ) rfl rfl hl.1 rfl (lv_room (Nat.le_of_ble_eq_true rfl)) dX9_meet_12 ⟨Nat.le_of_ble_eq_true rfl, Nat.le_of_ble_eq_true rfl⟩) hU (fun H locs hU => ?_)
    refine um_eqB (tgt := 23) hx hb dX9_meet_15 (by decide) (fun c2 => ?_) (fun c2 => ?_)
    · refine lv_iconst (v := nI 1) hx hb dX9_meet_23 (by decide +kernel) ?_
      refine lv_goto (tgt := 28) hx hb dX9_meet_24 (by decide) ?_
      refine lv_istore_n (lv' := [(3, .int (nI (1))), (0, .ref (md 13)), (1, .int (x0)), (2, .int (x1))]) hx hb dX9_meet_28 rfl hl (by decide) rfl (fun ls hl => ?_)
      refine lv_aload_n hx hb dX9_meet_29 rfl (lv_at hl 1 rfl) ?_
      refine lv_iload_n hx hb dX9_meet_30 rfl (lv_at hl 0 rfl) ?_
      refine lv_iconst (v := nI 1) hx hb dX9_meet_31 (by decide +kernel) ?_
      refine um_calli (va_runV (As := [.int (nI (1)), .int (nI (1))]) (rest := []) ⟨hx, hb, hml, hown, htg⟩ (mm_fails l D κ τ A σ md q th h true 1) (cwV 2 htg (lw_cV tg_698 tg_700 slX9_fails tg_8 tg_701) rfl rfl rfl (by decide +kernel) ⟨Nat.le_of_ble_eq_true rfl, Nat.le_of_ble_eq_true rfl⟩) (um_preV hU hK hJ h.obj rfl) rfl rfl hl.1 rfl (lv_room (Nat.le_of_ble_eq_true rfl)) dX9_meet_32 ⟨Nat.le_of_ble_eq_true rfl, Nat.le_of_ble_eq_true rfl⟩) hU (fun r9 σ H locs h hU => ?_)
      obtain ⟨rfl, h⟩ := h
      refine um_neB (tgt := 58) hx hb dX9_meet_35 (by decide) (fun _ => ?_) (fun h => by cases h)
      exact um_vret hx hb hr hlocks hK hJ hU dX9_meet_58 (by rw [show (tbQ_meet q x0 x1) = q from by simp [tbT_meet, tbQ_meet, tb_meB, c1, c2]]; rw [show (tbT_meet q x0 x1) = (if true = true then 1 else 0) from by simp [tbT_meet, tbQ_meet, tb_meB, c1, c2]]; exact h)
    · refine lv_iload_n hx hb dX9_meet_18 rfl (lv_at hl 1 rfl) ?_
      refine lv_iload_n hx hb dX9_meet_19 rfl (lv_at hl 2 rfl) ?_
      refine lv_icmp_ne (tgt := 27) hx hb dX9_meet_20 (by decide) (fun c3 => ?_) (fun c3 => ?_)
      · refine lv_iconst (v := nI 0) hx hb dX9_meet_27 (by decide +kernel) ?_
        refine lv_istore_n (lv' := [(3, .int (nI (0))), (0, .ref (md 13)), (1, .int (x0)), (2, .int (x1))]) hx hb dX9_meet_28 rfl hl (by decide) rfl (fun ls hl => ?_)
        refine lv_aload_n hx hb dX9_meet_29 rfl (lv_at hl 1 rfl) ?_
        refine lv_iload_n hx hb dX9_meet_30 rfl (lv_at hl 0 rfl) ?_
        refine lv_iconst (v := nI 1) hx hb dX9_meet_31 (by decide +kernel) ?_
        refine um_calli (va_runV (As := [.int (nI (0)), .int (nI (1))]) (rest := []) ⟨hx, hb, hml, hown, htg⟩ (mm_fails l D κ τ A σ md q th h false 1) (cwV 2 htg (lw_cV tg_698 tg_700 slX9_fails tg_8 tg_701) rfl rfl rfl (by decide +kernel) ⟨Nat.le_of_ble_eq_true rfl, Nat.le_of_ble_eq_true rfl⟩) (um_preV hU hK hJ h.obj rfl) rfl rfl hl.1 rfl (lv_room (Nat.le_of_ble_eq_true rfl)) dX9_meet_32 ⟨Nat.le_of_ble_eq_true rfl, Nat.le_of_ble_eq_true rfl⟩) hU (fun r9 σ H locs h hU => ?_)
        obtain ⟨rfl, h⟩ := h
        refine um_neB (tgt := 58) hx hb dX9_meet_35 (by decide) (fun h => by cases h) (fun _ => ?_)
        obtain ⟨j0, ha_j0, hb_j0, rfl⟩ := tb_inN (by decide) (by decide) c1
        have en_j0 : (nI j0).toNatClampNeg = j0 := nI_clamp (by omega)
        obtain ⟨j1, ha_j1, hb_j1, rfl⟩ := tb_inN (by decide) (by decide) c2
        have en_j1 : (nI j1).toNatClampNeg = j1 := nI_clamp (by omega)
        refine lv_aload_n hx hb dX9_meet_38 rfl (lv_at hl 1 rfl) ?_
        refine lv_aload_n hx hb dX9_meet_39 rfl (lv_at hl 1 rfl) ?_
        refine um_get (v := .int (tb_m1 (q 13 0))) hx hb htg inX9 hown hK hU h.obj rfl 10 (by decide) (htg _ tg_648) rfl dX9_meet_40 ?_
        refine um_ltM (tgt := 50) hx hb dX9_meet_43 (by decide) (tb_sm_lt hq 13 0) (fun c4 => ?_) (fun c4 => ?_)
        · refine lv_iconst (v := nI 0) hx hb dX9_meet_50 (by decide +kernel) ?_
          refine lv_iconst (v := nI 2) hx hb dX9_meet_51 (by decide +kernel) ?_
          refine um_calli (va_runV (As := [.int (nI (0)), .int (nI (2))]) (rest := []) ⟨hx, hb, hml, hown, htg⟩ (mm_fails l D κ τ A σ md q (if false = true then 1 else 0) h false 2) (cwV 2 htg (lw_cV tg_698 tg_700 slX9_fails tg_8 tg_701) rfl rfl rfl (by decide +kernel) ⟨Nat.le_of_ble_eq_true rfl, Nat.le_of_ble_eq_true rfl⟩) (um_preV hU hK hJ h.obj rfl) rfl rfl hl.1 rfl (lv_room (Nat.le_of_ble_eq_true rfl)) dX9_meet_52 ⟨Nat.le_of_ble_eq_true rfl, Nat.le_of_ble_eq_true rfl⟩) hU (fun r9 σ H locs h hU => ?_)
          obtain ⟨rfl, h⟩ := h
          refine um_eqB (tgt := 59) hx hb dX9_meet_55 (by decide) (fun _ => ?_) (fun h => by cases h)
          refine lv_aload_n hx hb dX9_meet_59 rfl (lv_at hl 1 rfl) ?_
          refine lv_iload_n hx hb dX9_meet_60 rfl (lv_at hl 2 rfl) ?_
          refine um_put (v := .int (nI (j0))) (ty := .int) (fs' := md_obj md (tb_set q 13 0 (j0 + 1)) (if false = true then 2 else 0)) hx hb htg inX9 tyX9 tyX9_ok nmX9 hown hK hU h.obj rfl 10 (by decide) (htg _ tg_648) rfl (by decide +kernel) rfl rfl (by first | rfl | (unfold md_obj; simp [tb_set, va_up, tb_m1_0, tb_m1_s, List.set])) (Nat.le_of_ble_eq_true rfl) dX9_meet_61 (fun H locs hU => ?_)
          have h := h.put (q' := tb_set q 13 0 (j0 + 1)) (th' := if false = true then 2 else 0) (fun i hi => tb_set_n _ _ _ (by omega))
          obtain ⟨σ', hσ⟩ : ∃ z, z = um_up σ (md 13) (.inr (md_ci, md_obj md (tb_set q 13 0 (j0 + 1)) (if false = true then 2 else 0))) := ⟨_, rfl⟩
          rw [← hσ] at h hU
          clear hσ
          generalize σ' = σ at h hU
          refine lv_aload_n hx hb dX9_meet_64 rfl (lv_at hl 1 rfl) ?_
          refine lv_iload_n hx hb dX9_meet_65 rfl (lv_at hl 3 rfl) ?_
          refine um_put (v := .int (nI (j1))) (ty := .int) (fs' := md_obj md (tb_set (tb_set q 13 0 (j0 + 1)) 13 1 (j1 + 1)) (if false = true then 2 else 0)) hx hb htg inX9 tyX9 tyX9_ok nmX9 hown hK hU h.obj rfl 11 (by decide) (htg _ tg_649) rfl (by decide +kernel) rfl rfl (by first | rfl | (unfold md_obj; simp [tb_set, va_up, tb_m1_0, tb_m1_s, List.set])) (Nat.le_of_ble_eq_true rfl) dX9_meet_66 (fun H locs hU => ?_)
          have h := h.put (q' := tb_set (tb_set q 13 0 (j0 + 1)) 13 1 (j1 + 1)) (th' := if false = true then 2 else 0) (fun i hi => tb_set_n _ _ _ (by omega))
          obtain ⟨σ', hσ⟩ : ∃ z, z = um_up σ (md 13) (.inr (md_ci, md_obj md (tb_set (tb_set q 13 0 (j0 + 1)) 13 1 (j1 + 1)) (if false = true then 2 else 0))) := ⟨_, rfl⟩
          rw [← hσ] at h hU
          clear hσ
          generalize σ' = σ at h hU
          exact um_vret hx hb hr hlocks hK hJ hU dX9_meet_69 (by rw [show (tbQ_meet q (nI j0) (nI j1)) = (tb_set (tb_set q 13 0 (j0 + 1)) 13 1 (j1 + 1)) from by simp [tbT_meet, tbQ_meet, tb_meB, c1, c2, c3, en_j0, en_j1, c4]]; rw [show (tbT_meet q (nI j0) (nI j1)) = (if false = true then 2 else 0) from by simp [tbT_meet, tbQ_meet, tb_meB, c1, c2, c3, en_j0, en_j1, c4]]; exact h)
        · refine lv_iconst (v := nI 1) hx hb dX9_meet_46 (by decide +kernel) ?_
          refine lv_goto (tgt := 51) hx hb dX9_meet_47 (by decide) ?_
          refine lv_iconst (v := nI 2) hx hb dX9_meet_51 (by decide +kernel) ?_
          refine um_calli (va_runV (As := [.int (nI (1)), .int (nI (2))]) (rest := []) ⟨hx, hb, hml, hown, htg⟩ (mm_fails l D κ τ A σ md q (if false = true then 1 else 0) h true 2) (cwV 2 htg (lw_cV tg_698 tg_700 slX9_fails tg_8 tg_701) rfl rfl rfl (by decide +kernel) ⟨Nat.le_of_ble_eq_true rfl, Nat.le_of_ble_eq_true rfl⟩) (um_preV hU hK hJ h.obj rfl) rfl rfl hl.1 rfl (lv_room (Nat.le_of_ble_eq_true rfl)) dX9_meet_52 ⟨Nat.le_of_ble_eq_true rfl, Nat.le_of_ble_eq_true rfl⟩) hU (fun r9 σ H locs h hU => ?_)
          obtain ⟨rfl, h⟩ := h
          refine um_eqB (tgt := 59) hx hb dX9_meet_55 (by decide) (fun h => by cases h) (fun _ => ?_)
          exact um_vret hx hb hr hlocks hK hJ hU dX9_meet_58 (by rw [show (tbQ_meet q (nI j0) (nI j1)) = q from by simp [tbT_meet, tbQ_meet, tb_meB, c1, c2, c3, en_j0, en_j1, c4]]; rw [show (tbT_meet q (nI j0) (nI j1)) = (if true = true then 2 else 0) from by simp [tbT_meet, tbQ_meet, tb_meB, c1, c2, c3, en_j0, en_j1, c4]]; exact h)
      · refine lv_iconst (v := nI 1) hx hb dX9_meet_23 (by decide +kernel) ?_
        refine lv_goto (tgt := 28) hx hb dX9_meet_24 (by decide) ?_
        refine lv_istore_n (lv' := [(3, .int (nI (1))), (0, .ref (md 13)), (1, .int (x0)), (2, .int (x1))]) hx hb dX9_meet_28 rfl hl (by decide) rfl (fun ls hl => ?_)
        refine lv_aload_n hx hb dX9_meet_29 rfl (lv_at hl 1 rfl) ?_
        refine lv_iload_n hx hb dX9_meet_30 rfl (lv_at hl 0 rfl) ?_
        refine lv_iconst (v := nI 1) hx hb dX9_meet_31 (by decide +kernel) ?_
        refine um_calli (va_runV (As := [.int (nI (1)), .int (nI (1))]) (rest := []) ⟨hx, hb, hml, hown, htg⟩ (mm_fails l D κ τ A σ md q th h true 1) (cwV 2 htg (lw_cV tg_698 tg_700 slX9_fails tg_8 tg_701) rfl rfl rfl (by decide +kernel) ⟨Nat.le_of_ble_eq_true rfl, Nat.le_of_ble_eq_true rfl⟩) (um_preV hU hK hJ h.obj rfl) rfl rfl hl.1 rfl (lv_room (Nat.le_of_ble_eq_true rfl)) dX9_meet_32 ⟨Nat.le_of_ble_eq_true rfl, Nat.le_of_ble_eq_true rfl⟩) hU (fun r9 σ H locs h hU => ?_)
        obtain ⟨rfl, h⟩ := h
        refine um_neB (tgt := 58) hx hb dX9_meet_35 (by decide) (fun _ => ?_) (fun h => by cases h)
        exact um_vret hx hb hr hlocks hK hJ hU dX9_meet_58 (by rw [show (tbQ_meet q x0 x1) = q from by simp [tbT_meet, tbQ_meet, tb_meB, c1, c2, c3]]; rw [show (tbT_meet q x0 x1) = (if true = true then 1 else 0) from by simp [tbT_meet, tbQ_meet, tb_meB, c1, c2, c3]]; exact h)

set_option maxRecDepth 100000 in
set_option maxHeartbeats 4000000 in
theorem mm_swap (l : Launch) (D : va_G) (κ : Nat → ClassId) (τ : Nat → Nat) (A : Nat → Prop) (σ : um_M) (md : Nat → Nat) (q : tb_Q) (th : Nat) (h : md_at κ σ md q th) (hq : tb_sm q) (h0 : q 13 0 ≤ 5) (h1 : q 13 1 ≤ 5) (h2 : q 13 0 = 0 ↔ q 13 1 = 0) : Met l yX9_swap wsX9_swap ({ frames := 1, cells := 0, slots := 0, locals := 23 }) (va_Pc [.ref (md 13)] (um_U D κ τ A σ)) (va_Qi (fun (r9 : Int32) (σ' : um_M) => r9 = um_b (tbA_swap q) ∧ md_at κ σ' md (tbQ_swap q) (tbT_swap q)) (um_U D κ τ A) A) 0 0 A := by
  refine um_met (cc := cX9_swap) (maxL := 1) (ret := (some .boolean)) (by decide) rfl rfl ?_
  intro pp ee s mm args below meth cd ls hx hb hr hts hown hlocks hml hnm hK hJ hU hl
  have hown : s.vm.findClass RX9 = some mm.cls := hown
  have htg : ∀ w ∈ lw_g, w.before args s = true := fun w h => hts w (List.mem_cons_of_mem _ h)
  have hl : lv_has ls 1 [(0, .ref (md 13))] := hl
  refine lv_aload_n hx hb dX9_swap_0 rfl (lv_at hl 0 rfl) ?_
  refine lv_aload_n hx hb dX9_swap_1 rfl (lv_at hl 0 rfl) ?_
  refine um_get (v := .int (tb_m1 (q 13 0))) hx hb htg inX9 hown hK hU h.obj rfl 10 (by decide) (htg _ tg_648) rfl dX9_swap_2 ?_
  refine um_geM (tgt := 12) hx hb dX9_swap_5 (by decide) (tb_sm_lt hq 13 0) (fun c1 => ?_) (fun c1 => ?_)
  · refine lv_iconst (v := nI 0) hx hb dX9_swap_12 (by decide +kernel) ?_
    refine lv_iconst (v := nI 1) hx hb dX9_swap_13 (by decide +kernel) ?_
    refine um_calli (va_runV (As := [.int (nI (0)), .int (nI (1))]) (rest := []) ⟨hx, hb, hml, hown, htg⟩ (mm_fails l D κ τ A σ md q th h false 1) (cwV 2 htg (lw_cV tg_698 tg_700 slX9_fails tg_8 tg_701) rfl rfl rfl (by decide +kernel) ⟨Nat.le_of_ble_eq_true rfl, Nat.le_of_ble_eq_true rfl⟩) (um_preV hU hK hJ h.obj rfl) rfl rfl hl.1 rfl (lv_room (Nat.le_of_ble_eq_true rfl)) dX9_swap_14 ⟨Nat.le_of_ble_eq_true rfl, Nat.le_of_ble_eq_true rfl⟩) hU (fun r9 σ H locs h hU => ?_)
    obtain ⟨rfl, h⟩ := h
    refine um_eqB (tgt := 22) hx hb dX9_swap_17 (by decide) (fun _ => ?_) (fun h => by cases h)
    refine lv_aload_n hx hb dX9_swap_22 rfl (lv_at hl 0 rfl) ?_
    refine lv_aload_n hx hb dX9_swap_23 rfl (lv_at hl 0 rfl) ?_
    refine um_get (v := .int (nI (q 13 0 - 1))) hx hb htg inX9 hown hK hU h.obj rfl 10 (by decide) (htg _ tg_648) (by show some (Value.int (tb_m1 (q 13 0))) = _; rw [tb_m1_p c1]) dX9_swap_24 ?_
    refine lv_aload_n hx hb dX9_swap_27 rfl (lv_at hl 0 rfl) ?_
    refine um_get (v := .int (nI (q 13 1 - 1))) hx hb htg inX9 hown hK hU h.obj rfl 11 (by decide) (htg _ tg_649) (by show some (Value.int (tb_m1 (q 13 1))) = _; rw [tb_m1_p (fun z => c1 (h2.mpr z))]) dX9_swap_28 ?_
    refine um_calli (va_runV (As := [.int (nI (q 13 0 - 1)), .int (nI (q 13 1 - 1))]) (rest := []) ⟨hx, hb, hml, hown, htg⟩ (mm_carries l D κ τ A σ md q (if false = true then 1 else 0) h hq (q 13 0 - 1) (q 13 1 - 1) (by omega) (by omega)) (cwV 2 htg (lw_cV tg_784 tg_786 slX9_carries tg_8 tg_787) rfl rfl rfl (by decide +kernel) ⟨Nat.le_of_ble_eq_true rfl, Nat.le_of_ble_eq_true rfl⟩) (um_preV hU hK hJ h.obj rfl) rfl rfl hl.1 rfl (lv_room (Nat.le_of_ble_eq_true rfl)) dX9_swap_31 ⟨Nat.le_of_ble_eq_true rfl, Nat.le_of_ble_eq_true rfl⟩) hU (fun r9 σ H locs h hU => ?_)
    obtain ⟨rfl, h⟩ := h
    refine um_neB (tgt := 52) hx hb dX9_swap_34 (by decide) (fun c2 => ?_) (fun c2 => ?_)
    · have hq1 : ¬ tb_car q (q 13 0 - 1) (q 13 1 - 1) = 0 := by simpa using c2
      refine lv_iconst (v := nI 1) hx hb dX9_swap_52 (by decide +kernel) ?_
      refine lv_goto (tgt := 57) hx hb dX9_swap_53 (by decide) ?_
      exact um_zret hx hb hr hlocks hK hJ hU dX9_swap_57 true rfl ⟨congrArg um_b (by simp [tbT_swap, tbA_swap, tbQ_swap, c1, c2, hq1]), (by rw [show (tbQ_swap q) = (tb_cary q (q 13 0 - 1) (q 13 1 - 1)) from by simp [tbT_swap, tbA_swap, tbQ_swap, c1, c2, hq1]]; rw [show (tbT_swap q) = (if false = true then 1 else 0) from by simp [tbT_swap, tbA_swap, tbQ_swap, c1, c2, hq1]]; exact h)⟩
    · have hq0 : tb_car q (q 13 0 - 1) (q 13 1 - 1) = 0 := by simpa using c2
      rw [show tb_cary q (q 13 0 - 1) (q 13 1 - 1) = q from by rw [tb_cary, if_pos hq0]] at h
      refine lv_aload_n hx hb dX9_swap_37 rfl (lv_at hl 0 rfl) ?_
      refine lv_aload_n hx hb dX9_swap_38 rfl (lv_at hl 0 rfl) ?_
      refine um_get (v := .int (nI (q 13 1 - 1))) hx hb htg inX9 hown hK hU h.obj rfl 11 (by decide) (htg _ tg_649) (by show some (Value.int (tb_m1 (q 13 1))) = _; rw [tb_m1_p (fun z => c1 (h2.mpr z))]) dX9_swap_39 ?_
      refine lv_aload_n hx hb dX9_swap_42 rfl (lv_at hl 0 rfl) ?_
      refine um_get (v := .int (nI (q 13 0 - 1))) hx hb htg inX9 hown hK hU h.obj rfl 10 (by decide) (htg _ tg_648) (by show some (Value.int (tb_m1 (q 13 0))) = _; rw [tb_m1_p c1]) dX9_swap_43 ?_
      refine um_calli (va_runV (As := [.int (nI (q 13 1 - 1)), .int (nI (q 13 0 - 1))]) (rest := []) ⟨hx, hb, hml, hown, htg⟩ (mm_carries l D κ τ A σ md q (if false = true then 1 else 0) h hq (q 13 1 - 1) (q 13 0 - 1) (by omega) (by omega)) (cwV 2 htg (lw_cV tg_784 tg_786 slX9_carries tg_8 tg_787) rfl rfl rfl (by decide +kernel) ⟨Nat.le_of_ble_eq_true rfl, Nat.le_of_ble_eq_true rfl⟩) (um_preV hU hK hJ h.obj rfl) rfl rfl hl.1 rfl (lv_room (Nat.le_of_ble_eq_true rfl)) dX9_swap_46 ⟨Nat.le_of_ble_eq_true rfl, Nat.le_of_ble_eq_true rfl⟩) hU (fun r9 σ H locs h hU => ?_)
      obtain ⟨rfl, h⟩ := h
      refine um_eqB (tgt := 56) hx hb dX9_swap_49 (by decide) (fun c3 => ?_) (fun c3 => ?_)
      · refine lv_iconst (v := nI 0) hx hb dX9_swap_56 (by decide +kernel) ?_
        exact um_zret hx hb hr hlocks hK hJ hU dX9_swap_57 false rfl ⟨congrArg um_b (by simp [tbT_swap, tbA_swap, tbQ_swap, c1, c2, hq0, c3]), (by rw [show (tbQ_swap q) = (tb_cary q (q 13 1 - 1) (q 13 0 - 1)) from by simp [tbT_swap, tbA_swap, tbQ_swap, c1, c2, hq0, c3]]; rw [show (tbT_swap q) = (if false = true then 1 else 0) from by simp [tbT_swap, tbA_swap, tbQ_swap, c1, c2, hq0, c3]]; exact h)⟩
      · refine lv_iconst (v := nI 1) hx hb dX9_swap_52 (by decide +kernel) ?_
        refine lv_goto (tgt := 57) hx hb dX9_swap_53 (by decide) ?_
        exact um_zret hx hb hr hlocks hK hJ hU dX9_swap_57 true rfl ⟨congrArg um_b (by simp [tbT_swap, tbA_swap, tbQ_swap, c1, c2, hq0, c3]), (by rw [show (tbQ_swap q) = (tb_cary q (q 13 1 - 1) (q 13 0 - 1)) from by simp [tbT_swap, tbA_swap, tbQ_swap, c1, c2, hq0, c3]]; rw [show (tbT_swap q) = (if false = true then 1 else 0) from by simp [tbT_swap, tbA_swap, tbQ_swap, c1, c2, hq0, c3]]; exact h)⟩
  · refine lv_iconst (v := nI 1) hx hb dX9_swap_8 (by decide +kernel) ?_
    refine lv_goto (tgt := 13) hx hb dX9_swap_9 (by decide) ?_
    refine lv_iconst (v := nI 1) hx hb dX9_swap_13 (by decide +kernel) ?_
    refine um_calli (va_runV (As := [.int (nI (1)), .int (nI (1))]) (rest := []) ⟨hx, hb, hml, hown, htg⟩ (mm_fails l D κ τ A σ md q th h true 1) (cwV 2 htg (lw_cV tg_698 tg_700 slX9_fails tg_8 tg_701) rfl rfl rfl (by decide +kernel) ⟨Nat.le_of_ble_eq_true rfl, Nat.le_of_ble_eq_true rfl⟩) (um_preV hU hK hJ h.obj rfl) rfl rfl hl.1 rfl (lv_room (Nat.le_of_ble_eq_true rfl)) dX9_swap_14 ⟨Nat.le_of_ble_eq_true rfl, Nat.le_of_ble_eq_true rfl⟩) hU (fun r9 σ H locs h hU => ?_)
    obtain ⟨rfl, h⟩ := h
    refine um_eqB (tgt := 22) hx hb dX9_swap_17 (by decide) (fun h => by cases h) (fun _ => ?_)
    refine lv_iconst (v := nI 0) hx hb dX9_swap_20 (by decide +kernel) ?_
    exact um_zret hx hb hr hlocks hK hJ hU dX9_swap_21 false rfl ⟨congrArg um_b (by simp [tbT_swap, tbA_swap, tbQ_swap, c1]), (by rw [show (tbQ_swap q) = q from by simp [tbT_swap, tbA_swap, tbQ_swap, c1]]; rw [show (tbT_swap q) = (if true = true then 1 else 0) from by simp [tbT_swap, tbA_swap, tbQ_swap, c1]]; exact h)⟩

set_option maxRecDepth 100000 in
set_option maxHeartbeats 4000000 in
theorem mm_part (l : Launch) (D : va_G) (κ : Nat → ClassId) (τ : Nat → Nat) (A : Nat → Prop) (σ : um_M) (md : Nat → Nat) (q : tb_Q) (th : Nat) (h : md_at κ σ md q th) (hq : tb_sm q) (h0 : q 13 0 ≤ 5) (h1 : q 13 1 ≤ 5) (h2 : q 13 0 = 0 ↔ q 13 1 = 0) : Met l yX9_part wsX9_part ({ frames := 1, cells := 0, slots := 0, locals := 22 }) (va_Pc [.ref (md 13)] (um_U D κ τ A σ)) (va_Qv (fun σ' : um_M => md_at κ σ' md (tbQ_part q) (tbT_part q)) (um_U D κ τ A) A) 0 0 A := by
  refine um_met (cc := cX9_part) (maxL := 1) (ret := none) (by decide) rfl rfl ?_
  intro pp ee s mm args below meth cd ls hx hb hr hts hown hlocks hml hnm hK hJ hU hl
  have hown : s.vm.findClass RX9 = some mm.cls := hown
  have htg : ∀ w ∈ lw_g, w.before args s = true := fun w h => hts w (List.mem_cons_of_mem _ h)
  have hl : lv_has ls 1 [(0, .ref (md 13))] := hl
  refine lv_aload_n hx hb dX9_part_0 rfl (lv_at hl 0 rfl) ?_
  refine lv_aload_n hx hb dX9_part_1 rfl (lv_at hl 0 rfl) ?_
  refine um_get (v := .int (tb_m1 (q 13 0))) hx hb htg inX9 hown hK hU h.obj rfl 10 (by decide) (htg _ tg_648) rfl dX9_part_2 ?_
  refine um_geM (tgt := 12) hx hb dX9_part_5 (by decide) (tb_sm_lt hq 13 0) (fun c1 => ?_) (fun c1 => ?_)
  · refine lv_iconst (v := nI 0) hx hb dX9_part_12 (by decide +kernel) ?_
    refine lv_iconst (v := nI 1) hx hb dX9_part_13 (by decide +kernel) ?_
    refine um_calli (va_runV (As := [.int (nI (0)), .int (nI (1))]) (rest := []) ⟨hx, hb, hml, hown, htg⟩ (mm_fails l D κ τ A σ md q th h false 1) (cwV 2 htg (lw_cV tg_698 tg_700 slX9_fails tg_8 tg_701) rfl rfl rfl (by decide +kernel) ⟨Nat.le_of_ble_eq_true rfl, Nat.le_of_ble_eq_true rfl⟩) (um_preV hU hK hJ h.obj rfl) rfl rfl hl.1 rfl (lv_room (Nat.le_of_ble_eq_true rfl)) dX9_part_14 ⟨Nat.le_of_ble_eq_true rfl, Nat.le_of_ble_eq_true rfl⟩) hU (fun r9 σ H locs h hU => ?_)
    obtain ⟨rfl, h⟩ := h
    refine um_eqB (tgt := 21) hx hb dX9_part_17 (by decide) (fun _ => ?_) (fun h => by cases h)
    refine lv_aload_n hx hb dX9_part_21 rfl (lv_at hl 0 rfl) ?_
    refine lv_aload_n hx hb dX9_part_22 rfl (lv_at hl 0 rfl) ?_
    refine um_get (v := .int (nI (q 13 0 - 1))) hx hb htg inX9 hown hK hU h.obj rfl 10 (by decide) (htg _ tg_648) (by show some (Value.int (tb_m1 (q 13 0))) = _; rw [tb_m1_p c1]) dX9_part_23 ?_
    refine um_callv (va_runV (As := [.int (nI (q 13 0 - 1))]) (rest := []) ⟨hx, hb, hml, hown, htg⟩ (mm_keep l D κ τ A σ md q (if false = true then 1 else 0) h (q 13 0 - 1) (by omega)) (cwV 1 htg (lw_cV tg_730 tg_732 slX9_keep tg_8 tg_733) rfl rfl rfl (by decide +kernel) ⟨Nat.le_of_ble_eq_true rfl, Nat.le_of_ble_eq_true rfl⟩) (um_preV hU hK hJ h.obj rfl) rfl rfl hl.1 rfl (lv_room (Nat.le_of_ble_eq_true rfl)) dX9_part_26 ⟨Nat.le_of_ble_eq_true rfl, Nat.le_of_ble_eq_true rfl⟩) hU (fun σ H locs h hU => ?_)
    refine lv_aload_n hx hb dX9_part_29 rfl (lv_at hl 0 rfl) ?_
    refine lv_aload_n hx hb dX9_part_30 rfl (lv_at hl 0 rfl) ?_
    refine um_get (v := .int (nI (q 13 1 - 1))) hx hb htg inX9 hown hK hU h.obj rfl 11 (by decide) (htg _ tg_649) (by show some (Value.int (tb_m1 (tb_keep q (q 13 0 - 1) 13 1))) = _; rw [tb_keep_n (by decide), tb_m1_p (fun z => c1 (h2.mpr z))]) dX9_part_31 ?_
    refine um_callv (va_runV (As := [.int (nI (q 13 1 - 1))]) (rest := []) ⟨hx, hb, hml, hown, htg⟩ (mm_keep l D κ τ A σ md (tb_keep q (q 13 0 - 1)) (if false = true then 1 else 0) h (q 13 1 - 1) (by omega)) (cwV 1 htg (lw_cV tg_730 tg_732 slX9_keep tg_8 tg_733) rfl rfl rfl (by decide +kernel) ⟨Nat.le_of_ble_eq_true rfl, Nat.le_of_ble_eq_true rfl⟩) (um_preV hU hK hJ h.obj rfl) rfl rfl hl.1 rfl (lv_room (Nat.le_of_ble_eq_true rfl)) dX9_part_34 ⟨Nat.le_of_ble_eq_true rfl, Nat.le_of_ble_eq_true rfl⟩) hU (fun σ H locs h hU => ?_)
    refine lv_aload_n hx hb dX9_part_37 rfl (lv_at hl 0 rfl) ?_
    refine um_callv (va_runV (As := []) (rest := []) ⟨hx, hb, hml, hown, htg⟩ (mm_ends l D κ τ A σ md (tb_keep (tb_keep q (q 13 0 - 1)) (q 13 1 - 1)) (if false = true then 1 else 0) h) (cwV 0 htg (lw_cV tg_792 tg_794 slX9_ends tg_8 tg_795) rfl rfl rfl (by decide +kernel) ⟨Nat.le_of_ble_eq_true rfl, Nat.le_of_ble_eq_true rfl⟩) (um_preV hU hK hJ h.obj rfl) rfl rfl hl.1 rfl (lv_room (Nat.le_of_ble_eq_true rfl)) dX9_part_38 ⟨Nat.le_of_ble_eq_true rfl, Nat.le_of_ble_eq_true rfl⟩) hU (fun σ H locs h hU => ?_)
    exact um_vret hx hb hr hlocks hK hJ hU dX9_part_41 (by rw [show (tbQ_part q) = (tb_ends (tb_keep (tb_keep q (q 13 0 - 1)) (q 13 1 - 1))) from by simp [tbT_part, tbQ_part, c1]]; rw [show (tbT_part q) = (if false = true then 1 else 0) from by simp [tbT_part, tbQ_part, c1]]; exact h)
  · refine lv_iconst (v := nI 1) hx hb dX9_part_8 (by decide +kernel) ?_
    refine lv_goto (tgt := 13) hx hb dX9_part_9 (by decide) ?_
    refine lv_iconst (v := nI 1) hx hb dX9_part_13 (by decide +kernel) ?_
    refine um_calli (va_runV (As := [.int (nI (1)), .int (nI (1))]) (rest := []) ⟨hx, hb, hml, hown, htg⟩ (mm_fails l D κ τ A σ md q th h true 1) (cwV 2 htg (lw_cV tg_698 tg_700 slX9_fails tg_8 tg_701) rfl rfl rfl (by decide +kernel) ⟨Nat.le_of_ble_eq_true rfl, Nat.le_of_ble_eq_true rfl⟩) (um_preV hU hK hJ h.obj rfl) rfl rfl hl.1 rfl (lv_room (Nat.le_of_ble_eq_true rfl)) dX9_part_14 ⟨Nat.le_of_ble_eq_true rfl, Nat.le_of_ble_eq_true rfl⟩) hU (fun r9 σ H locs h hU => ?_)
    obtain ⟨rfl, h⟩ := h
    refine um_eqB (tgt := 21) hx hb dX9_part_17 (by decide) (fun h => by cases h) (fun _ => ?_)
    exact um_vret hx hb hr hlocks hK hJ hU dX9_part_20 (by rw [show (tbQ_part q) = q from by simp [tbT_part, tbQ_part, c1]]; rw [show (tbT_part q) = (if true = true then 1 else 0) from by simp [tbT_part, tbQ_part, c1]]; exact h)

set_option maxRecDepth 100000 in
set_option maxHeartbeats 4000000 in
theorem mm_crash (l : Launch) (D : va_G) (κ : Nat → ClassId) (τ : Nat → Nat) (A : Nat → Prop) (σ : um_M) (md : Nat → Nat) (q : tb_Q) (th : Nat) (h : md_at κ σ md q th) (hq : tb_sm q) (h0 : q 13 0 ≤ 5) (h1 : q 13 1 ≤ 5) (h2 : q 13 0 = 0 ↔ q 13 1 = 0) (x0 : Int32) : Met l yX9_crash wsX9_crash ({ frames := 1, cells := 0, slots := 0, locals := 22 }) (va_Pc [.ref (md 13), .int (x0)] (um_U D κ τ A σ)) (va_Qv (fun σ' : um_M => md_at κ σ' md (tbQ_crash q x0) (tbT_crash x0)) (um_U D κ τ A) A) 0 0 A := by
  refine um_met (cc := cX9_crash) (maxL := 3) (ret := none) (by decide) rfl rfl ?_
  intro pp ee s mm args below meth cd ls hx hb hr hts hown hlocks hml hnm hK hJ hU hl
  have hown : s.vm.findClass RX9 = some mm.cls := hown
  have htg : ∀ w ∈ lw_g, w.before args s = true := fun w h => hts w (List.mem_cons_of_mem _ h)
  have hl : lv_has ls 3 [(0, .ref (md 13)), (1, .int (x0))] := hl
  have L1 : ∀ (nf : Nat) (d : Nat) (i : Nat) (ls : Array Slot) (σ : um_M) (H : Heap) (locs : List Loc), 5 - i < nf → i ≤ 5 → d < 5 → x0 = nI d → tb_in x0 (nI 0) (nI 4) = true → md_at κ σ md (tb_fo (tb_crF d) (tb_crM q d) i) (if false = true then 1 else 0) → um_S D vwCl A s σ H locs → lv_has ls 3 [(0, .ref (md 13)), (1, .int (nI (d))), (2, .int (nI (i)))] → W pp l ee ({ frames := 1, cells := 0, slots := 0, locals := 22 }) s mm args below meth cd H locs 0 0 (MQ below (va_Qv (fun σ' : um_M => md_at κ σ' md (tbQ_crash q x0) (tbT_crash x0)) (um_U D κ τ A) A) args s 0 0 A) (F0 mm 68 ls []) := by
    intro nf
    induction nf with
    | zero => intro d i ls σ H locs hnf; exact absurd hnf (Nat.not_lt_zero _)
    | succ nf ih =>
      intro d i ls σ H locs hnf z1 z2 z3 z4 h hU hl
      refine lv_iload_n hx hb dX9_crash_68 rfl (lv_at hl 2 rfl) ?_
      refine lv_iconst (v := nI 5) hx hb dX9_crash_69 (by decide +kernel) ?_
      refine um_geN (tgt := 113) hx hb dX9_crash_70 (by decide) (by omega) (by decide) (fun c1 => ?_) (fun c1 => ?_)
      · exact um_vret hx hb hr hlocks hK hJ hU dX9_crash_113 (by rw [show tbQ_crash q x0 = tb_fo (tb_crF d) (tb_crM q d) i from by rw [tbQ_crash, if_pos z4, z3, nI_clamp (by omega), show i = 5 by omega]; rfl, show tbT_crash x0 = if false = true then 1 else 0 from by rw [tbT_crash, if_pos z4]; rfl]; exact h)
      · refine lv_aload_n hx hb dX9_crash_73 rfl (lv_at hl 0 rfl) ?_
        refine um_get (v := .ref (md 7)) hx hb htg inX9 hown hK hU h.obj rfl 8 (by decide) (htg _ tg_646) rfl dX9_crash_74 ?_
        refine lv_iconst (v := nI 5) hx hb dX9_crash_77 (by decide +kernel) ?_
        refine lv_iload_n hx hb dX9_crash_78 rfl (lv_at hl 1 rfl) ?_
        refine um_mulN hx hb dX9_crash_79 ?_
        refine lv_iload_n hx hb dX9_crash_80 rfl (lv_at hl 2 rfl) ?_
        refine um_addN hx hb dX9_crash_81 ?_
        refine lv_iload_n hx hb dX9_crash_82 rfl (lv_at hl 2 rfl) ?_
        refine lv_iload_n hx hb dX9_crash_83 rfl (lv_at hl 1 rfl) ?_
        refine um_neN (tgt := 96) hx hb dX9_crash_84 (by decide) (by omega) (by omega) (fun c2 => ?_) (fun c2 => ?_)
        · refine lv_aload_n hx hb dX9_crash_96 rfl (lv_at hl 0 rfl) ?_
          refine um_get (v := .ref (md 8)) hx hb htg inX9 hown hK hU h.obj rfl 9 (by decide) (htg _ tg_647) rfl dX9_crash_97 ?_
          refine lv_iconst (v := nI 5) hx hb dX9_crash_100 (by decide +kernel) ?_
          refine lv_iload_n hx hb dX9_crash_101 rfl (lv_at hl 1 rfl) ?_
          refine um_mulN hx hb dX9_crash_102 ?_
          refine lv_iload_n hx hb dX9_crash_103 rfl (lv_at hl 2 rfl) ?_
          refine um_addN hx hb dX9_crash_104 ?_
          refine md_ild hx hb hK hU h 8 ((5 * d) + i) (by decide) (show (5 * d) + i < 25 from by omega) dX9_crash_105 ?_
          refine md_ist hx hb hK hU h 7 ((5 * d) + i) ((tb_fo (tb_crF d) (tb_crM q d) i) 8 ((5 * d) + i)) (by decide) (show (5 * d) + i < 25 by omega) dX9_crash_106 (fun σ H locs h hU => ?_)
          refine lv_iinc (k := 2) (v := nI (i + 1)) (lv' := [(2, .int (nI (i + 1))), (0, .ref (md 13)), (1, .int (nI (d)))]) hx hb dX9_crash_107 hl rfl (nI_add _ _) (by decide) rfl (fun ls hl => ?_)
          refine lv_goto (tgt := 68) hx hb dX9_crash_110 (by decide) ?_
          have hl : lv_has ls 3 [(0, .ref (md 13)), (1, .int (nI (d))), (2, .int (nI ((i + 1))))] := lv_sub hl [1, 2, 0] rfl
          have h : md_at κ σ md (tb_fo (tb_crF d) (tb_crM q d) (i + 1)) (if false = true then 1 else 0) := by
            rw [show (tb_fo (tb_crF d) (tb_crM q d) (i + 1)) = (tb_set (tb_fo (tb_crF d) (tb_crM q d) i) 7 ((5 * d) + i) ((tb_fo (tb_crF d) (tb_crM q d) i) 8 ((5 * d) + i))) from (by show tb_set (tb_fo (tb_crF d) (tb_crM q d) i) 7 (5 * d + i) (if i = d then (tb_fo (tb_crF d) (tb_crM q d) i) 0 i else (tb_fo (tb_crF d) (tb_crM q d) i) 8 (5 * d + i)) = _; rw [if_neg c2])]
            exact h
          exact ih d (i + 1) ls _ _ _ (by omega) (by omega) z2 z3 z4 h hU hl
        · refine lv_aload_n hx hb dX9_crash_87 rfl (lv_at hl 0 rfl) ?_
          refine um_get (v := .ref (md 0)) hx hb htg inX9 hown hK hU h.obj rfl 1 (by decide) (htg _ tg_639) rfl dX9_crash_88 ?_
          refine lv_iload_n hx hb dX9_crash_91 rfl (lv_at hl 2 rfl) ?_
          refine md_ild hx hb hK hU h 0 i (by decide) (show i < 5 from by omega) dX9_crash_92 ?_
          refine lv_goto (tgt := 106) hx hb dX9_crash_93 (by decide) ?_
          refine md_ist hx hb hK hU h 7 ((5 * d) + i) ((tb_fo (tb_crF d) (tb_crM q d) i) 0 i) (by decide) (show (5 * d) + i < 25 by omega) dX9_crash_106 (fun σ H locs h hU => ?_)
          refine lv_iinc (k := 2) (v := nI (i + 1)) (lv' := [(2, .int (nI (i + 1))), (0, .ref (md 13)), (1, .int (nI (d)))]) hx hb dX9_crash_107 hl rfl (nI_add _ _) (by decide) rfl (fun ls hl => ?_)
          refine lv_goto (tgt := 68) hx hb dX9_crash_110 (by decide) ?_
          have hl : lv_has ls 3 [(0, .ref (md 13)), (1, .int (nI (d))), (2, .int (nI ((i + 1))))] := lv_sub hl [1, 2, 0] rfl
          have h : md_at κ σ md (tb_fo (tb_crF d) (tb_crM q d) (i + 1)) (if false = true then 1 else 0) := by
            rw [show (tb_fo (tb_crF d) (tb_crM q d) (i + 1)) = (tb_set (tb_fo (tb_crF d) (tb_crM q d) i) 7 ((5 * d) + i) ((tb_fo (tb_crF d) (tb_crM q d) i) 0 i)) from (by show tb_set (tb_fo (tb_crF d) (tb_crM q d) i) 7 (5 * d + i) (if i = d then (tb_fo (tb_crF d) (tb_crM q d) i) 0 i else (tb_fo (tb_crF d) (tb_crM q d) i) 8 (5 * d + i)) = _; rw [if_pos c2])]
            exact h
          exact ih d (i + 1) ls _ _ _ (by omega) (by omega) z2 z3 z4 h hU hl
  refine lv_aload_n hx hb dX9_crash_0 rfl (lv_at hl 0 rfl) ?_
  refine lv_iload_n hx hb dX9_crash_1 rfl (lv_at hl 1 rfl) ?_
  refine lv_iconst (v := nI 0) hx hb dX9_crash_2 (by decide +kernel) ?_
  refine lv_iconst (v := nI 4) hx hb dX9_crash_3 (by decide +kernel) ?_
  refine um_callP (va_runS (As := [.int (x0), .int (nI (0)), .int (nI (4))]) (rest := [.ref (md 13)]) ⟨hx, hb, hml, hown, htg⟩ (mm_in l D κ τ A σ x0 (nI 0) (nI 4)) (cwS 3 htg (lw_cS tg_695 tg_696 tg_8 tg_697) rfl rfl rfl (by decide +kernel) ⟨Nat.le_of_ble_eq_true rfl, Nat.le_of_ble_eq_true rfl⟩) (um_preS hU hK hJ) rfl rfl hl.1 rfl (lv_room (Nat.le_of_ble_eq_true rfl)) dX9_crash_4 ⟨Nat.le_of_ble_eq_true rfl, Nat.le_of_ble_eq_true rfl⟩) hU (fun H locs hU => ?_)
  refine um_neB (tgt := 14) hx hb dX9_crash_7 (by decide) (fun c3 => ?_) (fun c3 => ?_)
  · refine lv_iconst (v := nI 0) hx hb dX9_crash_14 (by decide +kernel) ?_
    refine lv_iconst (v := nI 1) hx hb dX9_crash_15 (by decide +kernel) ?_
    refine um_calli (va_runV (As := [.int (nI (0)), .int (nI (1))]) (rest := []) ⟨hx, hb, hml, hown, htg⟩ (mm_fails l D κ τ A σ md q th h false 1) (cwV 2 htg (lw_cV tg_698 tg_700 slX9_fails tg_8 tg_701) rfl rfl rfl (by decide +kernel) ⟨Nat.le_of_ble_eq_true rfl, Nat.le_of_ble_eq_true rfl⟩) (um_preV hU hK hJ h.obj rfl) rfl rfl hl.1 rfl (lv_room (Nat.le_of_ble_eq_true rfl)) dX9_crash_16 ⟨Nat.le_of_ble_eq_true rfl, Nat.le_of_ble_eq_true rfl⟩) hU (fun r9 σ H locs h hU => ?_)
    obtain ⟨rfl, h⟩ := h
    refine um_eqB (tgt := 23) hx hb dX9_crash_19 (by decide) (fun _ => ?_) (fun h => by cases h)
    obtain ⟨j0, ha_j0, hb_j0, rfl⟩ := tb_inN (by decide) (by decide) c3
    have en_j0 : (nI j0).toNatClampNeg = j0 := nI_clamp (by omega)
    refine lv_iload_n hx hb dX9_crash_23 rfl (lv_at hl 1 rfl) ?_
    refine lv_aload_n hx hb dX9_crash_24 rfl (lv_at hl 0 rfl) ?_
    refine um_get (v := .int (tb_m1 (q 13 0))) hx hb htg inX9 hown hK hU h.obj rfl 10 (by decide) (htg _ tg_648) rfl dX9_crash_25 ?_
    refine um_eqNM (tgt := 39) hx hb dX9_crash_28 (by decide) (by omega) (tb_sm_lt hq 13 0) (fun c4 => ?_) (fun c4 => ?_)
    · refine lv_aload_n hx hb dX9_crash_39 rfl (lv_at hl 0 rfl) ?_
      refine lv_iload_n hx hb dX9_crash_40 rfl (lv_at hl 1 rfl) ?_
      refine lv_aload_n hx hb dX9_crash_41 rfl (lv_at hl 0 rfl) ?_
      refine um_get (v := .int (tb_m1 (q 13 0))) hx hb htg inX9 hown hK hU h.obj rfl 10 (by decide) (htg _ tg_648) rfl dX9_crash_42 ?_
      refine um_neNM (tgt := 55) hx hb dX9_crash_45 (by decide) (by omega) (tb_sm_lt hq 13 0) (fun c5 => ?_) (fun c5 => ?_)
      · exact absurd c4 c5
      · refine lv_aload_n hx hb dX9_crash_48 rfl (lv_at hl 0 rfl) ?_
        refine um_get (v := .int (nI (q 13 1 - 1))) hx hb htg inX9 hown hK hU h.obj rfl 11 (by decide) (htg _ tg_649) (by show some (Value.int (tb_m1 (q 13 1))) = _; rw [tb_m1_p (fun z => by have := h2.mpr z; omega)]) dX9_crash_49 ?_
        refine lv_goto (tgt := 59) hx hb dX9_crash_52 (by decide) ?_
        refine um_callv (va_runV (As := [.int (nI (q 13 1 - 1))]) (rest := []) ⟨hx, hb, hml, hown, htg⟩ (mm_keep l D κ τ A σ md q (if false = true then 1 else 0) h (q 13 1 - 1) (by omega)) (cwV 1 htg (lw_cV tg_730 tg_732 slX9_keep tg_8 tg_733) rfl rfl rfl (by decide +kernel) ⟨Nat.le_of_ble_eq_true rfl, Nat.le_of_ble_eq_true rfl⟩) (um_preV hU hK hJ h.obj rfl) rfl rfl hl.1 rfl (lv_room (Nat.le_of_ble_eq_true rfl)) dX9_crash_59 ⟨Nat.le_of_ble_eq_true rfl, Nat.le_of_ble_eq_true rfl⟩) hU (fun σ H locs h hU => ?_)
        refine lv_aload_n hx hb dX9_crash_62 rfl (lv_at hl 0 rfl) ?_
        refine um_callv (va_runV (As := []) (rest := []) ⟨hx, hb, hml, hown, htg⟩ (mm_ends l D κ τ A σ md (tb_keep q (q 13 1 - 1)) (if false = true then 1 else 0) h) (cwV 0 htg (lw_cV tg_792 tg_794 slX9_ends tg_8 tg_795) rfl rfl rfl (by decide +kernel) ⟨Nat.le_of_ble_eq_true rfl, Nat.le_of_ble_eq_true rfl⟩) (um_preV hU hK hJ h.obj rfl) rfl rfl hl.1 rfl (lv_room (Nat.le_of_ble_eq_true rfl)) dX9_crash_63 ⟨Nat.le_of_ble_eq_true rfl, Nat.le_of_ble_eq_true rfl⟩) hU (fun σ H locs h hU => ?_)
        refine lv_iconst (v := nI 0) hx hb dX9_crash_66 (by decide +kernel) ?_
        refine lv_istore_n (lv' := [(2, .int (nI (0))), (0, .ref (md 13)), (1, .int (nI (j0)))]) hx hb dX9_crash_67 rfl hl (by decide) rfl (fun ls hl => ?_)
        have hl : lv_has ls 3 [(0, .ref (md 13)), (1, .int (nI (j0))), (2, .int (nI (0)))] := lv_sub hl [1, 2, 0] rfl
        have h : md_at κ σ md (tb_fo (tb_crF j0) (tb_crM q j0) 0) (if false = true then 1 else 0) := by
          rw [show (tb_fo (tb_crF j0) (tb_crM q j0) 0) = (tb_ends (tb_keep q (q 13 1 - 1))) from by show tb_crM q j0 = _; unfold tb_crM; first | rw [if_pos (by assumption)] | rw [if_neg (by assumption), if_pos (by assumption)] | rw [if_neg (by assumption), if_neg (by assumption)]]
          exact h
        exact L1 6 j0 0 ls _ _ _ (by omega) (by omega) (by omega) rfl c3 h hU hl
    · refine lv_iload_n hx hb dX9_crash_31 rfl (lv_at hl 1 rfl) ?_
      refine lv_aload_n hx hb dX9_crash_32 rfl (lv_at hl 0 rfl) ?_
      refine um_get (v := .int (tb_m1 (q 13 1))) hx hb htg inX9 hown hK hU h.obj rfl 11 (by decide) (htg _ tg_649) rfl dX9_crash_33 ?_
      refine um_neNM (tgt := 66) hx hb dX9_crash_36 (by decide) (by omega) (tb_sm_lt hq 13 1) (fun c6 => ?_) (fun c6 => ?_)
      · refine lv_iconst (v := nI 0) hx hb dX9_crash_66 (by decide +kernel) ?_
        refine lv_istore_n (lv' := [(2, .int (nI (0))), (0, .ref (md 13)), (1, .int (nI (j0)))]) hx hb dX9_crash_67 rfl hl (by decide) rfl (fun ls hl => ?_)
        have hl : lv_has ls 3 [(0, .ref (md 13)), (1, .int (nI (j0))), (2, .int (nI (0)))] := lv_sub hl [1, 2, 0] rfl
        have h : md_at κ σ md (tb_fo (tb_crF j0) (tb_crM q j0) 0) (if false = true then 1 else 0) := by
          rw [show (tb_fo (tb_crF j0) (tb_crM q j0) 0) = q from by show tb_crM q j0 = _; unfold tb_crM; first | rw [if_pos (by assumption)] | rw [if_neg (by assumption), if_pos (by assumption)] | rw [if_neg (by assumption), if_neg (by assumption)]]
          exact h
        exact L1 6 j0 0 ls _ _ _ (by omega) (by omega) (by omega) rfl c3 h hU hl
      · refine lv_aload_n hx hb dX9_crash_39 rfl (lv_at hl 0 rfl) ?_
        refine lv_iload_n hx hb dX9_crash_40 rfl (lv_at hl 1 rfl) ?_
        refine lv_aload_n hx hb dX9_crash_41 rfl (lv_at hl 0 rfl) ?_
        refine um_get (v := .int (tb_m1 (q 13 0))) hx hb htg inX9 hown hK hU h.obj rfl 10 (by decide) (htg _ tg_648) rfl dX9_crash_42 ?_
        refine um_neNM (tgt := 55) hx hb dX9_crash_45 (by decide) (by omega) (tb_sm_lt hq 13 0) (fun c7 => ?_) (fun c7 => ?_)
        · refine lv_aload_n hx hb dX9_crash_55 rfl (lv_at hl 0 rfl) ?_
          refine um_get (v := .int (nI (q 13 0 - 1))) hx hb htg inX9 hown hK hU h.obj rfl 10 (by decide) (htg _ tg_648) (by show some (Value.int (tb_m1 (q 13 0))) = _; rw [tb_m1_p (fun z => by have := h2.mp z; omega)]) dX9_crash_56 ?_
          refine um_callv (va_runV (As := [.int (nI (q 13 0 - 1))]) (rest := []) ⟨hx, hb, hml, hown, htg⟩ (mm_keep l D κ τ A σ md q (if false = true then 1 else 0) h (q 13 0 - 1) (by omega)) (cwV 1 htg (lw_cV tg_730 tg_732 slX9_keep tg_8 tg_733) rfl rfl rfl (by decide +kernel) ⟨Nat.le_of_ble_eq_true rfl, Nat.le_of_ble_eq_true rfl⟩) (um_preV hU hK hJ h.obj rfl) rfl rfl hl.1 rfl (lv_room (Nat.le_of_ble_eq_true rfl)) dX9_crash_59 ⟨Nat.le_of_ble_eq_true rfl, Nat.le_of_ble_eq_true rfl⟩) hU (fun σ H locs h hU => ?_)
          refine lv_aload_n hx hb dX9_crash_62 rfl (lv_at hl 0 rfl) ?_
          refine um_callv (va_runV (As := []) (rest := []) ⟨hx, hb, hml, hown, htg⟩ (mm_ends l D κ τ A σ md (tb_keep q (q 13 0 - 1)) (if false = true then 1 else 0) h) (cwV 0 htg (lw_cV tg_792 tg_794 slX9_ends tg_8 tg_795) rfl rfl rfl (by decide +kernel) ⟨Nat.le_of_ble_eq_true rfl, Nat.le_of_ble_eq_true rfl⟩) (um_preV hU hK hJ h.obj rfl) rfl rfl hl.1 rfl (lv_room (Nat.le_of_ble_eq_true rfl)) dX9_crash_63 ⟨Nat.le_of_ble_eq_true rfl, Nat.le_of_ble_eq_true rfl⟩) hU (fun σ H locs h hU => ?_)
          refine lv_iconst (v := nI 0) hx hb dX9_crash_66 (by decide +kernel) ?_
          refine lv_istore_n (lv' := [(2, .int (nI (0))), (0, .ref (md 13)), (1, .int (nI (j0)))]) hx hb dX9_crash_67 rfl hl (by decide) rfl (fun ls hl => ?_)
          have hl : lv_has ls 3 [(0, .ref (md 13)), (1, .int (nI (j0))), (2, .int (nI (0)))] := lv_sub hl [1, 2, 0] rfl
          have h : md_at κ σ md (tb_fo (tb_crF j0) (tb_crM q j0) 0) (if false = true then 1 else 0) := by
            rw [show (tb_fo (tb_crF j0) (tb_crM q j0) 0) = (tb_ends (tb_keep q (q 13 0 - 1))) from by show tb_crM q j0 = _; unfold tb_crM; first | rw [if_pos (by assumption)] | rw [if_neg (by assumption), if_pos (by assumption)] | rw [if_neg (by assumption), if_neg (by assumption)]]
            exact h
          exact L1 6 j0 0 ls _ _ _ (by omega) (by omega) (by omega) rfl c3 h hU hl
        · exact absurd c7 c4
  · refine lv_iconst (v := nI 1) hx hb dX9_crash_10 (by decide +kernel) ?_
    refine lv_goto (tgt := 15) hx hb dX9_crash_11 (by decide) ?_
    refine lv_iconst (v := nI 1) hx hb dX9_crash_15 (by decide +kernel) ?_
    refine um_calli (va_runV (As := [.int (nI (1)), .int (nI (1))]) (rest := []) ⟨hx, hb, hml, hown, htg⟩ (mm_fails l D κ τ A σ md q th h true 1) (cwV 2 htg (lw_cV tg_698 tg_700 slX9_fails tg_8 tg_701) rfl rfl rfl (by decide +kernel) ⟨Nat.le_of_ble_eq_true rfl, Nat.le_of_ble_eq_true rfl⟩) (um_preV hU hK hJ h.obj rfl) rfl rfl hl.1 rfl (lv_room (Nat.le_of_ble_eq_true rfl)) dX9_crash_16 ⟨Nat.le_of_ble_eq_true rfl, Nat.le_of_ble_eq_true rfl⟩) hU (fun r9 σ H locs h hU => ?_)
    obtain ⟨rfl, h⟩ := h
    refine um_eqB (tgt := 23) hx hb dX9_crash_19 (by decide) (fun h => by cases h) (fun _ => ?_)
    exact um_vret hx hb hr hlocks hK hJ hU dX9_crash_22 (by rw [show tbQ_crash q x0 = q from by simp [tbQ_crash, c3], show tbT_crash x0 = if true = true then 1 else 0 from by simp [tbT_crash, c3]]; exact h)

set_option maxRecDepth 100000 in
set_option maxHeartbeats 4000000 in
theorem mm_resolve (l : Launch) (D : va_G) (κ : Nat → ClassId) (τ : Nat → Nat) (A : Nat → Prop) (σ : um_M) (md : Nat → Nat) (q : tb_Q) (th : Nat) (h : md_at κ σ md q th) (hq : tb_sm q) (hm : ∀ d, q 0 d ≤ 40) (x0 x1 : Int32) : Met l yX9_resolve wsX9_resolve ({ frames := 7, cells := 0, slots := 0, locals := 174 }) (va_Pc [.ref (md 13), .int (x0), .int (x1)] (um_U D κ τ A σ)) (va_Qi (fun (r9 : Int32) (σ' : um_M) => r9 = nI (tbA_resolve q x0 x1) ∧ md_at κ σ' md (tbQ_resolve q x0 x1) (tbT_resolve q x0 x1)) (um_U D κ τ A) A) 0 0 A := by
  refine um_met (cc := cX9_resolve) (maxL := 7) (ret := (some .int)) (by decide) rfl rfl ?_
  intro pp ee s mm args below meth cd ls hx hb hr hts hown hlocks hml hnm hK hJ hU hl
  have hown : s.vm.findClass RX9 = some mm.cls := hown
  have htg : ∀ w ∈ lw_g, w.before args s = true := fun w h => hts w (List.mem_cons_of_mem _ h)
  have hl : lv_has ls 7 [(0, .ref (md 13)), (1, .int (x0)), (2, .int (x1))] := hl
  have hil := tb_inc_le q 0 x0 72
  have L1 : ∀ (nf : Nat) (i : Nat) (ls : Array Slot) (σ : um_M) (H : Heap) (locs : List Loc), 200 - i < nf → i ≤ 200 → ¬ tb_inc q 0 x0 72 = 0 → tb_isVx (nI ((tb_inc q 0 x0 72 - 1) % 3)) x1 = true → ¬ q 0 0 = 40 → md_at κ σ md q (if false = true then 3 else 0) → um_S D vwCl A s σ H locs → lv_has ls 7 [(0, .ref (md 13)), (2, .int (x1)), (3, .int (nI (tb_inc q 0 x0 72 - 1))), (5, .int (nI (tb_fo (tb_rsF q 0 ((tb_inc q 0 x0 72 - 1) / 12) ((tb_inc q 0 x0 72 - 1) % 12)) 0 i))), (6, .int (nI (i)))] → W pp l ee ({ frames := 7, cells := 0, slots := 0, locals := 174 }) s mm args below meth cd H locs 0 0 (MQ below (va_Qi (fun (r9 : Int32) (σ' : um_M) => r9 = nI (tbA_resolve q x0 x1) ∧ md_at κ σ' md (tbQ_resolve q x0 x1) (tbT_resolve q x0 x1)) (um_U D κ τ A) A) args s 0 0 A) (F0 mm 83 ls []) := by
    intro nf
    induction nf with
    | zero => intro i ls σ H locs hnf; exact absurd hnf (Nat.not_lt_zero _)
    | succ nf ih =>
      intro i ls σ H locs hnf z1 z2 z3 z4 h hU hl
      refine lv_iload hx hb dX9_resolve_83 (lv_at hl 4 rfl) ?_
      refine lv_sipush (v := nI 200) hx hb dX9_resolve_85 (by decide +kernel) ?_
      refine um_geN (tgt := 141) hx hb dX9_resolve_88 (by decide) (by omega) (by decide) (fun c1 => ?_) (fun c1 => ?_)
      · have hi2 : i = 200 := by omega
        subst hi2
        obtain ⟨j1, hb_j1, rfl⟩ := tb_isVN z3
        have en_j1 : (nI j1).toNatClampNeg = j1 := nI_clamp (by omega)
        refine lv_aload_n hx hb dX9_resolve_141 rfl (lv_at hl 0 rfl) ?_
        refine lv_iconst (v := nI 0) hx hb dX9_resolve_142 (by decide +kernel) ?_
        refine lv_iconst (v := nI 2) hx hb dX9_resolve_143 (by decide +kernel) ?_
        refine lv_iload_n hx hb dX9_resolve_144 rfl (lv_at hl 2 rfl) ?_
        refine lv_bipush (v := nI 12) hx hb dX9_resolve_145 (by decide +kernel) ?_
        refine um_divN hx hb dX9_resolve_147 (by omega) (by decide) (by decide) ?_
        refine lv_iload_n hx hb dX9_resolve_148 rfl (lv_at hl 2 rfl) ?_
        refine lv_bipush (v := nI 12) hx hb dX9_resolve_149 (by decide +kernel) ?_
        refine um_remN hx hb dX9_resolve_151 (by omega) (by decide) (by decide) ?_
        refine lv_iload_n hx hb dX9_resolve_152 rfl (lv_at hl 1 rfl) ?_
        refine lv_iload hx hb dX9_resolve_153 (lv_at hl 3 rfl) ?_
        refine lv_iconst (v := nI 1) hx hb dX9_resolve_155 (by decide +kernel) ?_
        refine um_addN hx hb dX9_resolve_156 ?_
        refine um_calli (va_runV (As := [.int (nI (0)), .int (nI (2)), .int (nI ((tb_inc q 0 x0 72 - 1) / 12)), .int (nI ((tb_inc q 0 x0 72 - 1) % 12)), .int (nI (j1)), .int (nI ((tb_fo (tb_rsF q 0 ((tb_inc q 0 x0 72 - 1) / 12) ((tb_inc q 0 x0 72 - 1) % 12)) 0 200) + 1))]) (rest := []) ⟨hx, hb, hml, hown, htg⟩ (mm_enters l D κ τ A σ md q (if false = true then 3 else 0) h 0 2 ((tb_inc q 0 x0 72 - 1) / 12) ((tb_inc q 0 x0 72 - 1) % 12) j1 ((tb_fo (tb_rsF q 0 ((tb_inc q 0 x0 72 - 1) / 12) ((tb_inc q 0 x0 72 - 1) % 12)) 0 200) + 1) (by omega) (by have := hm 0; omega)) (cwV 6 htg (lw_cV tg_726 tg_728 slX9_enters tg_8 tg_729) rfl rfl rfl (by decide +kernel) ⟨Nat.le_of_ble_eq_true rfl, Nat.le_of_ble_eq_true rfl⟩) (um_preV hU hK hJ h.obj rfl) rfl rfl hl.1 rfl (lv_room (Nat.le_of_ble_eq_true rfl)) dX9_resolve_157 ⟨Nat.le_of_ble_eq_true rfl, Nat.le_of_ble_eq_true rfl⟩) hU (fun r9 σ H locs h hU => ?_)
        obtain ⟨rfl, h⟩ := h
        exact um_iret hx hb hr hlocks hK hJ hU dX9_resolve_160 ⟨congrArg nI (by simp [tbT_resolve, tbA_resolve, tbQ_resolve, tb_top, c1, en_j1, z2, z3, z4]), (by rw [show (tbQ_resolve q x0 (nI j1)) = (tb_ent q 0 2 ((tb_inc q 0 x0 72 - 1) / 12) ((tb_inc q 0 x0 72 - 1) % 12) j1 ((tb_fo (tb_rsF q 0 ((tb_inc q 0 x0 72 - 1) / 12) ((tb_inc q 0 x0 72 - 1) % 12)) 0 200) + 1)) from by simp [tbT_resolve, tbA_resolve, tbQ_resolve, tb_top, c1, en_j1, z2, z3, z4]]; rw [show (tbT_resolve q x0 (nI j1)) = (if false = true then 3 else 0) from by simp [tbT_resolve, tbA_resolve, tbQ_resolve, tb_top, c1, en_j1, z2, z3, z4]]; exact h)⟩
      · refine lv_aload_n hx hb dX9_resolve_91 rfl (lv_at hl 0 rfl) ?_
        refine lv_iconst (v := nI 0) hx hb dX9_resolve_92 (by decide +kernel) ?_
        refine lv_iload_n hx hb dX9_resolve_93 rfl (lv_at hl 2 rfl) ?_
        refine lv_bipush (v := nI 12) hx hb dX9_resolve_94 (by decide +kernel) ?_
        refine um_divN hx hb dX9_resolve_96 (by omega) (by decide) (by decide) ?_
        refine lv_iload_n hx hb dX9_resolve_97 rfl (lv_at hl 2 rfl) ?_
        refine lv_bipush (v := nI 12) hx hb dX9_resolve_98 (by decide +kernel) ?_
        refine um_remN hx hb dX9_resolve_100 (by omega) (by decide) (by decide) ?_
        refine lv_iload hx hb dX9_resolve_101 (lv_at hl 4 rfl) ?_
        refine um_callP (va_runV (As := [.int (nI (0)), .int (nI ((tb_inc q 0 x0 72 - 1) / 12)), .int (nI ((tb_inc q 0 x0 72 - 1) % 12)), .int (nI (i))]) (rest := []) ⟨hx, hb, hml, hown, htg⟩ (mm_isOf l D κ τ A σ md q (if false = true then 3 else 0) h hq 0 ((tb_inc q 0 x0 72 - 1) / 12) ((tb_inc q 0 x0 72 - 1) % 12) i (by omega) (by omega) (by omega) (by omega)) (cwV 4 htg (lw_cV tg_772 tg_774 slX9_isOf tg_8 tg_775) rfl rfl rfl (by decide +kernel) ⟨Nat.le_of_ble_eq_true rfl, Nat.le_of_ble_eq_true rfl⟩) (um_preV hU hK hJ h.obj rfl) rfl rfl hl.1 rfl (lv_room (Nat.le_of_ble_eq_true rfl)) dX9_resolve_103 ⟨Nat.le_of_ble_eq_true rfl, Nat.le_of_ble_eq_true rfl⟩) hU (fun H locs hU => ?_)
        refine um_eqB (tgt := 131) hx hb dX9_resolve_106 (by decide) (fun c2 => ?_) (fun c2 => ?_)
        · refine lv_iload hx hb dX9_resolve_131 (lv_at hl 3 rfl) ?_
          refine lv_istore (lv' := [(5, .int (nI (tb_fo (tb_rsF q 0 ((tb_inc q 0 x0 72 - 1) / 12) ((tb_inc q 0 x0 72 - 1) % 12)) 0 i))), (0, .ref (md 13)), (2, .int (x1)), (3, .int (nI (tb_inc q 0 x0 72 - 1))), (6, .int (nI (i)))]) hx hb dX9_resolve_133 hl (by decide) rfl (fun ls hl => ?_)
          refine lv_iinc (k := 4) (v := nI (i + 1)) (lv' := [(6, .int (nI (i + 1))), (5, .int (nI (tb_fo (tb_rsF q 0 ((tb_inc q 0 x0 72 - 1) / 12) ((tb_inc q 0 x0 72 - 1) % 12)) 0 i))), (0, .ref (md 13)), (2, .int (x1)), (3, .int (nI (tb_inc q 0 x0 72 - 1)))]) hx hb dX9_resolve_135 hl rfl (nI_add _ _) (by decide) rfl (fun ls hl => ?_)
          refine lv_goto (tgt := 83) hx hb dX9_resolve_138 (by decide) ?_
          have hl : lv_has ls 7 [(0, .ref (md 13)), (2, .int (x1)), (3, .int (nI (tb_inc q 0 x0 72 - 1))), (5, .int (nI (tb_fo (tb_rsF q 0 ((tb_inc q 0 x0 72 - 1) / 12) ((tb_inc q 0 x0 72 - 1) % 12)) 0 (i + 1)))), (6, .int (nI ((i + 1))))] := by
            rw [show (tb_fo (tb_rsF q 0 ((tb_inc q 0 x0 72 - 1) / 12) ((tb_inc q 0 x0 72 - 1) % 12)) 0 (i + 1)) = (tb_fo (tb_rsF q 0 ((tb_inc q 0 x0 72 - 1) / 12) ((tb_inc q 0 x0 72 - 1) % 12)) 0 i) from by first | rfl | simp [tb_fo_s, tb_rsF, c1, c2]]
            exact lv_sub hl [2, 3, 4, 1, 0] rfl
          exact ih (i + 1) ls _ _ _ (by omega) (by omega) z2 z3 z4 h hU hl
        · refine lv_aload_n hx hb dX9_resolve_109 rfl (lv_at hl 0 rfl) ?_
          refine um_get (v := .ref (md 5)) hx hb htg inX9 hown hK hU h.obj rfl 6 (by decide) (htg _ tg_644) rfl dX9_resolve_110 ?_
          refine lv_iload hx hb dX9_resolve_113 (lv_at hl 4 rfl) ?_
          refine md_ild hx hb hK hU h 5 i (by decide) (show i < 200 from by omega) dX9_resolve_115 ?_
          refine lv_iload hx hb dX9_resolve_116 (lv_at hl 3 rfl) ?_
          refine um_leN (tgt := 131) hx hb dX9_resolve_118 (by decide) (tb_sm_lt hq 5 _) (tb_top_lt hq _ _ _ i) (fun c3 => ?_) (fun c3 => ?_)
          · refine lv_iload hx hb dX9_resolve_131 (lv_at hl 3 rfl) ?_
            refine lv_istore (lv' := [(5, .int (nI (tb_fo (tb_rsF q 0 ((tb_inc q 0 x0 72 - 1) / 12) ((tb_inc q 0 x0 72 - 1) % 12)) 0 i))), (0, .ref (md 13)), (2, .int (x1)), (3, .int (nI (tb_inc q 0 x0 72 - 1))), (6, .int (nI (i)))]) hx hb dX9_resolve_133 hl (by decide) rfl (fun ls hl => ?_)
            refine lv_iinc (k := 4) (v := nI (i + 1)) (lv' := [(6, .int (nI (i + 1))), (5, .int (nI (tb_fo (tb_rsF q 0 ((tb_inc q 0 x0 72 - 1) / 12) ((tb_inc q 0 x0 72 - 1) % 12)) 0 i))), (0, .ref (md 13)), (2, .int (x1)), (3, .int (nI (tb_inc q 0 x0 72 - 1)))]) hx hb dX9_resolve_135 hl rfl (nI_add _ _) (by decide) rfl (fun ls hl => ?_)
            refine lv_goto (tgt := 83) hx hb dX9_resolve_138 (by decide) ?_
            have hl : lv_has ls 7 [(0, .ref (md 13)), (2, .int (x1)), (3, .int (nI (tb_inc q 0 x0 72 - 1))), (5, .int (nI (tb_fo (tb_rsF q 0 ((tb_inc q 0 x0 72 - 1) / 12) ((tb_inc q 0 x0 72 - 1) % 12)) 0 (i + 1)))), (6, .int (nI ((i + 1))))] := by
              rw [show (tb_fo (tb_rsF q 0 ((tb_inc q 0 x0 72 - 1) / 12) ((tb_inc q 0 x0 72 - 1) % 12)) 0 (i + 1)) = (tb_fo (tb_rsF q 0 ((tb_inc q 0 x0 72 - 1) / 12) ((tb_inc q 0 x0 72 - 1) % 12)) 0 i) from by first | rfl | simp [tb_fo_s, tb_rsF, c1, c2, c3]]
              exact lv_sub hl [2, 3, 4, 1, 0] rfl
            exact ih (i + 1) ls _ _ _ (by omega) (by omega) z2 z3 z4 h hU hl
          · refine lv_aload_n hx hb dX9_resolve_121 rfl (lv_at hl 0 rfl) ?_
            refine um_get (v := .ref (md 5)) hx hb htg inX9 hown hK hU h.obj rfl 6 (by decide) (htg _ tg_644) rfl dX9_resolve_122 ?_
            refine lv_iload hx hb dX9_resolve_125 (lv_at hl 4 rfl) ?_
            refine md_ild hx hb hK hU h 5 i (by decide) (show i < 200 from by omega) dX9_resolve_127 ?_
            refine lv_goto (tgt := 133) hx hb dX9_resolve_128 (by decide) ?_
            refine lv_istore (lv' := [(5, .int (nI (q 5 i))), (0, .ref (md 13)), (2, .int (x1)), (3, .int (nI (tb_inc q 0 x0 72 - 1))), (6, .int (nI (i)))]) hx hb dX9_resolve_133 hl (by decide) rfl (fun ls hl => ?_)
            refine lv_iinc (k := 4) (v := nI (i + 1)) (lv' := [(6, .int (nI (i + 1))), (5, .int (nI (q 5 i))), (0, .ref (md 13)), (2, .int (x1)), (3, .int (nI (tb_inc q 0 x0 72 - 1)))]) hx hb dX9_resolve_135 hl rfl (nI_add _ _) (by decide) rfl (fun ls hl => ?_)
            refine lv_goto (tgt := 83) hx hb dX9_resolve_138 (by decide) ?_
            have hl : lv_has ls 7 [(0, .ref (md 13)), (2, .int (x1)), (3, .int (nI (tb_inc q 0 x0 72 - 1))), (5, .int (nI (tb_fo (tb_rsF q 0 ((tb_inc q 0 x0 72 - 1) / 12) ((tb_inc q 0 x0 72 - 1) % 12)) 0 (i + 1)))), (6, .int (nI ((i + 1))))] := by
              rw [show (tb_fo (tb_rsF q 0 ((tb_inc q 0 x0 72 - 1) / 12) ((tb_inc q 0 x0 72 - 1) % 12)) 0 (i + 1)) = (q 5 i) from by first | rfl | simp [tb_fo_s, tb_rsF, c1, c2, c3]]
              exact lv_sub hl [2, 3, 4, 1, 0] rfl
            exact ih (i + 1) ls _ _ _ (by omega) (by omega) z2 z3 z4 h hU hl
  refine lv_aload_n hx hb dX9_resolve_0 rfl (lv_at hl 0 rfl) ?_
  refine lv_iconst (v := nI 0) hx hb dX9_resolve_1 (by decide +kernel) ?_
  refine lv_iload_n hx hb dX9_resolve_2 rfl (lv_at hl 1 rfl) ?_
  refine um_callP (va_runV (As := [.int (nI (0)), .int (x0)]) (rest := []) ⟨hx, hb, hml, hown, htg⟩ (mm_inConflict l D κ τ A σ md q th h hq 0 x0 (by omega)) (cwV 2 htg (lw_cV tg_752 tg_754 slX9_inConflict tg_8 tg_755) rfl rfl rfl (by decide +kernel) ⟨Nat.le_of_ble_eq_true rfl, Nat.le_of_ble_eq_true rfl⟩) (um_preV hU hK hJ h.obj rfl) rfl rfl hl.1 rfl (lv_room (Nat.le_of_ble_eq_true rfl)) dX9_resolve_3 ⟨Nat.le_of_ble_eq_true rfl, Nat.le_of_ble_eq_true rfl⟩) hU (fun H locs hU => ?_)
  refine lv_istore_n (lv' := [(3, .int (tb_m1 (tb_inc q 0 x0 72))), (0, .ref (md 13)), (1, .int (x0)), (2, .int (x1))]) hx hb dX9_resolve_6 rfl hl (by decide) rfl (fun ls hl => ?_)
  refine lv_iload_n hx hb dX9_resolve_7 rfl (lv_at hl 0 rfl) ?_
  refine um_geM (tgt := 15) hx hb dX9_resolve_8 (by decide) (Nat.lt_of_le_of_lt (tb_inc_le q _ _ 72) (by decide)) (fun c4 => ?_) (fun c4 => ?_)
  · refine lv_iconst (v := nI 0) hx hb dX9_resolve_15 (by decide +kernel) ?_
    refine lv_istore (lv' := [(4, .int (nI (0))), (3, .int (tb_m1 (tb_inc q 0 x0 72))), (0, .ref (md 13)), (1, .int (x0)), (2, .int (x1))]) hx hb dX9_resolve_16 hl (by decide) rfl (fun ls hl => ?_)
    refine lv_aload_n hx hb dX9_resolve_18 rfl (lv_at hl 2 rfl) ?_
    refine lv_iload hx hb dX9_resolve_19 (lv_at hl 0 rfl) ?_
    refine lv_iconst (v := nI 1) hx hb dX9_resolve_21 (by decide +kernel) ?_
    refine um_calli (va_runV (As := [.int (nI (0)), .int (nI (1))]) (rest := []) ⟨hx, hb, hml, hown, htg⟩ (mm_fails l D κ τ A σ md q th h false 1) (cwV 2 htg (lw_cV tg_698 tg_700 slX9_fails tg_8 tg_701) rfl rfl rfl (by decide +kernel) ⟨Nat.le_of_ble_eq_true rfl, Nat.le_of_ble_eq_true rfl⟩) (um_preV hU hK hJ h.obj rfl) rfl rfl hl.1 rfl (lv_room (Nat.le_of_ble_eq_true rfl)) dX9_resolve_22 ⟨Nat.le_of_ble_eq_true rfl, Nat.le_of_ble_eq_true rfl⟩) hU (fun r9 σ H locs h hU => ?_)
    obtain ⟨rfl, h⟩ := h
    refine um_neB (tgt := 75) hx hb dX9_resolve_25 (by decide) (fun h => by cases h) (fun _ => ?_)
    rw [tb_m1_p c4] at hl
    refine lv_aload_n hx hb dX9_resolve_28 rfl (lv_at hl 2 rfl) ?_
    refine lv_iload_n hx hb dX9_resolve_29 rfl (lv_at hl 1 rfl) ?_
    refine lv_iconst (v := nI 3) hx hb dX9_resolve_30 (by decide +kernel) ?_
    refine um_remN hx hb dX9_resolve_31 (by omega) (by decide) (by decide) ?_
    refine lv_iload_n hx hb dX9_resolve_32 rfl (lv_at hl 4 rfl) ?_
    refine um_callP (va_runS (As := [.int (nI ((tb_inc q 0 x0 72 - 1) % 3)), .int (x1)]) (rest := [.ref (md 13)]) ⟨hx, hb, hml, hown, htg⟩ (mm_isValue l D κ τ A σ (nI ((tb_inc q 0 x0 72 - 1) % 3)) x1) (cwS 2 htg (lw_cS tg_745 tg_746 tg_8 tg_747) rfl rfl rfl (by decide +kernel) ⟨Nat.le_of_ble_eq_true rfl, Nat.le_of_ble_eq_true rfl⟩) (um_preS hU hK hJ) rfl rfl hl.1 rfl (lv_room (Nat.le_of_ble_eq_true rfl)) dX9_resolve_33 ⟨Nat.le_of_ble_eq_true rfl, Nat.le_of_ble_eq_true rfl⟩) hU (fun H locs hU => ?_)
    refine um_neB (tgt := 43) hx hb dX9_resolve_36 (by decide) (fun c5 => ?_) (fun c5 => ?_)
    · refine lv_iconst (v := nI 0) hx hb dX9_resolve_43 (by decide +kernel) ?_
      refine lv_iconst (v := nI 2) hx hb dX9_resolve_44 (by decide +kernel) ?_
      refine um_calli (va_runV (As := [.int (nI (0)), .int (nI (2))]) (rest := []) ⟨hx, hb, hml, hown, htg⟩ (mm_fails l D κ τ A σ md q (if false = true then 1 else 0) h false 2) (cwV 2 htg (lw_cV tg_698 tg_700 slX9_fails tg_8 tg_701) rfl rfl rfl (by decide +kernel) ⟨Nat.le_of_ble_eq_true rfl, Nat.le_of_ble_eq_true rfl⟩) (um_preV hU hK hJ h.obj rfl) rfl rfl hl.1 rfl (lv_room (Nat.le_of_ble_eq_true rfl)) dX9_resolve_45 ⟨Nat.le_of_ble_eq_true rfl, Nat.le_of_ble_eq_true rfl⟩) hU (fun r9 σ H locs h hU => ?_)
      obtain ⟨rfl, h⟩ := h
      refine um_neB (tgt := 75) hx hb dX9_resolve_48 (by decide) (fun h => by cases h) (fun _ => ?_)
      refine lv_aload_n hx hb dX9_resolve_51 rfl (lv_at hl 2 rfl) ?_
      refine lv_aload_n hx hb dX9_resolve_52 rfl (lv_at hl 2 rfl) ?_
      refine um_get (v := .ref (md 0)) hx hb htg inX9 hown hK hU h.obj rfl 1 (by decide) (htg _ tg_639) rfl dX9_resolve_53 ?_
      refine lv_iconst (v := nI 0) hx hb dX9_resolve_56 (by decide +kernel) ?_
      refine md_ild hx hb hK hU h 0 0 (by decide) (show 0 < 5 from by omega) dX9_resolve_57 ?_
      refine lv_bipush (v := nI 40) hx hb dX9_resolve_58 (by decide +kernel) ?_
      refine um_neN (tgt := 67) hx hb dX9_resolve_60 (by decide) (tb_sm_lt hq 0 _) (by decide) (fun c6 => ?_) (fun c6 => ?_)
      · refine lv_iconst (v := nI 0) hx hb dX9_resolve_67 (by decide +kernel) ?_
        refine lv_iconst (v := nI 3) hx hb dX9_resolve_68 (by decide +kernel) ?_
        refine um_calli (va_runV (As := [.int (nI (0)), .int (nI (3))]) (rest := []) ⟨hx, hb, hml, hown, htg⟩ (mm_fails l D κ τ A σ md q (if false = true then 2 else 0) h false 3) (cwV 2 htg (lw_cV tg_698 tg_700 slX9_fails tg_8 tg_701) rfl rfl rfl (by decide +kernel) ⟨Nat.le_of_ble_eq_true rfl, Nat.le_of_ble_eq_true rfl⟩) (um_preV hU hK hJ h.obj rfl) rfl rfl hl.1 rfl (lv_room (Nat.le_of_ble_eq_true rfl)) dX9_resolve_69 ⟨Nat.le_of_ble_eq_true rfl, Nat.le_of_ble_eq_true rfl⟩) hU (fun r9 σ H locs h hU => ?_)
        obtain ⟨rfl, h⟩ := h
        refine um_eqB (tgt := 77) hx hb dX9_resolve_72 (by decide) (fun _ => ?_) (fun h => by cases h)
        refine lv_iconst (v := nI 0) hx hb dX9_resolve_77 (by decide +kernel) ?_
        refine lv_istore (lv' := [(5, .int (nI (0))), (4, .int (nI (0))), (3, .int (nI (tb_inc q 0 x0 72 - 1))), (0, .ref (md 13)), (1, .int (x0)), (2, .int (x1))]) hx hb dX9_resolve_78 hl (by decide) rfl (fun ls hl => ?_)
        refine lv_iconst (v := nI 0) hx hb dX9_resolve_80 (by decide +kernel) ?_
        refine lv_istore (lv' := [(6, .int (nI (0))), (5, .int (nI (0))), (4, .int (nI (0))), (3, .int (nI (tb_inc q 0 x0 72 - 1))), (0, .ref (md 13)), (1, .int (x0)), (2, .int (x1))]) hx hb dX9_resolve_81 hl (by decide) rfl (fun ls hl => ?_)
        have hl : lv_has ls 7 [(0, .ref (md 13)), (2, .int (x1)), (3, .int (nI (tb_inc q 0 x0 72 - 1))), (5, .int (nI (tb_fo (tb_rsF q 0 ((tb_inc q 0 x0 72 - 1) / 12) ((tb_inc q 0 x0 72 - 1) % 12)) 0 0))), (6, .int (nI (0)))] := by
          rw [show (tb_fo (tb_rsF q 0 ((tb_inc q 0 x0 72 - 1) / 12) ((tb_inc q 0 x0 72 - 1) % 12)) 0 0) = 0 from by first | rfl | simp [tb_fo_s, tb_rsF, c4, c5, c6]]
          exact lv_sub hl [4, 6, 3, 1, 0] rfl
        exact L1 201 0 ls _ _ _ (by omega) (by omega) c4 c5 c6 h hU hl
      · refine lv_iconst (v := nI 1) hx hb dX9_resolve_63 (by decide +kernel) ?_
        refine lv_goto (tgt := 68) hx hb dX9_resolve_64 (by decide) ?_
        refine lv_iconst (v := nI 3) hx hb dX9_resolve_68 (by decide +kernel) ?_
        refine um_calli (va_runV (As := [.int (nI (1)), .int (nI (3))]) (rest := []) ⟨hx, hb, hml, hown, htg⟩ (mm_fails l D κ τ A σ md q (if false = true then 2 else 0) h true 3) (cwV 2 htg (lw_cV tg_698 tg_700 slX9_fails tg_8 tg_701) rfl rfl rfl (by decide +kernel) ⟨Nat.le_of_ble_eq_true rfl, Nat.le_of_ble_eq_true rfl⟩) (um_preV hU hK hJ h.obj rfl) rfl rfl hl.1 rfl (lv_room (Nat.le_of_ble_eq_true rfl)) dX9_resolve_69 ⟨Nat.le_of_ble_eq_true rfl, Nat.le_of_ble_eq_true rfl⟩) hU (fun r9 σ H locs h hU => ?_)
        obtain ⟨rfl, h⟩ := h
        refine um_eqB (tgt := 77) hx hb dX9_resolve_72 (by decide) (fun h => by cases h) (fun _ => ?_)
        refine lv_iconst (v := nI 0) hx hb dX9_resolve_75 (by decide +kernel) ?_
        exact um_iret hx hb hr hlocks hK hJ hU dX9_resolve_76 ⟨congrArg nI (by simp [tbT_resolve, tbA_resolve, tbQ_resolve, tb_top, c4, c5, c6]), (by rw [show (tbQ_resolve q x0 x1) = q from by simp [tbT_resolve, tbA_resolve, tbQ_resolve, tb_top, c4, c5, c6]]; rw [show (tbT_resolve q x0 x1) = (if true = true then 3 else 0) from by simp [tbT_resolve, tbA_resolve, tbQ_resolve, tb_top, c4, c5, c6]]; exact h)⟩
    · refine lv_iconst (v := nI 1) hx hb dX9_resolve_39 (by decide +kernel) ?_
      refine lv_goto (tgt := 44) hx hb dX9_resolve_40 (by decide) ?_
      refine lv_iconst (v := nI 2) hx hb dX9_resolve_44 (by decide +kernel) ?_
      refine um_calli (va_runV (As := [.int (nI (1)), .int (nI (2))]) (rest := []) ⟨hx, hb, hml, hown, htg⟩ (mm_fails l D κ τ A σ md q (if false = true then 1 else 0) h true 2) (cwV 2 htg (lw_cV tg_698 tg_700 slX9_fails tg_8 tg_701) rfl rfl rfl (by decide +kernel) ⟨Nat.le_of_ble_eq_true rfl, Nat.le_of_ble_eq_true rfl⟩) (um_preV hU hK hJ h.obj rfl) rfl rfl hl.1 rfl (lv_room (Nat.le_of_ble_eq_true rfl)) dX9_resolve_45 ⟨Nat.le_of_ble_eq_true rfl, Nat.le_of_ble_eq_true rfl⟩) hU (fun r9 σ H locs h hU => ?_)
      obtain ⟨rfl, h⟩ := h
      refine um_neB (tgt := 75) hx hb dX9_resolve_48 (by decide) (fun _ => ?_) (fun h => by cases h)
      refine lv_iconst (v := nI 0) hx hb dX9_resolve_75 (by decide +kernel) ?_
      exact um_iret hx hb hr hlocks hK hJ hU dX9_resolve_76 ⟨congrArg nI (by simp [tbT_resolve, tbA_resolve, tbQ_resolve, tb_top, c4, c5]), (by rw [show (tbQ_resolve q x0 x1) = q from by simp [tbT_resolve, tbA_resolve, tbQ_resolve, tb_top, c4, c5]]; rw [show (tbT_resolve q x0 x1) = (if true = true then 2 else 0) from by simp [tbT_resolve, tbA_resolve, tbQ_resolve, tb_top, c4, c5]]; exact h)⟩
  · refine lv_iconst (v := nI 1) hx hb dX9_resolve_11 (by decide +kernel) ?_
    refine lv_goto (tgt := 16) hx hb dX9_resolve_12 (by decide) ?_
    refine lv_istore (lv' := [(4, .int (nI (1))), (3, .int (tb_m1 (tb_inc q 0 x0 72))), (0, .ref (md 13)), (1, .int (x0)), (2, .int (x1))]) hx hb dX9_resolve_16 hl (by decide) rfl (fun ls hl => ?_)
    refine lv_aload_n hx hb dX9_resolve_18 rfl (lv_at hl 2 rfl) ?_
    refine lv_iload hx hb dX9_resolve_19 (lv_at hl 0 rfl) ?_
    refine lv_iconst (v := nI 1) hx hb dX9_resolve_21 (by decide +kernel) ?_
    refine um_calli (va_runV (As := [.int (nI (1)), .int (nI (1))]) (rest := []) ⟨hx, hb, hml, hown, htg⟩ (mm_fails l D κ τ A σ md q th h true 1) (cwV 2 htg (lw_cV tg_698 tg_700 slX9_fails tg_8 tg_701) rfl rfl rfl (by decide +kernel) ⟨Nat.le_of_ble_eq_true rfl, Nat.le_of_ble_eq_true rfl⟩) (um_preV hU hK hJ h.obj rfl) rfl rfl hl.1 rfl (lv_room (Nat.le_of_ble_eq_true rfl)) dX9_resolve_22 ⟨Nat.le_of_ble_eq_true rfl, Nat.le_of_ble_eq_true rfl⟩) hU (fun r9 σ H locs h hU => ?_)
    obtain ⟨rfl, h⟩ := h
    refine um_neB (tgt := 75) hx hb dX9_resolve_25 (by decide) (fun _ => ?_) (fun h => by cases h)
    refine lv_iconst (v := nI 0) hx hb dX9_resolve_75 (by decide +kernel) ?_
    exact um_iret hx hb hr hlocks hK hJ hU dX9_resolve_76 ⟨congrArg nI (by simp [tbT_resolve, tbA_resolve, tbQ_resolve, tb_top, c4]), (by rw [show (tbQ_resolve q x0 x1) = q from by simp [tbT_resolve, tbA_resolve, tbQ_resolve, tb_top, c4]]; rw [show (tbT_resolve q x0 x1) = (if true = true then 1 else 0) from by simp [tbT_resolve, tbA_resolve, tbQ_resolve, tb_top, c4]]; exact h)⟩

set_option maxRecDepth 100000 in
set_option maxHeartbeats 4000000 in
theorem mm_root (l : Launch) (D : va_G) (κ : Nat → ClassId) (τ : Nat → Nat) (A : Nat → Prop) (σ : um_M) (v : Int64) : Met l yX9_root wsX9_root ({ frames := 0, cells := 0, slots := 0, locals := 0 }) (va_Pc [.long (v)] (um_U D κ τ A σ)) (va_Ql (fun (r9 : Int64) (σ' : um_M) => r9 = tb_root v ∧ σ' = σ) (um_U D κ τ A) A) 0 0 A := by
  refine um_met (cc := cX9_root) (maxL := 7) (ret := (some .long)) (by decide) rfl rfl ?_
  intro pp ee s mm args below meth cd ls hx hb hr hts hown hlocks hml hnm hK hJ hU hl
  have hown : s.vm.findClass RX9 = some mm.cls := hown
  have htg : ∀ w ∈ lw_g, w.before args s = true := fun w h => hts w (List.mem_cons_of_mem _ h)
  have hl : lv_has ls 7 [(0, .long (v))] := hl
  have L1 : ∀ (nf : Nat) (n : Nat) (r : Int64) (ls : Array Slot) (H : Heap) (locs : List Loc), n < nf → n ≤ 31 → tb_rt v n r = tb_root v → um_S D vwCl A s σ H locs → lv_has ls 7 [(0, .long (v)), (2, .long (r)), (4, .int (tb_m1 (n)))] → W pp l ee ({ frames := 0, cells := 0, slots := 0, locals := 0 }) s mm args below meth cd H locs 0 0 (MQ below (va_Ql (fun (r9 : Int64) (σ' : um_M) => r9 = tb_root v ∧ σ' = σ) (um_U D κ τ A) A) args s 0 0 A) (F0 mm 6 ls []) := by
    intro nf
    induction nf with
    | zero => intro n r ls H locs hnf; exact absurd hnf (Nat.not_lt_zero _)
    | succ nf ih =>
      intro n r ls H locs hnf z1 z2 hU hl
      refine lv_iload hx hb dX9_root_6 (lv_at hl 2 rfl) ?_
      refine um_ltM (tgt := 42) hx hb dX9_root_8 (by decide) (by omega) (fun c1 => ?_) (fun c1 => ?_)
      · refine lv_lload_n hx hb dX9_root_42 rfl (lv_at hl 1 rfl) ?_
        exact um_lret hx hb hr hlocks hK hJ hU dX9_root_43 ⟨by rw [← z2, c1]; rfl, rfl⟩
      · rw [tb_m1_p c1] at hl
        refine lv_lload_n hx hb dX9_root_11 rfl (lv_at hl 1 rfl) ?_
        refine lv_lconst (v := 1) hx hb dX9_root_12 (by decide +kernel) ?_
        refine lv_iload hx hb dX9_root_13 (lv_at hl 2 rfl) ?_
        refine lv_lshl (v := 1 <<< ((nI (n - 1)).toInt64 &&& 63)) hx hb dX9_root_15 rfl ?_
        refine lv_ladd hx hb dX9_root_16 ?_
        refine lv_lstore (lv' := [(5, .long (r + (1 <<< ((nI (n - 1)).toInt64 &&& 63)))), (0, .long (v)), (2, .long (r)), (4, .int (nI (n - 1)))]) hx hb dX9_root_17 hl (by decide) rfl (fun ls hl => ?_)
        refine lv_lload hx hb dX9_root_19 (lv_at hl 0 rfl) ?_
        refine lv_lload hx hb dX9_root_21 (lv_at hl 0 rfl) ?_
        refine lv_lmul hx hb dX9_root_23 ?_
        refine lv_lload_n hx hb dX9_root_24 rfl (lv_at hl 1 rfl) ?_
        refine W.lcmp hx hb dX9_root_25 ?_
        refine um_gtC (tgt := 34) hx hb dX9_root_26 (by decide) (fun c2 => ?_) (fun c2 => ?_)
        · refine lv_lload_n hx hb dX9_root_34 rfl (lv_at hl 2 rfl) ?_
          refine lv_lstore_n (lv' := [(2, .long (r)), (5, .long (r + (1 <<< ((nI (n - 1)).toInt64 &&& 63)))), (0, .long (v)), (4, .int (nI (n - 1)))]) hx hb dX9_root_35 rfl hl (by decide) rfl (fun ls hl => ?_)
          refine lv_iinc (k := 3) (v := tb_m1 (n - 1)) (lv' := [(4, .int (tb_m1 (n - 1))), (2, .long (r)), (5, .long (r + (1 <<< ((nI (n - 1)).toInt64 &&& 63)))), (0, .long (v))]) hx hb dX9_root_36 hl rfl (tb_dec _) (by decide) rfl (fun ls hl => ?_)
          refine lv_goto (tgt := 6) hx hb dX9_root_39 (by decide) ?_
          have hl : lv_has ls 7 [(0, .long (v)), (2, .long (r)), (4, .int (tb_m1 ((n - 1))))] := lv_sub hl [3, 1, 0] rfl
          exact ih (n - 1) r ls _ _ (by omega) (by omega) (by rw [← z2, tb_rt_s c1, tb_rtS, if_pos c2]) hU hl
        · refine lv_lload hx hb dX9_root_29 (lv_at hl 0 rfl) ?_
          refine lv_goto (tgt := 35) hx hb dX9_root_31 (by decide) ?_
          refine lv_lstore_n (lv' := [(2, .long (r + (1 <<< ((nI (n - 1)).toInt64 &&& 63)))), (5, .long (r + (1 <<< ((nI (n - 1)).toInt64 &&& 63)))), (0, .long (v)), (4, .int (nI (n - 1)))]) hx hb dX9_root_35 rfl hl (by decide) rfl (fun ls hl => ?_)
          refine lv_iinc (k := 3) (v := tb_m1 (n - 1)) (lv' := [(4, .int (tb_m1 (n - 1))), (2, .long (r + (1 <<< ((nI (n - 1)).toInt64 &&& 63)))), (5, .long (r + (1 <<< ((nI (n - 1)).toInt64 &&& 63)))), (0, .long (v))]) hx hb dX9_root_36 hl rfl (tb_dec _) (by decide) rfl (fun ls hl => ?_)
          refine lv_goto (tgt := 6) hx hb dX9_root_39 (by decide) ?_
          have hl : lv_has ls 7 [(0, .long (v)), (2, .long ((r + (1 <<< ((nI (n - 1)).toInt64 &&& 63))))), (4, .int (tb_m1 ((n - 1))))] := lv_sub hl [3, 1, 0] rfl
          exact ih (n - 1) (r + (1 <<< ((nI (n - 1)).toInt64 &&& 63))) ls _ _ (by omega) (by omega) (by rw [← z2, tb_rt_s c1, tb_rtS, if_neg c2]) hU hl
  refine lv_lconst (v := 0) hx hb dX9_root_0 (by decide +kernel) ?_
  refine lv_lstore_n (lv' := [(2, .long (0)), (0, .long (v))]) hx hb dX9_root_1 rfl hl (by decide) rfl (fun ls hl => ?_)
  refine lv_bipush (v := nI 30) hx hb dX9_root_2 (by decide +kernel) ?_
  refine lv_istore (lv' := [(4, .int (nI (30))), (2, .long (0)), (0, .long (v))]) hx hb dX9_root_4 hl (by decide) rfl (fun ls hl => ?_)
  have hl : lv_has ls 7 [(0, .long (v)), (2, .long (0)), (4, .int (tb_m1 (31)))] := by
    rw [show (tb_m1 (31)) = (nI (30)) from (tb_m1_s 30)]
    exact lv_sub hl [2, 1, 0] rfl
  exact L1 32 31 0 ls _ _ (by omega) (by omega) rfl hU hl
