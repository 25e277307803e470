set_option maxRecDepth 100000 in
set_option maxHeartbeats 4000000 in
theorem xp_meet (l : Launch) (D : va_G) (κ : Nat → ClassId) (τ : Nat → Nat) (A : Nat → Prop) (σ : um_M) (xd la ma va : Nat → Nat) (q : tb_Q) (sc : xs_S) (h : xs_at κ σ xd la ma va q sc) (hst : l.stackTraces = false) (ok : tb_ok q) (pu : xs_pure q)  (x0 x1 : Int32) : vx_Met l yX8_meet wsX8_meet ({ frames := 7, cells := 2, slots := 12, locals := 101 }) (va_Pc [.ref (xd 0), .int (x0), .int (x1)] (um_U D κ τ A σ)) (va_Qv (fun σ' : um_M => tbT_meet q x0 x1 = 0 ∧ ∃ la' ma' va' sc', xs_at κ σ' xd la' ma' va' (tbQ_meet q x0 x1) sc') (um_U D κ τ A) A) (um_XC D κ τ A (fun u => ∃ sc', xs_at κ u xd la ma va q sc') (fun E => (E = nIAE ∧ tbT_meet q x0 x1 = 1) ∨ (E = nISE ∧ tbT_meet q x0 x1 = 2))) 2 12 A := by
  refine um_metX (cc := cX8_meet) (maxL := 3) (ret := none) (by decide) rfl rfl ?_
  intro pp ee s mm args below meth cd ls hx hb hr hts hown hlocks hml htab hK hJ hU hl
  have hown : s.vm.findClass RX8 = some mm.cls := hown
  have htg : ∀ w ∈ lw_g, w.before args s = true := fun w h => hts w (List.mem_cons_of_mem _ h)
  have hl : lv_has ls 3 [(0, .ref (xd 0)), (1, .int (x0)), (2, .int (x1))] := hl
  have hq := ok.sm
  have h0 := ok.me.1
  have h1 := ok.me.2.1
  refine lv_iload_n hx hb dX8_meet_0 rfl (lv_at hl 1 rfl) ?_
  refine lv_iconst (v := nI 5) hx hb dX8_meet_1 (by decide +kernel) ?_
  refine um_callP (va_runS (As := [.int (x0), .int (nI (5))]) (rest := []) ⟨hx, hb, hml, hown, htg⟩ (xf_isBelow l D κ τ A σ x0 5 (by decide) (by decide)) (cwS 2 htg (lw_cS tg_190 tg_191 tg_1 tg_192) rfl rfl rfl (by decide +kernel) ⟨Nat.le_of_ble_eq_true rfl, Nat.le_of_ble_eq_true rfl⟩) (um_preS hU hK hJ) rfl rfl hl.1 rfl (lv_room (Nat.le_of_ble_eq_true rfl)) dX8_meet_2 ⟨Nat.le_of_ble_eq_true rfl, Nat.le_of_ble_eq_true rfl⟩) hU (fun H locs hU => ?_)
  refine um_eqB (tgt := 25) hx hb dX8_meet_5 (by decide) (fun c1 => ?_) (fun c1 => ?_)
  · refine lv_iconst (v := nI 0) hx hb dX8_meet_25 (by decide +kernel) ?_
    refine um_xcallv (vx_runS (As := [.int (um_b false)]) (rest := []) ⟨hx, hb, hml, hown, htg⟩ (xf_require l D κ τ A σ hst false) (cwS 1 htg (lw_cS tg_193 tg_194 tg_1 tg_195) rfl rfl rfl (by decide +kernel) ⟨Nat.le_of_ble_eq_true rfl, Nat.le_of_ble_eq_true rfl⟩) (um_preS hU hK hJ) rfl rfl hl.1 rfl (lv_room (Nat.le_of_ble_eq_true rfl)) dX8_meet_26 ⟨Nat.le_of_ble_eq_true rfl, Nat.le_of_ble_eq_true rfl⟩) hU (fun E9 ce9 q9 σ9 H locs hp9 hE9 hU hce hcv hcl => ?_) (fun σ9 H locs hp9 hU => ?_)
    · obtain ⟨rfl, c2⟩ := hE9
      rw [hp9] at hU
      exact um_xout htab hlocks hce hcv hcl hK hJ hU ⟨_, h⟩ (Or.inl ⟨rfl, by simp [tbT_meet, tbQ_meet, tb_meB, c1, c2]⟩) (Nat.le_of_ble_eq_true rfl) (Nat.le_of_ble_eq_true rfl)
    · exact absurd hp9.1 (by decide)
  · refine lv_iload_n hx hb dX8_meet_8 rfl (lv_at hl 2 rfl) ?_
    refine lv_iconst (v := nI 5) hx hb dX8_meet_9 (by decide +kernel) ?_
    refine um_callP (va_runS (As := [.int (x1), .int (nI (5))]) (rest := []) ⟨hx, hb, hml, hown, htg⟩ (xf_isBelow l D κ τ A σ x1 5 (by decide) (by decide)) (cwS 2 htg (lw_cS tg_190 tg_191 tg_1 tg_192) rfl rfl rfl (by decide +kernel) ⟨Nat.le_of_ble_eq_true rfl, Nat.le_of_ble_eq_true rfl⟩) (um_preS hU hK hJ) rfl rfl hl.1 rfl (lv_room (Nat.le_of_ble_eq_true rfl)) dX8_meet_10 ⟨Nat.le_of_ble_eq_true rfl, Nat.le_of_ble_eq_true rfl⟩) hU (fun H locs hU => ?_)
    refine um_eqB (tgt := 25) hx hb dX8_meet_13 (by decide) (fun c3 => ?_) (fun c3 => ?_)
    · refine lv_iconst (v := nI 0) hx hb dX8_meet_25 (by decide +kernel) ?_
      refine um_xcallv (vx_runS (As := [.int (um_b false)]) (rest := []) ⟨hx, hb, hml, hown, htg⟩ (xf_require l D κ τ A σ hst false) (cwS 1 htg (lw_cS tg_193 tg_194 tg_1 tg_195) rfl rfl rfl (by decide +kernel) ⟨Nat.le_of_ble_eq_true rfl, Nat.le_of_ble_eq_true rfl⟩) (um_preS hU hK hJ) rfl rfl hl.1 rfl (lv_room (Nat.le_of_ble_eq_true rfl)) dX8_meet_26 ⟨Nat.le_of_ble_eq_true rfl, Nat.le_of_ble_eq_true rfl⟩) hU (fun E9 ce9 q9 σ9 H locs hp9 hE9 hU hce hcv hcl => ?_) (fun σ9 H locs hp9 hU => ?_)
      · obtain ⟨rfl, c4⟩ := hE9
        rw [hp9] at hU
        exact um_xout htab hlocks hce hcv hcl hK hJ hU ⟨_, h⟩ (Or.inl ⟨rfl, by simp [tbT_meet, tbQ_meet, tb_meB, c1, c3, c4]⟩) (Nat.le_of_ble_eq_true rfl) (Nat.le_of_ble_eq_true rfl)
      · exact absurd hp9.1 (by decide)
    · refine lv_iload_n hx hb dX8_meet_16 rfl (lv_at hl 1 rfl) ?_
      refine lv_iload_n hx hb dX8_meet_17 rfl (lv_at hl 2 rfl) ?_
      refine lv_icmp_eq (tgt := 25) hx hb dX8_meet_18 (by decide) (fun c5 => ?_) (fun c5 => ?_)
      · refine lv_iconst (v := nI 0) hx hb dX8_meet_25 (by decide +kernel) ?_
        refine um_xcallv (vx_runS (As := [.int (um_b false)]) (rest := []) ⟨hx, hb, hml, hown, htg⟩ (xf_require l D κ τ A σ hst false) (cwS 1 htg (lw_cS tg_193 tg_194 tg_1 tg_195) rfl rfl rfl (by decide +kernel) ⟨Nat.le_of_ble_eq_true rfl, Nat.le_of_ble_eq_true rfl⟩) (um_preS hU hK hJ) rfl rfl hl.1 rfl (lv_room (Nat.le_of_ble_eq_true rfl)) dX8_meet_26 ⟨Nat.le_of_ble_eq_true rfl, Nat.le_of_ble_eq_true rfl⟩) hU (fun E9 ce9 q9 σ9 H locs hp9 hE9 hU hce hcv hcl => ?_) (fun σ9 H locs hp9 hU => ?_)
        · obtain ⟨rfl, c6⟩ := hE9
          rw [hp9] at hU
          exact um_xout htab hlocks hce hcv hcl hK hJ hU ⟨_, h⟩ (Or.inl ⟨rfl, by simp [tbT_meet, tbQ_meet, tb_meB, c1, c3, c5, c6]⟩) (Nat.le_of_ble_eq_true rfl) (Nat.le_of_ble_eq_true rfl)
        · exact absurd hp9.1 (by decide)
      · refine lv_iconst (v := nI 1) hx hb dX8_meet_21 (by decide +kernel) ?_
        refine lv_goto (tgt := 26) hx hb dX8_meet_22 (by decide) ?_
        refine um_xcallv (vx_runS (As := [.int (um_b true)]) (rest := []) ⟨hx, hb, hml, hown, htg⟩ (xf_require l D κ τ A σ hst true) (cwS 1 htg (lw_cS tg_193 tg_194 tg_1 tg_195) rfl rfl rfl (by decide +kernel) ⟨Nat.le_of_ble_eq_true rfl, Nat.le_of_ble_eq_true rfl⟩) (um_preS hU hK hJ) rfl rfl hl.1 rfl (lv_room (Nat.le_of_ble_eq_true rfl)) dX8_meet_26 ⟨Nat.le_of_ble_eq_true rfl, Nat.le_of_ble_eq_true rfl⟩) hU (fun E9 ce9 q9 σ9 H locs hp9 hE9 hU hce hcv hcl => ?_) (fun σ9 H locs hp9 hU => ?_)
        · exact absurd hE9.2 (by decide)
        have c7 := hp9.1
        rw [hp9.2] at hU
        obtain ⟨j0, ha_j0, hb_j0, rfl⟩ := tb_inN (by decide) (by decide) c1
        have en_j0 : (nI j0).toNatClampNeg = j0 := nI_clamp (by omega)
        obtain ⟨j1, ha_j1, hb_j1, rfl⟩ := tb_inN (by decide) (by decide) c3
        have en_j1 : (nI j1).toNatClampNeg = j1 := nI_clamp (by omega)
        refine lv_aload_n hx hb dX8_meet_29 rfl (lv_at hl 0 rfl) ?_
        refine um_get (v := .ref (xd 1)) hx hb htg inX8 hown hK hU h.c0 rfl 0 (by decide) (htg _ tg_157) rfl dX8_meet_30 ?_
        refine um_callP (va_runV (As := []) (rest := []) ⟨hx, hb, hml, hown, htg⟩ (xc_isMeeting l D κ τ A σ xd la ma va q sc h (by omega)) (cwV 0 htg (lw_cV tg_494 tg_495 tg_496 tg_2 tg_497) rfl rfl rfl (by decide +kernel) ⟨Nat.le_of_ble_eq_true rfl, Nat.le_of_ble_eq_true rfl⟩) (um_preV hU hK hJ h.c1 rfl) rfl rfl hl.1 rfl (lv_room (Nat.le_of_ble_eq_true rfl)) dX8_meet_33 ⟨Nat.le_of_ble_eq_true rfl, Nat.le_of_ble_eq_true rfl⟩) hU (fun H locs hU => ?_)
        refine um_neB (tgt := 43) hx hb dX8_meet_36 (by decide) (fun c8 => ?_) (fun c8 => ?_)
        · have c8 : ¬ q 13 0 = 0 := by simpa using c8
          refine lv_iconst (v := nI 0) hx hb dX8_meet_43 (by decide +kernel) ?_
          refine um_xcallv (vx_runS (As := [.int (um_b false)]) (rest := []) ⟨hx, hb, hml, hown, htg⟩ (xf_allow l D κ τ A σ hst false) (cwS 1 htg (lw_cS tg_285 tg_286 tg_1 tg_287) rfl rfl rfl (by decide +kernel) ⟨Nat.le_of_ble_eq_true rfl, Nat.le_of_ble_eq_true rfl⟩) (um_preS hU hK hJ) rfl rfl hl.1 rfl (lv_room (Nat.le_of_ble_eq_true rfl)) dX8_meet_44 ⟨Nat.le_of_ble_eq_true rfl, Nat.le_of_ble_eq_true rfl⟩) hU (fun E9 ce9 q9 σ9 H locs hp9 hE9 hU hce hcv hcl => ?_) (fun σ9 H locs hp9 hU => ?_)
          · obtain ⟨rfl, c9⟩ := hE9
            rw [hp9] at hU
            exact um_xout htab hlocks hce hcv hcl hK hJ hU ⟨_, h⟩ (Or.inr (⟨rfl, by simp [tbT_meet, tbQ_meet, tb_meB, c1, c3, c5, en_j0, en_j1, c8, c9]⟩)) (Nat.le_of_ble_eq_true rfl) (Nat.le_of_ble_eq_true rfl)
          · exact absurd hp9.1 (by decide)
        · have c8 : q 13 0 = 0 := by simpa using c8
          refine lv_iconst (v := nI 1) hx hb dX8_meet_39 (by decide +kernel) ?_
          refine lv_goto (tgt := 44) hx hb dX8_meet_40 (by decide) ?_
          refine um_xcallv (vx_runS (As := [.int (um_b true)]) (rest := []) ⟨hx, hb, hml, hown, htg⟩ (xf_allow l D κ τ A σ hst true) (cwS 1 htg (lw_cS tg_285 tg_286 tg_1 tg_287) rfl rfl rfl (by decide +kernel) ⟨Nat.le_of_ble_eq_true rfl, Nat.le_of_ble_eq_true rfl⟩) (um_preS hU hK hJ) rfl rfl hl.1 rfl (lv_room (Nat.le_of_ble_eq_true rfl)) dX8_meet_44 ⟨Nat.le_of_ble_eq_true rfl, Nat.le_of_ble_eq_true rfl⟩) hU (fun E9 ce9 q9 σ9 H locs hp9 hE9 hU hce hcv hcl => ?_) (fun σ9 H locs hp9 hU => ?_)
          · exact absurd hE9.2 (by decide)
          have c10 := hp9.1
          rw [hp9.2] at hU
          refine lv_aload_n hx hb dX8_meet_47 rfl (lv_at hl 0 rfl) ?_
          refine um_get (v := .ref (xd 1)) hx hb htg inX8 hown hK hU h.c0 rfl 0 (by decide) (htg _ tg_157) rfl dX8_meet_48 ?_
          refine lv_iload_n hx hb dX8_meet_51 rfl (lv_at hl 1 rfl) ?_
          refine xs_putMe (k := 2) hx hb htg inX0 hown hK hU h 0 (j0 + 1) (by decide) rfl (htg _ tg_39) (tb_m1_s _).symm dX8_meet_52 (fun σ H locs h hU => ?_)
          refine lv_aload_n hx hb dX8_meet_55 rfl (lv_at hl 0 rfl) ?_
          refine um_get (v := .ref (xd 1)) hx hb htg inX8 hown hK hU h.c0 rfl 0 (by decide) (htg _ tg_157) rfl dX8_meet_56 ?_
          refine lv_iload_n hx hb dX8_meet_59 rfl (lv_at hl 2 rfl) ?_
          refine xs_putMe (k := 3) hx hb htg inX0 hown hK hU h 1 (j1 + 1) (by decide) rfl (htg _ tg_41) (tb_m1_s _).symm dX8_meet_60 (fun σ H locs h hU => ?_)
          exact W.widen (Nat.le_of_ble_eq_true rfl) (Nat.le_of_ble_eq_true rfl) (vx_ret (um_vret hx hb hr hlocks hK hJ hU dX8_meet_63 ⟨by simp [tbT_meet, tbQ_meet, tb_meB, c1, c3, c5, en_j0, en_j1, c8], ⟨_, _, _, _, by rw [show (tbQ_meet q (nI j0) (nI j1)) = (tb_set (tb_set q 13 0 (j0 + 1)) 13 1 (j1 + 1)) from by simp [tbT_meet, tbQ_meet, tb_meB, c1, c3, c5, en_j0, en_j1, c8]]; exact h⟩⟩))

set_option maxRecDepth 100000 in
set_option maxHeartbeats 4000000 in
theorem xp_swap (l : Launch) (D : va_G) (κ : Nat → ClassId) (τ : Nat → Nat) (A : Nat → Prop) (σ : um_M) (xd la ma va : Nat → Nat) (q : tb_Q) (sc : xs_S) (h : xs_at κ σ xd la ma va q sc) (hst : l.stackTraces = false) (ok : tb_ok q) (pu : xs_pure q)   : vx_Met l yX8_swap wsX8_swap ({ frames := 7, cells := 1, slots := 6, locals := 101 }) (va_Pc [.ref (xd 0)] (um_U D κ τ A σ)) (va_Qi (fun (r9 : Int32) (σ' : um_M) => r9 = um_b (tbA_swap q) ∧ tbT_swap q = 0 ∧ ∃ la' ma' va' sc', xs_at κ σ' xd la' ma' va' (tbQ_swap q) sc') (um_U D κ τ A) A) (um_XC D κ τ A (fun u => ∃ sc', xs_at κ u xd la ma va q sc') (fun E => E = nISE ∧ tbT_swap q = 1)) 1 6 A := by
  refine um_metX (cc := cX8_swap) (maxL := 1) (ret := (some .boolean)) (by decide) rfl rfl ?_
  intro pp ee s mm args below meth cd ls hx hb hr hts hown hlocks hml htab hK hJ hU hl
  have hown : s.vm.findClass RX8 = some mm.cls := hown
  have htg : ∀ w ∈ lw_g, w.before args s = true := fun w h => hts w (List.mem_cons_of_mem _ h)
  have hl : lv_has ls 1 [(0, .ref (xd 0))] := hl
  have hq := ok.sm
  have h0 := ok.me.1
  have h1 := ok.me.2.1
  refine lv_aload_n hx hb dX8_swap_0 rfl (lv_at hl 0 rfl) ?_
  refine um_get (v := .ref (xd 1)) hx hb htg inX8 hown hK hU h.c0 rfl 0 (by decide) (htg _ tg_157) rfl dX8_swap_1 ?_
  refine um_callP (va_runV (As := []) (rest := []) ⟨hx, hb, hml, hown, htg⟩ (xc_isMeeting l D κ τ A σ xd la ma va q sc h (by omega)) (cwV 0 htg (lw_cV tg_494 tg_495 tg_496 tg_2 tg_497) rfl rfl rfl (by decide +kernel) ⟨Nat.le_of_ble_eq_true rfl, Nat.le_of_ble_eq_true rfl⟩) (um_preV hU hK hJ h.c1 rfl) rfl rfl hl.1 rfl (lv_room (Nat.le_of_ble_eq_true rfl)) dX8_swap_4 ⟨Nat.le_of_ble_eq_true rfl, Nat.le_of_ble_eq_true rfl⟩) hU (fun H locs hU => ?_)
  refine um_xcallv (vx_runS (As := [.int (um_b (!decide (q 13 0 = 0)))]) (rest := []) ⟨hx, hb, hml, hown, htg⟩ (xf_allow l D κ τ A σ hst (!decide (q 13 0 = 0))) (cwS 1 htg (lw_cS tg_285 tg_286 tg_1 tg_287) rfl rfl rfl (by decide +kernel) ⟨Nat.le_of_ble_eq_true rfl, Nat.le_of_ble_eq_true rfl⟩) (um_preS hU hK hJ) rfl rfl hl.1 rfl (lv_room (Nat.le_of_ble_eq_true rfl)) dX8_swap_7 ⟨Nat.le_of_ble_eq_true rfl, Nat.le_of_ble_eq_true rfl⟩) hU (fun E9 ce9 q9 σ9 H locs hp9 hE9 hU hce hcv hcl => ?_) (fun σ9 H locs hp9 hU => ?_)
  · obtain ⟨rfl, c1⟩ := hE9
    rw [hp9] at hU
    have c1 : q 13 0 = 0 := by simpa using c1
    exact um_xout htab hlocks hce hcv hcl hK hJ hU ⟨_, h⟩ (⟨rfl, by simp [tbT_swap, tbA_swap, tbQ_swap, c1]⟩) (Nat.le_of_ble_eq_true rfl) (Nat.le_of_ble_eq_true rfl)
  have c1 := hp9.1
  rw [hp9.2] at hU
  have c1 : ¬ q 13 0 = 0 := by simpa using c1
  have hn2 : ¬ q 13 1 = 0 := fun z => c1 (ok.me.2.2.1.mpr z)
  refine lv_aload_n hx hb dX8_swap_10 rfl (lv_at hl 0 rfl) ?_
  refine um_get (v := .ref (xd 1)) hx hb htg inX8 hown hK hU h.c0 rfl 0 (by decide) (htg _ tg_157) rfl dX8_swap_11 ?_
  refine lv_aload_n hx hb dX8_swap_14 rfl (lv_at hl 0 rfl) ?_
  refine um_get (v := .ref (xd 1)) hx hb htg inX8 hown hK hU h.c0 rfl 0 (by decide) (htg _ tg_157) rfl dX8_swap_15 ?_
  refine um_get (v := .int (nI (q 13 0 - 1))) hx hb htg inX0 hown hK hU h.c1 rfl 2 (by decide) (htg _ tg_39) (by show some (Value.int (tb_m1 (q 13 0))) = _; rw [tb_m1_p c1]) dX8_swap_18 ?_
  refine lv_aload_n hx hb dX8_swap_21 rfl (lv_at hl 0 rfl) ?_
  refine um_get (v := .ref (xd 1)) hx hb htg inX8 hown hK hU h.c0 rfl 0 (by decide) (htg _ tg_157) rfl dX8_swap_22 ?_
  refine um_get (v := .int (nI (q 13 1 - 1))) hx hb htg inX0 hown hK hU h.c1 rfl 3 (by decide) (htg _ tg_41) (by show some (Value.int (tb_m1 (q 13 1))) = _; rw [tb_m1_p hn2]) dX8_swap_25 ?_
  refine um_calli (va_runV (As := [.int (nI (q 13 0 - 1)), .int (nI (q 13 1 - 1))]) (rest := []) ⟨hx, hb, hml, hown, htg⟩ (xc_carry l D κ τ A σ xd la ma va q sc h hq (q 13 0 - 1) (q 13 1 - 1) (by omega) (by omega)) (cwV 2 htg (lw_cV tg_505 tg_506 tg_507 tg_2 tg_508) rfl rfl rfl (by decide +kernel) ⟨Nat.le_of_ble_eq_true rfl, Nat.le_of_ble_eq_true rfl⟩) (um_preV hU hK hJ h.c1 rfl) rfl rfl hl.1 rfl (lv_room (Nat.le_of_ble_eq_true rfl)) dX8_swap_28 ⟨Nat.le_of_ble_eq_true rfl, Nat.le_of_ble_eq_true rfl⟩) hU (fun r9 σ H locs h hU => ?_)
  obtain ⟨rfl, h⟩ := h
  refine um_neB (tgt := 58) hx hb dX8_swap_31 (by decide) (fun c2 => ?_) (fun c2 => ?_)
  · have c2 : ¬ tb_car q (q 13 0 - 1) (q 13 1 - 1) = 0 := by simpa using c2
    refine lv_iconst (v := nI 1) hx hb dX8_swap_58 (by decide +kernel) ?_
    refine lv_goto (tgt := 63) hx hb dX8_swap_59 (by decide) ?_
    exact W.widen (Nat.le_of_ble_eq_true rfl) (Nat.le_of_ble_eq_true rfl) (vx_ret (um_zret hx hb hr hlocks hK hJ hU dX8_swap_63 true rfl ⟨congrArg um_b (by simp [tbT_swap, tbA_swap, tbQ_swap, c1, c2]), by simp [tbT_swap, tbA_swap, tbQ_swap, c1, c2], ⟨_, _, _, _, by rw [show (tbQ_swap q) = (tb_cary q (q 13 0 - 1) (q 13 1 - 1)) from by simp [tbT_swap, tbA_swap, tbQ_swap, c1, c2]]; exact h⟩⟩))
  · have c2 : tb_car q (q 13 0 - 1) (q 13 1 - 1) = 0 := by simpa using c2
    have h : xs_at κ σ xd la ma va q sc := by rw [show tb_cary q (q 13 0 - 1) (q 13 1 - 1) = q from if_pos c2] at h; exact h
    refine lv_aload_n hx hb dX8_swap_34 rfl (lv_at hl 0 rfl) ?_
    refine um_get (v := .ref (xd 1)) hx hb htg inX8 hown hK hU h.c0 rfl 0 (by decide) (htg _ tg_157) rfl dX8_swap_35 ?_
    refine lv_aload_n hx hb dX8_swap_38 rfl (lv_at hl 0 rfl) ?_
    refine um_get (v := .ref (xd 1)) hx hb htg inX8 hown hK hU h.c0 rfl 0 (by decide) (htg _ tg_157) rfl dX8_swap_39 ?_
    refine um_get (v := .int (nI (q 13 1 - 1))) hx hb htg inX0 hown hK hU h.c1 rfl 3 (by decide) (htg _ tg_41) (by show some (Value.int (tb_m1 (q 13 1))) = _; rw [tb_m1_p hn2]) dX8_swap_42 ?_
    refine lv_aload_n hx hb dX8_swap_45 rfl (lv_at hl 0 rfl) ?_
    refine um_get (v := .ref (xd 1)) hx hb htg inX8 hown hK hU h.c0 rfl 0 (by decide) (htg _ tg_157) rfl dX8_swap_46 ?_
    refine um_get (v := .int (nI (q 13 0 - 1))) hx hb htg inX0 hown hK hU h.c1 rfl 2 (by decide) (htg _ tg_39) (by show some (Value.int (tb_m1 (q 13 0))) = _; rw [tb_m1_p c1]) dX8_swap_49 ?_
    refine um_calli (va_runV (As := [.int (nI (q 13 1 - 1)), .int (nI (q 13 0 - 1))]) (rest := []) ⟨hx, hb, hml, hown, htg⟩ (xc_carry l D κ τ A σ xd la ma va q sc h hq (q 13 1 - 1) (q 13 0 - 1) (by omega) (by omega)) (cwV 2 htg (lw_cV tg_505 tg_506 tg_507 tg_2 tg_508) rfl rfl rfl (by decide +kernel) ⟨Nat.le_of_ble_eq_true rfl, Nat.le_of_ble_eq_true rfl⟩) (um_preV hU hK hJ h.c1 rfl) rfl rfl hl.1 rfl (lv_room (Nat.le_of_ble_eq_true rfl)) dX8_swap_52 ⟨Nat.le_of_ble_eq_true rfl, Nat.le_of_ble_eq_true rfl⟩) hU (fun r9 σ H locs h hU => ?_)
    obtain ⟨rfl, h⟩ := h
    refine um_eqB (tgt := 62) hx hb dX8_swap_55 (by decide) (fun c3 => ?_) (fun c3 => ?_)
    · have c3 : tb_car q (q 13 1 - 1) (q 13 0 - 1) = 0 := by simpa using c3
      refine lv_iconst (v := nI 0) hx hb dX8_swap_62 (by decide +kernel) ?_
      exact W.widen (Nat.le_of_ble_eq_true rfl) (Nat.le_of_ble_eq_true rfl) (vx_ret (um_zret hx hb hr hlocks hK hJ hU dX8_swap_63 false rfl ⟨congrArg um_b (by simp [tbT_swap, tbA_swap, tbQ_swap, c1, c2, c3]), by simp [tbT_swap, tbA_swap, tbQ_swap, c1, c2, c3], ⟨_, _, _, _, by rw [show (tbQ_swap q) = (tb_cary q (q 13 1 - 1) (q 13 0 - 1)) from by simp [tbT_swap, tbA_swap, tbQ_swap, c1, c2, c3]]; exact h⟩⟩))
    · have c3 : ¬ tb_car q (q 13 1 - 1) (q 13 0 - 1) = 0 := by simpa using c3
      refine lv_iconst (v := nI 1) hx hb dX8_swap_58 (by decide +kernel) ?_
      refine lv_goto (tgt := 63) hx hb dX8_swap_59 (by decide) ?_
      exact W.widen (Nat.le_of_ble_eq_true rfl) (Nat.le_of_ble_eq_true rfl) (vx_ret (um_zret hx hb hr hlocks hK hJ hU dX8_swap_63 true rfl ⟨congrArg um_b (by simp [tbT_swap, tbA_swap, tbQ_swap, c1, c2, c3]), by simp [tbT_swap, tbA_swap, tbQ_swap, c1, c2, c3], ⟨_, _, _, _, by rw [show (tbQ_swap q) = (tb_cary q (q 13 1 - 1) (q 13 0 - 1)) from by simp [tbT_swap, tbA_swap, tbQ_swap, c1, c2, c3]]; exact h⟩⟩))

set_option maxRecDepth 100000 in
set_option maxHeartbeats 4000000 in
theorem xp_part (l : Launch) (D : va_G) (κ : Nat → ClassId) (τ : Nat → Nat) (A : Nat → Prop) (σ : um_M) (xd la ma va : Nat → Nat) (q : tb_Q) (sc : xs_S) (h : xs_at κ σ xd la ma va q sc) (hst : l.stackTraces = false) (ok : tb_ok q) (pu : xs_pure q)   : vx_Met l yX8_part wsX8_part ({ frames := 7, cells := 1, slots := 6, locals := 101 }) (va_Pc [.ref (xd 0)] (um_U D κ τ A σ)) (va_Qv (fun σ' : um_M => tbT_part q = 0 ∧ ∃ la' ma' va' sc', xs_at κ σ' xd la' ma' va' (tbQ_part q) sc') (um_U D κ τ A) A) (um_XC D κ τ A (fun u => ∃ sc', xs_at κ u xd la ma va q sc') (fun E => E = nISE ∧ tbT_part q = 1)) 1 6 A := by
  refine um_metX (cc := cX8_part) (maxL := 1) (ret := none) (by decide) rfl rfl ?_
  intro pp ee s mm args below meth cd ls hx hb hr hts hown hlocks hml htab hK hJ hU hl
  have hown : s.vm.findClass RX8 = some mm.cls := hown
  have htg : ∀ w ∈ lw_g, w.before args s = true := fun w h => hts w (List.mem_cons_of_mem _ h)
  have hl : lv_has ls 1 [(0, .ref (xd 0))] := hl
  have hq := ok.sm
  have h0 := ok.me.1
  have h1 := ok.me.2.1
  refine lv_aload_n hx hb dX8_part_0 rfl (lv_at hl 0 rfl) ?_
  refine um_get (v := .ref (xd 1)) hx hb htg inX8 hown hK hU h.c0 rfl 0 (by decide) (htg _ tg_157) rfl dX8_part_1 ?_
  refine um_callP (va_runV (As := []) (rest := []) ⟨hx, hb, hml, hown, htg⟩ (xc_isMeeting l D κ τ A σ xd la ma va q sc h (by omega)) (cwV 0 htg (lw_cV tg_494 tg_495 tg_496 tg_2 tg_497) rfl rfl rfl (by decide +kernel) ⟨Nat.le_of_ble_eq_true rfl, Nat.le_of_ble_eq_true rfl⟩) (um_preV hU hK hJ h.c1 rfl) rfl rfl hl.1 rfl (lv_room (Nat.le_of_ble_eq_true rfl)) dX8_part_4 ⟨Nat.le_of_ble_eq_true rfl, Nat.le_of_ble_eq_true rfl⟩) hU (fun H locs hU => ?_)
  refine um_xcallv (vx_runS (As := [.int (um_b (!decide (q 13 0 = 0)))]) (rest := []) ⟨hx, hb, hml, hown, htg⟩ (xf_allow l D κ τ A σ hst (!decide (q 13 0 = 0))) (cwS 1 htg (lw_cS tg_285 tg_286 tg_1 tg_287) rfl rfl rfl (by decide +kernel) ⟨Nat.le_of_ble_eq_true rfl, Nat.le_of_ble_eq_true rfl⟩) (um_preS hU hK hJ) rfl rfl hl.1 rfl (lv_room (Nat.le_of_ble_eq_true rfl)) dX8_part_7 ⟨Nat.le_of_ble_eq_true rfl, Nat.le_of_ble_eq_true rfl⟩) hU (fun E9 ce9 q9 σ9 H locs hp9 hE9 hU hce hcv hcl => ?_) (fun σ9 H locs hp9 hU => ?_)
  · obtain ⟨rfl, c1⟩ := hE9
    rw [hp9] at hU
    have c1 : q 13 0 = 0 := by simpa using c1
    exact um_xout htab hlocks hce hcv hcl hK hJ hU ⟨_, h⟩ (⟨rfl, by simp [tbT_part, tbQ_part, c1]⟩) (Nat.le_of_ble_eq_true rfl) (Nat.le_of_ble_eq_true rfl)
  have c1 := hp9.1
  rw [hp9.2] at hU
  have c1 : ¬ q 13 0 = 0 := by simpa using c1
  have hn2 : ¬ q 13 1 = 0 := fun z => c1 (ok.me.2.2.1.mpr z)
  refine lv_aload_n hx hb dX8_part_10 rfl (lv_at hl 0 rfl) ?_
  refine um_get (v := .ref (xd 1)) hx hb htg inX8 hown hK hU h.c0 rfl 0 (by decide) (htg _ tg_157) rfl dX8_part_11 ?_
  refine um_callv (va_runV (As := []) (rest := []) ⟨hx, hb, hml, hown, htg⟩ (xc_endMeeting l D κ τ A σ xd la ma va q sc h (by omega) (by omega) c1 hn2) (cwV 0 htg (lw_cV tg_516 tg_517 tg_518 tg_2 tg_519) rfl rfl rfl (by decide +kernel) ⟨Nat.le_of_ble_eq_true rfl, Nat.le_of_ble_eq_true rfl⟩) (um_preV hU hK hJ h.c1 rfl) rfl rfl hl.1 rfl (lv_room (Nat.le_of_ble_eq_true rfl)) dX8_part_14 ⟨Nat.le_of_ble_eq_true rfl, Nat.le_of_ble_eq_true rfl⟩) hU (fun σ H locs h hU => ?_)
  exact W.widen (Nat.le_of_ble_eq_true rfl) (Nat.le_of_ble_eq_true rfl) (vx_ret (um_vret hx hb hr hlocks hK hJ hU dX8_part_17 ⟨by simp [tbT_part, tbQ_part, c1], ⟨_, _, _, _, by rw [show (tbQ_part q) = (tb_ends (tb_keep (tb_keep q (q 13 0 - 1)) (q 13 1 - 1))) from by simp [tbT_part, tbQ_part, c1]]; exact h⟩⟩))

set_option maxRecDepth 100000 in
set_option maxHeartbeats 4000000 in
theorem xp_crash (l : Launch) (D : va_G) (κ : Nat → ClassId) (τ : Nat → Nat) (A : Nat → Prop) (σ : um_M) (xd la ma va : Nat → Nat) (q : tb_Q) (sc : xs_S) (h : xs_at κ σ xd la ma va q sc) (hst : l.stackTraces = false) (ok : tb_ok q) (pu : xs_pure q)  (x0 : Int32) : vx_Met l yX8_crash wsX8_crash ({ frames := 7, cells := 1, slots := 6, locals := 101 }) (va_Pc [.ref (xd 0), .int (x0)] (um_U D κ τ A σ)) (va_Qv (fun σ' : um_M => tbT_crash x0 = 0 ∧ ∃ la' ma' va' sc', xs_at κ σ' xd la' ma' va' (tbQ_crash q x0) sc') (um_U D κ τ A) A) (um_XC D κ τ A (fun u => ∃ sc', xs_at κ u xd la ma va q sc') (fun E => E = nIAE ∧ tbT_crash x0 = 1)) 1 6 A := by
  refine um_metX (cc := cX8_crash) (maxL := 2) (ret := none) (by decide) rfl rfl ?_
  intro pp ee s mm args below meth cd ls hx hb hr hts hown hlocks hml htab hK hJ hU hl
  have hown : s.vm.findClass RX8 = some mm.cls := hown
  have htg : ∀ w ∈ lw_g, w.before args s = true := fun w h => hts w (List.mem_cons_of_mem _ h)
  have hl : lv_has ls 2 [(0, .ref (xd 0)), (1, .int (x0))] := hl
  have hq := ok.sm
  have h0 := ok.me.1
  have h1 := ok.me.2.1
  refine lv_iload_n hx hb dX8_crash_0 rfl (lv_at hl 1 rfl) ?_
  refine lv_iconst (v := nI 5) hx hb dX8_crash_1 (by decide +kernel) ?_
  refine um_callP (va_runS (As := [.int (x0), .int (nI (5))]) (rest := []) ⟨hx, hb, hml, hown, htg⟩ (xf_isBelow l D κ τ A σ x0 5 (by decide) (by decide)) (cwS 2 htg (lw_cS tg_190 tg_191 tg_1 tg_192) rfl rfl rfl (by decide +kernel) ⟨Nat.le_of_ble_eq_true rfl, Nat.le_of_ble_eq_true rfl⟩) (um_preS hU hK hJ) rfl rfl hl.1 rfl (lv_room (Nat.le_of_ble_eq_true rfl)) dX8_crash_2 ⟨Nat.le_of_ble_eq_true rfl, Nat.le_of_ble_eq_true rfl⟩) hU (fun H locs hU => ?_)
  refine um_xcallv (vx_runS (As := [.int (um_b (tb_in x0 (nI 0) (nI 4)))]) (rest := []) ⟨hx, hb, hml, hown, htg⟩ (xf_require l D κ τ A σ hst (tb_in x0 (nI 0) (nI 4))) (cwS 1 htg (lw_cS tg_193 tg_194 tg_1 tg_195) rfl rfl rfl (by decide +kernel) ⟨Nat.le_of_ble_eq_true rfl, Nat.le_of_ble_eq_true rfl⟩) (um_preS hU hK hJ) rfl rfl hl.1 rfl (lv_room (Nat.le_of_ble_eq_true rfl)) dX8_crash_5 ⟨Nat.le_of_ble_eq_true rfl, Nat.le_of_ble_eq_true rfl⟩) hU (fun E9 ce9 q9 σ9 H locs hp9 hE9 hU hce hcv hcl => ?_) (fun σ9 H locs hp9 hU => ?_)
  · obtain ⟨rfl, c1⟩ := hE9
    rw [hp9] at hU
    exact um_xout htab hlocks hce hcv hcl hK hJ hU ⟨_, h⟩ (⟨rfl, by simp [tbT_crash, tbQ_crash, c1]⟩) (Nat.le_of_ble_eq_true rfl) (Nat.le_of_ble_eq_true rfl)
  have c1 := hp9.1
  rw [hp9.2] at hU
  obtain ⟨j0, ha_j0, hb_j0, rfl⟩ := tb_inN (by decide) (by decide) c1
  have en_j0 : (nI j0).toNatClampNeg = j0 := nI_clamp (by omega)
  refine lv_aload_n hx hb dX8_crash_8 rfl (lv_at hl 0 rfl) ?_
  refine um_get (v := .ref (xd 1)) hx hb htg inX8 hown hK hU h.c0 rfl 0 (by decide) (htg _ tg_157) rfl dX8_crash_9 ?_
  refine lv_iload_n hx hb dX8_crash_12 rfl (lv_at hl 1 rfl) ?_
  refine um_callv (va_runV (As := [.int (nI (j0))]) (rest := []) ⟨hx, hb, hml, hown, htg⟩ (xc_forget l D κ τ A σ xd la ma va q sc h j0 (by omega)) (cwV 1 htg (lw_cV tg_527 tg_528 tg_529 tg_2 tg_530) rfl rfl rfl (by decide +kernel) ⟨Nat.le_of_ble_eq_true rfl, Nat.le_of_ble_eq_true rfl⟩) (um_preV hU hK hJ h.c1 rfl) rfl rfl hl.1 rfl (lv_room (Nat.le_of_ble_eq_true rfl)) dX8_crash_13 ⟨Nat.le_of_ble_eq_true rfl, Nat.le_of_ble_eq_true rfl⟩) hU (fun σ H locs h hU => ?_)
  have f13 : tb_forg q j0 13 = q 13 := tb_forg_n q (by decide)
  have f0 := congrFun f13 0
  have f1 := congrFun f13 1
  refine lv_iload_n hx hb dX8_crash_16 rfl (lv_at hl 1 rfl) ?_
  refine lv_aload_n hx hb dX8_crash_17 rfl (lv_at hl 0 rfl) ?_
  refine um_get (v := .ref (xd 1)) hx hb htg inX8 hown hK hU h.c0 rfl 0 (by decide) (htg _ tg_157) rfl dX8_crash_18 ?_
  refine um_get (v := .int (tb_m1 ((tb_forg q j0) 13 0))) hx hb htg inX0 hown hK hU h.c1 rfl 2 (by decide) (htg _ tg_39) rfl dX8_crash_21 ?_
  refine um_eqNM (tgt := 38) hx hb dX8_crash_24 (by decide) (by omega) (by omega) (fun c2 => ?_) (fun c2 => ?_)
  · have hm2 := ok.me.2.2.1
    have hnA : ¬ tb_forg q j0 13 0 = 0 := by omega
    have hnB : ¬ tb_forg q j0 13 1 = 0 := by omega
    refine lv_aload_n hx hb dX8_crash_38 rfl (lv_at hl 0 rfl) ?_
    refine um_get (v := .ref (xd 1)) hx hb htg inX8 hown hK hU h.c0 rfl 0 (by decide) (htg _ tg_157) rfl dX8_crash_39 ?_
    refine um_callv (va_runV (As := []) (rest := []) ⟨hx, hb, hml, hown, htg⟩ (xc_endMeeting l D κ τ A σ xd la ma va (tb_forg q j0) sc h (by omega) (by omega) hnA hnB) (cwV 0 htg (lw_cV tg_516 tg_517 tg_518 tg_2 tg_519) rfl rfl rfl (by decide +kernel) ⟨Nat.le_of_ble_eq_true rfl, Nat.le_of_ble_eq_true rfl⟩) (um_preV hU hK hJ h.c1 rfl) rfl rfl hl.1 rfl (lv_room (Nat.le_of_ble_eq_true rfl)) dX8_crash_42 ⟨Nat.le_of_ble_eq_true rfl, Nat.le_of_ble_eq_true rfl⟩) hU (fun σ H locs h hU => ?_)
    exact W.widen (Nat.le_of_ble_eq_true rfl) (Nat.le_of_ble_eq_true rfl) (vx_ret (um_vret hx hb hr hlocks hK hJ hU dX8_crash_45 ⟨by simp [tbT_crash, tbQ_crash, c1, en_j0, c2], ⟨_, _, _, _, by rw [show (tbQ_crash q (nI j0)) = (tb_ends (tb_keep (tb_keep (tb_forg q j0) ((tb_forg q j0) 13 0 - 1)) ((tb_forg q j0) 13 1 - 1))) from by rw [tbQ_crash, if_pos c1, en_j0]; exact tb_crash_1 ok (by omega) (by omega)]; exact h⟩⟩))
  · refine lv_iload_n hx hb dX8_crash_27 rfl (lv_at hl 1 rfl) ?_
    refine lv_aload_n hx hb dX8_crash_28 rfl (lv_at hl 0 rfl) ?_
    refine um_get (v := .ref (xd 1)) hx hb htg inX8 hown hK hU h.c0 rfl 0 (by decide) (htg _ tg_157) rfl dX8_crash_29 ?_
    refine um_get (v := .int (tb_m1 ((tb_forg q j0) 13 1))) hx hb htg inX0 hown hK hU h.c1 rfl 3 (by decide) (htg _ tg_41) rfl dX8_crash_32 ?_
    refine um_neNM (tgt := 45) hx hb dX8_crash_35 (by decide) (by omega) (by omega) (fun c3 => ?_) (fun c3 => ?_)
    · exact W.widen (Nat.le_of_ble_eq_true rfl) (Nat.le_of_ble_eq_true rfl) (vx_ret (um_vret hx hb hr hlocks hK hJ hU dX8_crash_45 ⟨by simp [tbT_crash, tbQ_crash, c1, en_j0, c2, c3], ⟨_, _, _, _, by rw [show (tbQ_crash q (nI j0)) = (tb_forg q j0) from by rw [tbQ_crash, if_pos c1, en_j0]; exact tb_crash_0 ok (by omega) (by omega) (by omega)]; exact h⟩⟩))
    · have hm2 := ok.me.2.2.1
      have hnA : ¬ tb_forg q j0 13 0 = 0 := by omega
      have hnB : ¬ tb_forg q j0 13 1 = 0 := by omega
      refine lv_aload_n hx hb dX8_crash_38 rfl (lv_at hl 0 rfl) ?_
      refine um_get (v := .ref (xd 1)) hx hb htg inX8 hown hK hU h.c0 rfl 0 (by decide) (htg _ tg_157) rfl dX8_crash_39 ?_
      refine um_callv (va_runV (As := []) (rest := []) ⟨hx, hb, hml, hown, htg⟩ (xc_endMeeting l D κ τ A σ xd la ma va (tb_forg q j0) sc h (by omega) (by omega) hnA hnB) (cwV 0 htg (lw_cV tg_516 tg_517 tg_518 tg_2 tg_519) rfl rfl rfl (by decide +kernel) ⟨Nat.le_of_ble_eq_true rfl, Nat.le_of_ble_eq_true rfl⟩) (um_preV hU hK hJ h.c1 rfl) rfl rfl hl.1 rfl (lv_room (Nat.le_of_ble_eq_true rfl)) dX8_crash_42 ⟨Nat.le_of_ble_eq_true rfl, Nat.le_of_ble_eq_true rfl⟩) hU (fun σ H locs h hU => ?_)
      exact W.widen (Nat.le_of_ble_eq_true rfl) (Nat.le_of_ble_eq_true rfl) (vx_ret (um_vret hx hb hr hlocks hK hJ hU dX8_crash_45 ⟨by simp [tbT_crash, tbQ_crash, c1, en_j0, c2, c3], ⟨_, _, _, _, by rw [show (tbQ_crash q (nI j0)) = (tb_ends (tb_keep (tb_keep (tb_forg q j0) ((tb_forg q j0) 13 0 - 1)) ((tb_forg q j0) 13 1 - 1))) from by rw [tbQ_crash, if_pos c1, en_j0]; exact tb_crash_1 ok (by omega) (by omega)]; exact h⟩⟩))

set_option maxRecDepth 100000 in
set_option maxHeartbeats 4000000 in
theorem xp_value (l : Launch) (D : va_G) (κ : Nat → ClassId) (τ : Nat → Nat) (A : Nat → Prop) (σ : um_M) (xd la ma va : Nat → Nat) (q : tb_Q) (sc : xs_S) (h : xs_at κ σ xd la ma va q sc) (hst : l.stackTraces = false) (ok : tb_ok q) (pu : xs_pure q)  (x0 x1 x2 x3 : Int32) : vx_Met l yX8_value wsX8_value ({ frames := 7, cells := 2, slots := 12, locals := 101 }) (va_Pc [.ref (xd 0), .int (x0), .int (x1), .int (x2), .int (x3)] (um_U D κ τ A σ)) (va_Qi (fun (r9 : Int32) (σ' : um_M) => r9 = nI (tbA_value q x0 x1 x2 x3) ∧ tbT_value q x0 x1 x2 x3 = 0 ∧ ∃ la' ma' va' sc', xs_at κ σ' xd la' ma' va' q sc') (um_U D κ τ A) A) (um_XC D κ τ A (fun u => ∃ sc', xs_at κ u xd la ma va q sc') (fun E => (E = nIAE ∧ tbT_value q x0 x1 x2 x3 = 1) ∨ (E = nNSE ∧ tbT_value q x0 x1 x2 x3 = 2))) 2 12 A := by
  refine um_metX (cc := cX8_value) (maxL := 6) (ret := (some .int)) (by decide) rfl rfl ?_
  intro pp ee s mm args below meth cd ls hx hb hr hts hown hlocks hml htab hK hJ hU hl
  have hown : s.vm.findClass RX8 = some mm.cls := hown
  have htg : ∀ w ∈ lw_g, w.before args s = true := fun w h => hts w (List.mem_cons_of_mem _ h)
  have hl : lv_has ls 6 [(0, .ref (xd 0)), (1, .int (x0)), (2, .int (x1)), (3, .int (x2)), (4, .int (x3))] := hl
  have hq := ok.sm
  refine lv_iload_n hx hb dX8_value_0 rfl (lv_at hl 1 rfl) ?_
  refine lv_iconst (v := nI 5) hx hb dX8_value_1 (by decide +kernel) ?_
  refine um_callP (va_runS (As := [.int (x0), .int (nI (5))]) (rest := []) ⟨hx, hb, hml, hown, htg⟩ (xf_isBelow l D κ τ A σ x0 5 (by decide) (by decide)) (cwS 2 htg (lw_cS tg_190 tg_191 tg_1 tg_192) rfl rfl rfl (by decide +kernel) ⟨Nat.le_of_ble_eq_true rfl, Nat.le_of_ble_eq_true rfl⟩) (um_preS hU hK hJ) rfl rfl hl.1 rfl (lv_room (Nat.le_of_ble_eq_true rfl)) dX8_value_2 ⟨Nat.le_of_ble_eq_true rfl, Nat.le_of_ble_eq_true rfl⟩) hU (fun H locs hU => ?_)
  refine um_eqB (tgt := 22) hx hb dX8_value_5 (by decide) (fun c1 => ?_) (fun c1 => ?_)
  · refine lv_iconst (v := nI 0) hx hb dX8_value_22 (by decide +kernel) ?_
    refine um_xcallv (vx_runS (As := [.int (um_b false)]) (rest := []) ⟨hx, hb, hml, hown, htg⟩ (xf_require l D κ τ A σ hst false) (cwS 1 htg (lw_cS tg_193 tg_194 tg_1 tg_195) rfl rfl rfl (by decide +kernel) ⟨Nat.le_of_ble_eq_true rfl, Nat.le_of_ble_eq_true rfl⟩) (um_preS hU hK hJ) rfl rfl hl.1 rfl (lv_room (Nat.le_of_ble_eq_true rfl)) dX8_value_23 ⟨Nat.le_of_ble_eq_true rfl, Nat.le_of_ble_eq_true rfl⟩) hU (fun E9 ce9 q9 σ9 H locs hp9 hE9 hU hce hcv hcl => ?_) (fun σ9 H locs hp9 hU => ?_)
    · obtain ⟨rfl, c2⟩ := hE9
      rw [hp9] at hU
      exact um_xout htab hlocks hce hcv hcl hK hJ hU ⟨_, h⟩ (Or.inl ⟨rfl, by simp [tbT_value, tb_vaB, tb_vaS, c1, c2]⟩) (Nat.le_of_ble_eq_true rfl) (Nat.le_of_ble_eq_true rfl)
    · exact absurd hp9.1 (by decide)
  · refine lv_iload_n hx hb dX8_value_8 rfl (lv_at hl 2 rfl) ?_
    refine lv_iload_n hx hb dX8_value_9 rfl (lv_at hl 3 rfl) ?_
    refine lv_iload hx hb dX8_value_10 (lv_at hl 4 rfl) ?_
    refine um_callP (va_runS (As := [.int (x1), .int (x2), .int (x3)]) (rest := []) ⟨hx, hb, hml, hown, htg⟩ (xf_isField l D κ τ A σ x1 x2 x3) (cwS 3 htg (lw_cS tg_363 tg_364 tg_1 tg_365) rfl rfl rfl (by decide +kernel) ⟨Nat.le_of_ble_eq_true rfl, Nat.le_of_ble_eq_true rfl⟩) (um_preS hU hK hJ) rfl rfl hl.1 rfl (lv_room (Nat.le_of_ble_eq_true rfl)) dX8_value_12 ⟨Nat.le_of_ble_eq_true rfl, Nat.le_of_ble_eq_true rfl⟩) hU (fun H locs hU => ?_)
    refine um_eqB (tgt := 22) hx hb dX8_value_15 (by decide) (fun c3 => ?_) (fun c3 => ?_)
    · refine lv_iconst (v := nI 0) hx hb dX8_value_22 (by decide +kernel) ?_
      refine um_xcallv (vx_runS (As := [.int (um_b false)]) (rest := []) ⟨hx, hb, hml, hown, htg⟩ (xf_require l D κ τ A σ hst false) (cwS 1 htg (lw_cS tg_193 tg_194 tg_1 tg_195) rfl rfl rfl (by decide +kernel) ⟨Nat.le_of_ble_eq_true rfl, Nat.le_of_ble_eq_true rfl⟩) (um_preS hU hK hJ) rfl rfl hl.1 rfl (lv_room (Nat.le_of_ble_eq_true rfl)) dX8_value_23 ⟨Nat.le_of_ble_eq_true rfl, Nat.le_of_ble_eq_true rfl⟩) hU (fun E9 ce9 q9 σ9 H locs hp9 hE9 hU hce hcv hcl => ?_) (fun σ9 H locs hp9 hU => ?_)
      · obtain ⟨rfl, c4⟩ := hE9
        rw [hp9] at hU
        exact um_xout htab hlocks hce hcv hcl hK hJ hU ⟨_, h⟩ (Or.inl ⟨rfl, by simp [tbT_value, tb_vaB, tb_vaS, c1, c3, c4]⟩) (Nat.le_of_ble_eq_true rfl) (Nat.le_of_ble_eq_true rfl)
      · exact absurd hp9.1 (by decide)
    · refine lv_iconst (v := nI 1) hx hb dX8_value_18 (by decide +kernel) ?_
      refine lv_goto (tgt := 23) hx hb dX8_value_19 (by decide) ?_
      refine um_xcallv (vx_runS (As := [.int (um_b true)]) (rest := []) ⟨hx, hb, hml, hown, htg⟩ (xf_require l D κ τ A σ hst true) (cwS 1 htg (lw_cS tg_193 tg_194 tg_1 tg_195) rfl rfl rfl (by decide +kernel) ⟨Nat.le_of_ble_eq_true rfl, Nat.le_of_ble_eq_true rfl⟩) (um_preS hU hK hJ) rfl rfl hl.1 rfl (lv_room (Nat.le_of_ble_eq_true rfl)) dX8_value_23 ⟨Nat.le_of_ble_eq_true rfl, Nat.le_of_ble_eq_true rfl⟩) hU (fun E9 ce9 q9 σ9 H locs hp9 hE9 hU hce hcv hcl => ?_) (fun σ9 H locs hp9 hU => ?_)
      · exact absurd hE9.2 (by decide)
      have c5 := hp9.1
      rw [hp9.2] at hU
      have hfd := c3
      simp only [tb_fd, Bool.and_eq_true] at hfd
      obtain ⟨⟨hf1, hf2⟩, hf3⟩ := hfd
      obtain ⟨j0, ha_j0, hb_j0, rfl⟩ := tb_inN (by decide) (by decide) c1
      have en_j0 : (nI j0).toNatClampNeg = j0 := nI_clamp (by omega)
      obtain ⟨j1, ha_j1, hb_j1, rfl⟩ := tb_inN (by decide) (by decide) hf1
      have en_j1 : (nI j1).toNatClampNeg = j1 := nI_clamp (by omega)
      obtain ⟨j2, ha_j2, hb_j2, rfl⟩ := tb_inN (by decide) (by decide) hf2
      have en_j2 : (nI j2).toNatClampNeg = j2 := nI_clamp (by omega)
      obtain ⟨j3, ha_j3, hb_j3, rfl⟩ := tb_inN (by decide) (by decide) hf3
      have en_j3 : (nI j3).toNatClampNeg = j3 := nI_clamp (by omega)
      refine lv_aload_n hx hb dX8_value_26 rfl (lv_at hl 0 rfl) ?_
      refine um_get (v := .ref (xd 16)) hx hb htg inX8 hown hK hU h.c0 rfl 2 (by decide) (htg _ tg_159) rfl dX8_value_27 ?_
      refine lv_iload_n hx hb dX8_value_30 rfl (lv_at hl 2 rfl) ?_
      refine lv_iload_n hx hb dX8_value_31 rfl (lv_at hl 3 rfl) ?_
      refine lv_iload hx hb dX8_value_32 (lv_at hl 4 rfl) ?_
      refine um_callP (va_runS (As := [.int (nI (j1)), .int (nI (j2)), .int (nI (j3))]) (rest := [.ref (xd 16)]) ⟨hx, hb, hml, hown, htg⟩ (xf_spotOf l D κ τ A σ j1 j2 j3) (cwS 3 htg (lw_cS tg_373 tg_374 tg_1 tg_375) rfl rfl rfl (by decide +kernel) ⟨Nat.le_of_ble_eq_true rfl, Nat.le_of_ble_eq_true rfl⟩) (um_preS hU hK hJ) rfl rfl hl.1 rfl (lv_room (Nat.le_of_ble_eq_true rfl)) dX8_value_34 ⟨Nat.le_of_ble_eq_true rfl, Nat.le_of_ble_eq_true rfl⟩) hU (fun H locs hU => ?_)
      refine lv_aload_n hx hb dX8_value_37 rfl (lv_at hl 0 rfl) ?_
      refine um_get (v := .ref (xd 1)) hx hb htg inX8 hown hK hU h.c0 rfl 0 (by decide) (htg _ tg_157) rfl dX8_value_38 ?_
      refine um_get (v := .ref (xd 2)) hx hb htg inX0 hown hK hU h.c1 rfl 0 (by decide) (htg _ tg_36) rfl dX8_value_41 ?_
      refine lv_iload_n hx hb dX8_value_44 rfl (lv_at hl 1 rfl) ?_
      refine xs_gld (b := 4) hx hb hK hU h.c2 j0 (by omega) dX8_value_45 ?_
      refine um_callv (va_runV (As := [.int (nI ((j1 * 4 + j2) * 3 + j3)), .ref (xd (4 + j0))]) (rest := []) ⟨hx, hb, hml, hown, htg⟩ (xn_open l D κ τ A σ xd la ma va q sc h ok j0 ((j1 * 4 + j2) * 3 + j3) (by omega) (by omega)) (cwV 2 htg (lw_cV tg_441 tg_442 tg_443 tg_4 tg_444) rfl rfl rfl (by decide +kernel) ⟨Nat.le_of_ble_eq_true rfl, Nat.le_of_ble_eq_true rfl⟩) (um_preV hU hK hJ h.c16 rfl) rfl rfl hl.1 rfl (lv_room (Nat.le_of_ble_eq_true rfl)) dX8_value_46 ⟨Nat.le_of_ble_eq_true rfl, Nat.le_of_ble_eq_true rfl⟩) hU (fun σ H locs h hU => ?_)
      refine lv_aload_n hx hb dX8_value_49 rfl (lv_at hl 0 rfl) ?_
      refine um_get (v := .ref (xd 16)) hx hb htg inX8 hown hK hU h.c0 rfl 2 (by decide) (htg _ tg_159) rfl dX8_value_50 ?_
      refine um_callPq (va_runV (As := []) (rest := []) ⟨hx, hb, hml, hown, htg⟩ (xn_shown l D κ τ A σ xd la ma va q (xs_pg q ma sc j0 ((j1 * 4 + j2) * 3 + j3)) h ok (xs_C q j0 ((j1 * 4 + j2) * 3 + j3)) (xs_D q j0 ((j1 * 4 + j2) * 3 + j3)) (xs_pg_page q ma sc j0 ((j1 * 4 + j2) * 3 + j3)) (xs_CD_len q j0 ((j1 * 4 + j2) * 3 + j3)) (fun e9 he9 => (xs_CD_M ok (by omega) he9).1)) (cwV 0 htg (lw_cV tg_552 tg_553 tg_554 tg_4 tg_555) rfl rfl rfl (by decide +kernel) ⟨Nat.le_of_ble_eq_true rfl, Nat.le_of_ble_eq_true rfl⟩) (um_preV hU hK hJ h.c16 rfl) rfl rfl hl.1 rfl (lv_room (Nat.le_of_ble_eq_true rfl)) dX8_value_53 ⟨Nat.le_of_ble_eq_true rfl, Nat.le_of_ble_eq_true rfl⟩) hU (fun H locs hU => ?_)
      refine um_astoreQ (lv' := [(5, va_rf ((xs_C q j0 ((j1 * 4 + j2) * 3 + j3)).getLast?.map ma)), (0, .ref (xd 0)), (1, .int (nI (j0))), (2, .int (nI (j1))), (3, .int (nI (j2))), (4, .int (nI (j3)))]) hx hb dX8_value_56 hl (by decide) rfl (fun ls hl => ?_)
      have e1 : (xs_C q j0 ((j1 * 4 + j2) * 3 + j3)).getLast? = tb_shO q j0 j1 (3 * j2 + j3) := by rw [show (j1 * 4 + j2) * 3 + j3 = 12 * j1 + (3 * j2 + j3) by omega]; exact pu.sh (d := j0) (by omega) j1 (3 * j2 + j3) (by omega) (by omega)
      rw [e1] at hl
      cases ho : tb_shO q j0 j1 (3 * j2 + j3) with
      | none =>
        rw [ho] at hl
        have hl : lv_has ls 6 [(5, .null), (0, .ref (xd 0)), (1, .int (nI (j0))), (2, .int (nI (j1))), (3, .int (nI (j2))), (4, .int (nI (j3)))] := hl
        refine lv_aloadN hx hb dX8_value_58 (lv_at hl 0 rfl) ?_
        refine lv_ifnonnullN hx hb dX8_value_60 ?_
        exact um_thr (ik := 132) (ic := 134) hx hb hst hown (by decide +kernel) (htg _ tg_468) (htg _ tg_18) (at_of htg at_NSE1 at_NSE2 hJ.2.2.2.2.2.2.1 hJ.2.2.2.2) (by decide +kernel) htab hlocks hK hJ hU (by rw [hml]; exact hl.1) dX8_value_63 dX8_value_66 dX8_value_67 dX8_value_70 (by decide) (by decide) (by decide) (by decide) ⟨_, h⟩ (Or.inr (⟨rfl, by simp [tbT_value, tb_vaB, tb_vaS, c1, c3, en_j0, en_j1, en_j2, en_j3, tb_shO_none ho]⟩)) (by decide) (by decide)
      | some e =>
        rw [ho] at hl
        have hl : lv_has ls 6 [(5, .ref (ma e)), (0, .ref (xd 0)), (1, .int (nI (j0))), (2, .int (nI (j1))), (3, .int (nI (j2))), (4, .int (nI (j3)))] := hl
        obtain ⟨hn0, he1⟩ := tb_shO_some ho
        have hM := (xs_CD_M ok (by omega) (xs_last_mem (e1.trans ho))).1
        refine lv_aload hx hb dX8_value_58 (lv_at hl 0 rfl) ?_
        refine lv_ifnonnull (tgt := 71) hx hb dX8_value_60 (by decide) ?_
        refine lv_aload hx hb dX8_value_71 (lv_at hl 0 rfl) ?_
        refine um_get (v := .int (nI (q 4 e))) hx hb htg inX3 hown hK hU (show um_h σ (ma e) (.inr (3, _)) from (h.2.2.2 e hM).1) rfl 2 (by decide) (htg _ tg_410) rfl dX8_value_73 ?_
        exact W.widen (Nat.le_of_ble_eq_true rfl) (Nat.le_of_ble_eq_true rfl) (vx_ret (um_iret hx hb hr hlocks hK hJ hU dX8_value_76 ⟨congrArg nI (by simp [tbT_value, tbA_value, tb_vaB, tb_vaS, c1, c3, en_j0, en_j1, en_j2, en_j3, hn0, he1]), by simp [tbT_value, tbA_value, tb_vaB, tb_vaS, c1, c3, en_j0, en_j1, en_j2, en_j3, hn0, he1], ⟨_, _, _, _, h⟩⟩))

set_option maxRecDepth 100000 in
set_option maxHeartbeats 4000000 in
theorem xp_candidate (l : Launch) (D : va_G) (κ : Nat → ClassId) (τ : Nat → Nat) (A : Nat → Prop) (σ : um_M) (xd la ma va : Nat → Nat) (q : tb_Q) (sc : xs_S) (h : xs_at κ σ xd la ma va q sc) (hst : l.stackTraces = false) (ok : tb_ok q) (pu : xs_pure q)  (x0 x1 x2 x3 x4 : Int32) : vx_Met l yX8_candidate wsX8_candidate ({ frames := 7, cells := 1, slots := 6, locals := 101 }) (va_Pc [.ref (xd 0), .int (x0), .int (x1), .int (x2), .int (x3), .int (x4)] (um_U D κ τ A σ)) (va_Qi (fun (r9 : Int32) (σ' : um_M) => r9 = tbA_candidate q x0 x1 x2 x3 x4 ∧ tbT_candidate x0 x1 x2 x3 x4 = 0 ∧ ∃ la' ma' va' sc', xs_at κ σ' xd la' ma' va' q sc') (um_U D κ τ A) A) (um_XC D κ τ A (fun u => ∃ sc', xs_at κ u xd la ma va q sc') (fun E => E = nIAE ∧ tbT_candidate x0 x1 x2 x3 x4 = 1)) 1 6 A := by
  refine um_metX (cc := cX8_candidate) (maxL := 6) (ret := (some .int)) (by decide) rfl rfl ?_
  intro pp ee s mm args below meth cd ls hx hb hr hts hown hlocks hml htab hK hJ hU hl
  have hown : s.vm.findClass RX8 = some mm.cls := hown
  have htg : ∀ w ∈ lw_g, w.before args s = true := fun w h => hts w (List.mem_cons_of_mem _ h)
  have hl : lv_has ls 6 [(0, .ref (xd 0)), (1, .int (x0)), (2, .int (x1)), (3, .int (x2)), (4, .int (x3)), (5, .int (x4))] := hl
  have hq := ok.sm
  refine lv_iload_n hx hb dX8_candidate_0 rfl (lv_at hl 1 rfl) ?_
  refine lv_iconst (v := nI 5) hx hb dX8_candidate_1 (by decide +kernel) ?_
  refine um_callP (va_runS (As := [.int (x0), .int (nI (5))]) (rest := []) ⟨hx, hb, hml, hown, htg⟩ (xf_isBelow l D κ τ A σ x0 5 (by decide) (by decide)) (cwS 2 htg (lw_cS tg_190 tg_191 tg_1 tg_192) rfl rfl rfl (by decide +kernel) ⟨Nat.le_of_ble_eq_true rfl, Nat.le_of_ble_eq_true rfl⟩) (um_preS hU hK hJ) rfl rfl hl.1 rfl (lv_room (Nat.le_of_ble_eq_true rfl)) dX8_candidate_2 ⟨Nat.le_of_ble_eq_true rfl, Nat.le_of_ble_eq_true rfl⟩) hU (fun H locs hU => ?_)
  refine um_eqB (tgt := 27) hx hb dX8_candidate_5 (by decide) (fun c1 => ?_) (fun c1 => ?_)
  · refine lv_iconst (v := nI 0) hx hb dX8_candidate_27 (by decide +kernel) ?_
    refine um_xcallv (vx_runS (As := [.int (um_b false)]) (rest := []) ⟨hx, hb, hml, hown, htg⟩ (xf_require l D κ τ A σ hst false) (cwS 1 htg (lw_cS tg_193 tg_194 tg_1 tg_195) rfl rfl rfl (by decide +kernel) ⟨Nat.le_of_ble_eq_true rfl, Nat.le_of_ble_eq_true rfl⟩) (um_preS hU hK hJ) rfl rfl hl.1 rfl (lv_room (Nat.le_of_ble_eq_true rfl)) dX8_candidate_28 ⟨Nat.le_of_ble_eq_true rfl, Nat.le_of_ble_eq_true rfl⟩) hU (fun E9 ce9 q9 σ9 H locs hp9 hE9 hU hce hcv hcl => ?_) (fun σ9 H locs hp9 hU => ?_)
    · obtain ⟨rfl, c2⟩ := hE9
      rw [hp9] at hU
      exact um_xout htab hlocks hce hcv hcl hK hJ hU ⟨_, h⟩ (⟨rfl, by first | (simp [tbT_candidate, c1, c2]; done) | (simp [tbT_candidate, c1, c2, Int32.not_le.mpr c2]; done)⟩) (Nat.le_of_ble_eq_true rfl) (Nat.le_of_ble_eq_true rfl)
    · exact absurd hp9.1 (by decide)
  · refine lv_iload_n hx hb dX8_candidate_8 rfl (lv_at hl 2 rfl) ?_
    refine lv_iload_n hx hb dX8_candidate_9 rfl (lv_at hl 3 rfl) ?_
    refine lv_iload hx hb dX8_candidate_10 (lv_at hl 4 rfl) ?_
    refine um_callP (va_runS (As := [.int (x1), .int (x2), .int (x3)]) (rest := []) ⟨hx, hb, hml, hown, htg⟩ (xf_isField l D κ τ A σ x1 x2 x3) (cwS 3 htg (lw_cS tg_363 tg_364 tg_1 tg_365) rfl rfl rfl (by decide +kernel) ⟨Nat.le_of_ble_eq_true rfl, Nat.le_of_ble_eq_true rfl⟩) (um_preS hU hK hJ) rfl rfl hl.1 rfl (lv_room (Nat.le_of_ble_eq_true rfl)) dX8_candidate_12 ⟨Nat.le_of_ble_eq_true rfl, Nat.le_of_ble_eq_true rfl⟩) hU (fun H locs hU => ?_)
    refine um_eqB (tgt := 27) hx hb dX8_candidate_15 (by decide) (fun c3 => ?_) (fun c3 => ?_)
    · refine lv_iconst (v := nI 0) hx hb dX8_candidate_27 (by decide +kernel) ?_
      refine um_xcallv (vx_runS (As := [.int (um_b false)]) (rest := []) ⟨hx, hb, hml, hown, htg⟩ (xf_require l D κ τ A σ hst false) (cwS 1 htg (lw_cS tg_193 tg_194 tg_1 tg_195) rfl rfl rfl (by decide +kernel) ⟨Nat.le_of_ble_eq_true rfl, Nat.le_of_ble_eq_true rfl⟩) (um_preS hU hK hJ) rfl rfl hl.1 rfl (lv_room (Nat.le_of_ble_eq_true rfl)) dX8_candidate_28 ⟨Nat.le_of_ble_eq_true rfl, Nat.le_of_ble_eq_true rfl⟩) hU (fun E9 ce9 q9 σ9 H locs hp9 hE9 hU hce hcv hcl => ?_) (fun σ9 H locs hp9 hU => ?_)
      · obtain ⟨rfl, c4⟩ := hE9
        rw [hp9] at hU
        exact um_xout htab hlocks hce hcv hcl hK hJ hU ⟨_, h⟩ (⟨rfl, by first | (simp [tbT_candidate, c1, c3, c4]; done) | (simp [tbT_candidate, c1, c3, c4, Int32.not_le.mpr c4]; done)⟩) (Nat.le_of_ble_eq_true rfl) (Nat.le_of_ble_eq_true rfl)
      · exact absurd hp9.1 (by decide)
    · refine lv_iload hx hb dX8_candidate_18 (lv_at hl 5 rfl) ?_
      refine lv_if_lt (tgt := 27) hx hb dX8_candidate_20 (by decide) (fun c5 => ?_) (fun c5 => ?_)
      · refine lv_iconst (v := nI 0) hx hb dX8_candidate_27 (by decide +kernel) ?_
        refine um_xcallv (vx_runS (As := [.int (um_b false)]) (rest := []) ⟨hx, hb, hml, hown, htg⟩ (xf_require l D κ τ A σ hst false) (cwS 1 htg (lw_cS tg_193 tg_194 tg_1 tg_195) rfl rfl rfl (by decide +kernel) ⟨Nat.le_of_ble_eq_true rfl, Nat.le_of_ble_eq_true rfl⟩) (um_preS hU hK hJ) rfl rfl hl.1 rfl (lv_room (Nat.le_of_ble_eq_true rfl)) dX8_candidate_28 ⟨Nat.le_of_ble_eq_true rfl, Nat.le_of_ble_eq_true rfl⟩) hU (fun E9 ce9 q9 σ9 H locs hp9 hE9 hU hce hcv hcl => ?_) (fun σ9 H locs hp9 hU => ?_)
        · obtain ⟨rfl, c6⟩ := hE9
          rw [hp9] at hU
          exact um_xout htab hlocks hce hcv hcl hK hJ hU ⟨_, h⟩ (⟨rfl, by first | (simp [tbT_candidate, c1, c3, c5, c6]; done) | (simp [tbT_candidate, c1, c3, c5, c6, Int32.not_le.mpr c6]; done)⟩) (Nat.le_of_ble_eq_true rfl) (Nat.le_of_ble_eq_true rfl)
        · exact absurd hp9.1 (by decide)
      · refine lv_iconst (v := nI 1) hx hb dX8_candidate_23 (by decide +kernel) ?_
        refine lv_goto (tgt := 28) hx hb dX8_candidate_24 (by decide) ?_
        refine um_xcallv (vx_runS (As := [.int (um_b true)]) (rest := []) ⟨hx, hb, hml, hown, htg⟩ (xf_require l D κ τ A σ hst true) (cwS 1 htg (lw_cS tg_193 tg_194 tg_1 tg_195) rfl rfl rfl (by decide +kernel) ⟨Nat.le_of_ble_eq_true rfl, Nat.le_of_ble_eq_true rfl⟩) (um_preS hU hK hJ) rfl rfl hl.1 rfl (lv_room (Nat.le_of_ble_eq_true rfl)) dX8_candidate_28 ⟨Nat.le_of_ble_eq_true rfl, Nat.le_of_ble_eq_true rfl⟩) hU (fun E9 ce9 q9 σ9 H locs hp9 hE9 hU hce hcv hcl => ?_) (fun σ9 H locs hp9 hU => ?_)
        · exact absurd hE9.2 (by decide)
        have c7 := hp9.1
        rw [hp9.2] at hU
        have cle := Int32.not_lt.mp c5
        have hfd := c3
        simp only [tb_fd, Bool.and_eq_true] at hfd
        obtain ⟨⟨hf1, hf2⟩, hf3⟩ := hfd
        obtain ⟨j0, ha_j0, hb_j0, rfl⟩ := tb_inN (by decide) (by decide) c1
        have en_j0 : (nI j0).toNatClampNeg = j0 := nI_clamp (by omega)
        obtain ⟨j1, ha_j1, hb_j1, rfl⟩ := tb_inN (by decide) (by decide) hf1
        have en_j1 : (nI j1).toNatClampNeg = j1 := nI_clamp (by omega)
        obtain ⟨j2, ha_j2, hb_j2, rfl⟩ := tb_inN (by decide) (by decide) hf2
        have en_j2 : (nI j2).toNatClampNeg = j2 := nI_clamp (by omega)
        obtain ⟨j3, ha_j3, hb_j3, rfl⟩ := tb_inN (by decide) (by decide) hf3
        have en_j3 : (nI j3).toNatClampNeg = j3 := nI_clamp (by omega)
        obtain ⟨j4, hb_j4, rfl⟩ := tb_posN c5
        refine lv_aload_n hx hb dX8_candidate_31 rfl (lv_at hl 0 rfl) ?_
        refine um_get (v := .ref (xd 16)) hx hb htg inX8 hown hK hU h.c0 rfl 2 (by decide) (htg _ tg_159) rfl dX8_candidate_32 ?_
        refine lv_iload_n hx hb dX8_candidate_35 rfl (lv_at hl 2 rfl) ?_
        refine lv_iload_n hx hb dX8_candidate_36 rfl (lv_at hl 3 rfl) ?_
        refine lv_iload hx hb dX8_candidate_37 (lv_at hl 4 rfl) ?_
        refine um_callP (va_runS (As := [.int (nI (j1)), .int (nI (j2)), .int (nI (j3))]) (rest := [.ref (xd 16)]) ⟨hx, hb, hml, hown, htg⟩ (xf_spotOf l D κ τ A σ j1 j2 j3) (cwS 3 htg (lw_cS tg_373 tg_374 tg_1 tg_375) rfl rfl rfl (by decide +kernel) ⟨Nat.le_of_ble_eq_true rfl, Nat.le_of_ble_eq_true rfl⟩) (um_preS hU hK hJ) rfl rfl hl.1 rfl (lv_room (Nat.le_of_ble_eq_true rfl)) dX8_candidate_39 ⟨Nat.le_of_ble_eq_true rfl, Nat.le_of_ble_eq_true rfl⟩) hU (fun H locs hU => ?_)
        refine lv_aload_n hx hb dX8_candidate_42 rfl (lv_at hl 0 rfl) ?_
        refine um_get (v := .ref (xd 1)) hx hb htg inX8 hown hK hU h.c0 rfl 0 (by decide) (htg _ tg_157) rfl dX8_candidate_43 ?_
        refine um_get (v := .ref (xd 2)) hx hb htg inX0 hown hK hU h.c1 rfl 0 (by decide) (htg _ tg_36) rfl dX8_candidate_46 ?_
        refine lv_iload_n hx hb dX8_candidate_49 rfl (lv_at hl 1 rfl) ?_
        refine xs_gld (b := 4) hx hb hK hU h.c2 j0 (by omega) dX8_candidate_50 ?_
        refine um_callv (va_runV (As := [.int (nI ((j1 * 4 + j2) * 3 + j3)), .ref (xd (4 + j0))]) (rest := []) ⟨hx, hb, hml, hown, htg⟩ (xn_open l D κ τ A σ xd la ma va q sc h ok j0 ((j1 * 4 + j2) * 3 + j3) (by omega) (by omega)) (cwV 2 htg (lw_cV tg_441 tg_442 tg_443 tg_4 tg_444) rfl rfl rfl (by decide +kernel) ⟨Nat.le_of_ble_eq_true rfl, Nat.le_of_ble_eq_true rfl⟩) (um_preV hU hK hJ h.c16 rfl) rfl rfl hl.1 rfl (lv_room (Nat.le_of_ble_eq_true rfl)) dX8_candidate_51 ⟨Nat.le_of_ble_eq_true rfl, Nat.le_of_ble_eq_true rfl⟩) hU (fun σ H locs h hU => ?_)
        refine lv_aload_n hx hb dX8_candidate_54 rfl (lv_at hl 0 rfl) ?_
        refine um_get (v := .ref (xd 16)) hx hb htg inX8 hown hK hU h.c0 rfl 2 (by decide) (htg _ tg_159) rfl dX8_candidate_55 ?_
        refine lv_iload hx hb dX8_candidate_58 (lv_at hl 5 rfl) ?_
        refine um_callP (va_runV (As := [.int (nI (j4))]) (rest := []) ⟨hx, hb, hml, hown, htg⟩ (xn_codeAt l D κ τ A σ xd la ma va q (xs_pg q ma sc j0 ((j1 * 4 + j2) * 3 + j3)) h ok (xs_C q j0 ((j1 * 4 + j2) * 3 + j3)) (xs_D q j0 ((j1 * 4 + j2) * 3 + j3)) (xs_pg_page q ma sc j0 ((j1 * 4 + j2) * 3 + j3)) (xs_CD_len q j0 ((j1 * 4 + j2) * 3 + j3)) (fun e9 he9 => (xs_CD_M ok (by omega) he9).1) j4 hb_j4) (cwV 1 htg (lw_cV tg_563 tg_564 tg_565 tg_4 tg_566) rfl rfl rfl (by decide +kernel) ⟨Nat.le_of_ble_eq_true rfl, Nat.le_of_ble_eq_true rfl⟩) (um_preV hU hK hJ h.c16 rfl) rfl rfl hl.1 rfl (lv_room (Nat.le_of_ble_eq_true rfl)) dX8_candidate_60 ⟨Nat.le_of_ble_eq_true rfl, Nat.le_of_ble_eq_true rfl⟩) hU (fun H locs hU => ?_)
        rw [show (j1 * 4 + j2) * 3 + j3 = 12 * j1 + (3 * j2 + j3) by omega, pu.cd (d := j0) (p := j1) (f := 3 * j2 + j3) (j := j4) (by omega) (by omega) (by omega) hb_j4]
        exact W.widen (Nat.le_of_ble_eq_true rfl) (Nat.le_of_ble_eq_true rfl) (vx_ret (um_iret hx hb hr hlocks hK hJ hU dX8_candidate_63 ⟨by simp [tbT_candidate, tbA_candidate, c1, c3, c5, en_j0, en_j1, en_j2, en_j3, cle], by simp [tbT_candidate, tbA_candidate, c1, c3, c5, en_j0, en_j1, en_j2, en_j3, cle], ⟨_, _, _, _, h⟩⟩))

set_option maxRecDepth 100000 in
set_option maxHeartbeats 4000000 in
theorem xp_conflict (l : Launch) (D : va_G) (κ : Nat → ClassId) (τ : Nat → Nat) (A : Nat → Prop) (σ : um_M) (xd la ma va : Nat → Nat) (q : tb_Q) (sc : xs_S) (h : xs_at κ σ xd la ma va q sc) (hst : l.stackTraces = false) (ok : tb_ok q) (pu : xs_pure q)  (x0 x1 : Int32) : vx_Met l yX8_conflict wsX8_conflict ({ frames := 7, cells := 1, slots := 6, locals := 110 }) (va_Pc [.ref (xd 0), .int (x0), .int (x1)] (um_U D κ τ A σ)) (va_Qi (fun (r9 : Int32) (σ' : um_M) => r9 = tbA_conflict q x0 x1 ∧ tbT_conflict x0 x1 = 0 ∧ ∃ la' ma' va' sc', xs_at κ σ' xd la' ma' va' q sc') (um_U D κ τ A) A) (um_XC D κ τ A (fun u => ∃ sc', xs_at κ u xd la ma va q sc') (fun E => E = nIAE ∧ tbT_conflict x0 x1 = 1)) 1 6 A := by
  refine um_metX (cc := cX8_conflict) (maxL := 5) (ret := (some .int)) (by decide) rfl rfl ?_
  intro pp ee s mm args below meth cd ls hx hb hr hts hown hlocks hml htab hK hJ hU hl
  have hown : s.vm.findClass RX8 = some mm.cls := hown
  have htg : ∀ w ∈ lw_g, w.before args s = true := fun w h => hts w (List.mem_cons_of_mem _ h)
  have hl : lv_has ls 5 [(0, .ref (xd 0)), (1, .int (x0)), (2, .int (x1))] := hl
  have hq := ok.sm
  refine lv_iload_n hx hb dX8_conflict_0 rfl (lv_at hl 1 rfl) ?_
  refine lv_iconst (v := nI 5) hx hb dX8_conflict_1 (by decide +kernel) ?_
  refine um_callP (va_runS (As := [.int (x0), .int (nI (5))]) (rest := []) ⟨hx, hb, hml, hown, htg⟩ (xf_isBelow l D κ τ A σ x0 5 (by decide) (by decide)) (cwS 2 htg (lw_cS tg_190 tg_191 tg_1 tg_192) rfl rfl rfl (by decide +kernel) ⟨Nat.le_of_ble_eq_true rfl, Nat.le_of_ble_eq_true rfl⟩) (um_preS hU hK hJ) rfl rfl hl.1 rfl (lv_room (Nat.le_of_ble_eq_true rfl)) dX8_conflict_2 ⟨Nat.le_of_ble_eq_true rfl, Nat.le_of_ble_eq_true rfl⟩) hU (fun H locs hU => ?_)
  refine um_eqB (tgt := 16) hx hb dX8_conflict_5 (by decide) (fun c1 => ?_) (fun c1 => ?_)
  · refine lv_iconst (v := nI 0) hx hb dX8_conflict_16 (by decide +kernel) ?_
    refine um_xcallv (vx_runS (As := [.int (um_b false)]) (rest := []) ⟨hx, hb, hml, hown, htg⟩ (xf_require l D κ τ A σ hst false) (cwS 1 htg (lw_cS tg_193 tg_194 tg_1 tg_195) rfl rfl rfl (by decide +kernel) ⟨Nat.le_of_ble_eq_true rfl, Nat.le_of_ble_eq_true rfl⟩) (um_preS hU hK hJ) rfl rfl hl.1 rfl (lv_room (Nat.le_of_ble_eq_true rfl)) dX8_conflict_17 ⟨Nat.le_of_ble_eq_true rfl, Nat.le_of_ble_eq_true rfl⟩) hU (fun E9 ce9 q9 σ9 H locs hp9 hE9 hU hce hcv hcl => ?_) (fun σ9 H locs hp9 hU => ?_)
    · obtain ⟨rfl, c2⟩ := hE9
      rw [hp9] at hU
      exact um_xout htab hlocks hce hcv hcl hK hJ hU ⟨_, h⟩ (⟨rfl, by first | (simp [tbT_conflict, tb_coB, c1, c2]; done) | (simp [tbT_conflict, tb_coB, c1, c2, Int32.not_le.mpr c2]; done)⟩) (Nat.le_of_ble_eq_true rfl) (Nat.le_of_ble_eq_true rfl)
    · exact absurd hp9.1 (by decide)
  · refine lv_iload_n hx hb dX8_conflict_8 rfl (lv_at hl 2 rfl) ?_
    refine lv_if_lt (tgt := 16) hx hb dX8_conflict_9 (by decide) (fun c3 => ?_) (fun c3 => ?_)
    · refine lv_iconst (v := nI 0) hx hb dX8_conflict_16 (by decide +kernel) ?_
      refine um_xcallv (vx_runS (As := [.int (um_b false)]) (rest := []) ⟨hx, hb, hml, hown, htg⟩ (xf_require l D κ τ A σ hst false) (cwS 1 htg (lw_cS tg_193 tg_194 tg_1 tg_195) rfl rfl rfl (by decide +kernel) ⟨Nat.le_of_ble_eq_true rfl, Nat.le_of_ble_eq_true rfl⟩) (um_preS hU hK hJ) rfl rfl hl.1 rfl (lv_room (Nat.le_of_ble_eq_true rfl)) dX8_conflict_17 ⟨Nat.le_of_ble_eq_true rfl, Nat.le_of_ble_eq_true rfl⟩) hU (fun E9 ce9 q9 σ9 H locs hp9 hE9 hU hce hcv hcl => ?_) (fun σ9 H locs hp9 hU => ?_)
      · obtain ⟨rfl, c4⟩ := hE9
        rw [hp9] at hU
        exact um_xout htab hlocks hce hcv hcl hK hJ hU ⟨_, h⟩ (⟨rfl, by first | (simp [tbT_conflict, tb_coB, c1, c3, c4]; done) | (simp [tbT_conflict, tb_coB, c1, c3, c4, Int32.not_le.mpr c4]; done)⟩) (Nat.le_of_ble_eq_true rfl) (Nat.le_of_ble_eq_true rfl)
      · exact absurd hp9.1 (by decide)
    · refine lv_iconst (v := nI 1) hx hb dX8_conflict_12 (by decide +kernel) ?_
      refine lv_goto (tgt := 17) hx hb dX8_conflict_13 (by decide) ?_
      refine um_xcallv (vx_runS (As := [.int (um_b true)]) (rest := []) ⟨hx, hb, hml, hown, htg⟩ (xf_require l D κ τ A σ hst true) (cwS 1 htg (lw_cS tg_193 tg_194 tg_1 tg_195) rfl rfl rfl (by decide +kernel) ⟨Nat.le_of_ble_eq_true rfl, Nat.le_of_ble_eq_true rfl⟩) (um_preS hU hK hJ) rfl rfl hl.1 rfl (lv_room (Nat.le_of_ble_eq_true rfl)) dX8_conflict_17 ⟨Nat.le_of_ble_eq_true rfl, Nat.le_of_ble_eq_true rfl⟩) hU (fun E9 ce9 q9 σ9 H locs hp9 hE9 hU hce hcv hcl => ?_) (fun σ9 H locs hp9 hU => ?_)
      · exact absurd hE9.2 (by decide)
      have c5 := hp9.1
      rw [hp9.2] at hU
      have cle := Int32.not_lt.mp c3
      obtain ⟨j0, ha_j0, hb_j0, rfl⟩ := tb_inN (by decide) (by decide) c1
      have en_j0 : (nI j0).toNatClampNeg = j0 := nI_clamp (by omega)
      have hil := tb_inc_le q j0 x1 72
      refine lv_aload_n hx hb dX8_conflict_20 rfl (lv_at hl 0 rfl) ?_
      refine lv_iload_n hx hb dX8_conflict_21 rfl (lv_at hl 1 rfl) ?_
      refine lv_iload_n hx hb dX8_conflict_22 rfl (lv_at hl 2 rfl) ?_
      refine um_calli (va_runV (As := [.int (nI (j0)), .int (x1)]) (rest := []) ⟨hx, hb, hml, hown, htg⟩ (xf_spotInConflict l D κ τ A σ xd la ma va q sc h ok j0 (by omega) x1 (pu.cf (by omega))) (cwV 2 htg (lw_cV tg_437 tg_439 slX8_spotInConflict tg_1 tg_440) rfl rfl rfl (by decide +kernel) ⟨Nat.le_of_ble_eq_true rfl, Nat.le_of_ble_eq_true rfl⟩) (um_preV hU hK hJ h.c0 rfl) rfl rfl hl.1 rfl (lv_room (Nat.le_of_ble_eq_true rfl)) dX8_conflict_23 ⟨Nat.le_of_ble_eq_true rfl, Nat.le_of_ble_eq_true rfl⟩) hU (fun r9 σ H locs h hU => ?_)
      obtain ⟨rfl, h⟩ := h
      obtain ⟨sc2, h⟩ := h
      refine lv_istore_n (lv' := [(3, .int (tb_m1 (tb_inc q j0 x1 72))), (0, .ref (xd 0)), (1, .int (nI (j0))), (2, .int (x1))]) hx hb dX8_conflict_26 rfl hl (by decide) rfl (fun ls hl => ?_)
      refine lv_iload_n hx hb dX8_conflict_27 rfl (lv_at hl 0 rfl) ?_
      refine lv_iconst (v := -1) hx hb dX8_conflict_28 (by decide +kernel) ?_
      refine um_neM1 (tgt := 34) hx hb dX8_conflict_29 (by decide) (Nat.lt_of_le_of_lt (tb_inc_le q _ _ 72) (by decide)) (fun c6 => ?_) (fun c6 => ?_)
      · rw [tb_m1_p c6] at hl
        refine lv_iload_n hx hb dX8_conflict_34 rfl (lv_at hl 0 rfl) ?_
        refine lv_iconst (v := nI 3) hx hb dX8_conflict_35 (by decide +kernel) ?_
        refine um_divN hx hb dX8_conflict_36 (by omega) (by decide) (by decide) ?_
        refine lv_istore (lv' := [(4, .int (nI ((tb_inc q j0 x1 72 - 1) / 3))), (3, .int (nI (tb_inc q j0 x1 72 - 1))), (0, .ref (xd 0)), (1, .int (nI (j0))), (2, .int (x1))]) hx hb dX8_conflict_37 hl (by decide) rfl (fun ls hl => ?_)
        refine lv_bipush (v := nI 100) hx hb dX8_conflict_39 (by decide +kernel) ?_
        refine lv_iload hx hb dX8_conflict_41 (lv_at hl 0 rfl) ?_
        refine lv_iconst (v := nI 4) hx hb dX8_conflict_43 (by decide +kernel) ?_
        refine um_divN hx hb dX8_conflict_44 (by omega) (by decide) (by decide) ?_
        refine um_mulN hx hb dX8_conflict_45 ?_
        refine lv_bipush (v := nI 10) hx hb dX8_conflict_46 (by decide +kernel) ?_
        refine lv_iload hx hb dX8_conflict_48 (lv_at hl 0 rfl) ?_
        refine lv_iconst (v := nI 4) hx hb dX8_conflict_50 (by decide +kernel) ?_
        refine um_remN hx hb dX8_conflict_51 (by omega) (by decide) (by decide) ?_
        refine um_mulN hx hb dX8_conflict_52 ?_
        refine um_addN hx hb dX8_conflict_53 ?_
        refine lv_iload_n hx hb dX8_conflict_54 rfl (lv_at hl 1 rfl) ?_
        refine lv_iconst (v := nI 3) hx hb dX8_conflict_55 (by decide +kernel) ?_
        refine um_remN hx hb dX8_conflict_56 (by omega) (by decide) (by decide) ?_
        refine um_addN hx hb dX8_conflict_57 ?_
        exact W.widen (Nat.le_of_ble_eq_true rfl) (Nat.le_of_ble_eq_true rfl) (vx_ret (um_iret hx hb hr hlocks hK hJ hU dX8_conflict_58 ⟨by rw [show tbA_conflict q (nI j0) x1 = nI (tb_code (tb_inc q j0 x1 72 - 1)) from by simp [tbA_conflict, tb_coB, c1, c3, cle, en_j0, c6]]; exact congrArg nI (by unfold tb_code; omega), by simp [tbT_conflict, tbA_conflict, tb_coB, c1, c3, cle, en_j0, c6], ⟨_, _, _, _, h⟩⟩))
      · refine lv_iconst (v := -1) hx hb dX8_conflict_32 (by decide +kernel) ?_
        exact W.widen (Nat.le_of_ble_eq_true rfl) (Nat.le_of_ble_eq_true rfl) (vx_ret (um_iret hx hb hr hlocks hK hJ hU dX8_conflict_33 ⟨by simp [tbA_conflict, tb_coB, c1, c3, cle, en_j0, c6], by simp [tbT_conflict, tbA_conflict, tb_coB, c1, c3, cle, en_j0, c6], ⟨_, _, _, _, h⟩⟩))

set_option maxRecDepth 100000 in
set_option maxHeartbeats 4000000 in
theorem xp_plot (l : Launch) (D : va_G) (κ : Nat → ClassId) (τ : Nat → Nat) (A : Nat → Prop) (σ : um_M) (xd la ma va : Nat → Nat) (q : tb_Q) (sc : xs_S) (h : xs_at κ σ xd la ma va q sc) (hst : l.stackTraces = false) (ok : tb_ok q) (pu : xs_pure q)  (x0 x1 x2 : Int32) : vx_Met l yX8_plot wsX8_plot ({ frames := 7, cells := 1, slots := 6, locals := 136 }) (va_Pc [.ref (xd 0), .int (x0), .int (x1), .int (x2)] (um_U D κ τ A σ)) (va_Ql (fun (r9 : Int64) (σ' : um_M) => r9 = tbA_plot q x0 x1 x2 ∧ tbT_plot x0 x1 x2 = 0 ∧ ∃ la' ma' va' sc', xs_at κ σ' xd la' ma' va' q sc') (um_U D κ τ A) A) (um_XC D κ τ A (fun u => ∃ sc', xs_at κ u xd la ma va q sc') (fun E => E = nIAE ∧ tbT_plot x0 x1 x2 = 1)) 1 6 A := by
  refine um_metX (cc := cX8_plot) (maxL := 4) (ret := (some .long)) (by decide) rfl rfl ?_
  intro pp ee s mm args below meth cd ls hx hb hr hts hown hlocks hml htab hK hJ hU hl
  have hown : s.vm.findClass RX8 = some mm.cls := hown
  have htg : ∀ w ∈ lw_g, w.before args s = true := fun w h => hts w (List.mem_cons_of_mem _ h)
  have hl : lv_has ls 4 [(0, .ref (xd 0)), (1, .int (x0)), (2, .int (x1)), (3, .int (x2))] := hl
  have hq := ok.sm
  refine lv_iload_n hx hb dX8_plot_0 rfl (lv_at hl 1 rfl) ?_
  refine lv_iconst (v := nI 5) hx hb dX8_plot_1 (by decide +kernel) ?_
  refine um_callP (va_runS (As := [.int (x0), .int (nI (5))]) (rest := []) ⟨hx, hb, hml, hown, htg⟩ (xf_isBelow l D κ τ A σ x0 5 (by decide) (by decide)) (cwS 2 htg (lw_cS tg_190 tg_191 tg_1 tg_192) rfl rfl rfl (by decide +kernel) ⟨Nat.le_of_ble_eq_true rfl, Nat.le_of_ble_eq_true rfl⟩) (um_preS hU hK hJ) rfl rfl hl.1 rfl (lv_room (Nat.le_of_ble_eq_true rfl)) dX8_plot_2 ⟨Nat.le_of_ble_eq_true rfl, Nat.le_of_ble_eq_true rfl⟩) hU (fun H locs hU => ?_)
  refine um_eqB (tgt := 29) hx hb dX8_plot_5 (by decide) (fun c1 => ?_) (fun c1 => ?_)
  · refine lv_iconst (v := nI 0) hx hb dX8_plot_29 (by decide +kernel) ?_
    refine um_xcallv (vx_runS (As := [.int (um_b false)]) (rest := []) ⟨hx, hb, hml, hown, htg⟩ (xf_require l D κ τ A σ hst false) (cwS 1 htg (lw_cS tg_193 tg_194 tg_1 tg_195) rfl rfl rfl (by decide +kernel) ⟨Nat.le_of_ble_eq_true rfl, Nat.le_of_ble_eq_true rfl⟩) (um_preS hU hK hJ) rfl rfl hl.1 rfl (lv_room (Nat.le_of_ble_eq_true rfl)) dX8_plot_30 ⟨Nat.le_of_ble_eq_true rfl, Nat.le_of_ble_eq_true rfl⟩) hU (fun E9 ce9 q9 σ9 H locs hp9 hE9 hU hce hcv hcl => ?_) (fun σ9 H locs hp9 hU => ?_)
    · obtain ⟨rfl, c2⟩ := hE9
      rw [hp9] at hU
      exact um_xout htab hlocks hce hcv hcl hK hJ hU ⟨_, h⟩ (⟨rfl, by simp [tbT_plot, tbA_plot, tb_plB, c1, c2]⟩) (Nat.le_of_ble_eq_true rfl) (Nat.le_of_ble_eq_true rfl)
    · exact absurd hp9.1 (by decide)
  · refine lv_iload_n hx hb dX8_plot_8 rfl (lv_at hl 2 rfl) ?_
    refine lv_bipush (v := nI 6) hx hb dX8_plot_9 (by decide +kernel) ?_
    refine um_callP (va_runS (As := [.int (x1), .int (nI (6))]) (rest := []) ⟨hx, hb, hml, hown, htg⟩ (xf_isBelow l D κ τ A σ x1 6 (by decide) (by decide)) (cwS 2 htg (lw_cS tg_190 tg_191 tg_1 tg_192) rfl rfl rfl (by decide +kernel) ⟨Nat.le_of_ble_eq_true rfl, Nat.le_of_ble_eq_true rfl⟩) (um_preS hU hK hJ) rfl rfl hl.1 rfl (lv_room (Nat.le_of_ble_eq_true rfl)) dX8_plot_11 ⟨Nat.le_of_ble_eq_true rfl, Nat.le_of_ble_eq_true rfl⟩) hU (fun H locs hU => ?_)
    refine um_eqB (tgt := 29) hx hb dX8_plot_14 (by decide) (fun c3 => ?_) (fun c3 => ?_)
    · refine lv_iconst (v := nI 0) hx hb dX8_plot_29 (by decide +kernel) ?_
      refine um_xcallv (vx_runS (As := [.int (um_b false)]) (rest := []) ⟨hx, hb, hml, hown, htg⟩ (xf_require l D κ τ A σ hst false) (cwS 1 htg (lw_cS tg_193 tg_194 tg_1 tg_195) rfl rfl rfl (by decide +kernel) ⟨Nat.le_of_ble_eq_true rfl, Nat.le_of_ble_eq_true rfl⟩) (um_preS hU hK hJ) rfl rfl hl.1 rfl (lv_room (Nat.le_of_ble_eq_true rfl)) dX8_plot_30 ⟨Nat.le_of_ble_eq_true rfl, Nat.le_of_ble_eq_true rfl⟩) hU (fun E9 ce9 q9 σ9 H locs hp9 hE9 hU hce hcv hcl => ?_) (fun σ9 H locs hp9 hU => ?_)
      · obtain ⟨rfl, c4⟩ := hE9
        rw [hp9] at hU
        exact um_xout htab hlocks hce hcv hcl hK hJ hU ⟨_, h⟩ (⟨rfl, by simp [tbT_plot, tbA_plot, tb_plB, c1, c3, c4]⟩) (Nat.le_of_ble_eq_true rfl) (Nat.le_of_ble_eq_true rfl)
      · exact absurd hp9.1 (by decide)
    · refine lv_iload_n hx hb dX8_plot_17 rfl (lv_at hl 3 rfl) ?_
      refine lv_iconst (v := nI 4) hx hb dX8_plot_18 (by decide +kernel) ?_
      refine um_callP (va_runS (As := [.int (x2), .int (nI (4))]) (rest := []) ⟨hx, hb, hml, hown, htg⟩ (xf_isBelow l D κ τ A σ x2 4 (by decide) (by decide)) (cwS 2 htg (lw_cS tg_190 tg_191 tg_1 tg_192) rfl rfl rfl (by decide +kernel) ⟨Nat.le_of_ble_eq_true rfl, Nat.le_of_ble_eq_true rfl⟩) (um_preS hU hK hJ) rfl rfl hl.1 rfl (lv_room (Nat.le_of_ble_eq_true rfl)) dX8_plot_19 ⟨Nat.le_of_ble_eq_true rfl, Nat.le_of_ble_eq_true rfl⟩) hU (fun H locs hU => ?_)
      refine um_eqB (tgt := 29) hx hb dX8_plot_22 (by decide) (fun c5 => ?_) (fun c5 => ?_)
      · refine lv_iconst (v := nI 0) hx hb dX8_plot_29 (by decide +kernel) ?_
        refine um_xcallv (vx_runS (As := [.int (um_b false)]) (rest := []) ⟨hx, hb, hml, hown, htg⟩ (xf_require l D κ τ A σ hst false) (cwS 1 htg (lw_cS tg_193 tg_194 tg_1 tg_195) rfl rfl rfl (by decide +kernel) ⟨Nat.le_of_ble_eq_true rfl, Nat.le_of_ble_eq_true rfl⟩) (um_preS hU hK hJ) rfl rfl hl.1 rfl (lv_room (Nat.le_of_ble_eq_true rfl)) dX8_plot_30 ⟨Nat.le_of_ble_eq_true rfl, Nat.le_of_ble_eq_true rfl⟩) hU (fun E9 ce9 q9 σ9 H locs hp9 hE9 hU hce hcv hcl => ?_) (fun σ9 H locs hp9 hU => ?_)
        · obtain ⟨rfl, c6⟩ := hE9
          rw [hp9] at hU
          exact um_xout htab hlocks hce hcv hcl hK hJ hU ⟨_, h⟩ (⟨rfl, by simp [tbT_plot, tbA_plot, tb_plB, c1, c3, c5, c6]⟩) (Nat.le_of_ble_eq_true rfl) (Nat.le_of_ble_eq_true rfl)
        · exact absurd hp9.1 (by decide)
      · refine lv_iconst (v := nI 1) hx hb dX8_plot_25 (by decide +kernel) ?_
        refine lv_goto (tgt := 30) hx hb dX8_plot_26 (by decide) ?_
        refine um_xcallv (vx_runS (As := [.int (um_b true)]) (rest := []) ⟨hx, hb, hml, hown, htg⟩ (xf_require l D κ τ A σ hst true) (cwS 1 htg (lw_cS tg_193 tg_194 tg_1 tg_195) rfl rfl rfl (by decide +kernel) ⟨Nat.le_of_ble_eq_true rfl, Nat.le_of_ble_eq_true rfl⟩) (um_preS hU hK hJ) rfl rfl hl.1 rfl (lv_room (Nat.le_of_ble_eq_true rfl)) dX8_plot_30 ⟨Nat.le_of_ble_eq_true rfl, Nat.le_of_ble_eq_true rfl⟩) hU (fun E9 ce9 q9 σ9 H locs hp9 hE9 hU hce hcv hcl => ?_) (fun σ9 H locs hp9 hU => ?_)
        · exact absurd hE9.2 (by decide)
        have c7 := hp9.1
        rw [hp9.2] at hU
        obtain ⟨j0, ha_j0, hb_j0, rfl⟩ := tb_inN (by decide) (by decide) c1
        have en_j0 : (nI j0).toNatClampNeg = j0 := nI_clamp (by omega)
        obtain ⟨j1, ha_j1, hb_j1, rfl⟩ := tb_inN (by decide) (by decide) c3
        have en_j1 : (nI j1).toNatClampNeg = j1 := nI_clamp (by omega)
        obtain ⟨j2, ha_j2, hb_j2, rfl⟩ := tb_inN (by decide) (by decide) c5
        have en_j2 : (nI j2).toNatClampNeg = j2 := nI_clamp (by omega)
        have hsh := pu.sh (d := j0) (by omega)
        refine lv_aload_n hx hb dX8_plot_33 rfl (lv_at hl 0 rfl) ?_
        refine lv_iload_n hx hb dX8_plot_34 rfl (lv_at hl 1 rfl) ?_
        refine lv_iload_n hx hb dX8_plot_35 rfl (lv_at hl 2 rfl) ?_
        refine um_callv (va_runV (As := [.int (nI (j0)), .int (nI (j1))]) (rest := []) ⟨hx, hb, hml, hown, htg⟩ (xf_reckonPlot l D κ τ A σ xd la ma va q sc h ok j0 j1 (by omega) (by omega) hsh) (cwV 2 htg (lw_cV tg_581 tg_583 slX8_reckonPlot tg_1 tg_584) rfl rfl rfl (by decide +kernel) ⟨Nat.le_of_ble_eq_true rfl, Nat.le_of_ble_eq_true rfl⟩) (um_preV hU hK hJ h.c0 rfl) rfl rfl hl.1 rfl (lv_room (Nat.le_of_ble_eq_true rfl)) dX8_plot_36 ⟨Nat.le_of_ble_eq_true rfl, Nat.le_of_ble_eq_true rfl⟩) hU (fun σ H locs h hU => ?_)
        obtain ⟨sc2, h, hp2⟩ := h
        refine lv_iload_n hx hb dX8_plot_39 rfl (lv_at hl 3 rfl) ?_
        have h4 : j2 = 0 ∨ j2 = 1 ∨ j2 = 2 ∨ j2 = 3 := by omega
        rcases h4 with rfl | rfl | rfl | rfl
        · refine lv_tableIn (off := 28) (tgt := 68) hx hb dX8_plot_40 (by decide +kernel) (by decide +kernel) (by decide +kernel) (by decide) ?_
          refine lv_aload_n hx hb dX8_plot_68 rfl (lv_at hl 0 rfl) ?_
          refine um_get (v := .ref (xd 25)) hx hb htg inX8 hown hK hU h.c0 rfl 4 (by decide) (htg _ tg_161) rfl dX8_plot_69 ?_
          refine um_get (v := .long (sc2.2.1 0)) hx hb htg inX5 hown hK hU h.c25 rfl 0 (by decide) (htg _ tg_118) rfl dX8_plot_72 ?_
          exact W.widen (Nat.le_of_ble_eq_true rfl) (Nat.le_of_ble_eq_true rfl) (vx_ret (um_lret hx hb hr hlocks hK hJ hU dX8_plot_75 ⟨by rw [show tbA_plot q (nI j0) (nI j1) (nI 0) = tb_sum q j0 j1 0 from by simp [tbA_plot, tb_plB, c1, c3, c5, en_j0, en_j1, en_j2]]; exact (xs_pl_sum hp2).1, by simp [tbT_plot, tbA_plot, tb_plB, c1, c3, c5, en_j0, en_j1, en_j2], ⟨_, _, _, _, h⟩⟩))
        · refine lv_tableIn (off := 36) (tgt := 76) hx hb dX8_plot_40 (by decide +kernel) (by decide +kernel) (by decide +kernel) (by decide) ?_
          refine lv_aload_n hx hb dX8_plot_76 rfl (lv_at hl 0 rfl) ?_
          refine um_get (v := .ref (xd 25)) hx hb htg inX8 hown hK hU h.c0 rfl 4 (by decide) (htg _ tg_161) rfl dX8_plot_77 ?_
          refine um_get (v := .long (sc2.2.1 1)) hx hb htg inX5 hown hK hU h.c25 rfl 1 (by decide) (htg _ tg_120) rfl dX8_plot_80 ?_
          exact W.widen (Nat.le_of_ble_eq_true rfl) (Nat.le_of_ble_eq_true rfl) (vx_ret (um_lret hx hb hr hlocks hK hJ hU dX8_plot_83 ⟨by rw [show tbA_plot q (nI j0) (nI j1) (nI 1) = tb_sum q j0 j1 1 from by simp [tbA_plot, tb_plB, c1, c3, c5, en_j0, en_j1, en_j2]]; exact (xs_pl_sum hp2).2.1, by simp [tbT_plot, tbA_plot, tb_plB, c1, c3, c5, en_j0, en_j1, en_j2], ⟨_, _, _, _, h⟩⟩))
        · refine lv_tableIn (off := 44) (tgt := 84) hx hb dX8_plot_40 (by decide +kernel) (by decide +kernel) (by decide +kernel) (by decide) ?_
          refine lv_aload_n hx hb dX8_plot_84 rfl (lv_at hl 0 rfl) ?_
          refine um_get (v := .ref (xd 25)) hx hb htg inX8 hown hK hU h.c0 rfl 4 (by decide) (htg _ tg_161) rfl dX8_plot_85 ?_
          refine um_get (v := .int (sc2.2.2.1 2)) hx hb htg inX5 hown hK hU h.c25 rfl 2 (by decide) (htg _ tg_123) rfl dX8_plot_88 ?_
          refine lv_i2l hx hb dX8_plot_91 rfl ?_
          exact W.widen (Nat.le_of_ble_eq_true rfl) (Nat.le_of_ble_eq_true rfl) (vx_ret (um_lret hx hb hr hlocks hK hJ hU dX8_plot_92 ⟨by rw [show tbA_plot q (nI j0) (nI j1) (nI 2) = tb_sum q j0 j1 2 from by simp [tbA_plot, tb_plB, c1, c3, c5, en_j0, en_j1, en_j2]]; exact (xs_pl_sum hp2).2.2.1, by simp [tbT_plot, tbA_plot, tb_plB, c1, c3, c5, en_j0, en_j1, en_j2], ⟨_, _, _, _, h⟩⟩))
        · refine lv_tableOut (tgt := 93) hx hb dX8_plot_40 (by decide +kernel) (by decide) ?_
          refine lv_aload_n hx hb dX8_plot_93 rfl (lv_at hl 0 rfl) ?_
          refine um_get (v := .ref (xd 25)) hx hb htg inX8 hown hK hU h.c0 rfl 4 (by decide) (htg _ tg_161) rfl dX8_plot_94 ?_
          refine um_get (v := .int (sc2.2.2.1 3)) hx hb htg inX5 hown hK hU h.c25 rfl 3 (by decide) (htg _ tg_125) rfl dX8_plot_97 ?_
          refine lv_i2l hx hb dX8_plot_100 rfl ?_
          exact W.widen (Nat.le_of_ble_eq_true rfl) (Nat.le_of_ble_eq_true rfl) (vx_ret (um_lret hx hb hr hlocks hK hJ hU dX8_plot_101 ⟨by rw [show tbA_plot q (nI j0) (nI j1) (nI 3) = tb_sum q j0 j1 3 from by simp [tbA_plot, tb_plB, c1, c3, c5, en_j0, en_j1, en_j2]]; exact (xs_pl_sum hp2).2.2.2, by simp [tbT_plot, tbA_plot, tb_plB, c1, c3, c5, en_j0, en_j1, en_j2], ⟨_, _, _, _, h⟩⟩))

set_option maxRecDepth 100000 in
set_option maxHeartbeats 4000000 in
theorem xp_total (l : Launch) (D : va_G) (κ : Nat → ClassId) (τ : Nat → Nat) (A : Nat → Prop) (σ : um_M) (xd la ma va : Nat → Nat) (q : tb_Q) (sc : xs_S) (h : xs_at κ σ xd la ma va q sc) (hst : l.stackTraces = false) (ok : tb_ok q) (pu : xs_pure q)  (x0 x1 x2 : Int32) : vx_Met l yX8_total wsX8_total ({ frames := 7, cells := 1, slots := 6, locals := 159 }) (va_Pc [.ref (xd 0), .int (x0), .int (x1), .int (x2)] (um_U D κ τ A σ)) (va_Ql (fun (r9 : Int64) (σ' : um_M) => r9 = tbA_total q x0 x1 x2 ∧ tbT_total x0 x1 x2 = 0 ∧ ∃ la' ma' va' sc', xs_at κ σ' xd la' ma' va' q sc') (um_U D κ τ A) A) (um_XC D κ τ A (fun u => ∃ sc', xs_at κ u xd la ma va q sc') (fun E => E = nIAE ∧ tbT_total x0 x1 x2 = 1)) 1 6 A := by
  refine um_metX (cc := cX8_total) (maxL := 4) (ret := (some .long)) (by decide) rfl rfl ?_
  intro pp ee s mm args below meth cd ls hx hb hr hts hown hlocks hml htab hK hJ hU hl
  have hown : s.vm.findClass RX8 = some mm.cls := hown
  have htg : ∀ w ∈ lw_g, w.before args s = true := fun w h => hts w (List.mem_cons_of_mem _ h)
  have hl : lv_has ls 4 [(0, .ref (xd 0)), (1, .int (x0)), (2, .int (x1)), (3, .int (x2))] := hl
  have hq := ok.sm
  refine lv_iload_n hx hb dX8_total_0 rfl (lv_at hl 1 rfl) ?_
  refine lv_iconst (v := nI 5) hx hb dX8_total_1 (by decide +kernel) ?_
  refine um_callP (va_runS (As := [.int (x0), .int (nI (5))]) (rest := []) ⟨hx, hb, hml, hown, htg⟩ (xf_isBelow l D κ τ A σ x0 5 (by decide) (by decide)) (cwS 2 htg (lw_cS tg_190 tg_191 tg_1 tg_192) rfl rfl rfl (by decide +kernel) ⟨Nat.le_of_ble_eq_true rfl, Nat.le_of_ble_eq_true rfl⟩) (um_preS hU hK hJ) rfl rfl hl.1 rfl (lv_room (Nat.le_of_ble_eq_true rfl)) dX8_total_2 ⟨Nat.le_of_ble_eq_true rfl, Nat.le_of_ble_eq_true rfl⟩) hU (fun H locs hU => ?_)
  refine um_eqB (tgt := 28) hx hb dX8_total_5 (by decide) (fun c1 => ?_) (fun c1 => ?_)
  · refine lv_iconst (v := nI 0) hx hb dX8_total_28 (by decide +kernel) ?_
    refine um_xcallv (vx_runS (As := [.int (um_b false)]) (rest := []) ⟨hx, hb, hml, hown, htg⟩ (xf_require l D κ τ A σ hst false) (cwS 1 htg (lw_cS tg_193 tg_194 tg_1 tg_195) rfl rfl rfl (by decide +kernel) ⟨Nat.le_of_ble_eq_true rfl, Nat.le_of_ble_eq_true rfl⟩) (um_preS hU hK hJ) rfl rfl hl.1 rfl (lv_room (Nat.le_of_ble_eq_true rfl)) dX8_total_29 ⟨Nat.le_of_ble_eq_true rfl, Nat.le_of_ble_eq_true rfl⟩) hU (fun E9 ce9 q9 σ9 H locs hp9 hE9 hU hce hcv hcl => ?_) (fun σ9 H locs hp9 hU => ?_)
    · obtain ⟨rfl, c2⟩ := hE9
      rw [hp9] at hU
      exact um_xout htab hlocks hce hcv hcl hK hJ hU ⟨_, h⟩ (⟨rfl, by simp [tbT_total, tbA_total, c1, c2]⟩) (Nat.le_of_ble_eq_true rfl) (Nat.le_of_ble_eq_true rfl)
    · exact absurd hp9.1 (by decide)
  · refine lv_iload_n hx hb dX8_total_8 rfl (lv_at hl 2 rfl) ?_
    refine lv_iconst (v := nI 3) hx hb dX8_total_9 (by decide +kernel) ?_
    refine um_callP (va_runS (As := [.int (x1), .int (nI (3))]) (rest := []) ⟨hx, hb, hml, hown, htg⟩ (xf_isBelow l D κ τ A σ x1 3 (by decide) (by decide)) (cwS 2 htg (lw_cS tg_190 tg_191 tg_1 tg_192) rfl rfl rfl (by decide +kernel) ⟨Nat.le_of_ble_eq_true rfl, Nat.le_of_ble_eq_true rfl⟩) (um_preS hU hK hJ) rfl rfl hl.1 rfl (lv_room (Nat.le_of_ble_eq_true rfl)) dX8_total_10 ⟨Nat.le_of_ble_eq_true rfl, Nat.le_of_ble_eq_true rfl⟩) hU (fun H locs hU => ?_)
    refine um_eqB (tgt := 28) hx hb dX8_total_13 (by decide) (fun c3 => ?_) (fun c3 => ?_)
    · refine lv_iconst (v := nI 0) hx hb dX8_total_28 (by decide +kernel) ?_
      refine um_xcallv (vx_runS (As := [.int (um_b false)]) (rest := []) ⟨hx, hb, hml, hown, htg⟩ (xf_require l D κ τ A σ hst false) (cwS 1 htg (lw_cS tg_193 tg_194 tg_1 tg_195) rfl rfl rfl (by decide +kernel) ⟨Nat.le_of_ble_eq_true rfl, Nat.le_of_ble_eq_true rfl⟩) (um_preS hU hK hJ) rfl rfl hl.1 rfl (lv_room (Nat.le_of_ble_eq_true rfl)) dX8_total_29 ⟨Nat.le_of_ble_eq_true rfl, Nat.le_of_ble_eq_true rfl⟩) hU (fun E9 ce9 q9 σ9 H locs hp9 hE9 hU hce hcv hcl => ?_) (fun σ9 H locs hp9 hU => ?_)
      · obtain ⟨rfl, c4⟩ := hE9
        rw [hp9] at hU
        exact um_xout htab hlocks hce hcv hcl hK hJ hU ⟨_, h⟩ (⟨rfl, by simp [tbT_total, tbA_total, c1, c3, c4]⟩) (Nat.le_of_ble_eq_true rfl) (Nat.le_of_ble_eq_true rfl)
      · exact absurd hp9.1 (by decide)
    · refine lv_iload_n hx hb dX8_total_16 rfl (lv_at hl 3 rfl) ?_
      refine lv_iconst (v := nI 4) hx hb dX8_total_17 (by decide +kernel) ?_
      refine um_callP (va_runS (As := [.int (x2), .int (nI (4))]) (rest := []) ⟨hx, hb, hml, hown, htg⟩ (xf_isBelow l D κ τ A σ x2 4 (by decide) (by decide)) (cwS 2 htg (lw_cS tg_190 tg_191 tg_1 tg_192) rfl rfl rfl (by decide +kernel) ⟨Nat.le_of_ble_eq_true rfl, Nat.le_of_ble_eq_true rfl⟩) (um_preS hU hK hJ) rfl rfl hl.1 rfl (lv_room (Nat.le_of_ble_eq_true rfl)) dX8_total_18 ⟨Nat.le_of_ble_eq_true rfl, Nat.le_of_ble_eq_true rfl⟩) hU (fun H locs hU => ?_)
      refine um_eqB (tgt := 28) hx hb dX8_total_21 (by decide) (fun c5 => ?_) (fun c5 => ?_)
      · refine lv_iconst (v := nI 0) hx hb dX8_total_28 (by decide +kernel) ?_
        refine um_xcallv (vx_runS (As := [.int (um_b false)]) (rest := []) ⟨hx, hb, hml, hown, htg⟩ (xf_require l D κ τ A σ hst false) (cwS 1 htg (lw_cS tg_193 tg_194 tg_1 tg_195) rfl rfl rfl (by decide +kernel) ⟨Nat.le_of_ble_eq_true rfl, Nat.le_of_ble_eq_true rfl⟩) (um_preS hU hK hJ) rfl rfl hl.1 rfl (lv_room (Nat.le_of_ble_eq_true rfl)) dX8_total_29 ⟨Nat.le_of_ble_eq_true rfl, Nat.le_of_ble_eq_true rfl⟩) hU (fun E9 ce9 q9 σ9 H locs hp9 hE9 hU hce hcv hcl => ?_) (fun σ9 H locs hp9 hU => ?_)
        · obtain ⟨rfl, c6⟩ := hE9
          rw [hp9] at hU
          exact um_xout htab hlocks hce hcv hcl hK hJ hU ⟨_, h⟩ (⟨rfl, by simp [tbT_total, tbA_total, c1, c3, c5, c6]⟩) (Nat.le_of_ble_eq_true rfl) (Nat.le_of_ble_eq_true rfl)
        · exact absurd hp9.1 (by decide)
      · refine lv_iconst (v := nI 1) hx hb dX8_total_24 (by decide +kernel) ?_
        refine lv_goto (tgt := 29) hx hb dX8_total_25 (by decide) ?_
        refine um_xcallv (vx_runS (As := [.int (um_b true)]) (rest := []) ⟨hx, hb, hml, hown, htg⟩ (xf_require l D κ τ A σ hst true) (cwS 1 htg (lw_cS tg_193 tg_194 tg_1 tg_195) rfl rfl rfl (by decide +kernel) ⟨Nat.le_of_ble_eq_true rfl, Nat.le_of_ble_eq_true rfl⟩) (um_preS hU hK hJ) rfl rfl hl.1 rfl (lv_room (Nat.le_of_ble_eq_true rfl)) dX8_total_29 ⟨Nat.le_of_ble_eq_true rfl, Nat.le_of_ble_eq_true rfl⟩) hU (fun E9 ce9 q9 σ9 H locs hp9 hE9 hU hce hcv hcl => ?_) (fun σ9 H locs hp9 hU => ?_)
        · exact absurd hE9.2 (by decide)
        have c7 := hp9.1
        rw [hp9.2] at hU
        obtain ⟨j0, ha_j0, hb_j0, rfl⟩ := tb_inN (by decide) (by decide) c1
        have en_j0 : (nI j0).toNatClampNeg = j0 := nI_clamp (by omega)
        obtain ⟨j1, ha_j1, hb_j1, rfl⟩ := tb_inN (by decide) (by decide) c3
        have en_j1 : (nI j1).toNatClampNeg = j1 := nI_clamp (by omega)
        obtain ⟨j2, ha_j2, hb_j2, rfl⟩ := tb_inN (by decide) (by decide) c5
        have en_j2 : (nI j2).toNatClampNeg = j2 := nI_clamp (by omega)
        have hsh := pu.sh (d := j0) (by omega)
        refine lv_aload_n hx hb dX8_total_32 rfl (lv_at hl 0 rfl) ?_
        refine lv_iload_n hx hb dX8_total_33 rfl (lv_at hl 1 rfl) ?_
        refine lv_iload_n hx hb dX8_total_34 rfl (lv_at hl 2 rfl) ?_
        refine um_callv (va_runV (As := [.int (nI (j0)), .int (nI (j1))]) (rest := []) ⟨hx, hb, hml, hown, htg⟩ (xf_reckonStand l D κ τ A σ xd la ma va q sc h ok j0 j1 (by omega) (by omega) hsh) (cwV 2 htg (lw_cV tg_613 tg_615 slX8_reckonStand tg_1 tg_616) rfl rfl rfl (by decide +kernel) ⟨Nat.le_of_ble_eq_true rfl, Nat.le_of_ble_eq_true rfl⟩) (um_preV hU hK hJ h.c0 rfl) rfl rfl hl.1 rfl (lv_room (Nat.le_of_ble_eq_true rfl)) dX8_total_35 ⟨Nat.le_of_ble_eq_true rfl, Nat.le_of_ble_eq_true rfl⟩) hU (fun σ H locs h hU => ?_)
        obtain ⟨sc2, h, hst2⟩ := h
        refine lv_iload_n hx hb dX8_total_38 rfl (lv_at hl 3 rfl) ?_
        have h4 : j2 = 0 ∨ j2 = 1 ∨ j2 = 2 ∨ j2 = 3 := by omega
        rcases h4 with rfl | rfl | rfl | rfl
        · refine lv_tableIn (off := 25) (tgt := 64) hx hb dX8_total_39 (by decide +kernel) (by decide +kernel) (by decide +kernel) (by decide) ?_
          refine lv_aload_n hx hb dX8_total_64 rfl (lv_at hl 0 rfl) ?_
          refine um_get (v := .ref (xd 26)) hx hb htg inX8 hown hK hU h.c0 rfl 5 (by decide) (htg _ tg_162) rfl dX8_total_65 ?_
          refine um_get (v := .long (sc2.2.1 2)) hx hb htg inX6 hown hK hU h.c26 rfl 0 (by decide) (htg _ tg_142) rfl dX8_total_68 ?_
          exact W.widen (Nat.le_of_ble_eq_true rfl) (Nat.le_of_ble_eq_true rfl) (vx_ret (um_lret hx hb hr hlocks hK hJ hU dX8_total_71 ⟨by rw [show tbA_total q (nI j0) (nI j1) (nI 0) = tb_tot q j0 j1 0 from by simp [tbA_total, c1, c3, c5, en_j0, en_j1, en_j2]]; exact (xs_st_tot hst2).1, by simp [tbT_total, tbA_total, c1, c3, c5, en_j0, en_j1, en_j2], ⟨_, _, _, _, h⟩⟩))
        · refine lv_tableIn (off := 33) (tgt := 72) hx hb dX8_total_39 (by decide +kernel) (by decide +kernel) (by decide +kernel) (by decide) ?_
          refine lv_aload_n hx hb dX8_total_72 rfl (lv_at hl 0 rfl) ?_
          refine um_get (v := .ref (xd 26)) hx hb htg inX8 hown hK hU h.c0 rfl 5 (by decide) (htg _ tg_162) rfl dX8_total_73 ?_
          obtain ⟨k9, hk9, h59, he9⟩ := (xs_st_tot hst2).2.2.2
          refine um_callPl (va_runV (As := []) (rest := []) ⟨hx, hb, hml, hown, htg⟩ (xq_error l D κ τ A σ xd la ma va q sc2 h k9 hk9 h59) (cwV 0 htg (lw_cV tg_625 tg_626 tg_627 tg_7 tg_628) rfl rfl rfl (by decide +kernel) ⟨Nat.le_of_ble_eq_true rfl, Nat.le_of_ble_eq_true rfl⟩) (um_preV hU hK hJ h.c26 rfl) rfl rfl hl.1 rfl (lv_room (Nat.le_of_ble_eq_true rfl)) dX8_total_76 ⟨Nat.le_of_ble_eq_true rfl, Nat.le_of_ble_eq_true rfl⟩) hU (fun H locs hU => ?_)
          exact W.widen (Nat.le_of_ble_eq_true rfl) (Nat.le_of_ble_eq_true rfl) (vx_ret (um_lret hx hb hr hlocks hK hJ hU dX8_total_79 ⟨by rw [show tbA_total q (nI j0) (nI j1) (nI 1) = tb_tot q j0 j1 1 from by simp [tbA_total, c1, c3, c5, en_j0, en_j1, en_j2]]; exact he9, by simp [tbT_total, tbA_total, c1, c3, c5, en_j0, en_j1, en_j2], ⟨_, _, _, _, h⟩⟩))
        · refine lv_tableIn (off := 41) (tgt := 80) hx hb dX8_total_39 (by decide +kernel) (by decide +kernel) (by decide +kernel) (by decide) ?_
          refine lv_aload_n hx hb dX8_total_80 rfl (lv_at hl 0 rfl) ?_
          refine um_get (v := .ref (xd 26)) hx hb htg inX8 hown hK hU h.c0 rfl 5 (by decide) (htg _ tg_162) rfl dX8_total_81 ?_
          refine um_get (v := .int (sc2.2.2.1 4)) hx hb htg inX6 hown hK hU h.c26 rfl 2 (by decide) (htg _ tg_145) rfl dX8_total_84 ?_
          refine lv_i2l hx hb dX8_total_87 rfl ?_
          exact W.widen (Nat.le_of_ble_eq_true rfl) (Nat.le_of_ble_eq_true rfl) (vx_ret (um_lret hx hb hr hlocks hK hJ hU dX8_total_88 ⟨by rw [show tbA_total q (nI j0) (nI j1) (nI 2) = tb_tot q j0 j1 2 from by simp [tbA_total, c1, c3, c5, en_j0, en_j1, en_j2]]; exact (xs_st_tot hst2).2.1, by simp [tbT_total, tbA_total, c1, c3, c5, en_j0, en_j1, en_j2], ⟨_, _, _, _, h⟩⟩))
        · refine lv_tableOut (tgt := 89) hx hb dX8_total_39 (by decide +kernel) (by decide) ?_
          refine lv_aload_n hx hb dX8_total_89 rfl (lv_at hl 0 rfl) ?_
          refine um_get (v := .ref (xd 26)) hx hb htg inX8 hown hK hU h.c0 rfl 5 (by decide) (htg _ tg_162) rfl dX8_total_90 ?_
          refine um_get (v := .int (sc2.2.2.1 5)) hx hb htg inX6 hown hK hU h.c26 rfl 3 (by decide) (htg _ tg_147) rfl dX8_total_93 ?_
          refine lv_i2l hx hb dX8_total_96 rfl ?_
          exact W.widen (Nat.le_of_ble_eq_true rfl) (Nat.le_of_ble_eq_true rfl) (vx_ret (um_lret hx hb hr hlocks hK hJ hU dX8_total_97 ⟨by rw [show tbA_total q (nI j0) (nI j1) (nI 3) = tb_tot q j0 j1 3 from by simp [tbA_total, c1, c3, c5, en_j0, en_j1, en_j2]]; exact (xs_st_tot hst2).2.2.1, by simp [tbT_total, tbA_total, c1, c3, c5, en_j0, en_j1, en_j2], ⟨_, _, _, _, h⟩⟩))

set_option maxRecDepth 100000 in
set_option maxHeartbeats 4000000 in
theorem xp_resolve (l : Launch) (D : va_G) (κ : Nat → ClassId) (τ : Nat → Nat) (A : Nat → Prop) (σ : um_M) (xd la ma va : Nat → Nat) (q : tb_Q) (sc : xs_S) (h : xs_at κ σ xd la ma va q sc) (hst : l.stackTraces = false) (ok : tb_ok q) (pu : xs_pure q)  (x0 x1 : Int32) : vx_Met l yX8_resolve wsX8_resolve ({ frames := 7, cells := 4, slots := 23, locals := 128 }) (va_Pc [.ref (xd 0), .int (x0), .int (x1)] (um_U D κ τ A σ)) (va_Qi (fun (r9 : Int32) (σ' : um_M) => r9 = nI (tbA_resolve q x0 x1) ∧ tbT_resolve q x0 x1 = 0 ∧ ∃ la' ma' va' sc', xs_at κ σ' xd la' ma' va' (tbQ_resolve q x0 x1) sc') (um_U D κ τ A) A) (um_XC D κ τ A (fun u => ∃ sc', xs_at κ u xd la ma va q sc') (fun E => (E = nNSE ∧ tbT_resolve q x0 x1 = 1) ∨ (E = nIAE ∧ tbT_resolve q x0 x1 = 2) ∨ (E = nISE ∧ tbT_resolve q x0 x1 = 3))) 4 23 A := by
  refine um_metX (cc := cX8_resolve) (maxL := 4) (ret := (some .int)) (by decide) rfl rfl ?_
  intro pp ee s mm args below meth cd ls hx hb hr hts hown hlocks hml htab hK hJ hU hl
  have hown : s.vm.findClass RX8 = some mm.cls := hown
  have htg : ∀ w ∈ lw_g, w.before args s = true := fun w h => hts w (List.mem_cons_of_mem _ h)
  have hl : lv_has ls 4 [(0, .ref (xd 0)), (1, .int (x0)), (2, .int (x1))] := hl
  have hq := ok.sm
  have hil := tb_inc_le q 0 x0 72
  refine lv_aload_n hx hb dX8_resolve_0 rfl (lv_at hl 0 rfl) ?_
  refine lv_iconst (v := nI 0) hx hb dX8_resolve_1 (by decide +kernel) ?_
  refine lv_iload_n hx hb dX8_resolve_2 rfl (lv_at hl 1 rfl) ?_
  refine um_calli (va_runV (As := [.int (nI (0)), .int (x0)]) (rest := []) ⟨hx, hb, hml, hown, htg⟩ (xf_spotInConflict l D κ τ A σ xd la ma va q sc h ok 0 (by omega) x0 (pu.cf (by omega))) (cwV 2 htg (lw_cV tg_437 tg_439 slX8_spotInConflict tg_1 tg_440) rfl rfl rfl (by decide +kernel) ⟨Nat.le_of_ble_eq_true rfl, Nat.le_of_ble_eq_true rfl⟩) (um_preV hU hK hJ h.c0 rfl) rfl rfl hl.1 rfl (lv_room (Nat.le_of_ble_eq_true rfl)) dX8_resolve_3 ⟨Nat.le_of_ble_eq_true rfl, Nat.le_of_ble_eq_true rfl⟩) hU (fun r9 σ H locs h hU => ?_)
  obtain ⟨rfl, h⟩ := h
  obtain ⟨sc2, h⟩ := h
  refine lv_istore_n (lv' := [(3, .int (tb_m1 (tb_inc q 0 x0 72))), (0, .ref (xd 0)), (1, .int (x0)), (2, .int (x1))]) hx hb dX8_resolve_6 rfl hl (by decide) rfl (fun ls hl => ?_)
  refine lv_iload_n hx hb dX8_resolve_7 rfl (lv_at hl 0 rfl) ?_
  refine lv_iconst (v := -1) hx hb dX8_resolve_8 (by decide +kernel) ?_
  refine um_neM1 (tgt := 20) hx hb dX8_resolve_9 (by decide) (Nat.lt_of_le_of_lt (tb_inc_le q _ _ 72) (by decide)) (fun c1 => ?_) (fun c1 => ?_)
  · rw [tb_m1_p c1] at hl
    refine lv_iload_n hx hb dX8_resolve_20 rfl (lv_at hl 0 rfl) ?_
    refine lv_iconst (v := nI 3) hx hb dX8_resolve_21 (by decide +kernel) ?_
    refine um_remN hx hb dX8_resolve_22 (by omega) (by decide) (by decide) ?_
    refine lv_iload_n hx hb dX8_resolve_23 rfl (lv_at hl 3 rfl) ?_
    refine um_callP (va_runS (As := [.int (nI ((tb_inc q 0 x0 72 - 1) % 3)), .int (x1)]) (rest := []) ⟨hx, hb, hml, hown, htg⟩ (xf_fieldAllows l D κ τ A σ ((tb_inc q 0 x0 72 - 1) % 3) x1 (by omega)) (cwS 2 htg (lw_cS tg_366 tg_367 tg_1 tg_368) rfl rfl rfl (by decide +kernel) ⟨Nat.le_of_ble_eq_true rfl, Nat.le_of_ble_eq_true rfl⟩) (um_preS hU hK hJ) rfl rfl hl.1 rfl (lv_room (Nat.le_of_ble_eq_true rfl)) dX8_resolve_24 ⟨Nat.le_of_ble_eq_true rfl, Nat.le_of_ble_eq_true rfl⟩) hU (fun H locs hU => ?_)
    refine um_xcallv (vx_runS (As := [.int (um_b (tb_isVx (nI ((tb_inc q 0 x0 72 - 1) % 3)) x1))]) (rest := []) ⟨hx, hb, hml, hown, htg⟩ (xf_require l D κ τ A σ hst (tb_isVx (nI ((tb_inc q 0 x0 72 - 1) % 3)) x1)) (cwS 1 htg (lw_cS tg_193 tg_194 tg_1 tg_195) rfl rfl rfl (by decide +kernel) ⟨Nat.le_of_ble_eq_true rfl, Nat.le_of_ble_eq_true rfl⟩) (um_preS hU hK hJ) rfl rfl hl.1 rfl (lv_room (Nat.le_of_ble_eq_true rfl)) dX8_resolve_27 ⟨Nat.le_of_ble_eq_true rfl, Nat.le_of_ble_eq_true rfl⟩) hU (fun E9 ce9 q9 σ9 H locs hp9 hE9 hU hce hcv hcl => ?_) (fun σ9 H locs hp9 hU => ?_)
    · obtain ⟨rfl, c2⟩ := hE9
      rw [hp9] at hU
      exact um_xout htab hlocks hce hcv hcl hK hJ hU ⟨_, h⟩ (Or.inr (Or.inl ⟨rfl, by simp [tbT_resolve, tbA_resolve, tbQ_resolve, tb_ent_0, c1, c2]⟩)) (Nat.le_of_ble_eq_true rfl) (Nat.le_of_ble_eq_true rfl)
    have c2 := hp9.1
    rw [hp9.2] at hU
    obtain ⟨j1, hb_j1, rfl⟩ := tb_isVN c2
    have en_j1 : (nI j1).toNatClampNeg = j1 := nI_clamp (by omega)
    refine lv_aload_n hx hb dX8_resolve_30 rfl (lv_at hl 1 rfl) ?_
    refine um_get (v := .ref (xd 1)) hx hb htg inX8 hown hK hU h.c0 rfl 0 (by decide) (htg _ tg_157) rfl dX8_resolve_31 ?_
    refine lv_iconst (v := nI 0) hx hb dX8_resolve_34 (by decide +kernel) ?_
    refine um_callP (va_runV (As := [.int (nI (0))]) (rest := []) ⟨hx, hb, hml, hown, htg⟩ (xc_hasRoom l D κ τ A σ xd la ma va q sc2 h hq 0 (by omega)) (cwV 1 htg (lw_cV tg_303 tg_304 tg_305 tg_2 tg_306) rfl rfl rfl (by decide +kernel) ⟨Nat.le_of_ble_eq_true rfl, Nat.le_of_ble_eq_true rfl⟩) (um_preV hU hK hJ h.c1 rfl) rfl rfl hl.1 rfl (lv_room (Nat.le_of_ble_eq_true rfl)) dX8_resolve_35 ⟨Nat.le_of_ble_eq_true rfl, Nat.le_of_ble_eq_true rfl⟩) hU (fun H locs hU => ?_)
    rw [xs_room ok (d := 0) (by omega)]
    refine um_xcallv (vx_runS (As := [.int (um_b (!decide (q 0 0 = 40)))]) (rest := []) ⟨hx, hb, hml, hown, htg⟩ (xf_allow l D κ τ A σ hst (!decide (q 0 0 = 40))) (cwS 1 htg (lw_cS tg_285 tg_286 tg_1 tg_287) rfl rfl rfl (by decide +kernel) ⟨Nat.le_of_ble_eq_true rfl, Nat.le_of_ble_eq_true rfl⟩) (um_preS hU hK hJ) rfl rfl hl.1 rfl (lv_room (Nat.le_of_ble_eq_true rfl)) dX8_resolve_38 ⟨Nat.le_of_ble_eq_true rfl, Nat.le_of_ble_eq_true rfl⟩) hU (fun E9 ce9 q9 σ9 H locs hp9 hE9 hU hce hcv hcl => ?_) (fun σ9 H locs hp9 hU => ?_)
    · obtain ⟨rfl, c3⟩ := hE9
      rw [hp9] at hU
      have c3 : q 0 0 = 40 := by simpa using c3
      exact um_xout htab hlocks hce hcv hcl hK hJ hU ⟨_, h⟩ (Or.inr (Or.inr (⟨rfl, by simp [tbT_resolve, tbA_resolve, tbQ_resolve, tb_ent_0, c1, c2, en_j1, c3]⟩))) (Nat.le_of_ble_eq_true rfl) (Nat.le_of_ble_eq_true rfl)
    have c3 := hp9.1
    rw [hp9.2] at hU
    have c3 : ¬ q 0 0 = 40 := by simpa using c3
    refine lv_aload_n hx hb dX8_resolve_41 rfl (lv_at hl 1 rfl) ?_
    refine lv_iconst (v := nI 0) hx hb dX8_resolve_42 (by decide +kernel) ?_
    refine lv_iload_n hx hb dX8_resolve_43 rfl (lv_at hl 0 rfl) ?_
    refine lv_iload_n hx hb dX8_resolve_44 rfl (lv_at hl 3 rfl) ?_
    refine lv_aload_n hx hb dX8_resolve_45 rfl (lv_at hl 1 rfl) ?_
    refine um_get (v := .ref (xd 16)) hx hb htg inX8 hown hK hU h.c0 rfl 2 (by decide) (htg _ tg_159) rfl dX8_resolve_46 ?_
    refine lv_iload_n hx hb dX8_resolve_49 rfl (lv_at hl 0 rfl) ?_
    refine lv_aload_n hx hb dX8_resolve_50 rfl (lv_at hl 1 rfl) ?_
    refine um_get (v := .ref (xd 1)) hx hb htg inX8 hown hK hU h.c0 rfl 0 (by decide) (htg _ tg_157) rfl dX8_resolve_51 ?_
    refine um_get (v := .ref (xd 2)) hx hb htg inX0 hown hK hU h.c1 rfl 0 (by decide) (htg _ tg_36) rfl dX8_resolve_54 ?_
    refine lv_iconst (v := nI 0) hx hb dX8_resolve_57 (by decide +kernel) ?_
    refine xs_gld (b := 4) hx hb hK hU h.c2 0 (by omega) dX8_resolve_58 ?_
    refine um_callP (va_runV (As := [.int (nI (tb_inc q 0 x0 72 - 1)), .ref (xd (4 + 0))]) (rest := [.int (nI (j1)), .int (nI (tb_inc q 0 x0 72 - 1)), .int (nI (0)), .ref (xd 0)]) ⟨hx, hb, hml, hown, htg⟩ (xn_greatestRank l D κ τ A σ xd la ma va q sc2 h ok 0 (tb_inc q 0 x0 72 - 1) (by omega) (by omega)) (cwV 2 htg (lw_cV tg_483 tg_484 tg_485 tg_4 tg_486) rfl rfl rfl (by decide +kernel) ⟨Nat.le_of_ble_eq_true rfl, Nat.le_of_ble_eq_true rfl⟩) (um_preV hU hK hJ h.c16 rfl) rfl rfl hl.1 rfl (lv_room (Nat.le_of_ble_eq_true rfl)) dX8_resolve_59 ⟨Nat.le_of_ble_eq_true rfl, Nat.le_of_ble_eq_true rfl⟩) hU (fun H locs hU => ?_)
    rw [pu.gr (k := tb_inc q 0 x0 72 - 1) (by omega)]
    refine lv_iconst (v := nI 1) hx hb dX8_resolve_62 (by decide +kernel) ?_
    refine um_addN hx hb dX8_resolve_63 ?_
    refine um_calli (va_runV (As := [.int (nI (0)), .int (nI (tb_inc q 0 x0 72 - 1)), .int (nI (j1)), .int (nI ((tb_top q 0 ((tb_inc q 0 x0 72 - 1) / 12) ((tb_inc q 0 x0 72 - 1) % 12)) + 1))]) (rest := []) ⟨hx, hb, hml, hown, htg⟩ (xf_writeS l D κ τ A σ xd la ma va q sc2 h ok 0 ((tb_inc q 0 x0 72 - 1) / 12) ((tb_inc q 0 x0 72 - 1) % 12) j1 ((tb_top q 0 ((tb_inc q 0 x0 72 - 1) / 12) ((tb_inc q 0 x0 72 - 1) % 12)) + 1) (tb_inc q 0 x0 72 - 1) (by omega) (by omega) (by omega) (by have := ok.m40 0; omega) ) (cwV 4 htg (lw_cV tg_384 tg_386 slX8_write tg_1 tg_387) rfl rfl rfl (by decide +kernel) ⟨Nat.le_of_ble_eq_true rfl, Nat.le_of_ble_eq_true rfl⟩) (um_preV hU hK hJ h.c0 rfl) rfl rfl hl.1 rfl (lv_room (Nat.le_of_ble_eq_true rfl)) dX8_resolve_64 ⟨Nat.le_of_ble_eq_true rfl, Nat.le_of_ble_eq_true rfl⟩) hU (fun r9 σ H locs h hU => ?_)
    obtain ⟨rfl, h⟩ := h
    obtain ⟨ma', va', h⟩ := h
    exact W.widen (Nat.le_of_ble_eq_true rfl) (Nat.le_of_ble_eq_true rfl) (vx_ret (um_iret hx hb hr hlocks hK hJ hU dX8_resolve_67 ⟨congrArg nI (by simp [tbT_resolve, tbA_resolve, tbQ_resolve, tb_ent_0, c1, c2, en_j1, c3]), by simp [tbT_resolve, tbA_resolve, tbQ_resolve, tb_ent_0, c1, c2, en_j1, c3], ⟨_, _, _, _, by rw [show (tbQ_resolve q x0 (nI j1)) = (tb_ent q 0 2 ((tb_inc q 0 x0 72 - 1) / 12) ((tb_inc q 0 x0 72 - 1) % 12) j1 (tb_top q 0 ((tb_inc q 0 x0 72 - 1) / 12) ((tb_inc q 0 x0 72 - 1) % 12) + 1)) from by simp [tbT_resolve, tbA_resolve, tbQ_resolve, tb_ent_0, c1, c2, en_j1, c3]]; exact h⟩⟩))
  · exact um_thr (ik := 132) (ic := 134) hx hb hst hown (by decide +kernel) (htg _ tg_468) (htg _ tg_18) (at_of htg at_NSE1 at_NSE2 hJ.2.2.2.2.2.2.1 hJ.2.2.2.2) (by decide +kernel) htab hlocks hK hJ hU (by rw [hml]; exact hl.1) dX8_resolve_12 dX8_resolve_15 dX8_resolve_16 dX8_resolve_19 (by decide) (by decide) (by decide) (by decide) ⟨_, h⟩ (Or.inl ⟨rfl, by simp [tbT_resolve, tbA_resolve, tbQ_resolve, tb_ent_0, c1]⟩) (by decide) (by decide)
