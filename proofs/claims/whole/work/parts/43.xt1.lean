set_option maxRecDepth 100000 in
set_option maxHeartbeats 4000000 in
theorem xf_require (l : Launch) (D : va_G) (κ : Nat → ClassId) (τ : Nat → Nat) (A : Nat → Prop) (σ : um_M) (hst : l.stackTraces = false) (b : Bool) : vx_Met l yX8_require wsX8_require ({ frames := 6, cells := 1, slots := 6, locals := 81 }) (va_Pc [.int (um_b b)] (um_U D κ τ A σ)) (va_Qv (fun σ' : um_M => b = true ∧ σ' = σ) (um_U D κ τ A) A) (um_XC D κ τ A (fun u => u = σ) (fun E => E = nIAE ∧ b = false)) 1 6 A := by
  refine um_metX (cc := cX8_require) (maxL := 1) (ret := none) (by decide) rfl rfl ?_
  intro pp ee s mm args below meth cd ls hx hb hr hts hown hlocks hml htab hK hJ hU hl
  have hown : s.vm.findClass RX8 = some mm.cls := hown
  have htg : ∀ w ∈ lw_g, w.before args s = true := fun w h => hts w (List.mem_cons_of_mem _ h)
  have hl : lv_has ls 1 [(0, .int (um_b b))] := hl
  refine lv_iload_n hx hb dX8_require_0 rfl (lv_at hl 0 rfl) ?_
  refine um_neB (tgt := 12) hx hb dX8_require_1 (by decide) (fun c1 => ?_) (fun c1 => ?_)
  · exact W.widen (by decide) (by decide) (vx_ret (um_vret hx hb hr hlocks hK hJ hU dX8_require_12 ⟨c1, rfl⟩))
  · exact um_thr (ik := 206) (ic := 208) hx hb hst hown (by decide +kernel) (htg _ tg_196) (htg _ tg_12) (at_of htg at_IAE1 at_IAE2 hJ.2.2.2.2.1 hJ.2.2.2.2) (by decide +kernel) htab hlocks hK hJ hU (by rw [hml]; exact hl.1) dX8_require_4 dX8_require_7 dX8_require_8 dX8_require_11 (by decide) (by decide) (by decide) (by decide) rfl ⟨rfl, c1⟩ (by decide) (by decide)
set_option maxRecDepth 100000 in
set_option maxHeartbeats 4000000 in
theorem xf_allow (l : Launch) (D : va_G) (κ : Nat → ClassId) (τ : Nat → Nat) (A : Nat → Prop) (σ : um_M) (hst : l.stackTraces = false) (b : Bool) : vx_Met l yX8_allow wsX8_allow ({ frames := 6, cells := 1, slots := 6, locals := 81 }) (va_Pc [.int (um_b b)] (um_U D κ τ A σ)) (va_Qv (fun σ' : um_M => b = true ∧ σ' = σ) (um_U D κ τ A) A) (um_XC D κ τ A (fun u => u = σ) (fun E => E = nISE ∧ b = false)) 1 6 A := by
  refine um_metX (cc := cX8_allow) (maxL := 1) (ret := none) (by decide) rfl rfl ?_
  intro pp ee s mm args below meth cd ls hx hb hr hts hown hlocks hml htab hK hJ hU hl
  have hown : s.vm.findClass RX8 = some mm.cls := hown
  have htg : ∀ w ∈ lw_g, w.before args s = true := fun w h => hts w (List.mem_cons_of_mem _ h)
  have hl : lv_has ls 1 [(0, .int (um_b b))] := hl
  refine lv_iload_n hx hb dX8_allow_0 rfl (lv_at hl 0 rfl) ?_
  refine um_neB (tgt := 12) hx hb dX8_allow_1 (by decide) (fun c1 => ?_) (fun c1 => ?_)
  · exact W.widen (by decide) (by decide) (vx_ret (um_vret hx hb hr hlocks hK hJ hU dX8_allow_12 ⟨c1, rfl⟩))
  · exact um_thr (ik := 209) (ic := 211) hx hb hst hown (by decide +kernel) (htg _ tg_288) (htg _ tg_13) (at_of htg at_ISE1 at_ISE2 hJ.2.2.2.2.2.1 hJ.2.2.2.2) (by decide +kernel) htab hlocks hK hJ hU (by rw [hml]; exact hl.1) dX8_allow_4 dX8_allow_7 dX8_allow_8 dX8_allow_11 (by decide) (by decide) (by decide) (by decide) rfl ⟨rfl, c1⟩ (by decide) (by decide)
theorem xl_addLendE (l : Launch) (D : va_G) (κ : Nat → ClassId) (τ : Nat → Nat) (A : Nat → Prop) (σ : um_M) (xd la ma va : Nat → Nat) (q : tb_Q) (sc : xs_S) (h : xs_at κ σ xd la ma va (tb_cnt1 q 0) sc) (ok : tb_ok q) (pu : xs_pure q) (p t : Nat) (hp : p < 6) (ht1 : 1 ≤ t) (ht : t < 5) (h40 : q 0 0 < 40) : Met l yX2_addLend wsX2_addLend ({ frames := 2, cells := 1, slots := 5, locals := 36 }) (va_Pc [.ref (xd 14), .int (nI p), .int (nI t), .int (nI (40 * 0 + q 0 0 + 1))] (um_U D κ τ A σ)) (va_Qi (fun (r9 : Int32) (σ' : um_M) => r9 = nI (tb_lent q 0 p + 1) ∧ ∃ la', xs_at κ σ' xd la' ma va (tb_ent q 0 0 p 0 t (tb_lent q 0 p + 1)) sc) (um_U D κ τ A) A) 1 5 A := by
  have r0 : tb_cnt1 q 0 0 = q 0 := tb_cnt1_n (by decide) (by decide)
  have r4 : tb_cnt1 q 0 4 = q 4 := tb_cnt1_n (by decide) (by decide)
  have h1 := xl_addLend l D κ τ A σ xd la ma va (tb_cnt1 q 0) sc h (xs_cnt1_sm ok (by decide)) (tb_ent q 0 0 p 0 t (tb_lent q 0 p + 1)) p t (40 * 0 + q 0 0) hp ht1 (xs_cnt1_m ok 0) (fun k hk => by rw [r4]; have := ok.lt k (xs_cnt1_L.mp hk); exact ⟨this.1, this.2.1⟩) (tb_ent_ins (by decide) h40) (by rw [tb_ent_1, va_up_self]) (by rw [tb_ent_2, va_up_self]) (by rw [tb_ent_4, va_up_self]) (by rw [tb_ent_5, va_up_self, xs_cnt1_nx, pu.nx hp]) (by rw [xs_cnt1_bk, xs_cnt1_nx, r0]; exact pu.bk ht hp)
  rw [xs_cnt1_nx, pu.nx hp] at h1
  exact h1
theorem xf_writeS (l : Launch) (D : va_G) (κ : Nat → ClassId) (τ : Nat → Nat) (A : Nat → Prop) (σ : um_M) (xd la ma va : Nat → Nat) (q : tb_Q) (sc : xs_S) (h : xs_at κ σ xd la ma va q sc) (ok : tb_ok q) (d p f w n sp : Nat) (hs : sp = 12 * p + f) (hd : d < 5) (hsp : 12 * p + f < 72) (h40 : q 0 d < 40) : Met l yX8_write wsX8_write ({ frames := 3, cells := 2, slots := 11, locals := 102 }) (va_Pc [.ref (xd 0), .int (nI d), .int (nI sp), .int (nI w), .int (nI n)] (um_U D κ τ A σ)) (va_Qi (fun (r9 : Int32) (σ' : um_M) => r9 = nI (q 0 d + 1) ∧ ∃ ma' va', xs_at κ σ' xd la ma' va' (tb_ent q d 2 p f w n) sc) (um_U D κ τ A) A) 2 11 A := by
  subst hs
  exact xf_write l D κ τ A σ xd la ma va q sc h ok d p f w n hd hsp h40
set_option maxRecDepth 100000 in
set_option maxHeartbeats 4000000 in
theorem xp_known (l : Launch) (D : va_G) (κ : Nat → ClassId) (τ : Nat → Nat) (A : Nat → Prop) (σ : um_M) (xd la ma va : Nat → Nat) (q : tb_Q) (sc : xs_S) (h : xs_at κ σ xd la ma va q sc) (hst : l.stackTraces = false) (ok : tb_ok q) (pu : xs_pure q)  (x0 x1 : Int32) : vx_Met l yX8_known wsX8_known ({ frames := 7, cells := 1, slots := 6, locals := 101 }) (va_Pc [.ref (xd 0), .int (x0), .int (x1)] (um_U D κ τ A σ)) (va_Qi (fun (r9 : Int32) (σ' : um_M) => r9 = nI (tbA_known q x0 x1) ∧ tbT_known x0 x1 = 0 ∧ ∃ la' ma' va' sc', xs_at κ σ' xd la' ma' va' q sc') (um_U D κ τ A) A) (um_XC D κ τ A (fun u => ∃ sc', xs_at κ u xd la ma va q sc') (fun E => E = nIAE ∧ tbT_known x0 x1 = 1)) 1 6 A := by
  refine um_metX (cc := cX8_known) (maxL := 3) (ret := (some .int)) (by decide) rfl rfl ?_
  intro pp ee s mm args below meth cd ls hx hb hr hts hown hlocks hml htab hK hJ hU hl
  have hown : s.vm.findClass RX8 = some mm.cls := hown
  have htg : ∀ w ∈ lw_g, w.before args s = true := fun w h => hts w (List.mem_cons_of_mem _ h)
  have hl : lv_has ls 3 [(0, .ref (xd 0)), (1, .int (x0)), (2, .int (x1))] := hl
  have hq := ok.sm
  refine lv_iload_n hx hb dX8_known_0 rfl (lv_at hl 1 rfl) ?_
  refine lv_iconst (v := nI 5) hx hb dX8_known_1 (by decide +kernel) ?_
  refine um_callP (va_runS (As := [.int (x0), .int (nI (5))]) (rest := []) ⟨hx, hb, hml, hown, htg⟩ (xf_isBelow l D κ τ A σ x0 5 (by decide) (by decide)) (cwS 2 htg (lw_cS tg_190 tg_191 tg_1 tg_192) rfl rfl rfl (by decide +kernel) ⟨Nat.le_of_ble_eq_true rfl, Nat.le_of_ble_eq_true rfl⟩) (um_preS hU hK hJ) rfl rfl hl.1 rfl (lv_room (Nat.le_of_ble_eq_true rfl)) dX8_known_2 ⟨Nat.le_of_ble_eq_true rfl, Nat.le_of_ble_eq_true rfl⟩) hU (fun H locs hU => ?_)
  refine um_eqB (tgt := 20) hx hb dX8_known_5 (by decide) (fun c1 => ?_) (fun c1 => ?_)
  · refine lv_iconst (v := nI 0) hx hb dX8_known_20 (by decide +kernel) ?_
    refine um_xcallv (vx_runS (As := [.int (um_b false)]) (rest := []) ⟨hx, hb, hml, hown, htg⟩ (xf_require l D κ τ A σ hst false) (cwS 1 htg (lw_cS tg_193 tg_194 tg_1 tg_195) rfl rfl rfl (by decide +kernel) ⟨Nat.le_of_ble_eq_true rfl, Nat.le_of_ble_eq_true rfl⟩) (um_preS hU hK hJ) rfl rfl hl.1 rfl (lv_room (Nat.le_of_ble_eq_true rfl)) dX8_known_21 ⟨Nat.le_of_ble_eq_true rfl, Nat.le_of_ble_eq_true rfl⟩) hU (fun E9 ce9 q9 σ9 H locs hp9 hE9 hU hce hcv hcl => ?_) (fun σ9 H locs hp9 hU => ?_)
    · obtain ⟨rfl, c2⟩ := hE9
      rw [hp9] at hU
      exact um_xout htab hlocks hce hcv hcl hK hJ hU ⟨_, h⟩ (⟨rfl, by simp [tbT_known, tbA_known, tb_knB, c1, c2]⟩) (Nat.le_of_ble_eq_true rfl) (Nat.le_of_ble_eq_true rfl)
    · exact absurd hp9.1 (by decide)
  · refine lv_iload_n hx hb dX8_known_8 rfl (lv_at hl 2 rfl) ?_
    refine lv_iconst (v := nI 5) hx hb dX8_known_9 (by decide +kernel) ?_
    refine um_callP (va_runS (As := [.int (x1), .int (nI (5))]) (rest := []) ⟨hx, hb, hml, hown, htg⟩ (xf_isBelow l D κ τ A σ x1 5 (by decide) (by decide)) (cwS 2 htg (lw_cS tg_190 tg_191 tg_1 tg_192) rfl rfl rfl (by decide +kernel) ⟨Nat.le_of_ble_eq_true rfl, Nat.le_of_ble_eq_true rfl⟩) (um_preS hU hK hJ) rfl rfl hl.1 rfl (lv_room (Nat.le_of_ble_eq_true rfl)) dX8_known_10 ⟨Nat.le_of_ble_eq_true rfl, Nat.le_of_ble_eq_true rfl⟩) hU (fun H locs hU => ?_)
    refine um_eqB (tgt := 20) hx hb dX8_known_13 (by decide) (fun c3 => ?_) (fun c3 => ?_)
    · refine lv_iconst (v := nI 0) hx hb dX8_known_20 (by decide +kernel) ?_
      refine um_xcallv (vx_runS (As := [.int (um_b false)]) (rest := []) ⟨hx, hb, hml, hown, htg⟩ (xf_require l D κ τ A σ hst false) (cwS 1 htg (lw_cS tg_193 tg_194 tg_1 tg_195) rfl rfl rfl (by decide +kernel) ⟨Nat.le_of_ble_eq_true rfl, Nat.le_of_ble_eq_true rfl⟩) (um_preS hU hK hJ) rfl rfl hl.1 rfl (lv_room (Nat.le_of_ble_eq_true rfl)) dX8_known_21 ⟨Nat.le_of_ble_eq_true rfl, Nat.le_of_ble_eq_true rfl⟩) hU (fun E9 ce9 q9 σ9 H locs hp9 hE9 hU hce hcv hcl => ?_) (fun σ9 H locs hp9 hU => ?_)
      · obtain ⟨rfl, c4⟩ := hE9
        rw [hp9] at hU
        exact um_xout htab hlocks hce hcv hcl hK hJ hU ⟨_, h⟩ (⟨rfl, by simp [tbT_known, tbA_known, tb_knB, c1, c3, c4]⟩) (Nat.le_of_ble_eq_true rfl) (Nat.le_of_ble_eq_true rfl)
      · exact absurd hp9.1 (by decide)
    · refine lv_iconst (v := nI 1) hx hb dX8_known_16 (by decide +kernel) ?_
      refine lv_goto (tgt := 21) hx hb dX8_known_17 (by decide) ?_
      refine um_xcallv (vx_runS (As := [.int (um_b true)]) (rest := []) ⟨hx, hb, hml, hown, htg⟩ (xf_require l D κ τ A σ hst true) (cwS 1 htg (lw_cS tg_193 tg_194 tg_1 tg_195) rfl rfl rfl (by decide +kernel) ⟨Nat.le_of_ble_eq_true rfl, Nat.le_of_ble_eq_true rfl⟩) (um_preS hU hK hJ) rfl rfl hl.1 rfl (lv_room (Nat.le_of_ble_eq_true rfl)) dX8_known_21 ⟨Nat.le_of_ble_eq_true rfl, Nat.le_of_ble_eq_true rfl⟩) hU (fun E9 ce9 q9 σ9 H locs hp9 hE9 hU hce hcv hcl => ?_) (fun σ9 H locs hp9 hU => ?_)
      · exact absurd hE9.2 (by decide)
      have c5 := hp9.1
      rw [hp9.2] at hU
      obtain ⟨j0, ha_j0, hb_j0, rfl⟩ := tb_inN (by decide) (by decide) c1
      have en_j0 : (nI j0).toNatClampNeg = j0 := nI_clamp (by omega)
      obtain ⟨j1, ha_j1, hb_j1, rfl⟩ := tb_inN (by decide) (by decide) c3
      have en_j1 : (nI j1).toNatClampNeg = j1 := nI_clamp (by omega)
      refine lv_aload_n hx hb dX8_known_24 rfl (lv_at hl 0 rfl) ?_
      refine um_get (v := .ref (xd 1)) hx hb htg inX8 hown hK hU h.c0 rfl 0 (by decide) (htg _ tg_157) rfl dX8_known_25 ?_
      refine um_get (v := .ref (xd 2)) hx hb htg inX0 hown hK hU h.c1 rfl 0 (by decide) (htg _ tg_36) rfl dX8_known_28 ?_
      refine lv_iload_n hx hb dX8_known_31 rfl (lv_at hl 1 rfl) ?_
      refine xs_gld (b := 4) hx hb hK hU h.c2 j0 (by omega) dX8_known_32 ?_
      refine lv_iload_n hx hb dX8_known_33 rfl (lv_at hl 2 rfl) ?_
      refine xs_ildR (r := 7) (d := j0) hx hb hK hU (h.row (by omega)) j1 (by omega) dX8_known_34 ?_
      exact W.widen (Nat.le_of_ble_eq_true rfl) (Nat.le_of_ble_eq_true rfl) (vx_ret (um_iret hx hb hr hlocks hK hJ hU dX8_known_35 ⟨congrArg nI (by simp [tbT_known, tbA_known, tb_knB, c1, c3, en_j0, en_j1]), by simp [tbT_known, tbA_known, tb_knB, c1, c3, en_j0, en_j1], ⟨_, _, _, _, h⟩⟩))

set_option maxRecDepth 100000 in
set_option maxHeartbeats 4000000 in
theorem xp_stand (l : Launch) (D : va_G) (κ : Nat → ClassId) (τ : Nat → Nat) (A : Nat → Prop) (σ : um_M) (xd la ma va : Nat → Nat) (q : tb_Q) (sc : xs_S) (h : xs_at κ σ xd la ma va q sc) (hst : l.stackTraces = false) (ok : tb_ok q) (pu : xs_pure q)  (x0 x1 : Int32) : vx_Met l yX8_stand wsX8_stand ({ frames := 7, cells := 1, slots := 6, locals := 101 }) (va_Pc [.ref (xd 0), .int (x0), .int (x1)] (um_U D κ τ A σ)) (va_Qv (fun σ' : um_M => tbT_stand x0 x1 = 0 ∧ ∃ la' ma' va' sc', xs_at κ σ' xd la' ma' va' (tbQ_stand q x0 x1) sc') (um_U D κ τ A) A) (um_XC D κ τ A (fun u => ∃ sc', xs_at κ u xd la ma va q sc') (fun E => E = nIAE ∧ tbT_stand x0 x1 = 1)) 1 6 A := by
  refine um_metX (cc := cX8_stand) (maxL := 3) (ret := none) (by decide) rfl rfl ?_
  intro pp ee s mm args below meth cd ls hx hb hr hts hown hlocks hml htab hK hJ hU hl
  have hown : s.vm.findClass RX8 = some mm.cls := hown
  have htg : ∀ w ∈ lw_g, w.before args s = true := fun w h => hts w (List.mem_cons_of_mem _ h)
  have hl : lv_has ls 3 [(0, .ref (xd 0)), (1, .int (x0)), (2, .int (x1))] := hl
  have hq := ok.sm
  refine lv_iload_n hx hb dX8_stand_0 rfl (lv_at hl 1 rfl) ?_
  refine lv_bipush (v := nI 6) hx hb dX8_stand_1 (by decide +kernel) ?_
  refine um_callP (va_runS (As := [.int (x0), .int (nI (6))]) (rest := []) ⟨hx, hb, hml, hown, htg⟩ (xf_isBelow l D κ τ A σ x0 6 (by decide) (by decide)) (cwS 2 htg (lw_cS tg_190 tg_191 tg_1 tg_192) rfl rfl rfl (by decide +kernel) ⟨Nat.le_of_ble_eq_true rfl, Nat.le_of_ble_eq_true rfl⟩) (um_preS hU hK hJ) rfl rfl hl.1 rfl (lv_room (Nat.le_of_ble_eq_true rfl)) dX8_stand_3 ⟨Nat.le_of_ble_eq_true rfl, Nat.le_of_ble_eq_true rfl⟩) hU (fun H locs hU => ?_)
  refine um_eqB (tgt := 21) hx hb dX8_stand_6 (by decide) (fun c1 => ?_) (fun c1 => ?_)
  · refine lv_iconst (v := nI 0) hx hb dX8_stand_21 (by decide +kernel) ?_
    refine um_xcallv (vx_runS (As := [.int (um_b false)]) (rest := []) ⟨hx, hb, hml, hown, htg⟩ (xf_require l D κ τ A σ hst false) (cwS 1 htg (lw_cS tg_193 tg_194 tg_1 tg_195) rfl rfl rfl (by decide +kernel) ⟨Nat.le_of_ble_eq_true rfl, Nat.le_of_ble_eq_true rfl⟩) (um_preS hU hK hJ) rfl rfl hl.1 rfl (lv_room (Nat.le_of_ble_eq_true rfl)) dX8_stand_22 ⟨Nat.le_of_ble_eq_true rfl, Nat.le_of_ble_eq_true rfl⟩) hU (fun E9 ce9 q9 σ9 H locs hp9 hE9 hU hce hcv hcl => ?_) (fun σ9 H locs hp9 hU => ?_)
    · obtain ⟨rfl, c2⟩ := hE9
      rw [hp9] at hU
      exact um_xout htab hlocks hce hcv hcl hK hJ hU ⟨_, h⟩ (⟨rfl, by simp [tbT_stand, tbQ_stand, tb_stB, c1, c2]⟩) (Nat.le_of_ble_eq_true rfl) (Nat.le_of_ble_eq_true rfl)
    · exact absurd hp9.1 (by decide)
  · refine lv_iload_n hx hb dX8_stand_9 rfl (lv_at hl 2 rfl) ?_
    refine lv_iconst (v := nI 3) hx hb dX8_stand_10 (by decide +kernel) ?_
    refine um_callP (va_runS (As := [.int (x1), .int (nI (3))]) (rest := []) ⟨hx, hb, hml, hown, htg⟩ (xf_isBelow l D κ τ A σ x1 3 (by decide) (by decide)) (cwS 2 htg (lw_cS tg_190 tg_191 tg_1 tg_192) rfl rfl rfl (by decide +kernel) ⟨Nat.le_of_ble_eq_true rfl, Nat.le_of_ble_eq_true rfl⟩) (um_preS hU hK hJ) rfl rfl hl.1 rfl (lv_room (Nat.le_of_ble_eq_true rfl)) dX8_stand_11 ⟨Nat.le_of_ble_eq_true rfl, Nat.le_of_ble_eq_true rfl⟩) hU (fun H locs hU => ?_)
    refine um_eqB (tgt := 21) hx hb dX8_stand_14 (by decide) (fun c3 => ?_) (fun c3 => ?_)
    · refine lv_iconst (v := nI 0) hx hb dX8_stand_21 (by decide +kernel) ?_
      refine um_xcallv (vx_runS (As := [.int (um_b false)]) (rest := []) ⟨hx, hb, hml, hown, htg⟩ (xf_require l D κ τ A σ hst false) (cwS 1 htg (lw_cS tg_193 tg_194 tg_1 tg_195) rfl rfl rfl (by decide +kernel) ⟨Nat.le_of_ble_eq_true rfl, Nat.le_of_ble_eq_true rfl⟩) (um_preS hU hK hJ) rfl rfl hl.1 rfl (lv_room (Nat.le_of_ble_eq_true rfl)) dX8_stand_22 ⟨Nat.le_of_ble_eq_true rfl, Nat.le_of_ble_eq_true rfl⟩) hU (fun E9 ce9 q9 σ9 H locs hp9 hE9 hU hce hcv hcl => ?_) (fun σ9 H locs hp9 hU => ?_)
      · obtain ⟨rfl, c4⟩ := hE9
        rw [hp9] at hU
        exact um_xout htab hlocks hce hcv hcl hK hJ hU ⟨_, h⟩ (⟨rfl, by simp [tbT_stand, tbQ_stand, tb_stB, c1, c3, c4]⟩) (Nat.le_of_ble_eq_true rfl) (Nat.le_of_ble_eq_true rfl)
      · exact absurd hp9.1 (by decide)
    · refine lv_iconst (v := nI 1) hx hb dX8_stand_17 (by decide +kernel) ?_
      refine lv_goto (tgt := 22) hx hb dX8_stand_18 (by decide) ?_
      refine um_xcallv (vx_runS (As := [.int (um_b true)]) (rest := []) ⟨hx, hb, hml, hown, htg⟩ (xf_require l D κ τ A σ hst true) (cwS 1 htg (lw_cS tg_193 tg_194 tg_1 tg_195) rfl rfl rfl (by decide +kernel) ⟨Nat.le_of_ble_eq_true rfl, Nat.le_of_ble_eq_true rfl⟩) (um_preS hU hK hJ) rfl rfl hl.1 rfl (lv_room (Nat.le_of_ble_eq_true rfl)) dX8_stand_22 ⟨Nat.le_of_ble_eq_true rfl, Nat.le_of_ble_eq_true rfl⟩) hU (fun E9 ce9 q9 σ9 H locs hp9 hE9 hU hce hcv hcl => ?_) (fun σ9 H locs hp9 hU => ?_)
      · exact absurd hE9.2 (by decide)
      have c5 := hp9.1
      rw [hp9.2] at hU
      obtain ⟨j0, ha_j0, hb_j0, rfl⟩ := tb_inN (by decide) (by decide) c1
      have en_j0 : (nI j0).toNatClampNeg = j0 := nI_clamp (by omega)
      obtain ⟨j1, ha_j1, hb_j1, rfl⟩ := tb_inN (by decide) (by decide) c3
      have en_j1 : (nI j1).toNatClampNeg = j1 := nI_clamp (by omega)
      refine lv_aload_n hx hb dX8_stand_25 rfl (lv_at hl 0 rfl) ?_
      refine um_get (v := .ref (xd 27)) hx hb htg inX8 hown hK hU h.c0 rfl 6 (by decide) (htg _ tg_163) rfl dX8_stand_26 ?_
      refine lv_iload_n hx hb dX8_stand_29 rfl (lv_at hl 1 rfl) ?_
      refine lv_iload_n hx hb dX8_stand_30 rfl (lv_at hl 2 rfl) ?_
      refine xs_ist12 hx hb hK hU h j0 j1 (by omega) dX8_stand_31 (fun σ H locs h hU => ?_)
      exact W.widen (Nat.le_of_ble_eq_true rfl) (Nat.le_of_ble_eq_true rfl) (vx_ret (um_vret hx hb hr hlocks hK hJ hU dX8_stand_32 ⟨by simp [tbT_stand, tbQ_stand, tb_stB, c1, c3, en_j0, en_j1], ⟨_, _, _, _, by rw [show (tbQ_stand q (nI j0) (nI j1)) = (tb_set q 12 j0 j1) from by simp [tbT_stand, tbQ_stand, tb_stB, c1, c3, en_j0, en_j1]]; exact h⟩⟩))

set_option maxRecDepth 100000 in
set_option maxHeartbeats 4000000 in
theorem xp_holder (l : Launch) (D : va_G) (κ : Nat → ClassId) (τ : Nat → Nat) (A : Nat → Prop) (σ : um_M) (xd la ma va : Nat → Nat) (q : tb_Q) (sc : xs_S) (h : xs_at κ σ xd la ma va q sc) (hst : l.stackTraces = false) (ok : tb_ok q) (pu : xs_pure q)  (x0 x1 x2 : Int32) : vx_Met l yX8_holder wsX8_holder ({ frames := 7, cells := 1, slots := 6, locals := 101 }) (va_Pc [.ref (xd 0), .int (x0), .int (x1), .int (x2)] (um_U D κ τ A σ)) (va_Qi (fun (r9 : Int32) (σ' : um_M) => r9 = tbA_holder q x0 x1 x2 ∧ tbT_holder x0 x1 x2 = 0 ∧ ∃ la' ma' va' sc', xs_at κ σ' xd la' ma' va' q sc') (um_U D κ τ A) A) (um_XC D κ τ A (fun u => ∃ sc', xs_at κ u xd la ma va q sc') (fun E => E = nIAE ∧ tbT_holder x0 x1 x2 = 1)) 1 6 A := by
  refine um_metX (cc := cX8_holder) (maxL := 4) (ret := (some .int)) (by decide) rfl rfl ?_
  intro pp ee s mm args below meth cd ls hx hb hr hts hown hlocks hml htab hK hJ hU hl
  have hown : s.vm.findClass RX8 = some mm.cls := hown
  have htg : ∀ w ∈ lw_g, w.before args s = true := fun w h => hts w (List.mem_cons_of_mem _ h)
  have hl : lv_has ls 4 [(0, .ref (xd 0)), (1, .int (x0)), (2, .int (x1)), (3, .int (x2))] := hl
  have hq := ok.sm
  have ht9 : ∀ k, xs_isL q k → q 4 k < 5 := fun k hk => (ok.lt k hk).2.1
  refine lv_iload_n hx hb dX8_holder_0 rfl (lv_at hl 1 rfl) ?_
  refine lv_iconst (v := nI 5) hx hb dX8_holder_1 (by decide +kernel) ?_
  refine um_callP (va_runS (As := [.int (x0), .int (nI (5))]) (rest := []) ⟨hx, hb, hml, hown, htg⟩ (xf_isBelow l D κ τ A σ x0 5 (by decide) (by decide)) (cwS 2 htg (lw_cS tg_190 tg_191 tg_1 tg_192) rfl rfl rfl (by decide +kernel) ⟨Nat.le_of_ble_eq_true rfl, Nat.le_of_ble_eq_true rfl⟩) (um_preS hU hK hJ) rfl rfl hl.1 rfl (lv_room (Nat.le_of_ble_eq_true rfl)) dX8_holder_2 ⟨Nat.le_of_ble_eq_true rfl, Nat.le_of_ble_eq_true rfl⟩) hU (fun H locs hU => ?_)
  refine um_eqB (tgt := 29) hx hb dX8_holder_5 (by decide) (fun c1 => ?_) (fun c1 => ?_)
  · refine lv_iconst (v := nI 0) hx hb dX8_holder_29 (by decide +kernel) ?_
    refine um_xcallv (vx_runS (As := [.int (um_b false)]) (rest := []) ⟨hx, hb, hml, hown, htg⟩ (xf_require l D κ τ A σ hst false) (cwS 1 htg (lw_cS tg_193 tg_194 tg_1 tg_195) rfl rfl rfl (by decide +kernel) ⟨Nat.le_of_ble_eq_true rfl, Nat.le_of_ble_eq_true rfl⟩) (um_preS hU hK hJ) rfl rfl hl.1 rfl (lv_room (Nat.le_of_ble_eq_true rfl)) dX8_holder_30 ⟨Nat.le_of_ble_eq_true rfl, Nat.le_of_ble_eq_true rfl⟩) hU (fun E9 ce9 q9 σ9 H locs hp9 hE9 hU hce hcv hcl => ?_) (fun σ9 H locs hp9 hU => ?_)
    · obtain ⟨rfl, c2⟩ := hE9
      rw [hp9] at hU
      exact um_xout htab hlocks hce hcv hcl hK hJ hU ⟨_, h⟩ (⟨rfl, by simp [tbT_holder, tbA_holder, tb_hoB, c1, c2]⟩) (Nat.le_of_ble_eq_true rfl) (Nat.le_of_ble_eq_true rfl)
    · exact absurd hp9.1 (by decide)
  · refine lv_iload_n hx hb dX8_holder_8 rfl (lv_at hl 2 rfl) ?_
    refine lv_bipush (v := nI 6) hx hb dX8_holder_9 (by decide +kernel) ?_
    refine um_callP (va_runS (As := [.int (x1), .int (nI (6))]) (rest := []) ⟨hx, hb, hml, hown, htg⟩ (xf_isBelow l D κ τ A σ x1 6 (by decide) (by decide)) (cwS 2 htg (lw_cS tg_190 tg_191 tg_1 tg_192) rfl rfl rfl (by decide +kernel) ⟨Nat.le_of_ble_eq_true rfl, Nat.le_of_ble_eq_true rfl⟩) (um_preS hU hK hJ) rfl rfl hl.1 rfl (lv_room (Nat.le_of_ble_eq_true rfl)) dX8_holder_11 ⟨Nat.le_of_ble_eq_true rfl, Nat.le_of_ble_eq_true rfl⟩) hU (fun H locs hU => ?_)
    refine um_eqB (tgt := 29) hx hb dX8_holder_14 (by decide) (fun c3 => ?_) (fun c3 => ?_)
    · refine lv_iconst (v := nI 0) hx hb dX8_holder_29 (by decide +kernel) ?_
      refine um_xcallv (vx_runS (As := [.int (um_b false)]) (rest := []) ⟨hx, hb, hml, hown, htg⟩ (xf_require l D κ τ A σ hst false) (cwS 1 htg (lw_cS tg_193 tg_194 tg_1 tg_195) rfl rfl rfl (by decide +kernel) ⟨Nat.le_of_ble_eq_true rfl, Nat.le_of_ble_eq_true rfl⟩) (um_preS hU hK hJ) rfl rfl hl.1 rfl (lv_room (Nat.le_of_ble_eq_true rfl)) dX8_holder_30 ⟨Nat.le_of_ble_eq_true rfl, Nat.le_of_ble_eq_true rfl⟩) hU (fun E9 ce9 q9 σ9 H locs hp9 hE9 hU hce hcv hcl => ?_) (fun σ9 H locs hp9 hU => ?_)
      · obtain ⟨rfl, c4⟩ := hE9
        rw [hp9] at hU
        exact um_xout htab hlocks hce hcv hcl hK hJ hU ⟨_, h⟩ (⟨rfl, by simp [tbT_holder, tbA_holder, tb_hoB, c1, c3, c4]⟩) (Nat.le_of_ble_eq_true rfl) (Nat.le_of_ble_eq_true rfl)
      · exact absurd hp9.1 (by decide)
    · refine lv_iload_n hx hb dX8_holder_17 rfl (lv_at hl 3 rfl) ?_
      refine lv_iconst (v := nI 2) hx hb dX8_holder_18 (by decide +kernel) ?_
      refine um_callP (va_runS (As := [.int (x2), .int (nI (2))]) (rest := []) ⟨hx, hb, hml, hown, htg⟩ (xf_isBelow l D κ τ A σ x2 2 (by decide) (by decide)) (cwS 2 htg (lw_cS tg_190 tg_191 tg_1 tg_192) rfl rfl rfl (by decide +kernel) ⟨Nat.le_of_ble_eq_true rfl, Nat.le_of_ble_eq_true rfl⟩) (um_preS hU hK hJ) rfl rfl hl.1 rfl (lv_room (Nat.le_of_ble_eq_true rfl)) dX8_holder_19 ⟨Nat.le_of_ble_eq_true rfl, Nat.le_of_ble_eq_true rfl⟩) hU (fun H locs hU => ?_)
      refine um_eqB (tgt := 29) hx hb dX8_holder_22 (by decide) (fun c5 => ?_) (fun c5 => ?_)
      · refine lv_iconst (v := nI 0) hx hb dX8_holder_29 (by decide +kernel) ?_
        refine um_xcallv (vx_runS (As := [.int (um_b false)]) (rest := []) ⟨hx, hb, hml, hown, htg⟩ (xf_require l D κ τ A σ hst false) (cwS 1 htg (lw_cS tg_193 tg_194 tg_1 tg_195) rfl rfl rfl (by decide +kernel) ⟨Nat.le_of_ble_eq_true rfl, Nat.le_of_ble_eq_true rfl⟩) (um_preS hU hK hJ) rfl rfl hl.1 rfl (lv_room (Nat.le_of_ble_eq_true rfl)) dX8_holder_30 ⟨Nat.le_of_ble_eq_true rfl, Nat.le_of_ble_eq_true rfl⟩) hU (fun E9 ce9 q9 σ9 H locs hp9 hE9 hU hce hcv hcl => ?_) (fun σ9 H locs hp9 hU => ?_)
        · obtain ⟨rfl, c6⟩ := hE9
          rw [hp9] at hU
          exact um_xout htab hlocks hce hcv hcl hK hJ hU ⟨_, h⟩ (⟨rfl, by simp [tbT_holder, tbA_holder, tb_hoB, c1, c3, c5, c6]⟩) (Nat.le_of_ble_eq_true rfl) (Nat.le_of_ble_eq_true rfl)
        · exact absurd hp9.1 (by decide)
      · refine lv_iconst (v := nI 1) hx hb dX8_holder_25 (by decide +kernel) ?_
        refine lv_goto (tgt := 30) hx hb dX8_holder_26 (by decide) ?_
        refine um_xcallv (vx_runS (As := [.int (um_b true)]) (rest := []) ⟨hx, hb, hml, hown, htg⟩ (xf_require l D κ τ A σ hst true) (cwS 1 htg (lw_cS tg_193 tg_194 tg_1 tg_195) rfl rfl rfl (by decide +kernel) ⟨Nat.le_of_ble_eq_true rfl, Nat.le_of_ble_eq_true rfl⟩) (um_preS hU hK hJ) rfl rfl hl.1 rfl (lv_room (Nat.le_of_ble_eq_true rfl)) dX8_holder_30 ⟨Nat.le_of_ble_eq_true rfl, Nat.le_of_ble_eq_true rfl⟩) hU (fun E9 ce9 q9 σ9 H locs hp9 hE9 hU hce hcv hcl => ?_) (fun σ9 H locs hp9 hU => ?_)
        · exact absurd hE9.2 (by decide)
        have c7 := hp9.1
        rw [hp9.2] at hU
        obtain ⟨j0, ha_j0, hb_j0, rfl⟩ := tb_inN (by decide) (by decide) c1
        have en_j0 : (nI j0).toNatClampNeg = j0 := nI_clamp (by omega)
        obtain ⟨j1, ha_j1, hb_j1, rfl⟩ := tb_inN (by decide) (by decide) c3
        have en_j1 : (nI j1).toNatClampNeg = j1 := nI_clamp (by omega)
        obtain ⟨j2, ha_j2, hb_j2, rfl⟩ := tb_inN (by decide) (by decide) c5
        have en_j2 : (nI j2).toNatClampNeg = j2 := nI_clamp (by omega)
        have e2z := tb_nI0 (j := j2) (by omega)
        refine lv_iload_n hx hb dX8_holder_33 rfl (lv_at hl 3 rfl) ?_
        refine um_ne0N (tgt := 55) hx hb dX8_holder_34 (by decide) (by omega) (fun c8 => ?_) (fun c8 => ?_)
        · refine lv_aload_n hx hb dX8_holder_55 rfl (lv_at hl 0 rfl) ?_
          refine um_get (v := .ref (xd 14)) hx hb htg inX8 hown hK hU h.c0 rfl 1 (by decide) (htg _ tg_158) rfl dX8_holder_56 ?_
          refine lv_iload_n hx hb dX8_holder_59 rfl (lv_at hl 2 rfl) ?_
          refine lv_aload_n hx hb dX8_holder_60 rfl (lv_at hl 0 rfl) ?_
          refine um_get (v := .ref (xd 1)) hx hb htg inX8 hown hK hU h.c0 rfl 0 (by decide) (htg _ tg_157) rfl dX8_holder_61 ?_
          refine um_get (v := .ref (xd 2)) hx hb htg inX0 hown hK hU h.c1 rfl 0 (by decide) (htg _ tg_36) rfl dX8_holder_64 ?_
          refine lv_iload_n hx hb dX8_holder_67 rfl (lv_at hl 1 rfl) ?_
          refine xs_gld (b := 4) hx hb hK hU h.c2 j0 (by omega) dX8_holder_68 ?_
          refine um_callP (va_runV (As := [.int (nI (j1)), .ref (xd (4 + j0))]) (rest := []) ⟨hx, hb, hml, hown, htg⟩ (xl_numberOf l D κ τ A σ xd la ma va q sc h hq j0 j1 (by omega) (by omega) (ok.kn _ 0 (by omega) (by decide))) (cwV 2 htg (lw_cV tg_380 tg_381 tg_382 tg_3 tg_383) rfl rfl rfl (by decide +kernel) ⟨Nat.le_of_ble_eq_true rfl, Nat.le_of_ble_eq_true rfl⟩) (um_preV hU hK hJ h.c14 rfl) rfl rfl hl.1 rfl (lv_room (Nat.le_of_ble_eq_true rfl)) dX8_holder_69 ⟨Nat.le_of_ble_eq_true rfl, Nat.le_of_ble_eq_true rfl⟩) hU (fun H locs hU => ?_)
          rw [pu.no (d := j0) (p := j1) (by omega) (by omega)]
          exact W.widen (Nat.le_of_ble_eq_true rfl) (Nat.le_of_ble_eq_true rfl) (vx_ret (um_iret hx hb hr hlocks hK hJ hU dX8_holder_72 ⟨by simp [tbT_holder, tbA_holder, tb_hoB, c1, c3, c5, en_j0, en_j1, en_j2, e2z, c8], by simp [tbT_holder, tbA_holder, tb_hoB, c1, c3, c5, en_j0, en_j1, en_j2, e2z, c8], ⟨_, _, _, _, h⟩⟩))
        · refine lv_aload_n hx hb dX8_holder_37 rfl (lv_at hl 0 rfl) ?_
          refine um_get (v := .ref (xd 14)) hx hb htg inX8 hown hK hU h.c0 rfl 1 (by decide) (htg _ tg_158) rfl dX8_holder_38 ?_
          refine lv_iload_n hx hb dX8_holder_41 rfl (lv_at hl 2 rfl) ?_
          refine lv_aload_n hx hb dX8_holder_42 rfl (lv_at hl 0 rfl) ?_
          refine um_get (v := .ref (xd 1)) hx hb htg inX8 hown hK hU h.c0 rfl 0 (by decide) (htg _ tg_157) rfl dX8_holder_43 ?_
          refine um_get (v := .ref (xd 2)) hx hb htg inX0 hown hK hU h.c1 rfl 0 (by decide) (htg _ tg_36) rfl dX8_holder_46 ?_
          refine lv_iload_n hx hb dX8_holder_49 rfl (lv_at hl 1 rfl) ?_
          refine xs_gld (b := 4) hx hb hK hU h.c2 j0 (by omega) dX8_holder_50 ?_
          refine um_callP (va_runV (As := [.int (nI (j1)), .ref (xd (4 + j0))]) (rest := []) ⟨hx, hb, hml, hown, htg⟩ (xl_holderOf l D κ τ A σ xd la ma va q sc h hq j0 j1 (by omega) (by omega) (ok.kn _ 0 (by omega) (by decide)) ht9) (cwV 2 htg (lw_cV tg_277 tg_278 tg_279 tg_3 tg_280) rfl rfl rfl (by decide +kernel) ⟨Nat.le_of_ble_eq_true rfl, Nat.le_of_ble_eq_true rfl⟩) (um_preV hU hK hJ h.c14 rfl) rfl rfl hl.1 rfl (lv_room (Nat.le_of_ble_eq_true rfl)) dX8_holder_51 ⟨Nat.le_of_ble_eq_true rfl, Nat.le_of_ble_eq_true rfl⟩) hU (fun H locs hU => ?_)
          rw [pu.ho (d := j0) (p := j1) (by omega) (by omega)]
          exact W.widen (Nat.le_of_ble_eq_true rfl) (Nat.le_of_ble_eq_true rfl) (vx_ret (um_iret hx hb hr hlocks hK hJ hU dX8_holder_54 ⟨by simp [tbT_holder, tbA_holder, tb_hoB, c1, c3, c5, en_j0, en_j1, en_j2, e2z, (eq_true c8)], by simp [tbT_holder, tbA_holder, tb_hoB, c1, c3, c5, en_j0, en_j1, en_j2, e2z, (eq_true c8)], ⟨_, _, _, _, h⟩⟩))

set_option maxRecDepth 100000 in
set_option maxHeartbeats 4000000 in
theorem xp_lend (l : Launch) (D : va_G) (κ : Nat → ClassId) (τ : Nat → Nat) (A : Nat → Prop) (σ : um_M) (xd la ma va : Nat → Nat) (q : tb_Q) (sc : xs_S) (h : xs_at κ σ xd la ma va q sc) (hst : l.stackTraces = false) (ok : tb_ok q) (pu : xs_pure q)  (x0 x1 : Int32) : vx_Met l yX8_lend wsX8_lend ({ frames := 7, cells := 4, slots := 23, locals := 102 }) (va_Pc [.ref (xd 0), .int (x0), .int (x1)] (um_U D κ τ A σ)) (va_Qi (fun (r9 : Int32) (σ' : um_M) => r9 = nI (tbA_lend q x0 x1) ∧ tbT_lend q x0 x1 = 0 ∧ ∃ la' ma' va' sc', xs_at κ σ' xd la' ma' va' (tbQ_lend q x0 x1) sc') (um_U D κ τ A) A) (um_XC D κ τ A (fun u => ∃ sc', xs_at κ u xd la ma va q sc') (fun E => (E = nIAE ∧ tbT_lend q x0 x1 = 1) ∨ (E = nISE ∧ tbT_lend q x0 x1 = 2))) 4 23 A := by
  refine um_metX (cc := cX8_lend) (maxL := 3) (ret := (some .int)) (by decide) rfl rfl ?_
  intro pp ee s mm args below meth cd ls hx hb hr hts hown hlocks hml htab hK hJ hU hl
  have hown : s.vm.findClass RX8 = some mm.cls := hown
  have htg : ∀ w ∈ lw_g, w.before args s = true := fun w h => hts w (List.mem_cons_of_mem _ h)
  have hl : lv_has ls 3 [(0, .ref (xd 0)), (1, .int (x0)), (2, .int (x1))] := hl
  have hq := ok.sm
  have ht9 : ∀ k, xs_isL q k → q 4 k < 5 := fun k hk => (ok.lt k hk).2.1
  refine lv_iload_n hx hb dX8_lend_0 rfl (lv_at hl 1 rfl) ?_
  refine lv_bipush (v := nI 6) hx hb dX8_lend_1 (by decide +kernel) ?_
  refine um_callP (va_runS (As := [.int (x0), .int (nI (6))]) (rest := []) ⟨hx, hb, hml, hown, htg⟩ (xf_isBelow l D κ τ A σ x0 6 (by decide) (by decide)) (cwS 2 htg (lw_cS tg_190 tg_191 tg_1 tg_192) rfl rfl rfl (by decide +kernel) ⟨Nat.le_of_ble_eq_true rfl, Nat.le_of_ble_eq_true rfl⟩) (um_preS hU hK hJ) rfl rfl hl.1 rfl (lv_room (Nat.le_of_ble_eq_true rfl)) dX8_lend_3 ⟨Nat.le_of_ble_eq_true rfl, Nat.le_of_ble_eq_true rfl⟩) hU (fun H locs hU => ?_)
  refine um_eqB (tgt := 20) hx hb dX8_lend_6 (by decide) (fun c1 => ?_) (fun c1 => ?_)
  · refine lv_iconst (v := nI 0) hx hb dX8_lend_20 (by decide +kernel) ?_
    refine um_xcallv (vx_runS (As := [.int (um_b false)]) (rest := []) ⟨hx, hb, hml, hown, htg⟩ (xf_require l D κ τ A σ hst false) (cwS 1 htg (lw_cS tg_193 tg_194 tg_1 tg_195) rfl rfl rfl (by decide +kernel) ⟨Nat.le_of_ble_eq_true rfl, Nat.le_of_ble_eq_true rfl⟩) (um_preS hU hK hJ) rfl rfl hl.1 rfl (lv_room (Nat.le_of_ble_eq_true rfl)) dX8_lend_21 ⟨Nat.le_of_ble_eq_true rfl, Nat.le_of_ble_eq_true rfl⟩) hU (fun E9 ce9 q9 σ9 H locs hp9 hE9 hU hce hcv hcl => ?_) (fun σ9 H locs hp9 hU => ?_)
    · obtain ⟨rfl, c2⟩ := hE9
      rw [hp9] at hU
      exact um_xout htab hlocks hce hcv hcl hK hJ hU ⟨_, h⟩ (Or.inl ⟨rfl, by simp [tbT_lend, tbA_lend, tbQ_lend, tb_ldB, tb_ldC, c1, c2]⟩) (Nat.le_of_ble_eq_true rfl) (Nat.le_of_ble_eq_true rfl)
    · exact absurd hp9.1 (by decide)
  · refine lv_iload_n hx hb dX8_lend_9 rfl (lv_at hl 2 rfl) ?_
    refine um_callP (va_runS (As := [.int (x1)]) (rest := []) ⟨hx, hb, hml, hown, htg⟩ (xf_isTablet l D κ τ A σ x1) (cwS 1 htg (lw_cS tg_274 tg_275 tg_1 tg_276) rfl rfl rfl (by decide +kernel) ⟨Nat.le_of_ble_eq_true rfl, Nat.le_of_ble_eq_true rfl⟩) (um_preS hU hK hJ) rfl rfl hl.1 rfl (lv_room (Nat.le_of_ble_eq_true rfl)) dX8_lend_10 ⟨Nat.le_of_ble_eq_true rfl, Nat.le_of_ble_eq_true rfl⟩) hU (fun H locs hU => ?_)
    refine um_eqB (tgt := 20) hx hb dX8_lend_13 (by decide) (fun c3 => ?_) (fun c3 => ?_)
    · refine lv_iconst (v := nI 0) hx hb dX8_lend_20 (by decide +kernel) ?_
      refine um_xcallv (vx_runS (As := [.int (um_b false)]) (rest := []) ⟨hx, hb, hml, hown, htg⟩ (xf_require l D κ τ A σ hst false) (cwS 1 htg (lw_cS tg_193 tg_194 tg_1 tg_195) rfl rfl rfl (by decide +kernel) ⟨Nat.le_of_ble_eq_true rfl, Nat.le_of_ble_eq_true rfl⟩) (um_preS hU hK hJ) rfl rfl hl.1 rfl (lv_room (Nat.le_of_ble_eq_true rfl)) dX8_lend_21 ⟨Nat.le_of_ble_eq_true rfl, Nat.le_of_ble_eq_true rfl⟩) hU (fun E9 ce9 q9 σ9 H locs hp9 hE9 hU hce hcv hcl => ?_) (fun σ9 H locs hp9 hU => ?_)
      · obtain ⟨rfl, c4⟩ := hE9
        rw [hp9] at hU
        exact um_xout htab hlocks hce hcv hcl hK hJ hU ⟨_, h⟩ (Or.inl ⟨rfl, by simp [tbT_lend, tbA_lend, tbQ_lend, tb_ldB, tb_ldC, c1, c3, c4]⟩) (Nat.le_of_ble_eq_true rfl) (Nat.le_of_ble_eq_true rfl)
      · exact absurd hp9.1 (by decide)
    · refine lv_iconst (v := nI 1) hx hb dX8_lend_16 (by decide +kernel) ?_
      refine lv_goto (tgt := 21) hx hb dX8_lend_17 (by decide) ?_
      refine um_xcallv (vx_runS (As := [.int (um_b true)]) (rest := []) ⟨hx, hb, hml, hown, htg⟩ (xf_require l D κ τ A σ hst true) (cwS 1 htg (lw_cS tg_193 tg_194 tg_1 tg_195) rfl rfl rfl (by decide +kernel) ⟨Nat.le_of_ble_eq_true rfl, Nat.le_of_ble_eq_true rfl⟩) (um_preS hU hK hJ) rfl rfl hl.1 rfl (lv_room (Nat.le_of_ble_eq_true rfl)) dX8_lend_21 ⟨Nat.le_of_ble_eq_true rfl, Nat.le_of_ble_eq_true rfl⟩) hU (fun E9 ce9 q9 σ9 H locs hp9 hE9 hU hce hcv hcl => ?_) (fun σ9 H locs hp9 hU => ?_)
      · exact absurd hE9.2 (by decide)
      have c5 := hp9.1
      rw [hp9.2] at hU
      obtain ⟨j0, ha_j0, hb_j0, rfl⟩ := tb_inN (by decide) (by decide) c1
      have en_j0 : (nI j0).toNatClampNeg = j0 := nI_clamp (by omega)
      obtain ⟨j1, ha_j1, hb_j1, rfl⟩ := tb_inN (by decide) (by decide) c3
      have en_j1 : (nI j1).toNatClampNeg = j1 := nI_clamp (by omega)
      refine lv_aload_n hx hb dX8_lend_24 rfl (lv_at hl 0 rfl) ?_
      refine um_get (v := .ref (xd 14)) hx hb htg inX8 hown hK hU h.c0 rfl 1 (by decide) (htg _ tg_158) rfl dX8_lend_25 ?_
      refine lv_iload_n hx hb dX8_lend_28 rfl (lv_at hl 1 rfl) ?_
      refine lv_aload_n hx hb dX8_lend_29 rfl (lv_at hl 0 rfl) ?_
      refine um_get (v := .ref (xd 1)) hx hb htg inX8 hown hK hU h.c0 rfl 0 (by decide) (htg _ tg_157) rfl dX8_lend_30 ?_
      refine um_get (v := .ref (xd 2)) hx hb htg inX0 hown hK hU h.c1 rfl 0 (by decide) (htg _ tg_36) rfl dX8_lend_33 ?_
      refine lv_iconst (v := nI 0) hx hb dX8_lend_36 (by decide +kernel) ?_
      refine xs_gld (b := 4) hx hb hK hU h.c2 0 (by omega) dX8_lend_37 ?_
      refine um_callP (va_runV (As := [.int (nI (j0)), .ref (xd (4 + 0))]) (rest := []) ⟨hx, hb, hml, hown, htg⟩ (xl_holderOf l D κ τ A σ xd la ma va q sc h hq 0 j0 (by omega) (by omega) (ok.kn _ 0 (by omega) (by decide)) ht9) (cwV 2 htg (lw_cV tg_277 tg_278 tg_279 tg_3 tg_280) rfl rfl rfl (by decide +kernel) ⟨Nat.le_of_ble_eq_true rfl, Nat.le_of_ble_eq_true rfl⟩) (um_preV hU hK hJ h.c14 rfl) rfl rfl hl.1 rfl (lv_room (Nat.le_of_ble_eq_true rfl)) dX8_lend_38 ⟨Nat.le_of_ble_eq_true rfl, Nat.le_of_ble_eq_true rfl⟩) hU (fun H locs hU => ?_)
      rw [pu.ho (d := 0) (p := j0) (by omega) (by omega)]
      refine lv_iconst (v := -1) hx hb dX8_lend_41 (by decide +kernel) ?_
      refine um_neM1 (tgt := 49) hx hb dX8_lend_42 (by decide) (tb_holdslt hq _ _) (fun c6 => ?_) (fun c6 => ?_)
      · refine lv_iconst (v := nI 0) hx hb dX8_lend_49 (by decide +kernel) ?_
        refine um_xcallv (vx_runS (As := [.int (um_b false)]) (rest := []) ⟨hx, hb, hml, hown, htg⟩ (xf_allow l D κ τ A σ hst false) (cwS 1 htg (lw_cS tg_285 tg_286 tg_1 tg_287) rfl rfl rfl (by decide +kernel) ⟨Nat.le_of_ble_eq_true rfl, Nat.le_of_ble_eq_true rfl⟩) (um_preS hU hK hJ) rfl rfl hl.1 rfl (lv_room (Nat.le_of_ble_eq_true rfl)) dX8_lend_50 ⟨Nat.le_of_ble_eq_true rfl, Nat.le_of_ble_eq_true rfl⟩) hU (fun E9 ce9 q9 σ9 H locs hp9 hE9 hU hce hcv hcl => ?_) (fun σ9 H locs hp9 hU => ?_)
        · obtain ⟨rfl, c7⟩ := hE9
          rw [hp9] at hU
          exact um_xout htab hlocks hce hcv hcl hK hJ hU ⟨_, h⟩ (Or.inr (⟨rfl, by simp [tbT_lend, tbA_lend, tbQ_lend, tb_ldB, tb_ldC, c1, c3, en_j0, en_j1, c6, c7]⟩)) (Nat.le_of_ble_eq_true rfl) (Nat.le_of_ble_eq_true rfl)
        · exact absurd hp9.1 (by decide)
      · refine lv_iconst (v := nI 1) hx hb dX8_lend_45 (by decide +kernel) ?_
        refine lv_goto (tgt := 50) hx hb dX8_lend_46 (by decide) ?_
        refine um_xcallv (vx_runS (As := [.int (um_b true)]) (rest := []) ⟨hx, hb, hml, hown, htg⟩ (xf_allow l D κ τ A σ hst true) (cwS 1 htg (lw_cS tg_285 tg_286 tg_1 tg_287) rfl rfl rfl (by decide +kernel) ⟨Nat.le_of_ble_eq_true rfl, Nat.le_of_ble_eq_true rfl⟩) (um_preS hU hK hJ) rfl rfl hl.1 rfl (lv_room (Nat.le_of_ble_eq_true rfl)) dX8_lend_50 ⟨Nat.le_of_ble_eq_true rfl, Nat.le_of_ble_eq_true rfl⟩) hU (fun E9 ce9 q9 σ9 H locs hp9 hE9 hU hce hcv hcl => ?_) (fun σ9 H locs hp9 hU => ?_)
        · exact absurd hE9.2 (by decide)
        have c8 := hp9.1
        rw [hp9.2] at hU
        refine lv_aload_n hx hb dX8_lend_53 rfl (lv_at hl 0 rfl) ?_
        refine um_get (v := .ref (xd 1)) hx hb htg inX8 hown hK hU h.c0 rfl 0 (by decide) (htg _ tg_157) rfl dX8_lend_54 ?_
        refine lv_iconst (v := nI 0) hx hb dX8_lend_57 (by decide +kernel) ?_
        refine um_callP (va_runV (As := [.int (nI (0))]) (rest := []) ⟨hx, hb, hml, hown, htg⟩ (xc_hasRoom l D κ τ A σ xd la ma va q sc h hq 0 (by omega)) (cwV 1 htg (lw_cV tg_303 tg_304 tg_305 tg_2 tg_306) rfl rfl rfl (by decide +kernel) ⟨Nat.le_of_ble_eq_true rfl, Nat.le_of_ble_eq_true rfl⟩) (um_preV hU hK hJ h.c1 rfl) rfl rfl hl.1 rfl (lv_room (Nat.le_of_ble_eq_true rfl)) dX8_lend_58 ⟨Nat.le_of_ble_eq_true rfl, Nat.le_of_ble_eq_true rfl⟩) hU (fun H locs hU => ?_)
        rw [xs_room ok (d := 0) (by omega)]
        refine um_xcallv (vx_runS (As := [.int (um_b (!decide (q 0 0 = 40)))]) (rest := []) ⟨hx, hb, hml, hown, htg⟩ (xf_allow l D κ τ A σ hst (!decide (q 0 0 = 40))) (cwS 1 htg (lw_cS tg_285 tg_286 tg_1 tg_287) rfl rfl rfl (by decide +kernel) ⟨Nat.le_of_ble_eq_true rfl, Nat.le_of_ble_eq_true rfl⟩) (um_preS hU hK hJ) rfl rfl hl.1 rfl (lv_room (Nat.le_of_ble_eq_true rfl)) dX8_lend_61 ⟨Nat.le_of_ble_eq_true rfl, Nat.le_of_ble_eq_true rfl⟩) hU (fun E9 ce9 q9 σ9 H locs hp9 hE9 hU hce hcv hcl => ?_) (fun σ9 H locs hp9 hU => ?_)
        · obtain ⟨rfl, c9⟩ := hE9
          rw [hp9] at hU
          have c9 : q 0 0 = 40 := by simpa using c9
          exact um_xout htab hlocks hce hcv hcl hK hJ hU ⟨_, h⟩ (Or.inr (⟨rfl, by simp [tbT_lend, tbA_lend, tbQ_lend, tb_ldB, tb_ldC, c1, c3, en_j0, en_j1, c6, c9]⟩)) (Nat.le_of_ble_eq_true rfl) (Nat.le_of_ble_eq_true rfl)
        have c9 := hp9.1
        rw [hp9.2] at hU
        have c9 : ¬ q 0 0 = 40 := by simpa using c9
        refine lv_aload_n hx hb dX8_lend_64 rfl (lv_at hl 0 rfl) ?_
        refine um_get (v := .ref (xd 14)) hx hb htg inX8 hown hK hU h.c0 rfl 1 (by decide) (htg _ tg_158) rfl dX8_lend_65 ?_
        refine lv_iload_n hx hb dX8_lend_68 rfl (lv_at hl 1 rfl) ?_
        refine lv_iload_n hx hb dX8_lend_69 rfl (lv_at hl 2 rfl) ?_
        refine lv_aload_n hx hb dX8_lend_70 rfl (lv_at hl 0 rfl) ?_
        refine um_get (v := .ref (xd 1)) hx hb htg inX8 hown hK hU h.c0 rfl 0 (by decide) (htg _ tg_157) rfl dX8_lend_71 ?_
        refine lv_iconst (v := nI 0) hx hb dX8_lend_74 (by decide +kernel) ?_
        refine um_calli (va_runV (As := [.int (nI (0))]) (rest := [.int (nI (j1)), .int (nI (j0)), .ref (xd 14)]) ⟨hx, hb, hml, hown, htg⟩ (xc_addEntry l D κ τ A σ xd la ma va q sc h 0 (by omega)) (cwV 1 htg (lw_cV tg_307 tg_308 tg_309 tg_2 tg_310) rfl rfl rfl (by decide +kernel) ⟨Nat.le_of_ble_eq_true rfl, Nat.le_of_ble_eq_true rfl⟩) (um_preV hU hK hJ h.c1 rfl) rfl rfl hl.1 rfl (lv_room (Nat.le_of_ble_eq_true rfl)) dX8_lend_75 ⟨Nat.le_of_ble_eq_true rfl, Nat.le_of_ble_eq_true rfl⟩) hU (fun r9 σ H locs h hU => ?_)
        obtain ⟨rfl, h⟩ := h
        have h : xs_at κ σ xd la ma va (tb_cnt1 q 0) sc := h
        rw [show q 7 (5 * 0 + 0) + 1 = 40 * 0 + q 0 0 + 1 from by rw [(ok.own 0 (by decide)).1]; omega]
        refine um_calli (va_runV (As := [.int (nI (j0)), .int (nI (j1)), .int (nI (40 * 0 + q 0 0 + 1))]) (rest := []) ⟨hx, hb, hml, hown, htg⟩ (xl_addLendE l D κ τ A σ xd la ma va q sc h ok pu j0 j1 (by omega) (by omega) (by omega) (by have := ok.m40 0; omega)) (cwV 3 htg (lw_cV tg_318 tg_319 tg_320 tg_3 tg_321) rfl rfl rfl (by decide +kernel) ⟨Nat.le_of_ble_eq_true rfl, Nat.le_of_ble_eq_true rfl⟩) (um_preV hU hK hJ h.c14 rfl) rfl rfl hl.1 rfl (lv_room (Nat.le_of_ble_eq_true rfl)) dX8_lend_78 ⟨Nat.le_of_ble_eq_true rfl, Nat.le_of_ble_eq_true rfl⟩) hU (fun r9 σ H locs h hU => ?_)
        obtain ⟨rfl, h⟩ := h
        obtain ⟨la', h⟩ := h
        exact W.widen (Nat.le_of_ble_eq_true rfl) (Nat.le_of_ble_eq_true rfl) (vx_ret (um_iret hx hb hr hlocks hK hJ hU dX8_lend_81 ⟨congrArg nI (by simp [tbT_lend, tbA_lend, tbQ_lend, tb_ldB, tb_ldC, c1, c3, en_j0, en_j1, c6, c9]), by simp [tbT_lend, tbA_lend, tbQ_lend, tb_ldB, tb_ldC, c1, c3, en_j0, en_j1, c6, c9], ⟨_, _, _, _, by rw [show (tbQ_lend q (nI j0) (nI j1)) = (tb_ent q 0 0 j0 0 j1 (tb_lent q 0 j0 + 1)) from by simp [tbT_lend, tbA_lend, tbQ_lend, tb_ldB, tb_ldC, c1, c3, en_j0, en_j1, c6, c9]]; exact h⟩⟩))

set_option maxRecDepth 100000 in
set_option maxHeartbeats 4000000 in
theorem xp_giveBack (l : Launch) (D : va_G) (κ : Nat → ClassId) (τ : Nat → Nat) (A : Nat → Prop) (σ : um_M) (xd la ma va : Nat → Nat) (q : tb_Q) (sc : xs_S) (h : xs_at κ σ xd la ma va q sc) (hst : l.stackTraces = false) (ok : tb_ok q) (pu : xs_pure q)  (x0 x1 : Int32) : vx_Met l yX8_giveBack wsX8_giveBack ({ frames := 7, cells := 3, slots := 18, locals := 102 }) (va_Pc [.ref (xd 0), .int (x0), .int (x1)] (um_U D κ τ A σ)) (va_Qi (fun (r9 : Int32) (σ' : um_M) => r9 = nI (tbA_giveBack q x0 x1) ∧ tbT_giveBack q x0 x1 = 0 ∧ ∃ la' ma' va' sc', xs_at κ σ' xd la' ma' va' (tbQ_giveBack q x0 x1) sc') (um_U D κ τ A) A) (um_XC D κ τ A (fun u => ∃ sc', xs_at κ u xd la ma va q sc') (fun E => (E = nIAE ∧ tbT_giveBack q x0 x1 = 1) ∨ (E = nISE ∧ tbT_giveBack q x0 x1 = 2))) 3 18 A := by
  refine um_metX (cc := cX8_giveBack) (maxL := 5) (ret := (some .int)) (by decide) rfl rfl ?_
  intro pp ee s mm args below meth cd ls hx hb hr hts hown hlocks hml htab hK hJ hU hl
  have hown : s.vm.findClass RX8 = some mm.cls := hown
  have htg : ∀ w ∈ lw_g, w.before args s = true := fun w h => hts w (List.mem_cons_of_mem _ h)
  have hl : lv_has ls 5 [(0, .ref (xd 0)), (1, .int (x0)), (2, .int (x1))] := hl
  have hq := ok.sm
  have ht9 : ∀ k, xs_isL q k → q 4 k < 5 := fun k hk => (ok.lt k hk).2.1
  refine lv_iload_n hx hb dX8_giveBack_0 rfl (lv_at hl 1 rfl) ?_
  refine um_callP (va_runS (As := [.int (x0)]) (rest := []) ⟨hx, hb, hml, hown, htg⟩ (xf_isTablet l D κ τ A σ x0) (cwS 1 htg (lw_cS tg_274 tg_275 tg_1 tg_276) rfl rfl rfl (by decide +kernel) ⟨Nat.le_of_ble_eq_true rfl, Nat.le_of_ble_eq_true rfl⟩) (um_preS hU hK hJ) rfl rfl hl.1 rfl (lv_room (Nat.le_of_ble_eq_true rfl)) dX8_giveBack_1 ⟨Nat.le_of_ble_eq_true rfl, Nat.le_of_ble_eq_true rfl⟩) hU (fun H locs hU => ?_)
  refine um_eqB (tgt := 20) hx hb dX8_giveBack_4 (by decide) (fun c1 => ?_) (fun c1 => ?_)
  · refine lv_iconst (v := nI 0) hx hb dX8_giveBack_20 (by decide +kernel) ?_
    refine um_xcallv (vx_runS (As := [.int (um_b false)]) (rest := []) ⟨hx, hb, hml, hown, htg⟩ (xf_require l D κ τ A σ hst false) (cwS 1 htg (lw_cS tg_193 tg_194 tg_1 tg_195) rfl rfl rfl (by decide +kernel) ⟨Nat.le_of_ble_eq_true rfl, Nat.le_of_ble_eq_true rfl⟩) (um_preS hU hK hJ) rfl rfl hl.1 rfl (lv_room (Nat.le_of_ble_eq_true rfl)) dX8_giveBack_21 ⟨Nat.le_of_ble_eq_true rfl, Nat.le_of_ble_eq_true rfl⟩) hU (fun E9 ce9 q9 σ9 H locs hp9 hE9 hU hce hcv hcl => ?_) (fun σ9 H locs hp9 hU => ?_)
    · obtain ⟨rfl, c2⟩ := hE9
      rw [hp9] at hU
      exact um_xout htab hlocks hce hcv hcl hK hJ hU ⟨_, h⟩ (Or.inl ⟨rfl, by simp [tbT_giveBack, tbA_giveBack, tbQ_giveBack, tb_gbB, tb_gbC, tb_ent_0, c1, c2]⟩) (Nat.le_of_ble_eq_true rfl) (Nat.le_of_ble_eq_true rfl)
    · exact absurd hp9.1 (by decide)
  · refine lv_iload_n hx hb dX8_giveBack_7 rfl (lv_at hl 2 rfl) ?_
    refine lv_bipush (v := nI 6) hx hb dX8_giveBack_8 (by decide +kernel) ?_
    refine um_callP (va_runS (As := [.int (x1), .int (nI (6))]) (rest := []) ⟨hx, hb, hml, hown, htg⟩ (xf_isBelow l D κ τ A σ x1 6 (by decide) (by decide)) (cwS 2 htg (lw_cS tg_190 tg_191 tg_1 tg_192) rfl rfl rfl (by decide +kernel) ⟨Nat.le_of_ble_eq_true rfl, Nat.le_of_ble_eq_true rfl⟩) (um_preS hU hK hJ) rfl rfl hl.1 rfl (lv_room (Nat.le_of_ble_eq_true rfl)) dX8_giveBack_10 ⟨Nat.le_of_ble_eq_true rfl, Nat.le_of_ble_eq_true rfl⟩) hU (fun H locs hU => ?_)
    refine um_eqB (tgt := 20) hx hb dX8_giveBack_13 (by decide) (fun c3 => ?_) (fun c3 => ?_)
    · refine lv_iconst (v := nI 0) hx hb dX8_giveBack_20 (by decide +kernel) ?_
      refine um_xcallv (vx_runS (As := [.int (um_b false)]) (rest := []) ⟨hx, hb, hml, hown, htg⟩ (xf_require l D κ τ A σ hst false) (cwS 1 htg (lw_cS tg_193 tg_194 tg_1 tg_195) rfl rfl rfl (by decide +kernel) ⟨Nat.le_of_ble_eq_true rfl, Nat.le_of_ble_eq_true rfl⟩) (um_preS hU hK hJ) rfl rfl hl.1 rfl (lv_room (Nat.le_of_ble_eq_true rfl)) dX8_giveBack_21 ⟨Nat.le_of_ble_eq_true rfl, Nat.le_of_ble_eq_true rfl⟩) hU (fun E9 ce9 q9 σ9 H locs hp9 hE9 hU hce hcv hcl => ?_) (fun σ9 H locs hp9 hU => ?_)
      · obtain ⟨rfl, c4⟩ := hE9
        rw [hp9] at hU
        exact um_xout htab hlocks hce hcv hcl hK hJ hU ⟨_, h⟩ (Or.inl ⟨rfl, by simp [tbT_giveBack, tbA_giveBack, tbQ_giveBack, tb_gbB, tb_gbC, tb_ent_0, c1, c3, c4]⟩) (Nat.le_of_ble_eq_true rfl) (Nat.le_of_ble_eq_true rfl)
      · exact absurd hp9.1 (by decide)
    · refine lv_iconst (v := nI 1) hx hb dX8_giveBack_16 (by decide +kernel) ?_
      refine lv_goto (tgt := 21) hx hb dX8_giveBack_17 (by decide) ?_
      refine um_xcallv (vx_runS (As := [.int (um_b true)]) (rest := []) ⟨hx, hb, hml, hown, htg⟩ (xf_require l D κ τ A σ hst true) (cwS 1 htg (lw_cS tg_193 tg_194 tg_1 tg_195) rfl rfl rfl (by decide +kernel) ⟨Nat.le_of_ble_eq_true rfl, Nat.le_of_ble_eq_true rfl⟩) (um_preS hU hK hJ) rfl rfl hl.1 rfl (lv_room (Nat.le_of_ble_eq_true rfl)) dX8_giveBack_21 ⟨Nat.le_of_ble_eq_true rfl, Nat.le_of_ble_eq_true rfl⟩) hU (fun E9 ce9 q9 σ9 H locs hp9 hE9 hU hce hcv hcl => ?_) (fun σ9 H locs hp9 hU => ?_)
      · exact absurd hE9.2 (by decide)
      have c5 := hp9.1
      rw [hp9.2] at hU
      obtain ⟨j0, ha_j0, hb_j0, rfl⟩ := tb_inN (by decide) (by decide) c1
      have en_j0 : (nI j0).toNatClampNeg = j0 := nI_clamp (by omega)
      obtain ⟨j1, ha_j1, hb_j1, rfl⟩ := tb_inN (by decide) (by decide) c3
      have en_j1 : (nI j1).toNatClampNeg = j1 := nI_clamp (by omega)
      have hk := ok.kn j0 0 (by omega) (by decide)
      refine lv_aload_n hx hb dX8_giveBack_24 rfl (lv_at hl 0 rfl) ?_
      refine um_get (v := .ref (xd 14)) hx hb htg inX8 hown hK hU h.c0 rfl 1 (by decide) (htg _ tg_158) rfl dX8_giveBack_25 ?_
      refine lv_iload_n hx hb dX8_giveBack_28 rfl (lv_at hl 2 rfl) ?_
      refine lv_aload_n hx hb dX8_giveBack_29 rfl (lv_at hl 0 rfl) ?_
      refine um_get (v := .ref (xd 1)) hx hb htg inX8 hown hK hU h.c0 rfl 0 (by decide) (htg _ tg_157) rfl dX8_giveBack_30 ?_
      refine um_get (v := .ref (xd 2)) hx hb htg inX0 hown hK hU h.c1 rfl 0 (by decide) (htg _ tg_36) rfl dX8_giveBack_33 ?_
      refine lv_iload_n hx hb dX8_giveBack_36 rfl (lv_at hl 1 rfl) ?_
      refine xs_gld (b := 4) hx hb hK hU h.c2 j0 (by omega) dX8_giveBack_37 ?_
      refine um_callPq (va_runV (As := [.int (nI (j1)), .ref (xd (4 + j0))]) (rest := []) ⟨hx, hb, hml, hown, htg⟩ (xl_lastKnown l D κ τ A σ xd la ma va q sc h hq j0 j1 (by omega) (by omega) hk) (cwV 2 htg (lw_cV tg_355 tg_282 tg_283 tg_3 tg_284) rfl rfl rfl (by decide +kernel) ⟨Nat.le_of_ble_eq_true rfl, Nat.le_of_ble_eq_true rfl⟩) (um_preV hU hK hJ h.c14 rfl) rfl rfl hl.1 rfl (lv_room (Nat.le_of_ble_eq_true rfl)) dX8_giveBack_38 ⟨Nat.le_of_ble_eq_true rfl, Nat.le_of_ble_eq_true rfl⟩) hU (fun H locs hU => ?_)
      refine um_astore_nQ (lv' := [(3, va_rf ((xs_ll q j1 (q 7 (5 * j0 + 0))).map la)), (0, .ref (xd 0)), (1, .int (nI (j0))), (2, .int (nI (j1)))]) hx hb dX8_giveBack_41 rfl hl (by decide) rfl (fun ls hl => ?_)
      cases ho : xs_ll q j1 (q 7 (5 * j0 + 0)) with
      | none =>
        rw [ho] at hl
        have hl : lv_has ls 5 [(3, .null), (0, .ref (xd 0)), (1, .int (nI (j0))), (2, .int (nI (j1)))] := hl
        refine lv_aload_n hx hb dX8_giveBack_42 rfl (lv_at hl 1 rfl) ?_
        refine um_get (v := .ref (xd 14)) hx hb htg inX8 hown hK hU h.c0 rfl 1 (by decide) (htg _ tg_158) rfl dX8_giveBack_43 ?_
        refine lv_iload_n hx hb dX8_giveBack_46 rfl (lv_at hl 3 rfl) ?_
        refine lv_aload_n hx hb dX8_giveBack_47 rfl (lv_at hl 1 rfl) ?_
        refine um_get (v := .ref (xd 1)) hx hb htg inX8 hown hK hU h.c0 rfl 0 (by decide) (htg _ tg_157) rfl dX8_giveBack_48 ?_
        refine um_get (v := .ref (xd 2)) hx hb htg inX0 hown hK hU h.c1 rfl 0 (by decide) (htg _ tg_36) rfl dX8_giveBack_51 ?_
        refine lv_iload_n hx hb dX8_giveBack_54 rfl (lv_at hl 2 rfl) ?_
        refine xs_gld (b := 4) hx hb hK hU h.c2 j0 (by omega) dX8_giveBack_55 ?_
        refine um_callP (va_runV (As := [.int (nI (j1)), .ref (xd (4 + j0))]) (rest := []) ⟨hx, hb, hml, hown, htg⟩ (xl_holderOf l D κ τ A σ xd la ma va q sc h hq j0 j1 (by omega) (by omega) (ok.kn _ 0 (by omega) (by decide)) ht9) (cwV 2 htg (lw_cV tg_277 tg_278 tg_279 tg_3 tg_280) rfl rfl rfl (by decide +kernel) ⟨Nat.le_of_ble_eq_true rfl, Nat.le_of_ble_eq_true rfl⟩) (um_preV hU hK hJ h.c14 rfl) rfl rfl hl.1 rfl (lv_room (Nat.le_of_ble_eq_true rfl)) dX8_giveBack_56 ⟨Nat.le_of_ble_eq_true rfl, Nat.le_of_ble_eq_true rfl⟩) hU (fun H locs hU => ?_)
        rw [pu.ho (d := j0) (p := j1) (by omega) (by omega)]
        refine lv_iload_n hx hb dX8_giveBack_59 rfl (lv_at hl 2 rfl) ?_
        refine um_neMN (tgt := 67) hx hb dX8_giveBack_60 (by decide) (by omega) (tb_holdslt hq _ _) (fun c6 => ?_) (fun c6 => ?_)
        · refine lv_iconst (v := nI 0) hx hb dX8_giveBack_67 (by decide +kernel) ?_
          refine um_xcallv (vx_runS (As := [.int (um_b false)]) (rest := []) ⟨hx, hb, hml, hown, htg⟩ (xf_allow l D κ τ A σ hst false) (cwS 1 htg (lw_cS tg_285 tg_286 tg_1 tg_287) rfl rfl rfl (by decide +kernel) ⟨Nat.le_of_ble_eq_true rfl, Nat.le_of_ble_eq_true rfl⟩) (um_preS hU hK hJ) rfl rfl hl.1 rfl (lv_room (Nat.le_of_ble_eq_true rfl)) dX8_giveBack_68 ⟨Nat.le_of_ble_eq_true rfl, Nat.le_of_ble_eq_true rfl⟩) hU (fun E9 ce9 q9 σ9 H locs hp9 hE9 hU hce hcv hcl => ?_) (fun σ9 H locs hp9 hU => ?_)
          · obtain ⟨rfl, c7⟩ := hE9
            rw [hp9] at hU
            exact um_xout htab hlocks hce hcv hcl hK hJ hU ⟨_, h⟩ (Or.inr (⟨rfl, by simp [tbT_giveBack, tbA_giveBack, tbQ_giveBack, tb_gbB, tb_gbC, tb_ent_0, c1, c3, en_j0, en_j1, c6, c7]⟩)) (Nat.le_of_ble_eq_true rfl) (Nat.le_of_ble_eq_true rfl)
          · exact absurd hp9.1 (by decide)
        · exact absurd (pu.ho (d := j0) (p := j1) (by omega) (by omega)) (by rw [xs_ho_n ho]; omega)
      | some k =>
        rw [ho] at hl
        have hl : lv_has ls 5 [(3, .ref (la k)), (0, .ref (xd 0)), (1, .int (nI (j0))), (2, .int (nI (j1)))] := hl
        have hk3 := xs_ll_some ho
        have hkn := ok.kn j0 0 (by omega) (by decide)
        have hL : xs_isL q k := ⟨by have := hk3.1; omega, hk3.2.1⟩
        refine lv_aload_n hx hb dX8_giveBack_42 rfl (lv_at hl 1 rfl) ?_
        refine um_get (v := .ref (xd 14)) hx hb htg inX8 hown hK hU h.c0 rfl 1 (by decide) (htg _ tg_158) rfl dX8_giveBack_43 ?_
        refine lv_iload_n hx hb dX8_giveBack_46 rfl (lv_at hl 3 rfl) ?_
        refine lv_aload_n hx hb dX8_giveBack_47 rfl (lv_at hl 1 rfl) ?_
        refine um_get (v := .ref (xd 1)) hx hb htg inX8 hown hK hU h.c0 rfl 0 (by decide) (htg _ tg_157) rfl dX8_giveBack_48 ?_
        refine um_get (v := .ref (xd 2)) hx hb htg inX0 hown hK hU h.c1 rfl 0 (by decide) (htg _ tg_36) rfl dX8_giveBack_51 ?_
        refine lv_iload_n hx hb dX8_giveBack_54 rfl (lv_at hl 2 rfl) ?_
        refine xs_gld (b := 4) hx hb hK hU h.c2 j0 (by omega) dX8_giveBack_55 ?_
        refine um_callP (va_runV (As := [.int (nI (j1)), .ref (xd (4 + j0))]) (rest := []) ⟨hx, hb, hml, hown, htg⟩ (xl_holderOf l D κ τ A σ xd la ma va q sc h hq j0 j1 (by omega) (by omega) (ok.kn _ 0 (by omega) (by decide)) ht9) (cwV 2 htg (lw_cV tg_277 tg_278 tg_279 tg_3 tg_280) rfl rfl rfl (by decide +kernel) ⟨Nat.le_of_ble_eq_true rfl, Nat.le_of_ble_eq_true rfl⟩) (um_preV hU hK hJ h.c14 rfl) rfl rfl hl.1 rfl (lv_room (Nat.le_of_ble_eq_true rfl)) dX8_giveBack_56 ⟨Nat.le_of_ble_eq_true rfl, Nat.le_of_ble_eq_true rfl⟩) hU (fun H locs hU => ?_)
        rw [pu.ho (d := j0) (p := j1) (by omega) (by omega)]
        refine lv_iload_n hx hb dX8_giveBack_59 rfl (lv_at hl 2 rfl) ?_
        refine um_neMN (tgt := 67) hx hb dX8_giveBack_60 (by decide) (by omega) (tb_holdslt hq _ _) (fun c8 => ?_) (fun c8 => ?_)
        · refine lv_iconst (v := nI 0) hx hb dX8_giveBack_67 (by decide +kernel) ?_
          refine um_xcallv (vx_runS (As := [.int (um_b false)]) (rest := []) ⟨hx, hb, hml, hown, htg⟩ (xf_allow l D κ τ A σ hst false) (cwS 1 htg (lw_cS tg_285 tg_286 tg_1 tg_287) rfl rfl rfl (by decide +kernel) ⟨Nat.le_of_ble_eq_true rfl, Nat.le_of_ble_eq_true rfl⟩) (um_preS hU hK hJ) rfl rfl hl.1 rfl (lv_room (Nat.le_of_ble_eq_true rfl)) dX8_giveBack_68 ⟨Nat.le_of_ble_eq_true rfl, Nat.le_of_ble_eq_true rfl⟩) hU (fun E9 ce9 q9 σ9 H locs hp9 hE9 hU hce hcv hcl => ?_) (fun σ9 H locs hp9 hU => ?_)
          · obtain ⟨rfl, c9⟩ := hE9
            rw [hp9] at hU
            exact um_xout htab hlocks hce hcv hcl hK hJ hU ⟨_, h⟩ (Or.inr (⟨rfl, by simp [tbT_giveBack, tbA_giveBack, tbQ_giveBack, tb_gbB, tb_gbC, tb_ent_0, c1, c3, en_j0, en_j1, c8, c9]⟩)) (Nat.le_of_ble_eq_true rfl) (Nat.le_of_ble_eq_true rfl)
          · exact absurd hp9.1 (by decide)
        · refine lv_iconst (v := nI 1) hx hb dX8_giveBack_63 (by decide +kernel) ?_
          refine lv_goto (tgt := 68) hx hb dX8_giveBack_64 (by decide) ?_
          refine um_xcallv (vx_runS (As := [.int (um_b true)]) (rest := []) ⟨hx, hb, hml, hown, htg⟩ (xf_allow l D κ τ A σ hst true) (cwS 1 htg (lw_cS tg_285 tg_286 tg_1 tg_287) rfl rfl rfl (by decide +kernel) ⟨Nat.le_of_ble_eq_true rfl, Nat.le_of_ble_eq_true rfl⟩) (um_preS hU hK hJ) rfl rfl hl.1 rfl (lv_room (Nat.le_of_ble_eq_true rfl)) dX8_giveBack_68 ⟨Nat.le_of_ble_eq_true rfl, Nat.le_of_ble_eq_true rfl⟩) hU (fun E9 ce9 q9 σ9 H locs hp9 hE9 hU hce hcv hcl => ?_) (fun σ9 H locs hp9 hU => ?_)
          · exact absurd hE9.2 (by decide)
          have c10 := hp9.1
          rw [hp9.2] at hU
          refine lv_aload_n hx hb dX8_giveBack_71 rfl (lv_at hl 1 rfl) ?_
          refine um_get (v := .ref (xd 1)) hx hb htg inX8 hown hK hU h.c0 rfl 0 (by decide) (htg _ tg_157) rfl dX8_giveBack_72 ?_
          refine lv_iload_n hx hb dX8_giveBack_75 rfl (lv_at hl 2 rfl) ?_
          refine um_callP (va_runV (As := [.int (nI (j0))]) (rest := []) ⟨hx, hb, hml, hown, htg⟩ (xc_hasRoom l D κ τ A σ xd la ma va q sc h hq j0 (by omega)) (cwV 1 htg (lw_cV tg_303 tg_304 tg_305 tg_2 tg_306) rfl rfl rfl (by decide +kernel) ⟨Nat.le_of_ble_eq_true rfl, Nat.le_of_ble_eq_true rfl⟩) (um_preV hU hK hJ h.c1 rfl) rfl rfl hl.1 rfl (lv_room (Nat.le_of_ble_eq_true rfl)) dX8_giveBack_76 ⟨Nat.le_of_ble_eq_true rfl, Nat.le_of_ble_eq_true rfl⟩) hU (fun H locs hU => ?_)
          rw [xs_room ok (d := j0) (by omega)]
          refine um_xcallv (vx_runS (As := [.int (um_b (!decide (q 0 j0 = 40)))]) (rest := []) ⟨hx, hb, hml, hown, htg⟩ (xf_allow l D κ τ A σ hst (!decide (q 0 j0 = 40))) (cwS 1 htg (lw_cS tg_285 tg_286 tg_1 tg_287) rfl rfl rfl (by decide +kernel) ⟨Nat.le_of_ble_eq_true rfl, Nat.le_of_ble_eq_true rfl⟩) (um_preS hU hK hJ) rfl rfl hl.1 rfl (lv_room (Nat.le_of_ble_eq_true rfl)) dX8_giveBack_79 ⟨Nat.le_of_ble_eq_true rfl, Nat.le_of_ble_eq_true rfl⟩) hU (fun E9 ce9 q9 σ9 H locs hp9 hE9 hU hce hcv hcl => ?_) (fun σ9 H locs hp9 hU => ?_)
          · obtain ⟨rfl, c11⟩ := hE9
            rw [hp9] at hU
            have c11 : q 0 j0 = 40 := by simpa using c11
            exact um_xout htab hlocks hce hcv hcl hK hJ hU ⟨_, h⟩ (Or.inr (⟨rfl, by simp [tbT_giveBack, tbA_giveBack, tbQ_giveBack, tb_gbB, tb_gbC, tb_ent_0, c1, c3, en_j0, en_j1, c8, c11]⟩)) (Nat.le_of_ble_eq_true rfl) (Nat.le_of_ble_eq_true rfl)
          have c11 := hp9.1
          rw [hp9.2] at hU
          have c11 : ¬ q 0 j0 = 40 := by simpa using c11
          refine lv_aload_n hx hb dX8_giveBack_82 rfl (lv_at hl 1 rfl) ?_
          refine um_get (v := .ref (xd 1)) hx hb htg inX8 hown hK hU h.c0 rfl 0 (by decide) (htg _ tg_157) rfl dX8_giveBack_83 ?_
          refine lv_iload_n hx hb dX8_giveBack_86 rfl (lv_at hl 2 rfl) ?_
          refine um_calli (va_runV (As := [.int (nI (j0))]) (rest := []) ⟨hx, hb, hml, hown, htg⟩ (xc_addEntry l D κ τ A σ xd la ma va q sc h j0 (by omega)) (cwV 1 htg (lw_cV tg_307 tg_308 tg_309 tg_2 tg_310) rfl rfl rfl (by decide +kernel) ⟨Nat.le_of_ble_eq_true rfl, Nat.le_of_ble_eq_true rfl⟩) (um_preV hU hK hJ h.c1 rfl) rfl rfl hl.1 rfl (lv_room (Nat.le_of_ble_eq_true rfl)) dX8_giveBack_87 ⟨Nat.le_of_ble_eq_true rfl, Nat.le_of_ble_eq_true rfl⟩) hU (fun r9 σ H locs h hU => ?_)
          obtain ⟨rfl, h⟩ := h
          refine lv_istore (lv' := [(4, .int (nI (q 7 (5 * j0 + j0) + 1))), (3, .ref (la k)), (0, .ref (xd 0)), (1, .int (nI (j0))), (2, .int (nI (j1)))]) hx hb dX8_giveBack_90 hl (by decide) rfl (fun ls hl => ?_)
          have h : xs_at κ σ xd la ma va (tb_cnt1 q j0) sc := h
          rw [show q 7 (5 * j0 + j0) + 1 = q 0 j0 + 1 from by rw [(ok.own j0 (by omega)).1]] at hl
          have hl : lv_has ls 5 [(4, .int (nI (q 0 j0 + 1))), (3, .ref (la k)), (0, .ref (xd 0)), (1, .int (nI (j0))), (2, .int (nI (j1)))] := hl
          have hc := h.2.2.1 k (xs_cnt1_L.mpr hL)
          unfold xs_lend at hc
          rw [tb_cnt1_n (r := 5) (by decide) (by decide), tb_cnt1_n (r := 4) (by decide) (by decide), tb_cnt1_n (r := 2) (by decide) (by decide), xs_cnt1_ll] at hc
          refine lv_aload_n hx hb dX8_giveBack_92 rfl (lv_at hl 1 rfl) ?_
          refine lv_ifnull hx hb dX8_giveBack_93 ?_
          refine lv_aload_n hx hb dX8_giveBack_96 rfl (lv_at hl 1 rfl) ?_
          refine lv_iload hx hb dX8_giveBack_97 (lv_at hl 0 rfl) ?_
          refine um_putB hx hb htg hown hK hU hc (htg _ tg_336) dX8_giveBack_99 (fun H locs hU => ?_)
          have h := h.giveB ok pu (by omega) (by omega) (by have := ok.m40 j0; omega) ho c8 (fun b x hb9 hx9 => hx9.up hb9) hc.self
          generalize um_up _ (la k) _ = σ at h hU
          refine lv_iload hx hb dX8_giveBack_102 (lv_at hl 0 rfl) ?_
          exact W.widen (Nat.le_of_ble_eq_true rfl) (Nat.le_of_ble_eq_true rfl) (vx_ret (um_iret hx hb hr hlocks hK hJ hU dX8_giveBack_104 ⟨congrArg nI (by simp [tbT_giveBack, tbA_giveBack, tbQ_giveBack, tb_gbB, tb_gbC, tb_ent_0, c1, c3, en_j0, en_j1, c8, c11]), by simp [tbT_giveBack, tbA_giveBack, tbQ_giveBack, tb_gbB, tb_gbC, tb_ent_0, c1, c3, en_j0, en_j1, c8, c11], ⟨_, _, _, _, by rw [show (tbQ_giveBack q (nI j0) (nI j1)) = (tb_ent q j0 1 j1 0 (tb_lent q j0 j1) 0) from by simp [tbT_giveBack, tbA_giveBack, tbQ_giveBack, tb_gbB, tb_gbC, tb_ent_0, c1, c3, en_j0, en_j1, c8, c11]]; exact h⟩⟩))

set_option maxRecDepth 100000 in
set_option maxHeartbeats 4000000 in
theorem xp_enter (l : Launch) (D : va_G) (κ : Nat → ClassId) (τ : Nat → Nat) (A : Nat → Prop) (σ : um_M) (xd la ma va : Nat → Nat) (q : tb_Q) (sc : xs_S) (h : xs_at κ σ xd la ma va q sc) (hst : l.stackTraces = false) (ok : tb_ok q) (pu : xs_pure q)  (x0 x1 x2 x3 x4 : Int32) : vx_Met l yX8_enter wsX8_enter ({ frames := 7, cells := 5, slots := 29, locals := 128 }) (va_Pc [.ref (xd 0), .int (x0), .int (x1), .int (x2), .int (x3), .int (x4)] (um_U D κ τ A σ)) (va_Qi (fun (r9 : Int32) (σ' : um_M) => r9 = nI (tbA_enter q x0 x1 x2 x3 x4) ∧ tbT_enter q x0 x1 x2 x3 x4 = 0 ∧ ∃ la' ma' va' sc', xs_at κ σ' xd la' ma' va' (tbQ_enter q x0 x1 x2 x3 x4) sc') (um_U D κ τ A) A) (um_XC D κ τ A (fun u => ∃ sc', xs_at κ u xd la ma va q sc') (fun E => (E = nIAE ∧ tbT_enter q x0 x1 x2 x3 x4 = 1) ∨ (E = nISE ∧ tbT_enter q x0 x1 x2 x3 x4 = 2))) 5 29 A := by
  refine um_metX (cc := cX8_enter) (maxL := 6) (ret := (some .int)) (by decide) rfl rfl ?_
  intro pp ee s mm args below meth cd ls hx hb hr hts hown hlocks hml htab hK hJ hU hl
  have hown : s.vm.findClass RX8 = some mm.cls := hown
  have htg : ∀ w ∈ lw_g, w.before args s = true := fun w h => hts w (List.mem_cons_of_mem _ h)
  have hl : lv_has ls 6 [(0, .ref (xd 0)), (1, .int (x0)), (2, .int (x1)), (3, .int (x2)), (4, .int (x3)), (5, .int (x4))] := hl
  have hq := ok.sm
  refine lv_iload_n hx hb dX8_enter_0 rfl (lv_at hl 1 rfl) ?_
  refine lv_iconst (v := nI 5) hx hb dX8_enter_1 (by decide +kernel) ?_
  refine um_callP (va_runS (As := [.int (x0), .int (nI (5))]) (rest := []) ⟨hx, hb, hml, hown, htg⟩ (xf_isBelow l D κ τ A σ x0 5 (by decide) (by decide)) (cwS 2 htg (lw_cS tg_190 tg_191 tg_1 tg_192) rfl rfl rfl (by decide +kernel) ⟨Nat.le_of_ble_eq_true rfl, Nat.le_of_ble_eq_true rfl⟩) (um_preS hU hK hJ) rfl rfl hl.1 rfl (lv_room (Nat.le_of_ble_eq_true rfl)) dX8_enter_2 ⟨Nat.le_of_ble_eq_true rfl, Nat.le_of_ble_eq_true rfl⟩) hU (fun H locs hU => ?_)
  refine um_eqB (tgt := 22) hx hb dX8_enter_5 (by decide) (fun c1 => ?_) (fun c1 => ?_)
  · refine lv_iconst (v := nI 0) hx hb dX8_enter_22 (by decide +kernel) ?_
    refine um_xcallv (vx_runS (As := [.int (um_b false)]) (rest := []) ⟨hx, hb, hml, hown, htg⟩ (xf_require l D κ τ A σ hst false) (cwS 1 htg (lw_cS tg_193 tg_194 tg_1 tg_195) rfl rfl rfl (by decide +kernel) ⟨Nat.le_of_ble_eq_true rfl, Nat.le_of_ble_eq_true rfl⟩) (um_preS hU hK hJ) rfl rfl hl.1 rfl (lv_room (Nat.le_of_ble_eq_true rfl)) dX8_enter_23 ⟨Nat.le_of_ble_eq_true rfl, Nat.le_of_ble_eq_true rfl⟩) hU (fun E9 ce9 q9 σ9 H locs hp9 hE9 hU hce hcv hcl => ?_) (fun σ9 H locs hp9 hU => ?_)
    · obtain ⟨rfl, c2⟩ := hE9
      rw [hp9] at hU
      exact um_xout htab hlocks hce hcv hcl hK hJ hU ⟨_, h⟩ (Or.inl ⟨rfl, by simp [tbT_enter, tbA_enter, tbQ_enter, tb_enB, tb_ent_0, c1, c2]⟩) (Nat.le_of_ble_eq_true rfl) (Nat.le_of_ble_eq_true rfl)
    · exact absurd hp9.1 (by decide)
  · refine lv_iload_n hx hb dX8_enter_8 rfl (lv_at hl 2 rfl) ?_
    refine lv_iload_n hx hb dX8_enter_9 rfl (lv_at hl 3 rfl) ?_
    refine lv_iload hx hb dX8_enter_10 (lv_at hl 4 rfl) ?_
    refine um_callP (va_runS (As := [.int (x1), .int (x2), .int (x3)]) (rest := []) ⟨hx, hb, hml, hown, htg⟩ (xf_isField l D κ τ A σ x1 x2 x3) (cwS 3 htg (lw_cS tg_363 tg_364 tg_1 tg_365) rfl rfl rfl (by decide +kernel) ⟨Nat.le_of_ble_eq_true rfl, Nat.le_of_ble_eq_true rfl⟩) (um_preS hU hK hJ) rfl rfl hl.1 rfl (lv_room (Nat.le_of_ble_eq_true rfl)) dX8_enter_12 ⟨Nat.le_of_ble_eq_true rfl, Nat.le_of_ble_eq_true rfl⟩) hU (fun H locs hU => ?_)
    refine um_eqB (tgt := 22) hx hb dX8_enter_15 (by decide) (fun c3 => ?_) (fun c3 => ?_)
    · refine lv_iconst (v := nI 0) hx hb dX8_enter_22 (by decide +kernel) ?_
      refine um_xcallv (vx_runS (As := [.int (um_b false)]) (rest := []) ⟨hx, hb, hml, hown, htg⟩ (xf_require l D κ τ A σ hst false) (cwS 1 htg (lw_cS tg_193 tg_194 tg_1 tg_195) rfl rfl rfl (by decide +kernel) ⟨Nat.le_of_ble_eq_true rfl, Nat.le_of_ble_eq_true rfl⟩) (um_preS hU hK hJ) rfl rfl hl.1 rfl (lv_room (Nat.le_of_ble_eq_true rfl)) dX8_enter_23 ⟨Nat.le_of_ble_eq_true rfl, Nat.le_of_ble_eq_true rfl⟩) hU (fun E9 ce9 q9 σ9 H locs hp9 hE9 hU hce hcv hcl => ?_) (fun σ9 H locs hp9 hU => ?_)
      · obtain ⟨rfl, c4⟩ := hE9
        rw [hp9] at hU
        exact um_xout htab hlocks hce hcv hcl hK hJ hU ⟨_, h⟩ (Or.inl ⟨rfl, by simp [tbT_enter, tbA_enter, tbQ_enter, tb_enB, tb_ent_0, c1, c3, c4]⟩) (Nat.le_of_ble_eq_true rfl) (Nat.le_of_ble_eq_true rfl)
      · exact absurd hp9.1 (by decide)
    · refine lv_iconst (v := nI 1) hx hb dX8_enter_18 (by decide +kernel) ?_
      refine lv_goto (tgt := 23) hx hb dX8_enter_19 (by decide) ?_
      refine um_xcallv (vx_runS (As := [.int (um_b true)]) (rest := []) ⟨hx, hb, hml, hown, htg⟩ (xf_require l D κ τ A σ hst true) (cwS 1 htg (lw_cS tg_193 tg_194 tg_1 tg_195) rfl rfl rfl (by decide +kernel) ⟨Nat.le_of_ble_eq_true rfl, Nat.le_of_ble_eq_true rfl⟩) (um_preS hU hK hJ) rfl rfl hl.1 rfl (lv_room (Nat.le_of_ble_eq_true rfl)) dX8_enter_23 ⟨Nat.le_of_ble_eq_true rfl, Nat.le_of_ble_eq_true rfl⟩) hU (fun E9 ce9 q9 σ9 H locs hp9 hE9 hU hce hcv hcl => ?_) (fun σ9 H locs hp9 hU => ?_)
      · exact absurd hE9.2 (by decide)
      have c5 := hp9.1
      rw [hp9.2] at hU
      have hfd := c3
      simp only [tb_fd, Bool.and_eq_true] at hfd
      obtain ⟨⟨hf1, hf2⟩, hf3⟩ := hfd
      obtain ⟨j0, ha_j0, hb_j0, rfl⟩ := tb_inN (by decide) (by decide) c1
      have en_j0 : (nI j0).toNatClampNeg = j0 := nI_clamp (by omega)
      obtain ⟨j1, ha_j1, hb_j1, rfl⟩ := tb_inN (by decide) (by decide) hf1
      have en_j1 : (nI j1).toNatClampNeg = j1 := nI_clamp (by omega)
      obtain ⟨j2, ha_j2, hb_j2, rfl⟩ := tb_inN (by decide) (by decide) hf2
      have en_j2 : (nI j2).toNatClampNeg = j2 := nI_clamp (by omega)
      obtain ⟨j3, ha_j3, hb_j3, rfl⟩ := tb_inN (by decide) (by decide) hf3
      have en_j3 : (nI j3).toNatClampNeg = j3 := nI_clamp (by omega)
      refine lv_iload hx hb dX8_enter_26 (lv_at hl 4 rfl) ?_
      refine lv_iload hx hb dX8_enter_28 (lv_at hl 5 rfl) ?_
      refine um_callP (va_runS (As := [.int (nI (j3)), .int (x4)]) (rest := []) ⟨hx, hb, hml, hown, htg⟩ (xf_fieldAllows l D κ τ A σ j3 x4 (by omega)) (cwS 2 htg (lw_cS tg_366 tg_367 tg_1 tg_368) rfl rfl rfl (by decide +kernel) ⟨Nat.le_of_ble_eq_true rfl, Nat.le_of_ble_eq_true rfl⟩) (um_preS hU hK hJ) rfl rfl hl.1 rfl (lv_room (Nat.le_of_ble_eq_true rfl)) dX8_enter_30 ⟨Nat.le_of_ble_eq_true rfl, Nat.le_of_ble_eq_true rfl⟩) hU (fun H locs hU => ?_)
      refine um_xcallv (vx_runS (As := [.int (um_b (tb_isVx (nI j3) x4))]) (rest := []) ⟨hx, hb, hml, hown, htg⟩ (xf_require l D κ τ A σ hst (tb_isVx (nI j3) x4)) (cwS 1 htg (lw_cS tg_193 tg_194 tg_1 tg_195) rfl rfl rfl (by decide +kernel) ⟨Nat.le_of_ble_eq_true rfl, Nat.le_of_ble_eq_true rfl⟩) (um_preS hU hK hJ) rfl rfl hl.1 rfl (lv_room (Nat.le_of_ble_eq_true rfl)) dX8_enter_33 ⟨Nat.le_of_ble_eq_true rfl, Nat.le_of_ble_eq_true rfl⟩) hU (fun E9 ce9 q9 σ9 H locs hp9 hE9 hU hce hcv hcl => ?_) (fun σ9 H locs hp9 hU => ?_)
      · obtain ⟨rfl, c6⟩ := hE9
        rw [hp9] at hU
        exact um_xout htab hlocks hce hcv hcl hK hJ hU ⟨_, h⟩ (Or.inl ⟨rfl, by simp [tbT_enter, tbA_enter, tbQ_enter, tb_enB, tb_ent_0, c1, c3, en_j0, en_j1, en_j2, en_j3, c6]⟩) (Nat.le_of_ble_eq_true rfl) (Nat.le_of_ble_eq_true rfl)
      have c6 := hp9.1
      rw [hp9.2] at hU
      obtain ⟨j4, hb_j4, rfl⟩ := tb_isVN c6
      have en_j4 : (nI j4).toNatClampNeg = j4 := nI_clamp (by omega)
      refine lv_aload_n hx hb dX8_enter_36 rfl (lv_at hl 0 rfl) ?_
      refine um_get (v := .ref (xd 1)) hx hb htg inX8 hown hK hU h.c0 rfl 0 (by decide) (htg _ tg_157) rfl dX8_enter_37 ?_
      refine lv_iload_n hx hb dX8_enter_40 rfl (lv_at hl 1 rfl) ?_
      refine um_callP (va_runV (As := [.int (nI (j0))]) (rest := []) ⟨hx, hb, hml, hown, htg⟩ (xc_hasRoom l D κ τ A σ xd la ma va q sc h hq j0 (by omega)) (cwV 1 htg (lw_cV tg_303 tg_304 tg_305 tg_2 tg_306) rfl rfl rfl (by decide +kernel) ⟨Nat.le_of_ble_eq_true rfl, Nat.le_of_ble_eq_true rfl⟩) (um_preV hU hK hJ h.c1 rfl) rfl rfl hl.1 rfl (lv_room (Nat.le_of_ble_eq_true rfl)) dX8_enter_41 ⟨Nat.le_of_ble_eq_true rfl, Nat.le_of_ble_eq_true rfl⟩) hU (fun H locs hU => ?_)
      rw [xs_room ok (d := j0) (by omega)]
      refine um_xcallv (vx_runS (As := [.int (um_b (!decide (q 0 j0 = 40)))]) (rest := []) ⟨hx, hb, hml, hown, htg⟩ (xf_allow l D κ τ A σ hst (!decide (q 0 j0 = 40))) (cwS 1 htg (lw_cS tg_285 tg_286 tg_1 tg_287) rfl rfl rfl (by decide +kernel) ⟨Nat.le_of_ble_eq_true rfl, Nat.le_of_ble_eq_true rfl⟩) (um_preS hU hK hJ) rfl rfl hl.1 rfl (lv_room (Nat.le_of_ble_eq_true rfl)) dX8_enter_44 ⟨Nat.le_of_ble_eq_true rfl, Nat.le_of_ble_eq_true rfl⟩) hU (fun E9 ce9 q9 σ9 H locs hp9 hE9 hU hce hcv hcl => ?_) (fun σ9 H locs hp9 hU => ?_)
      · obtain ⟨rfl, c7⟩ := hE9
        rw [hp9] at hU
        have c7 : q 0 j0 = 40 := by simpa using c7
        exact um_xout htab hlocks hce hcv hcl hK hJ hU ⟨_, h⟩ (Or.inr (⟨rfl, by simp [tbT_enter, tbA_enter, tbQ_enter, tb_enB, tb_ent_0, c1, c3, en_j0, en_j1, en_j2, en_j3, c6, en_j4, c7]⟩)) (Nat.le_of_ble_eq_true rfl) (Nat.le_of_ble_eq_true rfl)
      have c7 := hp9.1
      rw [hp9.2] at hU
      have c7 : ¬ q 0 j0 = 40 := by simpa using c7
      refine lv_aload_n hx hb dX8_enter_47 rfl (lv_at hl 0 rfl) ?_
      refine lv_iload_n hx hb dX8_enter_48 rfl (lv_at hl 1 rfl) ?_
      refine lv_iload_n hx hb dX8_enter_49 rfl (lv_at hl 2 rfl) ?_
      refine lv_iload_n hx hb dX8_enter_50 rfl (lv_at hl 3 rfl) ?_
      refine lv_iload hx hb dX8_enter_51 (lv_at hl 4 rfl) ?_
      refine um_callP (va_runS (As := [.int (nI (j1)), .int (nI (j2)), .int (nI (j3))]) (rest := [.int (nI (j0)), .ref (xd 0)]) ⟨hx, hb, hml, hown, htg⟩ (xf_spotOf l D κ τ A σ j1 j2 j3) (cwS 3 htg (lw_cS tg_373 tg_374 tg_1 tg_375) rfl rfl rfl (by decide +kernel) ⟨Nat.le_of_ble_eq_true rfl, Nat.le_of_ble_eq_true rfl⟩) (um_preS hU hK hJ) rfl rfl hl.1 rfl (lv_room (Nat.le_of_ble_eq_true rfl)) dX8_enter_53 ⟨Nat.le_of_ble_eq_true rfl, Nat.le_of_ble_eq_true rfl⟩) hU (fun H locs hU => ?_)
      refine lv_iload hx hb dX8_enter_56 (lv_at hl 5 rfl) ?_
      refine lv_aload_n hx hb dX8_enter_58 rfl (lv_at hl 0 rfl) ?_
      refine lv_iload_n hx hb dX8_enter_59 rfl (lv_at hl 1 rfl) ?_
      refine lv_iload_n hx hb dX8_enter_60 rfl (lv_at hl 2 rfl) ?_
      refine um_callP (va_runV (As := [.int (nI (j0)), .int (nI (j1))]) (rest := [.int (nI (j4)), .int (nI ((j1 * 4 + j2) * 3 + j3)), .int (nI (j0)), .ref (xd 0)]) ⟨hx, hb, hml, hown, htg⟩ (xf_rankFor l D κ τ A σ xd la ma va q sc h ok j0 j1 (by omega) (by omega)) (cwV 2 htg (lw_cV tg_376 tg_378 slX8_rankFor tg_1 tg_379) rfl rfl rfl (by decide +kernel) ⟨Nat.le_of_ble_eq_true rfl, Nat.le_of_ble_eq_true rfl⟩) (um_preV hU hK hJ h.c0 rfl) rfl rfl hl.1 rfl (lv_room (Nat.le_of_ble_eq_true rfl)) dX8_enter_61 ⟨Nat.le_of_ble_eq_true rfl, Nat.le_of_ble_eq_true rfl⟩) hU (fun H locs hU => ?_)
      rw [pu.rkf (d := j0) (p := j1) (by omega) (by omega)]
      refine um_calli (va_runV (As := [.int (nI (j0)), .int (nI ((j1 * 4 + j2) * 3 + j3)), .int (nI (j4)), .int (nI (tb_rkf q j0 j1))]) (rest := []) ⟨hx, hb, hml, hown, htg⟩ (xf_writeS l D κ τ A σ xd la ma va q sc h ok j0 j1 (3 * j2 + j3) j4 (tb_rkf q j0 j1) ((j1 * 4 + j2) * 3 + j3) (by omega) (by omega) (by omega) (by have := ok.m40 j0; omega) ) (cwV 4 htg (lw_cV tg_384 tg_386 slX8_write tg_1 tg_387) rfl rfl rfl (by decide +kernel) ⟨Nat.le_of_ble_eq_true rfl, Nat.le_of_ble_eq_true rfl⟩) (um_preV hU hK hJ h.c0 rfl) rfl rfl hl.1 rfl (lv_room (Nat.le_of_ble_eq_true rfl)) dX8_enter_64 ⟨Nat.le_of_ble_eq_true rfl, Nat.le_of_ble_eq_true rfl⟩) hU (fun r9 σ H locs h hU => ?_)
      obtain ⟨rfl, h⟩ := h
      obtain ⟨ma', va', h⟩ := h
      exact W.widen (Nat.le_of_ble_eq_true rfl) (Nat.le_of_ble_eq_true rfl) (vx_ret (um_iret hx hb hr hlocks hK hJ hU dX8_enter_67 ⟨congrArg nI (by simp [tbT_enter, tbA_enter, tbQ_enter, tb_enB, tb_ent_0, c1, c3, en_j0, en_j1, en_j2, en_j3, c6, en_j4, c7]), by simp [tbT_enter, tbA_enter, tbQ_enter, tb_enB, tb_ent_0, c1, c3, en_j0, en_j1, en_j2, en_j3, c6, en_j4, c7], ⟨_, _, _, _, by rw [show (tbQ_enter q (nI j0) (nI j1) (nI j2) (nI j3) (nI j4)) = (tb_ent q j0 2 j1 (3 * j2 + j3) j4 (tb_rkf q j0 j1)) from by simp [tbT_enter, tbA_enter, tbQ_enter, tb_enB, tb_ent_0, c1, c3, en_j0, en_j1, en_j2, en_j3, c6, en_j4, c7]]; exact h⟩⟩))

set_option maxRecDepth 100000 in
set_option maxHeartbeats 4000000 in
theorem xp_species (l : Launch) (D : va_G) (κ : Nat → ClassId) (τ : Nat → Nat) (A : Nat → Prop) (σ : um_M) (xd la ma va : Nat → Nat) (q : tb_Q) (sc : xs_S) (h : xs_at κ σ xd la ma va q sc) (hst : l.stackTraces = false) (ok : tb_ok q) (pu : xs_pure q)  (x0 x1 x2 x3 : Int32) : vx_Met l yX8_species wsX8_species ({ frames := 7, cells := 3, slots := 18, locals := 101 }) (va_Pc [.ref (xd 0), .int (x0), .int (x1), .int (x2), .int (x3)] (um_U D κ τ A σ)) (va_Qv (fun σ' : um_M => tbT_species x0 x1 x2 x3 = 0 ∧ ∃ la' ma' va' sc', xs_at κ σ' xd la' ma' va' (tbQ_species q x0 x1 x2 x3) sc') (um_U D κ τ A) A) (um_XC D κ τ A (fun u => ∃ sc', xs_at κ u xd la ma va q sc') (fun E => E = nIAE ∧ tbT_species x0 x1 x2 x3 = 1)) 3 18 A := by
  refine um_metX (cc := cX8_species) (maxL := 5) (ret := none) (by decide) rfl rfl ?_
  intro pp ee s mm args below meth cd ls hx hb hr hts hown hlocks hml htab hK hJ hU hl
  have hown : s.vm.findClass RX8 = some mm.cls := hown
  have htg : ∀ w ∈ lw_g, w.before args s = true := fun w h => hts w (List.mem_cons_of_mem _ h)
  have hl : lv_has ls 5 [(0, .ref (xd 0)), (1, .int (x0)), (2, .int (x1)), (3, .int (x2)), (4, .int (x3))] := hl
  have hq := ok.sm
  refine lv_iload_n hx hb dX8_species_0 rfl (lv_at hl 1 rfl) ?_
  refine lv_iconst (v := nI 4) hx hb dX8_species_1 (by decide +kernel) ?_
  refine um_callP (va_runS (As := [.int (x0), .int (nI (4))]) (rest := []) ⟨hx, hb, hml, hown, htg⟩ (xf_isBelow l D κ τ A σ x0 4 (by decide) (by decide)) (cwS 2 htg (lw_cS tg_190 tg_191 tg_1 tg_192) rfl rfl rfl (by decide +kernel) ⟨Nat.le_of_ble_eq_true rfl, Nat.le_of_ble_eq_true rfl⟩) (um_preS hU hK hJ) rfl rfl hl.1 rfl (lv_room (Nat.le_of_ble_eq_true rfl)) dX8_species_2 ⟨Nat.le_of_ble_eq_true rfl, Nat.le_of_ble_eq_true rfl⟩) hU (fun H locs hU => ?_)
  refine um_xcallv (vx_runS (As := [.int (um_b (tb_in x0 (nI 0) (nI 3)))]) (rest := []) ⟨hx, hb, hml, hown, htg⟩ (xf_require l D κ τ A σ hst (tb_in x0 (nI 0) (nI 3))) (cwS 1 htg (lw_cS tg_193 tg_194 tg_1 tg_195) rfl rfl rfl (by decide +kernel) ⟨Nat.le_of_ble_eq_true rfl, Nat.le_of_ble_eq_true rfl⟩) (um_preS hU hK hJ) rfl rfl hl.1 rfl (lv_room (Nat.le_of_ble_eq_true rfl)) dX8_species_5 ⟨Nat.le_of_ble_eq_true rfl, Nat.le_of_ble_eq_true rfl⟩) hU (fun E9 ce9 q9 σ9 H locs hp9 hE9 hU hce hcv hcl => ?_) (fun σ9 H locs hp9 hU => ?_)
  · obtain ⟨rfl, c1⟩ := hE9
    rw [hp9] at hU
    exact um_xout htab hlocks hce hcv hcl hK hJ hU ⟨_, h⟩ (⟨rfl, by first | (simp [tbT_species, tb_spB, c1]; done) | (simp [tbT_species, tb_spB, tb_in, c1]; done) | (simp [tbT_species, tb_spB, tb_in, c1, Int32.not_le.mpr c1]; done)⟩) (Nat.le_of_ble_eq_true rfl) (Nat.le_of_ble_eq_true rfl)
  have c1 := hp9.1
  rw [hp9.2] at hU
  refine lv_iload_n hx hb dX8_species_8 rfl (lv_at hl 2 rfl) ?_
  refine lv_iconst (v := nI 1) hx hb dX8_species_9 (by decide +kernel) ?_
  refine lv_icmp_lt (tgt := 23) hx hb dX8_species_10 (by decide) (fun c2 => ?_) (fun c2 => ?_)
  · refine lv_iconst (v := nI 0) hx hb dX8_species_23 (by decide +kernel) ?_
    refine um_xcallv (vx_runS (As := [.int (um_b false)]) (rest := []) ⟨hx, hb, hml, hown, htg⟩ (xf_require l D κ τ A σ hst false) (cwS 1 htg (lw_cS tg_193 tg_194 tg_1 tg_195) rfl rfl rfl (by decide +kernel) ⟨Nat.le_of_ble_eq_true rfl, Nat.le_of_ble_eq_true rfl⟩) (um_preS hU hK hJ) rfl rfl hl.1 rfl (lv_room (Nat.le_of_ble_eq_true rfl)) dX8_species_24 ⟨Nat.le_of_ble_eq_true rfl, Nat.le_of_ble_eq_true rfl⟩) hU (fun E9 ce9 q9 σ9 H locs hp9 hE9 hU hce hcv hcl => ?_) (fun σ9 H locs hp9 hU => ?_)
    · obtain ⟨rfl, c3⟩ := hE9
      rw [hp9] at hU
      exact um_xout htab hlocks hce hcv hcl hK hJ hU ⟨_, h⟩ (⟨rfl, by first | (simp [tbT_species, tb_spB, c1, c2, c3]; done) | (simp [tbT_species, tb_spB, tb_in, c1, c2, c3]; done) | (simp [tbT_species, tb_spB, tb_in, c1, c2, c3, Int32.not_le.mpr c3]; done)⟩) (Nat.le_of_ble_eq_true rfl) (Nat.le_of_ble_eq_true rfl)
    · exact absurd hp9.1 (by decide)
  · refine lv_iload_n hx hb dX8_species_13 rfl (lv_at hl 2 rfl) ?_
    refine lv_bipush (v := nI 100) hx hb dX8_species_14 (by decide +kernel) ?_
    refine lv_icmp_gt (tgt := 23) hx hb dX8_species_16 (by decide) (fun c4 => ?_) (fun c4 => ?_)
    · refine lv_iconst (v := nI 0) hx hb dX8_species_23 (by decide +kernel) ?_
      refine um_xcallv (vx_runS (As := [.int (um_b false)]) (rest := []) ⟨hx, hb, hml, hown, htg⟩ (xf_require l D κ τ A σ hst false) (cwS 1 htg (lw_cS tg_193 tg_194 tg_1 tg_195) rfl rfl rfl (by decide +kernel) ⟨Nat.le_of_ble_eq_true rfl, Nat.le_of_ble_eq_true rfl⟩) (um_preS hU hK hJ) rfl rfl hl.1 rfl (lv_room (Nat.le_of_ble_eq_true rfl)) dX8_species_24 ⟨Nat.le_of_ble_eq_true rfl, Nat.le_of_ble_eq_true rfl⟩) hU (fun E9 ce9 q9 σ9 H locs hp9 hE9 hU hce hcv hcl => ?_) (fun σ9 H locs hp9 hU => ?_)
      · obtain ⟨rfl, c5⟩ := hE9
        rw [hp9] at hU
        exact um_xout htab hlocks hce hcv hcl hK hJ hU ⟨_, h⟩ (⟨rfl, by first | (simp [tbT_species, tb_spB, c1, c2, c4, c5]; done) | (simp [tbT_species, tb_spB, tb_in, c1, c2, c4, c5]; done) | (simp [tbT_species, tb_spB, tb_in, c1, c2, c4, c5, Int32.not_le.mpr c5]; done)⟩) (Nat.le_of_ble_eq_true rfl) (Nat.le_of_ble_eq_true rfl)
      · exact absurd hp9.1 (by decide)
    · refine lv_iconst (v := nI 1) hx hb dX8_species_19 (by decide +kernel) ?_
      refine lv_goto (tgt := 24) hx hb dX8_species_20 (by decide) ?_
      refine um_xcallv (vx_runS (As := [.int (um_b true)]) (rest := []) ⟨hx, hb, hml, hown, htg⟩ (xf_require l D κ τ A σ hst true) (cwS 1 htg (lw_cS tg_193 tg_194 tg_1 tg_195) rfl rfl rfl (by decide +kernel) ⟨Nat.le_of_ble_eq_true rfl, Nat.le_of_ble_eq_true rfl⟩) (um_preS hU hK hJ) rfl rfl hl.1 rfl (lv_room (Nat.le_of_ble_eq_true rfl)) dX8_species_24 ⟨Nat.le_of_ble_eq_true rfl, Nat.le_of_ble_eq_true rfl⟩) hU (fun E9 ce9 q9 σ9 H locs hp9 hE9 hU hce hcv hcl => ?_) (fun σ9 H locs hp9 hU => ?_)
      · exact absurd hE9.2 (by decide)
      have c6 := hp9.1
      rw [hp9.2] at hU
      refine lv_iconst (v := nI 0) hx hb dX8_species_27 (by decide +kernel) ?_
      refine lv_iload_n hx hb dX8_species_28 rfl (lv_at hl 3 rfl) ?_
      refine lv_icmp_gt (x := 0) (tgt := 50) hx hb dX8_species_29 (by decide) (fun c7 => ?_) (fun c7 => ?_)
      · refine lv_iconst (v := nI 0) hx hb dX8_species_50 (by decide +kernel) ?_
        refine um_xcallv (vx_runS (As := [.int (um_b false)]) (rest := []) ⟨hx, hb, hml, hown, htg⟩ (xf_require l D κ τ A σ hst false) (cwS 1 htg (lw_cS tg_193 tg_194 tg_1 tg_195) rfl rfl rfl (by decide +kernel) ⟨Nat.le_of_ble_eq_true rfl, Nat.le_of_ble_eq_true rfl⟩) (um_preS hU hK hJ) rfl rfl hl.1 rfl (lv_room (Nat.le_of_ble_eq_true rfl)) dX8_species_51 ⟨Nat.le_of_ble_eq_true rfl, Nat.le_of_ble_eq_true rfl⟩) hU (fun E9 ce9 q9 σ9 H locs hp9 hE9 hU hce hcv hcl => ?_) (fun σ9 H locs hp9 hU => ?_)
        · obtain ⟨rfl, c8⟩ := hE9
          rw [hp9] at hU
          exact um_xout htab hlocks hce hcv hcl hK hJ hU ⟨_, h⟩ (⟨rfl, by first | (simp [tbT_species, tb_spB, c1, c2, c4, c7, c8]; done) | (simp [tbT_species, tb_spB, tb_in, c1, c2, c4, c7, c8]; done) | (simp [tbT_species, tb_spB, tb_in, c1, c2, c4, c7, c8, Int32.not_le.mpr c8]; done)⟩) (Nat.le_of_ble_eq_true rfl) (Nat.le_of_ble_eq_true rfl)
        · exact absurd hp9.1 (by decide)
      · refine lv_iload_n hx hb dX8_species_32 rfl (lv_at hl 3 rfl) ?_
        refine lv_iload hx hb dX8_species_33 (lv_at hl 4 rfl) ?_
        refine lv_icmp_gt (tgt := 50) hx hb dX8_species_35 (by decide) (fun c9 => ?_) (fun c9 => ?_)
        · refine lv_iconst (v := nI 0) hx hb dX8_species_50 (by decide +kernel) ?_
          refine um_xcallv (vx_runS (As := [.int (um_b false)]) (rest := []) ⟨hx, hb, hml, hown, htg⟩ (xf_require l D κ τ A σ hst false) (cwS 1 htg (lw_cS tg_193 tg_194 tg_1 tg_195) rfl rfl rfl (by decide +kernel) ⟨Nat.le_of_ble_eq_true rfl, Nat.le_of_ble_eq_true rfl⟩) (um_preS hU hK hJ) rfl rfl hl.1 rfl (lv_room (Nat.le_of_ble_eq_true rfl)) dX8_species_51 ⟨Nat.le_of_ble_eq_true rfl, Nat.le_of_ble_eq_true rfl⟩) hU (fun E9 ce9 q9 σ9 H locs hp9 hE9 hU hce hcv hcl => ?_) (fun σ9 H locs hp9 hU => ?_)
          · obtain ⟨rfl, c10⟩ := hE9
            rw [hp9] at hU
            exact um_xout htab hlocks hce hcv hcl hK hJ hU ⟨_, h⟩ (⟨rfl, by first | (simp [tbT_species, tb_spB, c1, c2, c4, c7, c9, c10]; done) | (simp [tbT_species, tb_spB, tb_in, c1, c2, c4, c7, c9, c10]; done) | (simp [tbT_species, tb_spB, tb_in, c1, c2, c4, c7, c9, c10, Int32.not_le.mpr c10]; done)⟩) (Nat.le_of_ble_eq_true rfl) (Nat.le_of_ble_eq_true rfl)
          · exact absurd hp9.1 (by decide)
        · refine lv_iload hx hb dX8_species_38 (lv_at hl 4 rfl) ?_
          refine lv_sipush (v := nI 1000) hx hb dX8_species_40 (by decide +kernel) ?_
          refine lv_icmp_gt (tgt := 50) hx hb dX8_species_43 (by decide) (fun c11 => ?_) (fun c11 => ?_)
          · refine lv_iconst (v := nI 0) hx hb dX8_species_50 (by decide +kernel) ?_
            refine um_xcallv (vx_runS (As := [.int (um_b false)]) (rest := []) ⟨hx, hb, hml, hown, htg⟩ (xf_require l D κ τ A σ hst false) (cwS 1 htg (lw_cS tg_193 tg_194 tg_1 tg_195) rfl rfl rfl (by decide +kernel) ⟨Nat.le_of_ble_eq_true rfl, Nat.le_of_ble_eq_true rfl⟩) (um_preS hU hK hJ) rfl rfl hl.1 rfl (lv_room (Nat.le_of_ble_eq_true rfl)) dX8_species_51 ⟨Nat.le_of_ble_eq_true rfl, Nat.le_of_ble_eq_true rfl⟩) hU (fun E9 ce9 q9 σ9 H locs hp9 hE9 hU hce hcv hcl => ?_) (fun σ9 H locs hp9 hU => ?_)
            · obtain ⟨rfl, c12⟩ := hE9
              rw [hp9] at hU
              exact um_xout htab hlocks hce hcv hcl hK hJ hU ⟨_, h⟩ (⟨rfl, by first | (simp [tbT_species, tb_spB, c1, c2, c4, c7, c9, c11, c12]; done) | (simp [tbT_species, tb_spB, tb_in, c1, c2, c4, c7, c9, c11, c12]; done) | (simp [tbT_species, tb_spB, tb_in, c1, c2, c4, c7, c9, c11, c12, Int32.not_le.mpr c12]; done)⟩) (Nat.le_of_ble_eq_true rfl) (Nat.le_of_ble_eq_true rfl)
            · exact absurd hp9.1 (by decide)
          · refine lv_iconst (v := nI 1) hx hb dX8_species_46 (by decide +kernel) ?_
            refine lv_goto (tgt := 51) hx hb dX8_species_47 (by decide) ?_
            refine um_xcallv (vx_runS (As := [.int (um_b true)]) (rest := []) ⟨hx, hb, hml, hown, htg⟩ (xf_require l D κ τ A σ hst true) (cwS 1 htg (lw_cS tg_193 tg_194 tg_1 tg_195) rfl rfl rfl (by decide +kernel) ⟨Nat.le_of_ble_eq_true rfl, Nat.le_of_ble_eq_true rfl⟩) (um_preS hU hK hJ) rfl rfl hl.1 rfl (lv_room (Nat.le_of_ble_eq_true rfl)) dX8_species_51 ⟨Nat.le_of_ble_eq_true rfl, Nat.le_of_ble_eq_true rfl⟩) hU (fun E9 ce9 q9 σ9 H locs hp9 hE9 hU hce hcv hcl => ?_) (fun σ9 H locs hp9 hU => ?_)
            · exact absurd hE9.2 (by decide)
            have c13 := hp9.1
            rw [hp9.2] at hU
            have cf9 : tb_in x1 (nI 1) (nI 100) = true := by simp [tb_in, c2, c4]
            have cg9 : x3 ≤ nI 1000 := Int32.not_lt.mp c11
            obtain ⟨j0, ha_j0, hb_j0, rfl⟩ := tb_inN (by decide) (by decide) c1
            have en_j0 : (nI j0).toNatClampNeg = j0 := nI_clamp (by omega)
            obtain ⟨j1, ha_j1, hb_j1, rfl⟩ := tb_inN (by decide) (by decide) cf9
            have en_j1 : (nI j1).toNatClampNeg = j1 := nI_clamp (by omega)
            obtain ⟨j3, hb_j3, rfl⟩ : ∃ j : Nat, j ≤ 1000 ∧ x3 = nI j := nI_of2 (M := nI 1000) rfl (fun z => c7 (Int32.lt_of_le_of_lt (Int32.not_lt.mp c9) z)) cg9
            obtain ⟨j2, hb_j2, rfl⟩ : ∃ j : Nat, j ≤ 1000 ∧ x2 = nI j := nI_of2 (M := nI 1000) rfl c7 (Int32.le_trans (Int32.not_lt.mp c9) cg9)
            have en_j2 : (nI j2).toNatClampNeg = j2 := nI_clamp (by omega)
            have en_j3 : (nI j3).toNatClampNeg = j3 := nI_clamp (by omega)
            refine lv_aload_n hx hb dX8_species_54 rfl (lv_at hl 0 rfl) ?_
            refine um_get (v := .ref (xd 21)) hx hb htg inX8 hown hK hU h.c0 rfl 3 (by decide) (htg _ tg_160) rfl dX8_species_55 ?_
            refine um_get (v := .ref (xd 22)) hx hb htg inX7 hown hK hU h.c21 rfl 0 (by decide) (htg _ tg_98) rfl dX8_species_58 ?_
            refine lv_iload_n hx hb dX8_species_61 rfl (lv_at hl 1 rfl) ?_
            refine lv_iload_n hx hb dX8_species_62 rfl (lv_at hl 2 rfl) ?_
            refine xs_ist9 hx hb hK hU h j0 j1 (by omega) dX8_species_63 (fun σ H locs h hU => ?_)
            refine lv_aload_n hx hb dX8_species_64 rfl (lv_at hl 0 rfl) ?_
            refine um_get (v := .ref (xd 21)) hx hb htg inX8 hown hK hU h.c0 rfl 3 (by decide) (htg _ tg_160) rfl dX8_species_65 ?_
            refine um_get (v := .ref (xd 23)) hx hb htg inX7 hown hK hU h.c21 rfl 1 (by decide) (htg _ tg_100) rfl dX8_species_68 ?_
            refine lv_iload_n hx hb dX8_species_71 rfl (lv_at hl 1 rfl) ?_
            refine lv_iload_n hx hb dX8_species_72 rfl (lv_at hl 3 rfl) ?_
            refine xs_ist10 hx hb hK hU h j0 j2 (by omega) dX8_species_73 (fun σ H locs h hU => ?_)
            refine lv_aload_n hx hb dX8_species_74 rfl (lv_at hl 0 rfl) ?_
            refine um_get (v := .ref (xd 21)) hx hb htg inX8 hown hK hU h.c0 rfl 3 (by decide) (htg _ tg_160) rfl dX8_species_75 ?_
            refine um_get (v := .ref (xd 24)) hx hb htg inX7 hown hK hU h.c21 rfl 2 (by decide) (htg _ tg_102) rfl dX8_species_78 ?_
            refine lv_iload_n hx hb dX8_species_81 rfl (lv_at hl 1 rfl) ?_
            refine lv_iload hx hb dX8_species_82 (lv_at hl 4 rfl) ?_
            refine xs_ist11 hx hb hK hU h j0 j3 (by omega) dX8_species_84 (fun σ H locs h hU => ?_)
            exact W.widen (Nat.le_of_ble_eq_true rfl) (Nat.le_of_ble_eq_true rfl) (vx_ret (um_vret hx hb hr hlocks hK hJ hU dX8_species_85 ⟨by simp [tbT_species, tb_spB, c1, c2, c4, c7, c9, cg9, en_j0, en_j1, cf9, en_j2, en_j3], ⟨_, _, _, _, by rw [show (tbQ_species q (nI j0) (nI j1) (nI j2) (nI j3)) = (tb_set (tb_set (tb_set q 9 j0 j1) 10 j0 j2) 11 j0 j3) from by simp [tbQ_species, tb_spB, c1, c2, c4, c7, c9, cg9, en_j0, en_j1, cf9, en_j2, en_j3]]; exact h⟩⟩))
