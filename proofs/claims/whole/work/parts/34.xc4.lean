set_option maxRecDepth 100000 in
set_option maxHeartbeats 4000000 in
theorem xq_error (l : Launch) (D : va_G) (κ : Nat → ClassId) (τ : Nat → Nat) (A : Nat → Prop) (σ : um_M) (xd la ma va : Nat → Nat) (q : tb_Q) (sc : xs_S) (h : xs_at κ σ xd la ma va q sc) (k : Nat) (hk : k ≤ 6) (h5 : sc.2.2.1 5 = nI k) : Met l yX6_error wsX6_error ({ frames := 1, cells := 0, slots := 0, locals := 26 }) (va_Pc [.ref (xd 26)] (um_U D κ τ A σ)) (va_Ql (fun (r9 : Int64) (σ' : um_M) => r9 = xs_er sc k ∧ σ' = σ) (um_U D κ τ A) A) 0 0 A := by
  refine um_met (cc := cX6_error) (maxL := 3) (ret := (some .long)) (by decide) rfl rfl ?_
  intro pp ee s mm args below meth cd ls hx hb hr hts hown hlocks hml hnm hK hJ hU hl
  have hown : s.vm.findClass RX6 = some mm.cls := hown
  have htg : ∀ w ∈ lw_g, w.before args s = true := fun w h => hts w (List.mem_cons_of_mem _ h)
  have hl : lv_has ls 3 [(0, .ref (xd 26))] := hl
  refine lv_aload_n hx hb dX6_error_0 rfl (lv_at hl 0 rfl) ?_
  refine um_get (v := .int (nI (k))) hx hb htg inX6 hown hK hU h.c26 rfl 3 (by decide) (htg _ tg_146) (congrArg (fun z => some (Value.int z)) h5) dX6_error_1 ?_
  refine lv_iconst (v := nI 2) hx hb dX6_error_4 (by decide +kernel) ?_
  refine um_geN (tgt := 10) hx hb dX6_error_5 (by decide) (by omega) (by decide) (fun c1 => ?_) (fun c1 => ?_)
  · refine lv_aload_n hx hb dX6_error_10 rfl (lv_at hl 0 rfl) ?_
    refine um_get (v := .int (nI (k))) hx hb htg inX6 hown hK hU h.c26 rfl 3 (by decide) (htg _ tg_146) (congrArg (fun z => some (Value.int z)) h5) dX6_error_11 ?_
    refine lv_i2l hx hb dX6_error_14 rfl ?_
    refine lv_lstore_n (lv' := [(1, .long ((nI k).toInt64)), (0, .ref (xd 26))]) hx hb dX6_error_15 rfl hl (by decide) rfl (fun ls hl => ?_)
    refine lv_lload_n hx hb dX6_error_16 rfl (lv_at hl 0 rfl) ?_
    refine lv_aload_n hx hb dX6_error_17 rfl (lv_at hl 1 rfl) ?_
    refine um_get (v := .long (sc.2.1 3)) hx hb htg inX6 hown hK hU h.c26 rfl 1 (by decide) (htg _ tg_143) rfl dX6_error_18 ?_
    refine lv_lmul hx hb dX6_error_21 ?_
    refine lv_aload_n hx hb dX6_error_22 rfl (lv_at hl 1 rfl) ?_
    refine um_get (v := .long (sc.2.1 2)) hx hb htg inX6 hown hK hU h.c26 rfl 0 (by decide) (htg _ tg_141) rfl dX6_error_23 ?_
    refine lv_aload_n hx hb dX6_error_26 rfl (lv_at hl 1 rfl) ?_
    refine um_get (v := .long (sc.2.1 2)) hx hb htg inX6 hown hK hU h.c26 rfl 0 (by decide) (htg _ tg_141) rfl dX6_error_27 ?_
    refine lv_lmul hx hb dX6_error_30 ?_
    refine lv_lsub hx hb dX6_error_31 ?_
    refine lv_lload_n hx hb dX6_error_32 rfl (lv_at hl 0 rfl) ?_
    refine lv_lload_n hx hb dX6_error_33 rfl (lv_at hl 0 rfl) ?_
    refine lv_lconst (v := 1) hx hb dX6_error_34 (by decide +kernel) ?_
    refine lv_lsub hx hb dX6_error_35 ?_
    refine lv_lmul hx hb dX6_error_36 ?_
    refine lv_ldiv hx hb dX6_error_37 (xs_div (by omega) hk) ?_
    refine um_callPl (va_runS (As := [.long (((((nI k).toInt64) * (sc.2.1 3)) - ((sc.2.1 2) * (sc.2.1 2))) / (((nI k).toInt64) * (((nI k).toInt64) - 1)))]) (rest := []) ⟨hx, hb, hml, hown, htg⟩ (xq_rootOf l D κ τ A σ (((((nI k).toInt64) * (sc.2.1 3)) - ((sc.2.1 2) * (sc.2.1 2))) / (((nI k).toInt64) * (((nI k).toInt64) - 1)))) (cwS 1 htg (lw_cS tg_629 tg_630 tg_7 tg_631) rfl rfl rfl (by decide +kernel) ⟨Nat.le_of_ble_eq_true rfl, Nat.le_of_ble_eq_true rfl⟩) (um_preS hU hK hJ) rfl rfl hl.1 rfl (lv_room (Nat.le_of_ble_eq_true rfl)) dX6_error_38 ⟨Nat.le_of_ble_eq_true rfl, Nat.le_of_ble_eq_true rfl⟩) hU (fun H locs hU => ?_)
    exact um_lret hx hb hr hlocks hK hJ hU dX6_error_41 ⟨by unfold xs_er; rw [if_neg (by omega)], rfl⟩
  · refine lv_lconst (v := 0) hx hb dX6_error_8 (by decide +kernel) ?_
    exact um_lret hx hb hr hlocks hK hJ hU dX6_error_9 ⟨by unfold xs_er; rw [if_pos (by omega)], rfl⟩

set_option maxRecDepth 100000 in
set_option maxHeartbeats 4000000 in
theorem xf_rankFor (l : Launch) (D : va_G) (κ : Nat → ClassId) (τ : Nat → Nat) (A : Nat → Prop) (σ : um_M) (xd la ma va : Nat → Nat) (q : tb_Q) (sc : xs_S) (h : xs_at κ σ xd la ma va q sc) (ok : tb_ok q) (d p : Nat) (hd : d < 5) (hp : p < 6) : Met l yX8_rankFor wsX8_rankFor ({ frames := 2, cells := 0, slots := 0, locals := 47 }) (va_Pc [.ref (xd 0), .int (nI (d)), .int (nI (p))] (um_U D κ τ A σ)) (va_Qi (fun (r9 : Int32) (σ' : um_M) => r9 = nI (xs_rkf q d p) ∧ σ' = σ) (um_U D κ τ A) A) 0 0 A := by
  refine um_met (cc := cX8_rankFor) (maxL := 4) (ret := (some .int)) (by decide) rfl rfl ?_
  intro pp ee s mm args below meth cd ls hx hb hr hts hown hlocks hml hnm hK hJ hU hl
  have hown : s.vm.findClass RX8 = some mm.cls := hown
  have htg : ∀ w ∈ lw_g, w.before args s = true := fun w h => hts w (List.mem_cons_of_mem _ h)
  have hl : lv_has ls 4 [(0, .ref (xd 0)), (1, .int (nI (d))), (2, .int (nI (p)))] := hl
  have hq := ok.sm
  have ht9 : ∀ k, xs_isL q k → q 4 k < 5 := fun k hk => (ok.lt k hk).2.1
  refine lv_aload_n hx hb dX8_rankFor_0 rfl (lv_at hl 0 rfl) ?_
  refine um_get (v := .ref (xd 1)) hx hb htg inX8 hown hK hU h.c0 rfl 0 (by decide) (htg _ tg_157) rfl dX8_rankFor_1 ?_
  refine um_get (v := .ref (xd 2)) hx hb htg inX0 hown hK hU h.c1 rfl 0 (by decide) (htg _ tg_36) rfl dX8_rankFor_4 ?_
  refine lv_iload_n hx hb dX8_rankFor_7 rfl (lv_at hl 1 rfl) ?_
  refine xs_gld (b := 4) hx hb hK hU h.c2 d (by omega) dX8_rankFor_8 ?_
  refine lv_astore_n (lv' := [(3, .ref (xd (4 + d))), (0, .ref (xd 0)), (1, .int (nI (d))), (2, .int (nI (p)))]) hx hb dX8_rankFor_9 rfl hl (by decide) rfl (fun ls hl => ?_)
  refine lv_aload_n hx hb dX8_rankFor_10 rfl (lv_at hl 1 rfl) ?_
  refine um_get (v := .ref (xd 14)) hx hb htg inX8 hown hK hU h.c0 rfl 1 (by decide) (htg _ tg_158) rfl dX8_rankFor_11 ?_
  refine lv_iload_n hx hb dX8_rankFor_14 rfl (lv_at hl 3 rfl) ?_
  refine lv_aload_n hx hb dX8_rankFor_15 rfl (lv_at hl 0 rfl) ?_
  refine um_callP (va_runV (As := [.int (nI (p)), .ref (xd (4 + d))]) (rest := []) ⟨hx, hb, hml, hown, htg⟩ (xl_holderOf l D κ τ A σ xd la ma va q sc h hq d p (by omega) (by omega) (ok.kn _ 0 (by omega) (by decide)) ht9) (cwV 2 htg (lw_cV tg_277 tg_278 tg_279 tg_3 tg_280) rfl rfl rfl (by decide +kernel) ⟨Nat.le_of_ble_eq_true rfl, Nat.le_of_ble_eq_true rfl⟩) (um_preV hU hK hJ h.c14 rfl) rfl rfl hl.1 rfl (lv_room (Nat.le_of_ble_eq_true rfl)) dX8_rankFor_16 ⟨Nat.le_of_ble_eq_true rfl, Nat.le_of_ble_eq_true rfl⟩) hU (fun H locs hU => ?_)
  refine lv_iload_n hx hb dX8_rankFor_19 rfl (lv_at hl 2 rfl) ?_
  refine um_neMN (tgt := 35) hx hb dX8_rankFor_20 (by decide) (by omega) (xs_ho_lt hq _ _) (fun c1 => ?_) (fun c1 => ?_)
  · refine lv_iconst (v := nI 0) hx hb dX8_rankFor_35 (by decide +kernel) ?_
    exact um_iret hx hb hr hlocks hK hJ hU dX8_rankFor_36 ⟨congrArg nI (by unfold xs_rkf; simp [c1]), rfl⟩
  · refine lv_aload_n hx hb dX8_rankFor_23 rfl (lv_at hl 1 rfl) ?_
    refine um_get (v := .ref (xd 14)) hx hb htg inX8 hown hK hU h.c0 rfl 1 (by decide) (htg _ tg_158) rfl dX8_rankFor_24 ?_
    refine lv_iload_n hx hb dX8_rankFor_27 rfl (lv_at hl 3 rfl) ?_
    refine lv_aload_n hx hb dX8_rankFor_28 rfl (lv_at hl 0 rfl) ?_
    refine um_callP (va_runV (As := [.int (nI (p)), .ref (xd (4 + d))]) (rest := []) ⟨hx, hb, hml, hown, htg⟩ (xl_numberOf l D κ τ A σ xd la ma va q sc h hq d p (by omega) (by omega) (ok.kn _ 0 (by omega) (by decide))) (cwV 2 htg (lw_cV tg_380 tg_381 tg_382 tg_3 tg_383) rfl rfl rfl (by decide +kernel) ⟨Nat.le_of_ble_eq_true rfl, Nat.le_of_ble_eq_true rfl⟩) (um_preV hU hK hJ h.c14 rfl) rfl rfl hl.1 rfl (lv_room (Nat.le_of_ble_eq_true rfl)) dX8_rankFor_29 ⟨Nat.le_of_ble_eq_true rfl, Nat.le_of_ble_eq_true rfl⟩) hU (fun H locs hU => ?_)
    refine lv_goto (tgt := 36) hx hb dX8_rankFor_32 (by decide) ?_
    exact um_iret hx hb hr hlocks hK hJ hU dX8_rankFor_36 ⟨congrArg nI (by unfold xs_rkf; simp [c1]), rfl⟩

set_option maxRecDepth 100000 in
set_option maxHeartbeats 4000000 in
theorem xf_spotInConflict (l : Launch) (D : va_G) (κ : Nat → ClassId) (τ : Nat → Nat) (A : Nat → Prop) (σ : um_M) (xd la ma va : Nat → Nat) (q : tb_Q) (sc : xs_S) (h : xs_at κ σ xd la ma va q sc) (ok : tb_ok q) (d : Nat) (hd : d < 5) (x : Int32) (hcf : xs_cfA q d) : Met l yX8_spotInConflict wsX8_spotInConflict ({ frames := 3, cells := 0, slots := 0, locals := 86 }) (va_Pc [.ref (xd 0), .int (nI (d)), .int (x)] (um_U D κ τ A σ)) (va_Qi (fun (r9 : Int32) (σ' : um_M) => r9 = tb_m1 (tb_inc q d x 72) ∧ ∃ sc', xs_at κ σ' xd la ma va q sc') (um_U D κ τ A) A) 0 0 A := by
  refine um_met (cc := cX8_spotInConflict) (maxL := 5) (ret := (some .int)) (by decide) rfl rfl ?_
  intro pp ee s mm args below meth cd ls hx hb hr hts hown hlocks hml hnm hK hJ hU hl
  have hown : s.vm.findClass RX8 = some mm.cls := hown
  have htg : ∀ w ∈ lw_g, w.before args s = true := fun w h => hts w (List.mem_cons_of_mem _ h)
  have hl : lv_has ls 5 [(0, .ref (xd 0)), (1, .int (nI (d))), (2, .int (x))] := hl
  have hq := ok.sm
  have L1 : ∀ (nf : Nat) (i : Nat) (sc1 : xs_S) (ls : Array Slot) (σ : um_M) (H : Heap) (locs : List Loc), 72 - i < nf → i ≤ 72 → tb_inc q d x i = 0 → xs_at κ σ xd la ma va q sc1 → um_S D vwCl A s σ H locs → lv_has ls 5 [(0, .ref (xd 0)), (1, .int (nI (d))), (2, .int (x)), (3, .int (nI (tb_cnt q d i))), (4, .int (nI (i)))] → W pp l ee ({ frames := 3, cells := 0, slots := 0, locals := 86 }) s mm args below meth cd H locs 0 0 (MQ below (va_Qi (fun (r9 : Int32) (σ' : um_M) => r9 = tb_m1 (tb_inc q d x 72) ∧ ∃ sc', xs_at κ σ' xd la ma va q sc') (um_U D κ τ A) A) args s 0 0 A) (F0 mm 5 ls []) := by
    intro nf
    induction nf with
    | zero => intro i sc1 ls σ H locs hnf; exact absurd hnf (Nat.not_lt_zero _)
    | succ nf ih =>
      intro i sc1 ls σ H locs hnf z1 z2 h hU hl
      refine lv_iload hx hb dX8_spotInConflict_5 (lv_at hl 4 rfl) ?_
      refine lv_bipush (v := nI 72) hx hb dX8_spotInConflict_7 (by decide +kernel) ?_
      refine um_geN (tgt := 57) hx hb dX8_spotInConflict_9 (by decide) (by omega) (by decide) (fun c1 => ?_) (fun c1 => ?_)
      · refine lv_iconst (v := -1) hx hb dX8_spotInConflict_57 (by decide +kernel) ?_
        exact um_iret hx hb hr hlocks hK hJ hU dX8_spotInConflict_58 ⟨by rw [show (tb_inc q d x 72) = 0 from by rw [← z2, show i = 72 by omega]]; exact tb_m1_0.symm, (by exact ⟨_, h⟩)⟩
      · refine lv_aload_n hx hb dX8_spotInConflict_12 rfl (lv_at hl 0 rfl) ?_
        refine um_get (v := .ref (xd 16)) hx hb htg inX8 hown hK hU h.c0 rfl 2 (by decide) (htg _ tg_159) rfl dX8_spotInConflict_13 ?_
        refine lv_iload hx hb dX8_spotInConflict_16 (lv_at hl 4 rfl) ?_
        refine lv_aload_n hx hb dX8_spotInConflict_18 rfl (lv_at hl 0 rfl) ?_
        refine um_get (v := .ref (xd 1)) hx hb htg inX8 hown hK hU h.c0 rfl 0 (by decide) (htg _ tg_157) rfl dX8_spotInConflict_19 ?_
        refine um_get (v := .ref (xd 2)) hx hb htg inX0 hown hK hU h.c1 rfl 0 (by decide) (htg _ tg_36) rfl dX8_spotInConflict_22 ?_
        refine lv_iload_n hx hb dX8_spotInConflict_25 rfl (lv_at hl 1 rfl) ?_
        refine xs_gld (b := 4) hx hb hK hU h.c2 d (by omega) dX8_spotInConflict_26 ?_
        refine um_callv (va_runV (As := [.int (nI (i)), .ref (xd (4 + d))]) (rest := []) ⟨hx, hb, hml, hown, htg⟩ (xn_open l D κ τ A σ xd la ma va q sc1 h ok d i (by omega) (by omega)) (cwV 2 htg (lw_cV tg_441 tg_442 tg_443 tg_4 tg_444) rfl rfl rfl (by decide +kernel) ⟨Nat.le_of_ble_eq_true rfl, Nat.le_of_ble_eq_true rfl⟩) (um_preV hU hK hJ h.c16 rfl) rfl rfl hl.1 rfl (lv_room (Nat.le_of_ble_eq_true rfl)) dX8_spotInConflict_27 ⟨Nat.le_of_ble_eq_true rfl, Nat.le_of_ble_eq_true rfl⟩) hU (fun σ H locs h hU => ?_)
        refine lv_aload_n hx hb dX8_spotInConflict_30 rfl (lv_at hl 0 rfl) ?_
        refine um_get (v := .ref (xd 16)) hx hb htg inX8 hown hK hU h.c0 rfl 2 (by decide) (htg _ tg_159) rfl dX8_spotInConflict_31 ?_
        refine um_callP (va_runV (As := []) (rest := []) ⟨hx, hb, hml, hown, htg⟩ (xn_isInConflict l D κ τ A σ xd la ma va q (xs_pg q ma sc1 d i) h ok (xs_C q d i) (xs_D q d i) (xs_pg_page q ma sc1 d i) (xs_CD_len q d i) (fun e9 he9 => (xs_CD_M ok (by omega) he9).1)) (cwV 0 htg (lw_cV tg_464 tg_465 tg_466 tg_4 tg_467) rfl rfl rfl (by decide +kernel) ⟨Nat.le_of_ble_eq_true rfl, Nat.le_of_ble_eq_true rfl⟩) (um_preV hU hK hJ h.c16 rfl) rfl rfl hl.1 rfl (lv_room (Nat.le_of_ble_eq_true rfl)) dX8_spotInConflict_34 ⟨Nat.le_of_ble_eq_true rfl, Nat.le_of_ble_eq_true rfl⟩) hU (fun H locs hU => ?_)
        refine um_eqB (tgt := 51) hx hb dX8_spotInConflict_37 (by decide) (fun c2 => ?_) (fun c2 => ?_)
        · refine lv_iinc (k := 4) (v := nI (i + 1)) (lv' := [(4, .int (nI (i + 1))), (0, .ref (xd 0)), (1, .int (nI (d))), (2, .int (x)), (3, .int (nI (tb_cnt q d i)))]) hx hb dX8_spotInConflict_51 hl rfl (nI_add _ _) (by decide) rfl (fun ls hl => ?_)
          refine lv_goto (tgt := 5) hx hb dX8_spotInConflict_54 (by decide) ?_
          have hl : lv_has ls 5 [(0, .ref (xd 0)), (1, .int (nI (d))), (2, .int (x)), (3, .int (nI (tb_cnt q d (i + 1)))), (4, .int (nI ((i + 1))))] := by
            rw [show (tb_cnt q d (i + 1)) = (tb_cnt q d i) from by first | rfl | simp [tb_cnt, ← hcf i (by omega), c1, c2]]
            exact lv_sub hl [1, 2, 3, 4, 0] rfl
          exact ih (i + 1) (xs_pg q ma sc1 d i) ls _ _ _ (by omega) (by omega) (by simp [tb_inc, z2, ← hcf i (by omega), c1, c2]) h hU hl
        · refine lv_iload_n hx hb dX8_spotInConflict_40 rfl (lv_at hl 3 rfl) ?_
          refine lv_iload_n hx hb dX8_spotInConflict_41 rfl (lv_at hl 2 rfl) ?_
          refine lv_icmp_ne (tgt := 48) hx hb dX8_spotInConflict_42 (by decide) (fun c3 => ?_) (fun c3 => ?_)
          · refine lv_iinc (k := 3) (v := nI ((tb_cnt q d i) + 1)) (lv' := [(3, .int (nI ((tb_cnt q d i) + 1))), (0, .ref (xd 0)), (1, .int (nI (d))), (2, .int (x)), (4, .int (nI (i)))]) hx hb dX8_spotInConflict_48 hl rfl (nI_add _ _) (by decide) rfl (fun ls hl => ?_)
            refine lv_iinc (k := 4) (v := nI (i + 1)) (lv' := [(4, .int (nI (i + 1))), (3, .int (nI ((tb_cnt q d i) + 1))), (0, .ref (xd 0)), (1, .int (nI (d))), (2, .int (x))]) hx hb dX8_spotInConflict_51 hl rfl (nI_add _ _) (by decide) rfl (fun ls hl => ?_)
            refine lv_goto (tgt := 5) hx hb dX8_spotInConflict_54 (by decide) ?_
            have hl : lv_has ls 5 [(0, .ref (xd 0)), (1, .int (nI (d))), (2, .int (x)), (3, .int (nI (tb_cnt q d (i + 1)))), (4, .int (nI ((i + 1))))] := by
              rw [show (tb_cnt q d (i + 1)) = ((tb_cnt q d i) + 1) from by first | rfl | simp [tb_cnt, ← hcf i (by omega), c1, c2, c3]]
              exact lv_sub hl [2, 3, 4, 1, 0] rfl
            exact ih (i + 1) (xs_pg q ma sc1 d i) ls _ _ _ (by omega) (by omega) (by simp [tb_inc, z2, ← hcf i (by omega), c1, c2, c3]) h hU hl
          · refine lv_iload hx hb dX8_spotInConflict_45 (lv_at hl 4 rfl) ?_
            exact um_iret hx hb hr hlocks hK hJ hU dX8_spotInConflict_47 ⟨by rw [show (tb_inc q d x 72) = i + 1 from by exact tb_inc_at (by simp [tb_inc, z2, ← hcf i (by omega), c1, c2, c3]) (by omega)]; exact (tb_m1_s _).symm, (by exact ⟨_, h⟩)⟩
  refine lv_iconst (v := nI 0) hx hb dX8_spotInConflict_0 (by decide +kernel) ?_
  refine lv_istore_n (lv' := [(3, .int (nI (0))), (0, .ref (xd 0)), (1, .int (nI (d))), (2, .int (x))]) hx hb dX8_spotInConflict_1 rfl hl (by decide) rfl (fun ls hl => ?_)
  refine lv_iconst (v := nI 0) hx hb dX8_spotInConflict_2 (by decide +kernel) ?_
  refine lv_istore (lv' := [(4, .int (nI (0))), (3, .int (nI (0))), (0, .ref (xd 0)), (1, .int (nI (d))), (2, .int (x))]) hx hb dX8_spotInConflict_3 hl (by decide) rfl (fun ls hl => ?_)
  have hl : lv_has ls 5 [(0, .ref (xd 0)), (1, .int (nI (d))), (2, .int (x)), (3, .int (nI (tb_cnt q d 0))), (4, .int (nI (0)))] := by
    rw [show (tb_cnt q d 0) = 0 from by first | rfl | simp [tb_cnt, ← hcf i (by omega), ]]
    exact lv_sub hl [2, 3, 4, 1, 0] rfl
  exact L1 73 0 sc ls _ _ _ (by omega) (by omega) rfl h hU hl

set_option maxRecDepth 100000 in
set_option maxHeartbeats 4000000 in
theorem xf_readTree (l : Launch) (D : va_G) (κ : Nat → ClassId) (τ : Nat → Nat) (A : Nat → Prop) (σ : um_M) (xd la ma va : Nat → Nat) (q : tb_Q) (sc : xs_S) (h : xs_at κ σ xd la ma va q sc) (ok : tb_ok q) (d p t : Nat) (hd : d < 5) (hp : p < 6) (ht : t < 4) (hsh : xs_shA q d) : Met l yX8_readTree wsX8_readTree ({ frames := 3, cells := 0, slots := 0, locals := 86 }) (va_Pc [.ref (xd 0), .int (nI (d)), .int (nI (p)), .int (nI (t))] (um_U D κ τ A σ)) (va_Qi (fun (r9 : Int32) (σ' : um_M) => r9 = nI (tb_th q d p t) ∧ ∃ sc', xs_at κ σ' xd la ma va q sc' ∧ xs_same sc sc' ∧ xs_fl q d p t sc' 3) (um_U D κ τ A) A) 0 0 A := by
  refine um_met (cc := cX8_readTree) (maxL := 7) (ret := (some .int)) (by decide) rfl rfl ?_
  intro pp ee s mm args below meth cd ls hx hb hr hts hown hlocks hml hnm hK hJ hU hl
  have hown : s.vm.findClass RX8 = some mm.cls := hown
  have htg : ∀ w ∈ lw_g, w.before args s = true := fun w h => hts w (List.mem_cons_of_mem _ h)
  have hl : lv_has ls 7 [(0, .ref (xd 0)), (1, .int (nI (d))), (2, .int (nI (p))), (3, .int (nI (t)))] := hl
  have hq := ok.sm
  have L1 : ∀ (nf : Nat) (i : Nat) (sc1 : xs_S) (ls : Array Slot) (σ : um_M) (H : Heap) (locs : List Loc), 3 - i < nf → i ≤ 3 → xs_same sc sc1 → xs_fl q d p t sc1 i → xs_at κ σ xd la ma va q sc1 → um_S D vwCl A s σ H locs → lv_has ls 7 [(0, .ref (xd 0)), (1, .int (nI (d))), (2, .int (nI (p))), (3, .int (nI (t))), (4, .int (nI (tb_thF q d p t i))), (5, .int (nI (i)))] → W pp l ee ({ frames := 3, cells := 0, slots := 0, locals := 86 }) s mm args below meth cd H locs 0 0 (MQ below (va_Qi (fun (r9 : Int32) (σ' : um_M) => r9 = nI (tb_th q d p t) ∧ ∃ sc', xs_at κ σ' xd la ma va q sc' ∧ xs_same sc sc' ∧ xs_fl q d p t sc' 3) (um_U D κ τ A) A) args s 0 0 A) (F0 mm 6 ls []) := by
    intro nf
    induction nf with
    | zero => intro i sc1 ls σ H locs hnf; exact absurd hnf (Nat.not_lt_zero _)
    | succ nf ih =>
      intro i sc1 ls σ H locs hnf z1 z2 z3 h hU hl
      refine lv_iload hx hb dX8_readTree_6 (lv_at hl 5 rfl) ?_
      refine lv_iconst (v := nI 3) hx hb dX8_readTree_8 (by decide +kernel) ?_
      refine um_geN (tgt := 70) hx hb dX8_readTree_9 (by decide) (by omega) (by decide) (fun c1 => ?_) (fun c1 => ?_)
      · refine lv_iload hx hb dX8_readTree_70 (lv_at hl 4 rfl) ?_
        exact um_iret hx hb hr hlocks hK hJ hU dX8_readTree_72 ⟨congrArg nI (by rw [show i = 3 by omega]; exact tb_thF_3 q d p t), (by have hi : i = 3 := (by omega); subst hi; exact ⟨_, h, z2, z3⟩)⟩
      · refine lv_aload_n hx hb dX8_readTree_12 rfl (lv_at hl 0 rfl) ?_
        refine um_get (v := .ref (xd 16)) hx hb htg inX8 hown hK hU h.c0 rfl 2 (by decide) (htg _ tg_159) rfl dX8_readTree_13 ?_
        refine lv_iload_n hx hb dX8_readTree_16 rfl (lv_at hl 2 rfl) ?_
        refine lv_iload_n hx hb dX8_readTree_17 rfl (lv_at hl 3 rfl) ?_
        refine lv_iload hx hb dX8_readTree_18 (lv_at hl 5 rfl) ?_
        refine um_callP (va_runS (As := [.int (nI (p)), .int (nI (t)), .int (nI (i))]) (rest := [.ref (xd 16)]) ⟨hx, hb, hml, hown, htg⟩ (xf_spotOf l D κ τ A σ p t i) (cwS 3 htg (lw_cS tg_373 tg_374 tg_1 tg_375) rfl rfl rfl (by decide +kernel) ⟨Nat.le_of_ble_eq_true rfl, Nat.le_of_ble_eq_true rfl⟩) (um_preS hU hK hJ) rfl rfl hl.1 rfl (lv_room (Nat.le_of_ble_eq_true rfl)) dX8_readTree_20 ⟨Nat.le_of_ble_eq_true rfl, Nat.le_of_ble_eq_true rfl⟩) hU (fun H locs hU => ?_)
        refine lv_aload_n hx hb dX8_readTree_23 rfl (lv_at hl 0 rfl) ?_
        refine um_get (v := .ref (xd 1)) hx hb htg inX8 hown hK hU h.c0 rfl 0 (by decide) (htg _ tg_157) rfl dX8_readTree_24 ?_
        refine um_get (v := .ref (xd 2)) hx hb htg inX0 hown hK hU h.c1 rfl 0 (by decide) (htg _ tg_36) rfl dX8_readTree_27 ?_
        refine lv_iload_n hx hb dX8_readTree_30 rfl (lv_at hl 1 rfl) ?_
        refine xs_gld (b := 4) hx hb hK hU h.c2 d (by omega) dX8_readTree_31 ?_
        refine um_callv (va_runV (As := [.int (nI ((p * 4 + t) * 3 + i)), .ref (xd (4 + d))]) (rest := []) ⟨hx, hb, hml, hown, htg⟩ (xn_open l D κ τ A σ xd la ma va q sc1 h ok d ((p * 4 + t) * 3 + i) (by omega) (by omega)) (cwV 2 htg (lw_cV tg_441 tg_442 tg_443 tg_4 tg_444) rfl rfl rfl (by decide +kernel) ⟨Nat.le_of_ble_eq_true rfl, Nat.le_of_ble_eq_true rfl⟩) (um_preV hU hK hJ h.c16 rfl) rfl rfl hl.1 rfl (lv_room (Nat.le_of_ble_eq_true rfl)) dX8_readTree_32 ⟨Nat.le_of_ble_eq_true rfl, Nat.le_of_ble_eq_true rfl⟩) hU (fun σ H locs h hU => ?_)
        refine lv_aload_n hx hb dX8_readTree_35 rfl (lv_at hl 0 rfl) ?_
        refine um_get (v := .ref (xd 16)) hx hb htg inX8 hown hK hU h.c0 rfl 2 (by decide) (htg _ tg_159) rfl dX8_readTree_36 ?_
        refine um_callPq (va_runV (As := []) (rest := []) ⟨hx, hb, hml, hown, htg⟩ (xn_shown l D κ τ A σ xd la ma va q (xs_pg q ma sc1 d ((p * 4 + t) * 3 + i)) h ok (xs_C q d ((p * 4 + t) * 3 + i)) (xs_D q d ((p * 4 + t) * 3 + i)) (xs_pg_page q ma sc1 d ((p * 4 + t) * 3 + i)) (xs_CD_len q d ((p * 4 + t) * 3 + i)) (fun e9 he9 => (xs_CD_M ok (by omega) he9).1)) (cwV 0 htg (lw_cV tg_552 tg_553 tg_554 tg_4 tg_555) rfl rfl rfl (by decide +kernel) ⟨Nat.le_of_ble_eq_true rfl, Nat.le_of_ble_eq_true rfl⟩) (um_preV hU hK hJ h.c16 rfl) rfl rfl hl.1 rfl (lv_room (Nat.le_of_ble_eq_true rfl)) dX8_readTree_39 ⟨Nat.le_of_ble_eq_true rfl, Nat.le_of_ble_eq_true rfl⟩) hU (fun H locs hU => ?_)
        refine um_astoreQ (lv' := [(6, va_rf ((xs_C q d ((p * 4 + t) * 3 + i)).getLast?.map ma)), (0, .ref (xd 0)), (1, .int (nI (d))), (2, .int (nI (p))), (3, .int (nI (t))), (4, .int (nI (tb_thF q d p t i))), (5, .int (nI (i)))]) hx hb dX8_readTree_42 hl (by decide) rfl (fun ls hl => ?_)
        have e1 : (xs_C q d ((p * 4 + t) * 3 + i)).getLast? = tb_shO q d p (3 * t + i) := by rw [show (p * 4 + t) * 3 + i = 12 * p + (3 * t + i) by omega]; exact hsh p (3 * t + i) (by omega) (by omega)
        rw [e1] at hl
        cases ho : tb_shO q d p (3 * t + i) with
        | none =>
          rw [ho] at hl
          have hl : lv_has ls 7 [(6, .null), (0, .ref (xd 0)), (1, .int (nI (d))), (2, .int (nI (p))), (3, .int (nI (t))), (4, .int (nI (tb_thF q d p t i))), (5, .int (nI (i)))] := hl
          refine lv_aloadN hx hb dX8_readTree_44 (lv_at hl 0 rfl) ?_
          refine lv_ifnullN (tgt := 64) hx hb dX8_readTree_46 (by decide) ?_
          refine lv_iinc (k := 6) (v := nI (i + 1)) (lv' := [(5, .int (nI (i + 1))), (6, .null), (0, .ref (xd 0)), (1, .int (nI (d))), (2, .int (nI (p))), (3, .int (nI (t))), (4, .int (nI (tb_thF q d p t i)))]) hx hb dX8_readTree_64 hl rfl (nI_add _ _) (by decide) rfl (fun ls hl => ?_)
          refine lv_goto (tgt := 6) hx hb dX8_readTree_67 (by decide) ?_
          have hl : lv_has ls 7 [(0, .ref (xd 0)), (1, .int (nI (d))), (2, .int (nI (p))), (3, .int (nI (t))), (4, .int (nI (tb_thF q d p t (i + 1)))), (5, .int (nI ((i + 1))))] := by
            rw [show (tb_thF q d p t (i + 1)) = (tb_thF q d p t i) from (tb_thF_n (tb_shO_none ho))]
            exact lv_sub hl [2, 3, 4, 5, 6, 0] rfl
          exact ih (i + 1) (xs_pg q ma sc1 d ((p * 4 + t) * 3 + i)) ls _ _ _ (by omega) (by omega) (xs_same_pg q ma sc sc1 _ _ z2) (xs_fl_n (sc := sc1) rfl z3 (tb_shO_none ho)) h hU hl
        | some e =>
          rw [ho] at hl
          have hl : lv_has ls 7 [(6, .ref (ma e)), (0, .ref (xd 0)), (1, .int (nI (d))), (2, .int (nI (p))), (3, .int (nI (t))), (4, .int (nI (tb_thF q d p t i))), (5, .int (nI (i)))] := hl
          obtain ⟨hn0, he1⟩ := tb_shO_some ho
          have hM := (xs_CD_M ok hd (xs_last_mem (e1.trans ho))).1
          refine lv_aload hx hb dX8_readTree_44 (lv_at hl 0 rfl) ?_
          refine lv_ifnull hx hb dX8_readTree_46 ?_
          refine lv_aload_n hx hb dX8_readTree_49 rfl (lv_at hl 1 rfl) ?_
          refine um_get (v := .ref (xd 28)) hx hb htg inX8 hown hK hU h.c0 rfl 7 (by decide) (htg _ tg_164) rfl dX8_readTree_50 ?_
          refine lv_iload hx hb dX8_readTree_53 (lv_at hl 6 rfl) ?_
          refine lv_aload hx hb dX8_readTree_55 (lv_at hl 0 rfl) ?_
          refine um_get (v := .int (nI (q 4 e))) hx hb htg inX3 hown hK hU (show um_h σ (ma e) (.inr (3, _)) from (h.2.2.2 e hM).1) rfl 2 (by decide) (htg _ tg_410) rfl dX8_readTree_57 ?_
          refine xs_istF hx hb hK hU h i (nI (q 4 e)) (by omega) dX8_readTree_60 (fun σ H locs h hU => ?_)
          refine lv_iinc (k := 5) (v := nI ((tb_thF q d p t i) + 1)) (lv' := [(4, .int (nI ((tb_thF q d p t i) + 1))), (6, .ref (ma e)), (0, .ref (xd 0)), (1, .int (nI (d))), (2, .int (nI (p))), (3, .int (nI (t))), (5, .int (nI (i)))]) hx hb dX8_readTree_61 hl rfl (nI_add _ _) (by decide) rfl (fun ls hl => ?_)
          refine lv_iinc (k := 6) (v := nI (i + 1)) (lv' := [(5, .int (nI (i + 1))), (4, .int (nI ((tb_thF q d p t i) + 1))), (6, .ref (ma e)), (0, .ref (xd 0)), (1, .int (nI (d))), (2, .int (nI (p))), (3, .int (nI (t)))]) hx hb dX8_readTree_64 hl rfl (nI_add _ _) (by decide) rfl (fun ls hl => ?_)
          refine lv_goto (tgt := 6) hx hb dX8_readTree_67 (by decide) ?_
          have hl : lv_has ls 7 [(0, .ref (xd 0)), (1, .int (nI (d))), (2, .int (nI (p))), (3, .int (nI (t))), (4, .int (nI (tb_thF q d p t (i + 1)))), (5, .int (nI ((i + 1))))] := by
            rw [show (tb_thF q d p t (i + 1)) = ((tb_thF q d p t i) + 1) from (tb_thF_y hn0)]
            exact lv_sub hl [3, 4, 5, 6, 1, 0] rfl
          exact ih (i + 1) (xs_sFj (xs_pg q ma sc1 d ((p * 4 + t) * 3 + i)) i (nI (q 4 e))) ls _ _ _ (by omega) (by omega) (xs_same_pg q ma sc sc1 _ _ z2) (xs_fl_y (sc := sc1) (by rw [he1]; rfl) z3) h hU hl
  refine lv_iconst (v := nI 0) hx hb dX8_readTree_0 (by decide +kernel) ?_
  refine lv_istore (lv' := [(4, .int (nI (0))), (0, .ref (xd 0)), (1, .int (nI (d))), (2, .int (nI (p))), (3, .int (nI (t)))]) hx hb dX8_readTree_1 hl (by decide) rfl (fun ls hl => ?_)
  refine lv_iconst (v := nI 0) hx hb dX8_readTree_3 (by decide +kernel) ?_
  refine lv_istore (lv' := [(5, .int (nI (0))), (4, .int (nI (0))), (0, .ref (xd 0)), (1, .int (nI (d))), (2, .int (nI (p))), (3, .int (nI (t)))]) hx hb dX8_readTree_4 hl (by decide) rfl (fun ls hl => ?_)
  have hl : lv_has ls 7 [(0, .ref (xd 0)), (1, .int (nI (d))), (2, .int (nI (p))), (3, .int (nI (t))), (4, .int (nI (tb_thF q d p t 0))), (5, .int (nI (0)))] := by
    rw [show (tb_thF q d p t 0) = 0 from rfl]
    exact lv_sub hl [2, 3, 4, 5, 1, 0] rfl
  exact L1 4 0 sc ls _ _ _ (by omega) (by omega) ⟨rfl, fun _ _ => rfl⟩ (fun f hf => absurd hf (Nat.not_lt_zero _)) h hU hl

set_option maxRecDepth 100000 in
set_option maxHeartbeats 4000000 in
theorem xf_reckonPlot (l : Launch) (D : va_G) (κ : Nat → ClassId) (τ : Nat → Nat) (A : Nat → Prop) (σ : um_M) (xd la ma va : Nat → Nat) (q : tb_Q) (sc : xs_S) (h : xs_at κ σ xd la ma va q sc) (ok : tb_ok q) (d p : Nat) (hd : d < 5) (hp : p < 6) (hsh : xs_shA q d) : Met l yX8_reckonPlot wsX8_reckonPlot ({ frames := 4, cells := 0, slots := 0, locals := 112 }) (va_Pc [.ref (xd 0), .int (nI (d)), .int (nI (p))] (um_U D κ τ A σ)) (va_Qv (fun σ' : um_M => ∃ sc', xs_at κ σ' xd la ma va q sc' ∧ xs_pl q d p sc sc' 4) (um_U D κ τ A) A) 0 0 A := by
  refine um_met (cc := cX8_reckonPlot) (maxL := 5) (ret := none) (by decide) rfl rfl ?_
  intro pp ee s mm args below meth cd ls hx hb hr hts hown hlocks hml hnm hK hJ hU hl
  have hown : s.vm.findClass RX8 = some mm.cls := hown
  have htg : ∀ w ∈ lw_g, w.before args s = true := fun w h => hts w (List.mem_cons_of_mem _ h)
  have hl : lv_has ls 5 [(0, .ref (xd 0)), (1, .int (nI (d))), (2, .int (nI (p)))] := hl
  have hq := ok.sm
  have L1 : ∀ (nf : Nat) (i : Nat) (sc1 : xs_S) (ls : Array Slot) (σ : um_M) (H : Heap) (locs : List Loc), 4 - i < nf → i ≤ 4 → xs_pl q d p sc sc1 i → xs_at κ σ xd la ma va q sc1 → um_S D vwCl A s σ H locs → lv_has ls 5 [(0, .ref (xd 0)), (1, .int (nI (d))), (2, .int (nI (p))), (3, .int (nI (i)))] → W pp l ee ({ frames := 4, cells := 0, slots := 0, locals := 112 }) s mm args below meth cd H locs 0 0 (MQ below (va_Qv (fun σ' : um_M => ∃ sc', xs_at κ σ' xd la ma va q sc' ∧ xs_pl q d p sc sc' 4) (um_U D κ τ A) A) args s 0 0 A) (F0 mm 9 ls []) := by
    intro nf
    induction nf with
    | zero => intro i sc1 ls σ H locs hnf; exact absurd hnf (Nat.not_lt_zero _)
    | succ nf ih =>
      intro i sc1 ls σ H locs hnf z1 z2 h hU hl
      refine lv_iload_n hx hb dX8_reckonPlot_9 rfl (lv_at hl 3 rfl) ?_
      refine lv_iconst (v := nI 4) hx hb dX8_reckonPlot_10 (by decide +kernel) ?_
      refine um_geN (tgt := 72) hx hb dX8_reckonPlot_11 (by decide) (by omega) (by decide) (fun c1 => ?_) (fun c1 => ?_)
      · exact um_vret hx hb hr hlocks hK hJ hU dX8_reckonPlot_72 (by have hi : i = 4 := (by omega); subst hi; exact ⟨_, h, z2⟩)
      · refine lv_aload_n hx hb dX8_reckonPlot_14 rfl (lv_at hl 0 rfl) ?_
        refine lv_iload_n hx hb dX8_reckonPlot_15 rfl (lv_at hl 1 rfl) ?_
        refine lv_iload_n hx hb dX8_reckonPlot_16 rfl (lv_at hl 2 rfl) ?_
        refine lv_iload_n hx hb dX8_reckonPlot_17 rfl (lv_at hl 3 rfl) ?_
        refine um_calli (va_runV (As := [.int (nI (d)), .int (nI (p)), .int (nI (i))]) (rest := []) ⟨hx, hb, hml, hown, htg⟩ (xf_readTree l D κ τ A σ xd la ma va q sc1 h ok d p i (by omega) (by omega) (by omega) hsh) (cwV 3 htg (lw_cV tg_589 tg_591 slX8_readTree tg_1 tg_592) rfl rfl rfl (by decide +kernel) ⟨Nat.le_of_ble_eq_true rfl, Nat.le_of_ble_eq_true rfl⟩) (um_preV hU hK hJ h.c0 rfl) rfl rfl hl.1 rfl (lv_room (Nat.le_of_ble_eq_true rfl)) dX8_reckonPlot_18 ⟨Nat.le_of_ble_eq_true rfl, Nat.le_of_ble_eq_true rfl⟩) hU (fun r9 σ H locs h hU => ?_)
        obtain ⟨rfl, h⟩ := h
        obtain ⟨sc2, h, hs2, hf2⟩ := h
        refine lv_istore (lv' := [(4, .int (nI (tb_th q d p i))), (0, .ref (xd 0)), (1, .int (nI (d))), (2, .int (nI (p))), (3, .int (nI (i)))]) hx hb dX8_reckonPlot_21 hl (by decide) rfl (fun ls hl => ?_)
        refine lv_iload hx hb dX8_reckonPlot_23 (lv_at hl 0 rfl) ?_
        refine lv_iconst (v := nI 3) hx hb dX8_reckonPlot_25 (by decide +kernel) ?_
        refine um_neN (tgt := 48) hx hb dX8_reckonPlot_26 (by decide) (tb_th_lt q _ _ _) (by decide) (fun c2 => ?_) (fun c2 => ?_)
        · refine lv_iload hx hb dX8_reckonPlot_48 (lv_at hl 0 rfl) ?_
          refine um_le0N (tgt := 66) hx hb dX8_reckonPlot_50 (by decide) (tb_th_lt q _ _ _) (fun c3 => ?_) (fun c3 => ?_)
          · refine lv_iinc (k := 4) (v := nI (i + 1)) (lv' := [(3, .int (nI (i + 1))), (4, .int (nI (tb_th q d p i))), (0, .ref (xd 0)), (1, .int (nI (d))), (2, .int (nI (p)))]) hx hb dX8_reckonPlot_66 hl rfl (nI_add _ _) (by decide) rfl (fun ls hl => ?_)
            refine lv_goto (tgt := 9) hx hb dX8_reckonPlot_69 (by decide) ?_
            have hl : lv_has ls 5 [(0, .ref (xd 0)), (1, .int (nI (d))), (2, .int (nI (p))), (3, .int (nI ((i + 1))))] := lv_sub hl [2, 3, 4, 0] rfl
            exact ih (i + 1) sc2 ls _ _ _ (by omega) (by omega) (xs_pl_none (xs_pl_th z2 hs2) (by omega) c3) h hU hl
          · refine lv_aload_n hx hb dX8_reckonPlot_53 rfl (lv_at hl 1 rfl) ?_
            refine um_get (v := .ref (xd 25)) hx hb htg inX8 hown hK hU h.c0 rfl 4 (by decide) (htg _ tg_161) rfl dX8_reckonPlot_54 ?_
            refine lv_dup hx hb dX8_reckonPlot_57 rfl ?_
            refine um_get (v := .int (sc2.2.2.1 2)) hx hb htg inX5 hown hK hU h.c25 rfl 2 (by decide) (htg _ tg_123) rfl dX8_reckonPlot_58 ?_
            refine lv_iconst (v := nI 1) hx hb dX8_reckonPlot_61 (by decide +kernel) ?_
            refine lv_iadd hx hb dX8_reckonPlot_62 ?_
            refine xs_putI2 hx hb htg hown hK hU h ((sc2.2.2.1 2) + (nI 1)) (htg _ tg_123) dX8_reckonPlot_63 (fun σ H locs h hU => ?_)
            refine lv_iinc (k := 4) (v := nI (i + 1)) (lv' := [(3, .int (nI (i + 1))), (4, .int (nI (tb_th q d p i))), (0, .ref (xd 0)), (1, .int (nI (d))), (2, .int (nI (p)))]) hx hb dX8_reckonPlot_66 hl rfl (nI_add _ _) (by decide) rfl (fun ls hl => ?_)
            refine lv_goto (tgt := 9) hx hb dX8_reckonPlot_69 (by decide) ?_
            have hl : lv_has ls 5 [(0, .ref (xd 0)), (1, .int (nI (d))), (2, .int (nI (p))), (3, .int (nI ((i + 1))))] := lv_sub hl [2, 3, 4, 0] rfl
            exact ih (i + 1) (xs_sI sc2 2 ((sc2.2.2.1 2) + (nI 1))) ls _ _ _ (by omega) (by omega) (xs_pl_miss (xs_pl_th z2 hs2) (by omega) c2 c3) h hU hl
        · obtain ⟨t0, t1, t2⟩ := tb_th3 (q := q) (d := d) (p := p) (t := i) (by omega)
          refine lv_aload_n hx hb dX8_reckonPlot_29 rfl (lv_at hl 1 rfl) ?_
          refine um_get (v := .ref (xd 25)) hx hb htg inX8 hown hK hU h.c0 rfl 4 (by decide) (htg _ tg_161) rfl dX8_reckonPlot_30 ?_
          refine lv_iload_n hx hb dX8_reckonPlot_33 rfl (lv_at hl 4 rfl) ?_
          refine lv_aload_n hx hb dX8_reckonPlot_34 rfl (lv_at hl 1 rfl) ?_
          refine um_get (v := .ref (xd 28)) hx hb htg inX8 hown hK hU h.c0 rfl 7 (by decide) (htg _ tg_164) rfl dX8_reckonPlot_35 ?_
          refine lv_aload_n hx hb dX8_reckonPlot_38 rfl (lv_at hl 1 rfl) ?_
          refine um_get (v := .ref (xd 21)) hx hb htg inX8 hown hK hU h.c0 rfl 3 (by decide) (htg _ tg_160) rfl dX8_reckonPlot_39 ?_
          refine um_callv (va_runV (As := [.int (nI (i)), .ref (xd 28), .ref (xd 21)]) (rest := []) ⟨hx, hb, hml, hown, htg⟩ (xp_addTree l D κ τ A σ xd la ma va q sc2 h hq i (tb_val q d p (3 * i)) (tb_val q d p (3 * i + 1)) (tb_val q d p (3 * i + 2)) (tb_spv ok.sp t0) (hq 4 _) (hq 4 _) (hf2 0 (by decide) t0) (hf2 1 (by decide) t1) (hf2 2 (by decide) t2)) (cwV 3 htg (lw_cV tg_593 tg_594 tg_595 tg_6 tg_596) rfl rfl rfl (by decide +kernel) ⟨Nat.le_of_ble_eq_true rfl, Nat.le_of_ble_eq_true rfl⟩) (um_preV hU hK hJ h.c25 rfl) rfl rfl hl.1 rfl (lv_room (Nat.le_of_ble_eq_true rfl)) dX8_reckonPlot_42 ⟨Nat.le_of_ble_eq_true rfl, Nat.le_of_ble_eq_true rfl⟩) hU (fun σ H locs h hU => ?_)
          refine lv_goto (tgt := 66) hx hb dX8_reckonPlot_45 (by decide) ?_
          refine lv_iinc (k := 4) (v := nI (i + 1)) (lv' := [(3, .int (nI (i + 1))), (4, .int (nI (tb_th q d p i))), (0, .ref (xd 0)), (1, .int (nI (d))), (2, .int (nI (p)))]) hx hb dX8_reckonPlot_66 hl rfl (nI_add _ _) (by decide) rfl (fun ls hl => ?_)
          refine lv_goto (tgt := 9) hx hb dX8_reckonPlot_69 (by decide) ?_
          have hl : lv_has ls 5 [(0, .ref (xd 0)), (1, .int (nI (d))), (2, .int (nI (p))), (3, .int (nI ((i + 1))))] := lv_sub hl [2, 3, 4, 0] rfl
          exact ih (i + 1) (xs_addT q sc2 i (tb_val q d p (3 * i)) (tb_val q d p (3 * i + 1)) (tb_val q d p (3 * i + 2))) ls _ _ _ (by omega) (by omega) (xs_pl_add (xs_pl_th z2 hs2) (by omega) c2) h hU hl
  refine lv_aload_n hx hb dX8_reckonPlot_0 rfl (lv_at hl 0 rfl) ?_
  refine um_get (v := .ref (xd 25)) hx hb htg inX8 hown hK hU h.c0 rfl 4 (by decide) (htg _ tg_161) rfl dX8_reckonPlot_1 ?_
  refine um_callv (va_runV (As := []) (rest := []) ⟨hx, hb, hml, hown, htg⟩ (xp_clear l D κ τ A σ xd la ma va q sc h) (cwV 0 htg (lw_cV tg_585 tg_586 tg_587 tg_6 tg_588) rfl rfl rfl (by decide +kernel) ⟨Nat.le_of_ble_eq_true rfl, Nat.le_of_ble_eq_true rfl⟩) (um_preV hU hK hJ h.c25 rfl) rfl rfl hl.1 rfl (lv_room (Nat.le_of_ble_eq_true rfl)) dX8_reckonPlot_4 ⟨Nat.le_of_ble_eq_true rfl, Nat.le_of_ble_eq_true rfl⟩) hU (fun σ H locs h hU => ?_)
  refine lv_iconst (v := nI 0) hx hb dX8_reckonPlot_7 (by decide +kernel) ?_
  refine lv_istore_n (lv' := [(3, .int (nI (0))), (0, .ref (xd 0)), (1, .int (nI (d))), (2, .int (nI (p)))]) hx hb dX8_reckonPlot_8 rfl hl (by decide) rfl (fun ls hl => ?_)
  have hl : lv_has ls 5 [(0, .ref (xd 0)), (1, .int (nI (d))), (2, .int (nI (p))), (3, .int (nI (0)))] := lv_sub hl [1, 2, 3, 0] rfl
  exact L1 5 0 (xs_clP sc) ls _ _ _ (by omega) (by omega) (xs_pl_0 q d p sc) h hU hl

set_option maxRecDepth 100000 in
set_option maxHeartbeats 4000000 in
theorem xf_reckonStand (l : Launch) (D : va_G) (κ : Nat → ClassId) (τ : Nat → Nat) (A : Nat → Prop) (σ : um_M) (xd la ma va : Nat → Nat) (q : tb_Q) (sc : xs_S) (h : xs_at κ σ xd la ma va q sc) (ok : tb_ok q) (d st : Nat) (hd : d < 5) (hst : st < 3) (hsh : xs_shA q d) : Met l yX8_reckonStand wsX8_reckonStand ({ frames := 5, cells := 0, slots := 0, locals := 136 }) (va_Pc [.ref (xd 0), .int (nI (d)), .int (nI (st))] (um_U D κ τ A σ)) (va_Qv (fun σ' : um_M => ∃ sc', xs_at κ σ' xd la ma va q sc' ∧ xs_st q d st sc' 6) (um_U D κ τ A) A) 0 0 A := by
  refine um_met (cc := cX8_reckonStand) (maxL := 4) (ret := none) (by decide) rfl rfl ?_
  intro pp ee s mm args below meth cd ls hx hb hr hts hown hlocks hml hnm hK hJ hU hl
  have hown : s.vm.findClass RX8 = some mm.cls := hown
  have htg : ∀ w ∈ lw_g, w.before args s = true := fun w h => hts w (List.mem_cons_of_mem _ h)
  have hl : lv_has ls 4 [(0, .ref (xd 0)), (1, .int (nI (d))), (2, .int (nI (st)))] := hl
  have hq := ok.sm
  have L1 : ∀ (nf : Nat) (i : Nat) (sc1 : xs_S) (ls : Array Slot) (σ : um_M) (H : Heap) (locs : List Loc), 6 - i < nf → i ≤ 6 → xs_st q d st sc1 i → xs_at κ σ xd la ma va q sc1 → um_S D vwCl A s σ H locs → lv_has ls 4 [(0, .ref (xd 0)), (1, .int (nI (d))), (2, .int (nI (st))), (3, .int (nI (i)))] → W pp l ee ({ frames := 5, cells := 0, slots := 0, locals := 136 }) s mm args below meth cd H locs 0 0 (MQ below (va_Qv (fun σ' : um_M => ∃ sc', xs_at κ σ' xd la ma va q sc' ∧ xs_st q d st sc' 6) (um_U D κ τ A) A) args s 0 0 A) (F0 mm 9 ls []) := by
    intro nf
    induction nf with
    | zero => intro i sc1 ls σ H locs hnf; exact absurd hnf (Nat.not_lt_zero _)
    | succ nf ih =>
      intro i sc1 ls σ H locs hnf z1 z2 h hU hl
      refine lv_iload_n hx hb dX8_reckonStand_9 rfl (lv_at hl 3 rfl) ?_
      refine lv_bipush (v := nI 6) hx hb dX8_reckonStand_10 (by decide +kernel) ?_
      refine um_geN (tgt := 48) hx hb dX8_reckonStand_12 (by decide) (by omega) (by decide) (fun c1 => ?_) (fun c1 => ?_)
      · exact um_vret hx hb hr hlocks hK hJ hU dX8_reckonStand_48 (by have hi : i = 6 := (by omega); subst hi; exact ⟨_, h, z2⟩)
      · refine lv_aload_n hx hb dX8_reckonStand_15 rfl (lv_at hl 0 rfl) ?_
        refine um_get (v := .ref (xd 27)) hx hb htg inX8 hown hK hU h.c0 rfl 6 (by decide) (htg _ tg_163) rfl dX8_reckonStand_16 ?_
        refine lv_iload_n hx hb dX8_reckonStand_19 rfl (lv_at hl 3 rfl) ?_
        refine um_ild (v := nI (q 12 i)) hx hb hK hU 0 h.c27 rfl i rfl (by omega) (by decide) rfl dX8_reckonStand_20 ?_
        refine lv_iload_n hx hb dX8_reckonStand_21 rfl (lv_at hl 2 rfl) ?_
        refine um_neN (tgt := 42) hx hb dX8_reckonStand_22 (by decide) (tb_sm_lt hq 12 _) (by omega) (fun c2 => ?_) (fun c2 => ?_)
        · refine lv_iinc (k := 3) (v := nI (i + 1)) (lv' := [(3, .int (nI (i + 1))), (0, .ref (xd 0)), (1, .int (nI (d))), (2, .int (nI (st)))]) hx hb dX8_reckonStand_42 hl rfl (nI_add _ _) (by decide) rfl (fun ls hl => ?_)
          refine lv_goto (tgt := 9) hx hb dX8_reckonStand_45 (by decide) ?_
          have hl : lv_has ls 4 [(0, .ref (xd 0)), (1, .int (nI (d))), (2, .int (nI (st))), (3, .int (nI ((i + 1))))] := lv_sub hl [1, 2, 3, 0] rfl
          exact ih (i + 1) sc1 ls _ _ _ (by omega) (by omega) (xs_st_n z2 c2) h hU hl
        · refine lv_aload_n hx hb dX8_reckonStand_25 rfl (lv_at hl 0 rfl) ?_
          refine lv_iload_n hx hb dX8_reckonStand_26 rfl (lv_at hl 1 rfl) ?_
          refine lv_iload_n hx hb dX8_reckonStand_27 rfl (lv_at hl 3 rfl) ?_
          refine um_callv (va_runV (As := [.int (nI (d)), .int (nI (i))]) (rest := []) ⟨hx, hb, hml, hown, htg⟩ (xf_reckonPlot l D κ τ A σ xd la ma va q sc1 h ok d i (by omega) (by omega) hsh) (cwV 2 htg (lw_cV tg_581 tg_583 slX8_reckonPlot tg_1 tg_584) rfl rfl rfl (by decide +kernel) ⟨Nat.le_of_ble_eq_true rfl, Nat.le_of_ble_eq_true rfl⟩) (um_preV hU hK hJ h.c0 rfl) rfl rfl hl.1 rfl (lv_room (Nat.le_of_ble_eq_true rfl)) dX8_reckonStand_28 ⟨Nat.le_of_ble_eq_true rfl, Nat.le_of_ble_eq_true rfl⟩) hU (fun σ H locs h hU => ?_)
          obtain ⟨sc2, h, hp2⟩ := h
          refine lv_aload_n hx hb dX8_reckonStand_31 rfl (lv_at hl 0 rfl) ?_
          refine um_get (v := .ref (xd 26)) hx hb htg inX8 hown hK hU h.c0 rfl 5 (by decide) (htg _ tg_162) rfl dX8_reckonStand_32 ?_
          refine lv_aload_n hx hb dX8_reckonStand_35 rfl (lv_at hl 0 rfl) ?_
          refine um_get (v := .ref (xd 25)) hx hb htg inX8 hown hK hU h.c0 rfl 4 (by decide) (htg _ tg_161) rfl dX8_reckonStand_36 ?_
          refine um_callv (va_runV (As := [.ref (xd 25)]) (rest := []) ⟨hx, hb, hml, hown, htg⟩ (xq_add l D κ τ A σ xd la ma va q sc2 h) (cwV 1 htg (lw_cV tg_621 tg_622 tg_623 tg_7 tg_624) rfl rfl rfl (by decide +kernel) ⟨Nat.le_of_ble_eq_true rfl, Nat.le_of_ble_eq_true rfl⟩) (um_preV hU hK hJ h.c26 rfl) rfl rfl hl.1 rfl (lv_room (Nat.le_of_ble_eq_true rfl)) dX8_reckonStand_39 ⟨Nat.le_of_ble_eq_true rfl, Nat.le_of_ble_eq_true rfl⟩) hU (fun σ H locs h hU => ?_)
          refine lv_iinc (k := 3) (v := nI (i + 1)) (lv' := [(3, .int (nI (i + 1))), (0, .ref (xd 0)), (1, .int (nI (d))), (2, .int (nI (st)))]) hx hb dX8_reckonStand_42 hl rfl (nI_add _ _) (by decide) rfl (fun ls hl => ?_)
          refine lv_goto (tgt := 9) hx hb dX8_reckonStand_45 (by decide) ?_
          have hl : lv_has ls 4 [(0, .ref (xd 0)), (1, .int (nI (d))), (2, .int (nI (st))), (3, .int (nI ((i + 1))))] := lv_sub hl [1, 2, 3, 0] rfl
          exact ih (i + 1) (xs_addP sc2) ls _ _ _ (by omega) (by omega) (xs_st_y z2 hp2 c2) h hU hl
  refine lv_aload_n hx hb dX8_reckonStand_0 rfl (lv_at hl 0 rfl) ?_
  refine um_get (v := .ref (xd 26)) hx hb htg inX8 hown hK hU h.c0 rfl 5 (by decide) (htg _ tg_162) rfl dX8_reckonStand_1 ?_
  refine um_callv (va_runV (As := []) (rest := []) ⟨hx, hb, hml, hown, htg⟩ (xq_clear l D κ τ A σ xd la ma va q sc h) (cwV 0 htg (lw_cV tg_617 tg_618 tg_619 tg_7 tg_620) rfl rfl rfl (by decide +kernel) ⟨Nat.le_of_ble_eq_true rfl, Nat.le_of_ble_eq_true rfl⟩) (um_preV hU hK hJ h.c26 rfl) rfl rfl hl.1 rfl (lv_room (Nat.le_of_ble_eq_true rfl)) dX8_reckonStand_4 ⟨Nat.le_of_ble_eq_true rfl, Nat.le_of_ble_eq_true rfl⟩) hU (fun σ H locs h hU => ?_)
  refine lv_iconst (v := nI 0) hx hb dX8_reckonStand_7 (by decide +kernel) ?_
  refine lv_istore_n (lv' := [(3, .int (nI (0))), (0, .ref (xd 0)), (1, .int (nI (d))), (2, .int (nI (st)))]) hx hb dX8_reckonStand_8 rfl hl (by decide) rfl (fun ls hl => ?_)
  have hl : lv_has ls 4 [(0, .ref (xd 0)), (1, .int (nI (d))), (2, .int (nI (st))), (3, .int (nI (0)))] := lv_sub hl [1, 2, 3, 0] rfl
  exact L1 7 0 (xs_clS sc) ls _ _ _ (by omega) (by omega) (xs_st_0 q d st sc) h hU hl
