set_option maxRecDepth 100000 in
set_option maxHeartbeats 4000000 in
theorem xc_isMeeting (l : Launch) (D : va_G) (κ : Nat → ClassId) (τ : Nat → Nat) (A : Nat → Prop) (σ : um_M) (xd la ma va : Nat → Nat) (q : tb_Q) (sc : xs_S) (h : xs_at κ σ xd la ma va q sc) (h0 : q 13 0 ≤ 5) : Met l yX0_isMeeting wsX0_isMeeting ({ frames := 0, cells := 0, slots := 0, locals := 0 }) (va_Pc [.ref (xd 1)] (um_U D κ τ A σ)) (va_Qi (fun (r9 : Int32) (σ' : um_M) => r9 = um_b (!decide (q 13 0 = 0)) ∧ σ' = σ) (um_U D κ τ A) A) 0 0 A := by
  refine um_met (cc := cX0_isMeeting) (maxL := 1) (ret := (some .boolean)) (by decide) rfl rfl ?_
  intro pp ee s mm args below meth cd ls hx hb hr hts hown hlocks hml hnm hK hJ hU hl
  have hown : s.vm.findClass RX0 = some mm.cls := hown
  have htg : ∀ w ∈ lw_g, w.before args s = true := fun w h => hts w (List.mem_cons_of_mem _ h)
  have hl : lv_has ls 1 [(0, .ref (xd 1))] := hl
  refine lv_aload_n hx hb dX0_isMeeting_0 rfl (lv_at hl 0 rfl) ?_
  refine um_get (v := .int (tb_m1 (q 13 0))) hx hb htg inX0 hown hK hU h.c1 rfl 2 (by decide) (htg _ tg_38) rfl dX0_isMeeting_1 ?_
  refine lv_iconst (v := -1) hx hb dX0_isMeeting_4 (by decide +kernel) ?_
  refine um_eqM1 (tgt := 12) hx hb dX0_isMeeting_5 (by decide) (by omega) (fun c1 => ?_) (fun c1 => ?_)
  · refine lv_iconst (v := nI 0) hx hb dX0_isMeeting_12 (by decide +kernel) ?_
    exact um_zret hx hb hr hlocks hK hJ hU dX0_isMeeting_13 false rfl ⟨congrArg um_b (by simp [c1]), rfl⟩
  · refine lv_iconst (v := nI 1) hx hb dX0_isMeeting_8 (by decide +kernel) ?_
    refine lv_goto (tgt := 13) hx hb dX0_isMeeting_9 (by decide) ?_
    exact um_zret hx hb hr hlocks hK hJ hU dX0_isMeeting_13 true rfl ⟨congrArg um_b (by simp [c1]), rfl⟩

set_option maxRecDepth 100000 in
set_option maxHeartbeats 4000000 in
theorem xc_hasRoom (l : Launch) (D : va_G) (κ : Nat → ClassId) (τ : Nat → Nat) (A : Nat → Prop) (σ : um_M) (xd la ma va : Nat → Nat) (q : tb_Q) (sc : xs_S) (h : xs_at κ σ xd la ma va q sc) (hq : tb_sm q) (d : Nat) (hd : d < 5) : Met l yX0_hasRoom wsX0_hasRoom ({ frames := 0, cells := 0, slots := 0, locals := 0 }) (va_Pc [.ref (xd 1), .int (nI (d))] (um_U D κ τ A σ)) (va_Qi (fun (r9 : Int32) (σ' : um_M) => r9 = um_b (!decide (40 ≤ q 7 (5 * d + d))) ∧ σ' = σ) (um_U D κ τ A) A) 0 0 A := by
  refine um_met (cc := cX0_hasRoom) (maxL := 2) (ret := (some .boolean)) (by decide) rfl rfl ?_
  intro pp ee s mm args below meth cd ls hx hb hr hts hown hlocks hml hnm hK hJ hU hl
  have hown : s.vm.findClass RX0 = some mm.cls := hown
  have htg : ∀ w ∈ lw_g, w.before args s = true := fun w h => hts w (List.mem_cons_of_mem _ h)
  have hl : lv_has ls 2 [(0, .ref (xd 1)), (1, .int (nI (d)))] := hl
  refine lv_aload_n hx hb dX0_hasRoom_0 rfl (lv_at hl 0 rfl) ?_
  refine um_get (v := .ref (xd 2)) hx hb htg inX0 hown hK hU h.c1 rfl 0 (by decide) (htg _ tg_35) rfl dX0_hasRoom_1 ?_
  refine lv_iload_n hx hb dX0_hasRoom_4 rfl (lv_at hl 1 rfl) ?_
  refine xs_gld (b := 4) hx hb hK hU h.c2 d (by omega) dX0_hasRoom_5 ?_
  refine lv_iload_n hx hb dX0_hasRoom_6 rfl (lv_at hl 1 rfl) ?_
  refine xs_ildR (r := 7) (d := d) hx hb hK hU (h.row (by omega)) d (by omega) dX0_hasRoom_7 ?_
  refine lv_bipush (v := nI 40) hx hb dX0_hasRoom_8 (by decide +kernel) ?_
  refine um_geN (tgt := 17) hx hb dX0_hasRoom_10 (by decide) (tb_sm_lt hq 7 _) (by decide) (fun c1 => ?_) (fun c1 => ?_)
  · refine lv_iconst (v := nI 0) hx hb dX0_hasRoom_17 (by decide +kernel) ?_
    exact um_zret hx hb hr hlocks hK hJ hU dX0_hasRoom_18 false rfl ⟨congrArg um_b (by simp [c1]), rfl⟩
  · refine lv_iconst (v := nI 1) hx hb dX0_hasRoom_13 (by decide +kernel) ?_
    refine lv_goto (tgt := 18) hx hb dX0_hasRoom_14 (by decide) ?_
    exact um_zret hx hb hr hlocks hK hJ hU dX0_hasRoom_18 true rfl ⟨congrArg um_b (by simp [c1]), rfl⟩

set_option maxRecDepth 100000 in
set_option maxHeartbeats 4000000 in
theorem xc_keepAll (l : Launch) (D : va_G) (κ : Nat → ClassId) (τ : Nat → Nat) (A : Nat → Prop) (σ : um_M) (xd la ma va : Nat → Nat) (q : tb_Q) (sc : xs_S) (h : xs_at κ σ xd la ma va q sc) (d : Nat) (hd : d < 5) : Met l yX0_keepAll wsX0_keepAll ({ frames := 1, cells := 0, slots := 0, locals := 60 }) (va_Pc [.ref (xd 1), .int (nI (d))] (um_U D κ τ A σ)) (va_Qv (fun σ' : um_M => xs_at κ σ' xd la ma va (tb_keep q d) sc) (um_U D κ τ A) A) 0 0 A := by
  refine um_met (cc := cX0_keepAll) (maxL := 2) (ret := none) (by decide) rfl rfl ?_
  intro pp ee s mm args below meth cd ls hx hb hr hts hown hlocks hml hnm hK hJ hU hl
  have hown : s.vm.findClass RX0 = some mm.cls := hown
  have htg : ∀ w ∈ lw_g, w.before args s = true := fun w h => hts w (List.mem_cons_of_mem _ h)
  have hl : lv_has ls 2 [(0, .ref (xd 1)), (1, .int (nI (d)))] := hl
  refine lv_aload_n hx hb dX0_keepAll_0 rfl (lv_at hl 0 rfl) ?_
  refine um_get (v := .ref (xd 2)) hx hb htg inX0 hown hK hU h.c1 rfl 0 (by decide) (htg _ tg_35) rfl dX0_keepAll_1 ?_
  refine lv_iload_n hx hb dX0_keepAll_4 rfl (lv_at hl 1 rfl) ?_
  refine xs_gld (b := 4) hx hb hK hU h.c2 d (by omega) dX0_keepAll_5 ?_
  refine lv_iconst (v := nI 0) hx hb dX0_keepAll_6 (by decide +kernel) ?_
  refine lv_aload_n hx hb dX0_keepAll_7 rfl (lv_at hl 0 rfl) ?_
  refine um_get (v := .ref (xd 3)) hx hb htg inX0 hown hK hU h.c1 rfl 1 (by decide) (htg _ tg_37) rfl dX0_keepAll_8 ?_
  refine lv_iload_n hx hb dX0_keepAll_11 rfl (lv_at hl 1 rfl) ?_
  refine xs_gld (b := 9) hx hb hK hU h.c3 d (by omega) dX0_keepAll_12 ?_
  refine lv_iconst (v := nI 0) hx hb dX0_keepAll_13 (by decide +kernel) ?_
  refine lv_iconst (v := nI 5) hx hb dX0_keepAll_14 (by decide +kernel) ?_
  refine um_cpy hx hb (by rw [hml]; exact hl.1.symm) hown (htg _ tg_315) (htg _ tg_317) (htg _ tg_316) (htg _ tg_14) hK hU (h.row (by omega)) (h.kep (by omega)) (Nat.le_of_ble_eq_true rfl) (Nat.le_of_ble_eq_true rfl) dX0_keepAll_15 (fun H locs hU => ?_)
  have h := xs_keep h (d := d) (by omega)
  generalize um_up σ _ _ = σ at h hU
  exact um_vret hx hb hr hlocks hK hJ hU dX0_keepAll_18 (by exact h)

set_option maxRecDepth 100000 in
set_option maxHeartbeats 4000000 in
theorem xc_forget (l : Launch) (D : va_G) (κ : Nat → ClassId) (τ : Nat → Nat) (A : Nat → Prop) (σ : um_M) (xd la ma va : Nat → Nat) (q : tb_Q) (sc : xs_S) (h : xs_at κ σ xd la ma va q sc) (d : Nat) (hd : d < 5) : Met l yX0_forget wsX0_forget ({ frames := 1, cells := 0, slots := 0, locals := 60 }) (va_Pc [.ref (xd 1), .int (nI (d))] (um_U D κ τ A σ)) (va_Qv (fun σ' : um_M => xs_at κ σ' xd la ma va (tb_forg q d) sc) (um_U D κ τ A) A) 0 0 A := by
  refine um_met (cc := cX0_forget) (maxL := 2) (ret := none) (by decide) rfl rfl ?_
  intro pp ee s mm args below meth cd ls hx hb hr hts hown hlocks hml hnm hK hJ hU hl
  have hown : s.vm.findClass RX0 = some mm.cls := hown
  have htg : ∀ w ∈ lw_g, w.before args s = true := fun w h => hts w (List.mem_cons_of_mem _ h)
  have hl : lv_has ls 2 [(0, .ref (xd 1)), (1, .int (nI (d)))] := hl
  refine lv_aload_n hx hb dX0_forget_0 rfl (lv_at hl 0 rfl) ?_
  refine um_get (v := .ref (xd 3)) hx hb htg inX0 hown hK hU h.c1 rfl 1 (by decide) (htg _ tg_37) rfl dX0_forget_1 ?_
  refine lv_iload_n hx hb dX0_forget_4 rfl (lv_at hl 1 rfl) ?_
  refine xs_gld (b := 9) hx hb hK hU h.c3 d (by omega) dX0_forget_5 ?_
  refine lv_iconst (v := nI 0) hx hb dX0_forget_6 (by decide +kernel) ?_
  refine lv_aload_n hx hb dX0_forget_7 rfl (lv_at hl 0 rfl) ?_
  refine um_get (v := .ref (xd 2)) hx hb htg inX0 hown hK hU h.c1 rfl 0 (by decide) (htg _ tg_35) rfl dX0_forget_8 ?_
  refine lv_iload_n hx hb dX0_forget_11 rfl (lv_at hl 1 rfl) ?_
  refine xs_gld (b := 4) hx hb hK hU h.c2 d (by omega) dX0_forget_12 ?_
  refine lv_iconst (v := nI 0) hx hb dX0_forget_13 (by decide +kernel) ?_
  refine lv_iconst (v := nI 5) hx hb dX0_forget_14 (by decide +kernel) ?_
  refine um_cpy hx hb (by rw [hml]; exact hl.1.symm) hown (htg _ tg_315) (htg _ tg_317) (htg _ tg_316) (htg _ tg_14) hK hU (h.kep (by omega)) (h.row (by omega)) (Nat.le_of_ble_eq_true rfl) (Nat.le_of_ble_eq_true rfl) dX0_forget_15 (fun H locs hU => ?_)
  have h := xs_forg h (d := d) (by omega)
  generalize um_up σ _ _ = σ at h hU
  exact um_vret hx hb hr hlocks hK hJ hU dX0_forget_18 (by exact h)

set_option maxRecDepth 100000 in
set_option maxHeartbeats 4000000 in
theorem xc_addEntry (l : Launch) (D : va_G) (κ : Nat → ClassId) (τ : Nat → Nat) (A : Nat → Prop) (σ : um_M) (xd la ma va : Nat → Nat) (q : tb_Q) (sc : xs_S) (h : xs_at κ σ xd la ma va q sc) (d : Nat) (hd : d < 5) : Met l yX0_addEntry wsX0_addEntry ({ frames := 2, cells := 0, slots := 0, locals := 81 }) (va_Pc [.ref (xd 1), .int (nI (d))] (um_U D κ τ A σ)) (va_Qi (fun (r9 : Int32) (σ' : um_M) => r9 = nI (q 7 (5 * d + d) + 1) ∧ xs_at κ σ' xd la ma va (tb_keep (tb_set q 7 (5 * d + d) (q 7 (5 * d + d) + 1)) d) sc) (um_U D κ τ A) A) 0 0 A := by
  refine um_met (cc := cX0_addEntry) (maxL := 2) (ret := (some .int)) (by decide) rfl rfl ?_
  intro pp ee s mm args below meth cd ls hx hb hr hts hown hlocks hml hnm hK hJ hU hl
  have hown : s.vm.findClass RX0 = some mm.cls := hown
  have htg : ∀ w ∈ lw_g, w.before args s = true := fun w h => hts w (List.mem_cons_of_mem _ h)
  have hl : lv_has ls 2 [(0, .ref (xd 1)), (1, .int (nI (d)))] := hl
  refine lv_aload_n hx hb dX0_addEntry_0 rfl (lv_at hl 0 rfl) ?_
  refine um_get (v := .ref (xd 2)) hx hb htg inX0 hown hK hU h.c1 rfl 0 (by decide) (htg _ tg_35) rfl dX0_addEntry_1 ?_
  refine lv_iload_n hx hb dX0_addEntry_4 rfl (lv_at hl 1 rfl) ?_
  refine xs_gld (b := 4) hx hb hK hU h.c2 d (by omega) dX0_addEntry_5 ?_
  refine lv_iload_n hx hb dX0_addEntry_6 rfl (lv_at hl 1 rfl) ?_
  refine lv_dup2_11 hx hb dX0_addEntry_7 rfl rfl ?_
  refine xs_ildR (r := 7) (d := d) hx hb hK hU (h.row (by omega)) d (by omega) dX0_addEntry_8 ?_
  refine lv_iconst (v := nI 1) hx hb dX0_addEntry_9 (by decide +kernel) ?_
  refine um_addN hx hb dX0_addEntry_10 ?_
  refine xs_istKn hx hb hK hU h d d ((q 7 (5 * d + d)) + 1) (by omega) (by omega) dX0_addEntry_11 (fun σ H locs h hU => ?_)
  refine lv_aload_n hx hb dX0_addEntry_12 rfl (lv_at hl 0 rfl) ?_
  refine lv_iload_n hx hb dX0_addEntry_13 rfl (lv_at hl 1 rfl) ?_
  refine um_callv (va_runV (As := [.int (nI (d))]) (rest := []) ⟨hx, hb, hml, hown, htg⟩ (xc_keepAll l D κ τ A σ xd la ma va (tb_set q 7 (5 * d + d) ((q 7 (5 * d + d)) + 1)) sc h d (by omega)) (cwV 1 htg (lw_cV tg_311 tg_312 tg_313 tg_2 tg_314) rfl rfl rfl (by decide +kernel) ⟨Nat.le_of_ble_eq_true rfl, Nat.le_of_ble_eq_true rfl⟩) (um_preV hU hK hJ h.c1 rfl) rfl rfl hl.1 rfl (lv_room (Nat.le_of_ble_eq_true rfl)) dX0_addEntry_14 ⟨Nat.le_of_ble_eq_true rfl, Nat.le_of_ble_eq_true rfl⟩) hU (fun σ H locs h hU => ?_)
  refine lv_aload_n hx hb dX0_addEntry_17 rfl (lv_at hl 0 rfl) ?_
  refine um_get (v := .ref (xd 2)) hx hb htg inX0 hown hK hU h.c1 rfl 0 (by decide) (htg _ tg_35) rfl dX0_addEntry_18 ?_
  refine lv_iload_n hx hb dX0_addEntry_21 rfl (lv_at hl 1 rfl) ?_
  refine xs_gld (b := 4) hx hb hK hU h.c2 d (by omega) dX0_addEntry_22 ?_
  refine lv_iload_n hx hb dX0_addEntry_23 rfl (lv_at hl 1 rfl) ?_
  refine xs_ildR (r := 7) (d := d) hx hb hK hU (h.row (by omega)) d (by omega) dX0_addEntry_24 ?_
  exact um_iret hx hb hr hlocks hK hJ hU dX0_addEntry_25 ⟨congrArg nI (by rw [tb_keep_n (by decide), tb_set_s, va_up_self]), (by exact h)⟩

set_option maxRecDepth 100000 in
set_option maxHeartbeats 4000000 in
theorem xc_carry (l : Launch) (D : va_G) (κ : Nat → ClassId) (τ : Nat → Nat) (A : Nat → Prop) (σ : um_M) (xd la ma va : Nat → Nat) (q : tb_Q) (sc : xs_S) (h : xs_at κ σ xd la ma va q sc) (hq : tb_sm q) (fr to : Nat) (hf : fr < 5) (ht : to < 5) : Met l yX0_carry wsX0_carry ({ frames := 0, cells := 0, slots := 0, locals := 0 }) (va_Pc [.ref (xd 1), .int (nI (fr)), .int (nI (to))] (um_U D κ τ A σ)) (va_Qi (fun (r9 : Int32) (σ' : um_M) => r9 = um_b (!decide (tb_car q fr to = 0)) ∧ xs_at κ σ' xd la ma va (tb_cary q fr to) sc) (um_U D κ τ A) A) 0 0 A := by
  refine um_met (cc := cX0_carry) (maxL := 4) (ret := (some .boolean)) (by decide) rfl rfl ?_
  intro pp ee s mm args below meth cd ls hx hb hr hts hown hlocks hml hnm hK hJ hU hl
  have hown : s.vm.findClass RX0 = some mm.cls := hown
  have htg : ∀ w ∈ lw_g, w.before args s = true := fun w h => hts w (List.mem_cons_of_mem _ h)
  have hl : lv_has ls 4 [(0, .ref (xd 1)), (1, .int (nI (fr))), (2, .int (nI (to)))] := hl
  have L1 : ∀ (nf : Nat) (i : Nat) (ls : Array Slot) (H : Heap) (locs : List Loc), 5 - i < nf → i ≤ 5 → tb_carF q fr to i = 0 → um_S D vwCl A s σ H locs → lv_has ls 4 [(0, .ref (xd 1)), (1, .int (nI (fr))), (2, .int (nI (to))), (3, .int (nI (i)))] → W pp l ee ({ frames := 0, cells := 0, slots := 0, locals := 0 }) s mm args below meth cd H locs 0 0 (MQ below (va_Qi (fun (r9 : Int32) (σ' : um_M) => r9 = um_b (!decide (tb_car q fr to = 0)) ∧ xs_at κ σ' xd la ma va (tb_cary q fr to) sc) (um_U D κ τ A) A) args s 0 0 A) (F0 mm 2 ls []) := by
    intro nf
    induction nf with
    | zero => intro i ls H locs hnf; exact absurd hnf (Nat.not_lt_zero _)
    | succ nf ih =>
      intro i ls H locs hnf z1 z2 hU hl
      refine lv_iload_n hx hb dX0_carry_2 rfl (lv_at hl 3 rfl) ?_
      refine lv_iconst (v := nI 5) hx hb dX0_carry_3 (by decide +kernel) ?_
      refine um_geN (tgt := 46) hx hb dX0_carry_4 (by decide) (by omega) (by decide) (fun c1 => ?_) (fun c1 => ?_)
      · refine lv_iconst (v := nI 0) hx hb dX0_carry_46 (by decide +kernel) ?_
        exact um_zret hx hb hr hlocks hK hJ hU dX0_carry_47 false rfl ⟨congrArg um_b (by (have e1 : tb_car q fr to = 0 := (by unfold tb_car; rw [← z2, show i = 5 by omega]); simp [e1])), (by have e1 : tb_car q fr to = 0 := (by unfold tb_car; rw [← z2, show i = 5 by omega]); unfold tb_cary; rw [if_pos e1]; exact h)⟩
      · refine lv_aload_n hx hb dX0_carry_7 rfl (lv_at hl 0 rfl) ?_
        refine um_get (v := .ref (xd 2)) hx hb htg inX0 hown hK hU h.c1 rfl 0 (by decide) (htg _ tg_35) rfl dX0_carry_8 ?_
        refine lv_iload_n hx hb dX0_carry_11 rfl (lv_at hl 2 rfl) ?_
        refine xs_gld (b := 4) hx hb hK hU h.c2 to (by omega) dX0_carry_12 ?_
        refine lv_iload_n hx hb dX0_carry_13 rfl (lv_at hl 3 rfl) ?_
        refine xs_ildR (r := 7) (d := to) hx hb hK hU (h.row (by omega)) i (by omega) dX0_carry_14 ?_
        refine lv_aload_n hx hb dX0_carry_15 rfl (lv_at hl 0 rfl) ?_
        refine um_get (v := .ref (xd 2)) hx hb htg inX0 hown hK hU h.c1 rfl 0 (by decide) (htg _ tg_35) rfl dX0_carry_16 ?_
        refine lv_iload_n hx hb dX0_carry_19 rfl (lv_at hl 1 rfl) ?_
        refine xs_gld (b := 4) hx hb hK hU h.c2 fr (by omega) dX0_carry_20 ?_
        refine lv_iload_n hx hb dX0_carry_21 rfl (lv_at hl 3 rfl) ?_
        refine xs_ildR (r := 7) (d := fr) hx hb hK hU (h.row (by omega)) i (by omega) dX0_carry_22 ?_
        refine um_geN (tgt := 40) hx hb dX0_carry_23 (by decide) (tb_sm_lt hq 7 _) (tb_sm_lt hq 7 _) (fun c2 => ?_) (fun c2 => ?_)
        · refine lv_iinc (k := 3) (v := nI (i + 1)) (lv' := [(3, .int (nI (i + 1))), (0, .ref (xd 1)), (1, .int (nI (fr))), (2, .int (nI (to)))]) hx hb dX0_carry_40 hl rfl (nI_add _ _) (by decide) rfl (fun ls hl => ?_)
          refine lv_goto (tgt := 2) hx hb dX0_carry_43 (by decide) ?_
          have hl : lv_has ls 4 [(0, .ref (xd 1)), (1, .int (nI (fr))), (2, .int (nI (to))), (3, .int (nI ((i + 1))))] := lv_sub hl [1, 2, 3, 0] rfl
          exact ih (i + 1) ls _ _ (by omega) (by omega) (by simp [tb_carF, z2, c1, c2]) hU hl
        · refine lv_aload_n hx hb dX0_carry_26 rfl (lv_at hl 0 rfl) ?_
          refine um_get (v := .ref (xd 2)) hx hb htg inX0 hown hK hU h.c1 rfl 0 (by decide) (htg _ tg_35) rfl dX0_carry_27 ?_
          refine lv_iload_n hx hb dX0_carry_30 rfl (lv_at hl 2 rfl) ?_
          refine xs_gld (b := 4) hx hb hK hU h.c2 to (by omega) dX0_carry_31 ?_
          refine lv_iload_n hx hb dX0_carry_32 rfl (lv_at hl 3 rfl) ?_
          refine lv_dup2_11 hx hb dX0_carry_33 rfl rfl ?_
          refine xs_ildR (r := 7) (d := to) hx hb hK hU (h.row (by omega)) i (by omega) dX0_carry_34 ?_
          refine lv_iconst (v := nI 1) hx hb dX0_carry_35 (by decide +kernel) ?_
          refine um_addN hx hb dX0_carry_36 ?_
          refine xs_istKn hx hb hK hU h to i ((q 7 (5 * to + i)) + 1) (by omega) (by omega) dX0_carry_37 (fun σ H locs h hU => ?_)
          refine lv_iconst (v := nI 1) hx hb dX0_carry_38 (by decide +kernel) ?_
          exact um_zret hx hb hr hlocks hK hJ hU dX0_carry_39 true rfl ⟨congrArg um_b (by (have e1 := tb_car_at (q := q) (fr := fr) (to := to) (i := i) (by simp [tb_carF, z2, c1, c2]) (by omega); simp [e1])), (by have e1 := tb_car_at (q := q) (fr := fr) (to := to) (i := i) (by simp [tb_carF, z2, c1, c2]) (by omega); unfold tb_cary; rw [if_neg (by omega), e1]; exact h)⟩
  refine lv_iconst (v := nI 0) hx hb dX0_carry_0 (by decide +kernel) ?_
  refine lv_istore_n (lv' := [(3, .int (nI (0))), (0, .ref (xd 1)), (1, .int (nI (fr))), (2, .int (nI (to)))]) hx hb dX0_carry_1 rfl hl (by decide) rfl (fun ls hl => ?_)
  have hl : lv_has ls 4 [(0, .ref (xd 1)), (1, .int (nI (fr))), (2, .int (nI (to))), (3, .int (nI (0)))] := lv_sub hl [1, 2, 3, 0] rfl
  exact L1 6 0 ls _ _ (by omega) (by omega) rfl hU hl

set_option maxRecDepth 100000 in
set_option maxHeartbeats 4000000 in
theorem xc_endMeeting (l : Launch) (D : va_G) (κ : Nat → ClassId) (τ : Nat → Nat) (A : Nat → Prop) (σ : um_M) (xd la ma va : Nat → Nat) (q : tb_Q) (sc : xs_S) (h : xs_at κ σ xd la ma va q sc) (h0 : q 13 0 ≤ 5) (h1 : q 13 1 ≤ 5) (hn : ¬ q 13 0 = 0) (hn2 : ¬ q 13 1 = 0) : Met l yX0_endMeeting wsX0_endMeeting ({ frames := 2, cells := 0, slots := 0, locals := 81 }) (va_Pc [.ref (xd 1)] (um_U D κ τ A σ)) (va_Qv (fun σ' : um_M => xs_at κ σ' xd la ma va (tb_ends (tb_keep (tb_keep q (q 13 0 - 1)) (q 13 1 - 1))) sc) (um_U D κ τ A) A) 0 0 A := by
  refine um_met (cc := cX0_endMeeting) (maxL := 1) (ret := none) (by decide) rfl rfl ?_
  intro pp ee s mm args below meth cd ls hx hb hr hts hown hlocks hml hnm hK hJ hU hl
  have hown : s.vm.findClass RX0 = some mm.cls := hown
  have htg : ∀ w ∈ lw_g, w.before args s = true := fun w h => hts w (List.mem_cons_of_mem _ h)
  have hl : lv_has ls 1 [(0, .ref (xd 1))] := hl
  refine lv_aload_n hx hb dX0_endMeeting_0 rfl (lv_at hl 0 rfl) ?_
  refine lv_aload_n hx hb dX0_endMeeting_1 rfl (lv_at hl 0 rfl) ?_
  refine um_get (v := .int (nI (q 13 0 - 1))) hx hb htg inX0 hown hK hU h.c1 rfl 2 (by decide) (htg _ tg_38) (by show some (Value.int (tb_m1 (q 13 0))) = _; rw [tb_m1_p hn]) dX0_endMeeting_2 ?_
  refine um_callv (va_runV (As := [.int (nI (q 13 0 - 1))]) (rest := []) ⟨hx, hb, hml, hown, htg⟩ (xc_keepAll l D κ τ A σ xd la ma va q sc h (q 13 0 - 1) (by omega)) (cwV 1 htg (lw_cV tg_311 tg_312 tg_313 tg_2 tg_314) rfl rfl rfl (by decide +kernel) ⟨Nat.le_of_ble_eq_true rfl, Nat.le_of_ble_eq_true rfl⟩) (um_preV hU hK hJ h.c1 rfl) rfl rfl hl.1 rfl (lv_room (Nat.le_of_ble_eq_true rfl)) dX0_endMeeting_5 ⟨Nat.le_of_ble_eq_true rfl, Nat.le_of_ble_eq_true rfl⟩) hU (fun σ H locs h hU => ?_)
  refine lv_aload_n hx hb dX0_endMeeting_8 rfl (lv_at hl 0 rfl) ?_
  refine lv_aload_n hx hb dX0_endMeeting_9 rfl (lv_at hl 0 rfl) ?_
  refine um_get (v := .int (nI (q 13 1 - 1))) hx hb htg inX0 hown hK hU h.c1 rfl 3 (by decide) (htg _ tg_40) (by show some (Value.int (tb_m1 (tb_keep q (q 13 0 - 1) 13 1))) = _; rw [tb_keep_n (by decide), tb_m1_p hn2]) dX0_endMeeting_10 ?_
  refine um_callv (va_runV (As := [.int (nI (q 13 1 - 1))]) (rest := []) ⟨hx, hb, hml, hown, htg⟩ (xc_keepAll l D κ τ A σ xd la ma va (tb_keep q (q 13 0 - 1)) sc h (q 13 1 - 1) (by omega)) (cwV 1 htg (lw_cV tg_311 tg_312 tg_313 tg_2 tg_314) rfl rfl rfl (by decide +kernel) ⟨Nat.le_of_ble_eq_true rfl, Nat.le_of_ble_eq_true rfl⟩) (um_preV hU hK hJ h.c1 rfl) rfl rfl hl.1 rfl (lv_room (Nat.le_of_ble_eq_true rfl)) dX0_endMeeting_13 ⟨Nat.le_of_ble_eq_true rfl, Nat.le_of_ble_eq_true rfl⟩) hU (fun σ H locs h hU => ?_)
  refine lv_aload_n hx hb dX0_endMeeting_16 rfl (lv_at hl 0 rfl) ?_
  refine lv_iconst (v := -1) hx hb dX0_endMeeting_17 (by decide +kernel) ?_
  refine xs_putMe (k := 2) hx hb htg inX0 hown hK hU h 0 0 (by decide) rfl (htg _ tg_38) tb_m1_0.symm dX0_endMeeting_18 (fun σ H locs h hU => ?_)
  refine lv_aload_n hx hb dX0_endMeeting_21 rfl (lv_at hl 0 rfl) ?_
  refine lv_iconst (v := -1) hx hb dX0_endMeeting_22 (by decide +kernel) ?_
  refine xs_putMe (k := 3) hx hb htg inX0 hown hK hU h 1 0 (by decide) rfl (htg _ tg_40) tb_m1_0.symm dX0_endMeeting_23 (fun σ H locs h hU => ?_)
  exact um_vret hx hb hr hlocks hK hJ hU dX0_endMeeting_26 (by exact h)
