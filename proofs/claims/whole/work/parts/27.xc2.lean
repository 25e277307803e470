set_option maxRecDepth 100000 in
set_option maxHeartbeats 4000000 in
theorem xl_lastKnown (l : Launch) (D : va_G) (κ : Nat → ClassId) (τ : Nat → Nat) (A : Nat → Prop) (σ : um_M) (xd la ma va : Nat → Nat) (q : tb_Q) (sc : xs_S) (h : xs_at κ σ xd la ma va q sc) (hq : tb_sm q) (d p : Nat) (hd : d < 5) (hp : p < 6) (hk : q 7 (5 * d + 0) ≤ q 0 0) : Met l yX2_lastKnown wsX2_lastKnown ({ frames := 0, cells := 0, slots := 0, locals := 0 }) (va_Pc [.ref (xd 14), .int (nI (p)), .ref (xd (4 + d))] (um_U D κ τ A σ)) (va_Qq (fun (r9 : Option Nat) (σ' : um_M) => r9 = (xs_ll q p (q 7 (5 * d + 0))).map la ∧ σ' = σ) (um_U D κ τ A) A) 0 0 A := by
  refine um_met (cc := cX2_lastKnown) (maxL := 4) (ret := (some (.object "ForestTablets$Lend"))) (by decide) rfl rfl ?_
  intro pp ee s mm args below meth cd ls hx hb hr hts hown hlocks hml hnm hK hJ hU hl
  have hown : s.vm.findClass RX2 = some mm.cls := hown
  have htg : ∀ w ∈ lw_g, w.before args s = true := fun w h => hts w (List.mem_cons_of_mem _ h)
  have hl : lv_has ls 4 [(0, .ref (xd 14)), (1, .int (nI (p))), (2, .ref (xd (4 + d)))] := hl
  have L1 : ∀ (nf : Nat) (n : Nat) (ls : Array Slot) (H : Heap) (locs : List Loc), n < nf → q 7 (5 * d + 0) ≤ n → n ≤ q 0 0 → um_S D vwCl A s σ H locs → lv_has ls 4 [(0, .ref (xd 14)), (1, .int (nI (p))), (2, .ref (xd (4 + d))), (3, va_rf ((xs_ll q p n).map la))] → W pp l ee ({ frames := 0, cells := 0, slots := 0, locals := 0 }) s mm args below meth cd H locs 0 0 (MQ below (va_Qq (fun (r9 : Option Nat) (σ' : um_M) => r9 = (xs_ll q p (q 7 (5 * d + 0))).map la ∧ σ' = σ) (um_U D κ τ A) A) args s 0 0 A) (F0 mm 7 ls []) := by
    intro nf
    induction nf with
    | zero => intro n ls H locs hnf; exact absurd hnf (Nat.not_lt_zero _)
    | succ nf ih =>
      intro n ls H locs hnf z1 z2 hU hl
      cases ho : xs_ll q p n with
      | none =>
        rw [ho] at hl
        have hl : lv_has ls 4 [(0, .ref (xd 14)), (1, .int (nI (p))), (2, .ref (xd (4 + d))), (3, .null)] := hl
        refine lv_aload_nN hx hb dX2_lastKnown_7 rfl (lv_at hl 3 rfl) ?_
        refine lv_ifnullN (tgt := 31) hx hb dX2_lastKnown_8 (by decide) ?_
        refine lv_null hx hb dX2_lastKnown_31 ?_
        exact um_aret (r := none) hx hb hr (Or.inl ⟨_, rfl⟩) hlocks hK hJ hU dX2_lastKnown_32 ⟨by rw [xs_ll_none ho (by omega)]; rfl, rfl⟩
      | some k =>
        rw [ho] at hl
        have hl : lv_has ls 4 [(0, .ref (xd 14)), (1, .int (nI (p))), (2, .ref (xd (4 + d))), (3, .ref (la k))] := hl
        have hk3 := xs_ll_some ho
        have hL : xs_isL q k := ⟨by omega, hk3.2.1⟩
        refine lv_aload_n hx hb dX2_lastKnown_7 rfl (lv_at hl 3 rfl) ?_
        refine lv_ifnull hx hb dX2_lastKnown_8 ?_
        refine lv_aload_n hx hb dX2_lastKnown_11 rfl (lv_at hl 3 rfl) ?_
        refine um_get (v := .int (nI (k + 1))) hx hb htg inX1 hown hK hU (show um_h σ (la k) (.inr (1, _)) from h.2.2.1 k hL) rfl 1 (by decide) (htg _ tg_330) rfl dX2_lastKnown_12 ?_
        refine lv_aload_n hx hb dX2_lastKnown_15 rfl (lv_at hl 2 rfl) ?_
        refine lv_iconst (v := nI 0) hx hb dX2_lastKnown_16 (by decide +kernel) ?_
        refine xs_ildR (r := 7) (d := d) hx hb hK hU (h.row (by omega)) 0 (by omega) dX2_lastKnown_17 ?_
        refine um_gtN (tgt := 23) hx hb dX2_lastKnown_18 (by decide) (by have := hq 0 0; omega) (tb_sm_lt hq 7 _) (fun c1 => ?_) (fun c1 => ?_)
        · refine lv_aload_n hx hb dX2_lastKnown_23 rfl (lv_at hl 3 rfl) ?_
          refine um_get (v := va_rf ((xs_ll q (q 2 k) k).map la)) hx hb htg inX1 hown hK hU (show um_h σ (la k) (.inr (1, _)) from h.2.2.1 k hL) rfl 3 (by decide) (htg _ tg_334) rfl dX2_lastKnown_24 ?_
          refine um_astore_nQ (lv' := [(3, va_rf ((xs_ll q (q 2 k) k).map la)), (0, .ref (xd 14)), (1, .int (nI (p))), (2, .ref (xd (4 + d)))]) hx hb dX2_lastKnown_27 rfl hl (by decide) rfl (fun ls hl => ?_)
          refine lv_goto (tgt := 7) hx hb dX2_lastKnown_28 (by decide) ?_
          have hl : lv_has ls 4 [(0, .ref (xd 14)), (1, .int (nI (p))), (2, .ref (xd (4 + d))), (3, va_rf ((xs_ll q p k).map la))] := by
            rw [show (va_rf ((xs_ll q p k).map la)) = (va_rf ((xs_ll q (q 2 k) k).map la)) from by rw [hk3.2.2]]
            exact lv_sub hl [1, 2, 3, 0] rfl
          exact ih k ls _ _ (by omega) (by omega) (by omega) hU hl
        · refine lv_aload_n hx hb dX2_lastKnown_21 rfl (lv_at hl 3 rfl) ?_
          exact um_aret (r := (some (la k))) hx hb hr (Or.inl ⟨_, rfl⟩) hlocks hK hJ hU dX2_lastKnown_22 ⟨by rw [xs_ll_mid ho (by omega) (by omega)]; rfl, rfl⟩
  refine lv_aload_n hx hb dX2_lastKnown_0 rfl (lv_at hl 0 rfl) ?_
  refine um_get (v := .ref (xd 15)) hx hb htg inX2 hown hK hU h.c14 rfl 0 (by decide) (htg _ tg_60) rfl dX2_lastKnown_1 ?_
  refine lv_iload_n hx hb dX2_lastKnown_4 rfl (lv_at hl 1 rfl) ?_
  refine um_ald (C := RX1) (r := (xs_ll q p (q 0 0)).map la) hx hb hK hU 3 h.c15 rfl p rfl (by omega) (by decide) rfl dX2_lastKnown_5 ?_
  refine um_astore_nQ (lv' := [(3, va_rf ((xs_ll q p (q 0 0)).map la)), (0, .ref (xd 14)), (1, .int (nI (p))), (2, .ref (xd (4 + d)))]) hx hb dX2_lastKnown_6 rfl hl (by decide) rfl (fun ls hl => ?_)
  have hl : lv_has ls 4 [(0, .ref (xd 14)), (1, .int (nI (p))), (2, .ref (xd (4 + d))), (3, va_rf ((xs_ll q p (q 0 0)).map la))] := lv_sub hl [1, 2, 3, 0] rfl
  exact L1 (q 0 0 + 1) (q 0 0) ls _ _ (by omega) (by omega) (by omega) hU hl

set_option maxRecDepth 100000 in
set_option maxHeartbeats 4000000 in
theorem xl_numberOf (l : Launch) (D : va_G) (κ : Nat → ClassId) (τ : Nat → Nat) (A : Nat → Prop) (σ : um_M) (xd la ma va : Nat → Nat) (q : tb_Q) (sc : xs_S) (h : xs_at κ σ xd la ma va q sc) (hq : tb_sm q) (d p : Nat) (hd : d < 5) (hp : p < 6) (hk : q 7 (5 * d + 0) ≤ q 0 0) : Met l yX2_numberOf wsX2_numberOf ({ frames := 1, cells := 0, slots := 0, locals := 23 }) (va_Pc [.ref (xd 14), .int (nI (p)), .ref (xd (4 + d))] (um_U D κ τ A σ)) (va_Qi (fun (r9 : Int32) (σ' : um_M) => r9 = nI (xs_no q d p) ∧ σ' = σ) (um_U D κ τ A) A) 0 0 A := by
  refine um_met (cc := cX2_numberOf) (maxL := 4) (ret := (some .int)) (by decide) rfl rfl ?_
  intro pp ee s mm args below meth cd ls hx hb hr hts hown hlocks hml hnm hK hJ hU hl
  have hown : s.vm.findClass RX2 = some mm.cls := hown
  have htg : ∀ w ∈ lw_g, w.before args s = true := fun w h => hts w (List.mem_cons_of_mem _ h)
  have hl : lv_has ls 4 [(0, .ref (xd 14)), (1, .int (nI (p))), (2, .ref (xd (4 + d)))] := hl
  refine lv_aload_n hx hb dX2_numberOf_0 rfl (lv_at hl 0 rfl) ?_
  refine lv_iload_n hx hb dX2_numberOf_1 rfl (lv_at hl 1 rfl) ?_
  refine lv_aload_n hx hb dX2_numberOf_2 rfl (lv_at hl 2 rfl) ?_
  refine um_callPq (va_runV (As := [.int (nI (p)), .ref (xd (4 + d))]) (rest := []) ⟨hx, hb, hml, hown, htg⟩ (xl_lastKnown l D κ τ A σ xd la ma va q sc h hq d p (by omega) (by omega) hk) (cwV 2 htg (lw_cV tg_281 tg_282 tg_283 tg_3 tg_284) rfl rfl rfl (by decide +kernel) ⟨Nat.le_of_ble_eq_true rfl, Nat.le_of_ble_eq_true rfl⟩) (um_preV hU hK hJ h.c14 rfl) rfl rfl hl.1 rfl (lv_room (Nat.le_of_ble_eq_true rfl)) dX2_numberOf_3 ⟨Nat.le_of_ble_eq_true rfl, Nat.le_of_ble_eq_true rfl⟩) hU (fun H locs hU => ?_)
  refine um_astore_nQ (lv' := [(3, va_rf ((xs_ll q p (q 7 (5 * d + 0))).map la)), (0, .ref (xd 14)), (1, .int (nI (p))), (2, .ref (xd (4 + d)))]) hx hb dX2_numberOf_6 rfl hl (by decide) rfl (fun ls hl => ?_)
  cases ho : xs_ll q p (q 7 (5 * d + 0)) with
  | none =>
    rw [ho] at hl
    have hl : lv_has ls 4 [(3, .null), (0, .ref (xd 14)), (1, .int (nI (p))), (2, .ref (xd (4 + d)))] := hl
    refine lv_aload_nN hx hb dX2_numberOf_7 rfl (lv_at hl 0 rfl) ?_
    refine lv_ifnonnullN hx hb dX2_numberOf_8 ?_
    refine lv_iconst (v := nI 0) hx hb dX2_numberOf_11 (by decide +kernel) ?_
    refine lv_goto (tgt := 19) hx hb dX2_numberOf_12 (by decide) ?_
    exact um_iret hx hb hr hlocks hK hJ hU dX2_numberOf_19 ⟨congrArg nI (by simp only [xs_no, ho]), rfl⟩
  | some k =>
    rw [ho] at hl
    have hl : lv_has ls 4 [(3, .ref (la k)), (0, .ref (xd 14)), (1, .int (nI (p))), (2, .ref (xd (4 + d)))] := hl
    have hk3 := xs_ll_some ho
    have hL : xs_isL q k := ⟨by omega, hk3.2.1⟩
    refine lv_aload_n hx hb dX2_numberOf_7 rfl (lv_at hl 0 rfl) ?_
    refine lv_ifnonnull (tgt := 15) hx hb dX2_numberOf_8 (by decide) ?_
    refine lv_aload_n hx hb dX2_numberOf_15 rfl (lv_at hl 0 rfl) ?_
    refine um_get (v := .int (nI (q 5 k))) hx hb htg inX1 hown hK hU (show um_h σ (la k) (.inr (1, _)) from h.2.2.1 k hL) rfl 0 (by decide) (htg _ tg_328) rfl dX2_numberOf_16 ?_
    exact um_iret hx hb hr hlocks hK hJ hU dX2_numberOf_19 ⟨congrArg nI (by simp only [xs_no, ho]), rfl⟩

set_option maxRecDepth 100000 in
set_option maxHeartbeats 4000000 in
theorem xl_holderOf (l : Launch) (D : va_G) (κ : Nat → ClassId) (τ : Nat → Nat) (A : Nat → Prop) (σ : um_M) (xd la ma va : Nat → Nat) (q : tb_Q) (sc : xs_S) (h : xs_at κ σ xd la ma va q sc) (hq : tb_sm q) (d p : Nat) (hd : d < 5) (hp : p < 6) (hk : q 7 (5 * d + 0) ≤ q 0 0) (ht9 : ∀ k, xs_isL q k → q 4 k < 5) : Met l yX2_holderOf wsX2_holderOf ({ frames := 1, cells := 0, slots := 0, locals := 23 }) (va_Pc [.ref (xd 14), .int (nI (p)), .ref (xd (4 + d))] (um_U D κ τ A σ)) (va_Qi (fun (r9 : Int32) (σ' : um_M) => r9 = tb_m1 (xs_ho q d p) ∧ σ' = σ) (um_U D κ τ A) A) 0 0 A := by
  refine um_met (cc := cX2_holderOf) (maxL := 5) (ret := (some .int)) (by decide) rfl rfl ?_
  intro pp ee s mm args below meth cd ls hx hb hr hts hown hlocks hml hnm hK hJ hU hl
  have hown : s.vm.findClass RX2 = some mm.cls := hown
  have htg : ∀ w ∈ lw_g, w.before args s = true := fun w h => hts w (List.mem_cons_of_mem _ h)
  have hl : lv_has ls 5 [(0, .ref (xd 14)), (1, .int (nI (p))), (2, .ref (xd (4 + d)))] := hl
  refine lv_aload_n hx hb dX2_holderOf_0 rfl (lv_at hl 0 rfl) ?_
  refine lv_iload_n hx hb dX2_holderOf_1 rfl (lv_at hl 1 rfl) ?_
  refine lv_aload_n hx hb dX2_holderOf_2 rfl (lv_at hl 2 rfl) ?_
  refine um_callPq (va_runV (As := [.int (nI (p)), .ref (xd (4 + d))]) (rest := []) ⟨hx, hb, hml, hown, htg⟩ (xl_lastKnown l D κ τ A σ xd la ma va q sc h hq d p (by omega) (by omega) hk) (cwV 2 htg (lw_cV tg_281 tg_282 tg_283 tg_3 tg_284) rfl rfl rfl (by decide +kernel) ⟨Nat.le_of_ble_eq_true rfl, Nat.le_of_ble_eq_true rfl⟩) (um_preV hU hK hJ h.c14 rfl) rfl rfl hl.1 rfl (lv_room (Nat.le_of_ble_eq_true rfl)) dX2_holderOf_3 ⟨Nat.le_of_ble_eq_true rfl, Nat.le_of_ble_eq_true rfl⟩) hU (fun H locs hU => ?_)
  refine um_astore_nQ (lv' := [(3, va_rf ((xs_ll q p (q 7 (5 * d + 0))).map la)), (0, .ref (xd 14)), (1, .int (nI (p))), (2, .ref (xd (4 + d)))]) hx hb dX2_holderOf_6 rfl hl (by decide) rfl (fun ls hl => ?_)
  cases ho : xs_ll q p (q 7 (5 * d + 0)) with
  | none =>
    rw [ho] at hl
    have hl : lv_has ls 5 [(3, .null), (0, .ref (xd 14)), (1, .int (nI (p))), (2, .ref (xd (4 + d)))] := hl
    refine lv_aload_nN hx hb dX2_holderOf_7 rfl (lv_at hl 0 rfl) ?_
    refine lv_ifnonnullN hx hb dX2_holderOf_8 ?_
    refine lv_iconst (v := -1) hx hb dX2_holderOf_11 (by decide +kernel) ?_
    exact um_iret hx hb hr hlocks hK hJ hU dX2_holderOf_12 ⟨by rw [show (xs_ho q d p) = 0 from by simp only [xs_ho, ho]]; exact tb_m1_0.symm, rfl⟩
  | some k =>
    rw [ho] at hl
    have hl : lv_has ls 5 [(3, .ref (la k)), (0, .ref (xd 14)), (1, .int (nI (p))), (2, .ref (xd (4 + d)))] := hl
    have hk3 := xs_ll_some ho
    have hL : xs_isL q k := ⟨by omega, hk3.2.1⟩
    refine lv_aload_n hx hb dX2_holderOf_7 rfl (lv_at hl 0 rfl) ?_
    refine lv_ifnonnull (tgt := 13) hx hb dX2_holderOf_8 (by decide) ?_
    refine lv_aload_n hx hb dX2_holderOf_13 rfl (lv_at hl 0 rfl) ?_
    refine um_get (v := .int (nI (xs_bk q (q 4 k) (q 2 k) (q 5 k) (q 0 (q 4 k))))) hx hb htg inX1 hown hK hU (show um_h σ (la k) (.inr (1, _)) from h.2.2.1 k hL) rfl 4 (by decide) (htg _ tg_335) rfl dX2_holderOf_14 ?_
    refine um_eq0N (tgt := 37) hx hb dX2_holderOf_17 (by decide) (xs_bk_lt hq _ _ _ _) (fun c1 => ?_) (fun c1 => ?_)
    · refine lv_iconst (v := nI 0) hx hb dX2_holderOf_37 (by decide +kernel) ?_
      refine lv_istore (lv' := [(4, .int (nI (0))), (3, .ref (la k)), (0, .ref (xd 14)), (1, .int (nI (p))), (2, .ref (xd (4 + d)))]) hx hb dX2_holderOf_38 hl (by decide) rfl (fun ls hl => ?_)
      refine lv_iload hx hb dX2_holderOf_40 (lv_at hl 0 rfl) ?_
      refine lv_if_eq (tgt := 49) hx hb dX2_holderOf_42 (by decide) (fun _ => ?_) (fun h => absurd (by decide +kernel) h)
      refine lv_aload_n hx hb dX2_holderOf_49 rfl (lv_at hl 1 rfl) ?_
      refine um_get (v := .int (nI (q 4 k))) hx hb htg inX1 hown hK hU (show um_h σ (la k) (.inr (1, _)) from h.2.2.1 k hL) rfl 2 (by decide) (htg _ tg_332) rfl dX2_holderOf_50 ?_
      exact um_iret hx hb hr hlocks hK hJ hU dX2_holderOf_53 ⟨by rw [show (xs_ho q d p) = (q 4 k) + 1 from by simp only [xs_ho, ho]; simp [c1]]; exact (tb_m1_s _).symm, rfl⟩
    · refine lv_aload_n hx hb dX2_holderOf_20 rfl (lv_at hl 0 rfl) ?_
      refine um_get (v := .int (nI (xs_bk q (q 4 k) (q 2 k) (q 5 k) (q 0 (q 4 k))))) hx hb htg inX1 hown hK hU (show um_h σ (la k) (.inr (1, _)) from h.2.2.1 k hL) rfl 4 (by decide) (htg _ tg_335) rfl dX2_holderOf_21 ?_
      refine lv_aload_n hx hb dX2_holderOf_24 rfl (lv_at hl 3 rfl) ?_
      refine lv_aload_n hx hb dX2_holderOf_25 rfl (lv_at hl 0 rfl) ?_
      refine um_get (v := .int (nI (q 4 k))) hx hb htg inX1 hown hK hU (show um_h σ (la k) (.inr (1, _)) from h.2.2.1 k hL) rfl 2 (by decide) (htg _ tg_332) rfl dX2_holderOf_26 ?_
      refine xs_ildR (r := 7) (d := d) hx hb hK hU (h.row (by omega)) (q 4 k) (ht9 k hL) dX2_holderOf_29 ?_
      refine um_gtN (tgt := 37) hx hb dX2_holderOf_30 (by decide) (xs_bk_lt hq _ _ _ _) (tb_sm_lt hq 7 _) (fun c2 => ?_) (fun c2 => ?_)
      · refine lv_iconst (v := nI 0) hx hb dX2_holderOf_37 (by decide +kernel) ?_
        refine lv_istore (lv' := [(4, .int (nI (0))), (3, .ref (la k)), (0, .ref (xd 14)), (1, .int (nI (p))), (2, .ref (xd (4 + d)))]) hx hb dX2_holderOf_38 hl (by decide) rfl (fun ls hl => ?_)
        refine lv_iload hx hb dX2_holderOf_40 (lv_at hl 0 rfl) ?_
        refine lv_if_eq (tgt := 49) hx hb dX2_holderOf_42 (by decide) (fun _ => ?_) (fun h => absurd (by decide +kernel) h)
        refine lv_aload_n hx hb dX2_holderOf_49 rfl (lv_at hl 1 rfl) ?_
        refine um_get (v := .int (nI (q 4 k))) hx hb htg inX1 hown hK hU (show um_h σ (la k) (.inr (1, _)) from h.2.2.1 k hL) rfl 2 (by decide) (htg _ tg_332) rfl dX2_holderOf_50 ?_
        exact um_iret hx hb hr hlocks hK hJ hU dX2_holderOf_53 ⟨by rw [show (xs_ho q d p) = (q 4 k) + 1 from by simp only [xs_ho, ho]; simp [c1, c2]]; exact (tb_m1_s _).symm, rfl⟩
      · refine lv_iconst (v := nI 1) hx hb dX2_holderOf_33 (by decide +kernel) ?_
        refine lv_goto (tgt := 38) hx hb dX2_holderOf_34 (by decide) ?_
        refine lv_istore (lv' := [(4, .int (nI (1))), (3, .ref (la k)), (0, .ref (xd 14)), (1, .int (nI (p))), (2, .ref (xd (4 + d)))]) hx hb dX2_holderOf_38 hl (by decide) rfl (fun ls hl => ?_)
        refine lv_iload hx hb dX2_holderOf_40 (lv_at hl 0 rfl) ?_
        refine lv_if_eq (tgt := 49) hx hb dX2_holderOf_42 (by decide) (fun h => absurd h (by decide +kernel)) (fun _ => ?_)
        refine lv_iconst (v := -1) hx hb dX2_holderOf_45 (by decide +kernel) ?_
        refine lv_goto (tgt := 53) hx hb dX2_holderOf_46 (by decide) ?_
        exact um_iret hx hb hr hlocks hK hJ hU dX2_holderOf_53 ⟨by rw [show (xs_ho q d p) = 0 from by simp only [xs_ho, ho]; simp [c1, c2]]; exact tb_m1_0.symm, rfl⟩

set_option maxRecDepth 100000 in
set_option maxHeartbeats 4000000 in
theorem xf_isBelow (l : Launch) (D : va_G) (κ : Nat → ClassId) (τ : Nat → Nat) (A : Nat → Prop) (σ : um_M)  (x : Int32) (n : Nat) (h0 : 0 < n) (hn : n < 2147483648) : Met l yX8_isBelow wsX8_isBelow ({ frames := 0, cells := 0, slots := 0, locals := 0 }) (va_Pc [.int (x), .int (nI (n))] (um_U D κ τ A σ)) (va_Qi (fun (r9 : Int32) (σ' : um_M) => r9 = um_b (tb_in x (nI 0) (nI (n - 1))) ∧ σ' = σ) (um_U D κ τ A) A) 0 0 A := by
  refine um_met (cc := cX8_isBelow) (maxL := 2) (ret := (some .boolean)) (by decide) rfl rfl ?_
  intro pp ee s mm args below meth cd ls hx hb hr hts hown hlocks hml hnm hK hJ hU hl
  have hown : s.vm.findClass RX8 = some mm.cls := hown
  have htg : ∀ w ∈ lw_g, w.before args s = true := fun w h => hts w (List.mem_cons_of_mem _ h)
  have hl : lv_has ls 2 [(0, .int (x)), (1, .int (nI (n)))] := hl
  refine lv_iload_n hx hb dX8_isBelow_0 rfl (lv_at hl 0 rfl) ?_
  refine lv_if_lt (tgt := 13) hx hb dX8_isBelow_1 (by decide) (fun c1 => ?_) (fun c1 => ?_)
  · refine lv_iconst (v := nI 0) hx hb dX8_isBelow_13 (by decide +kernel) ?_
    exact um_zret hx hb hr hlocks hK hJ hU dX8_isBelow_14 false rfl ⟨congrArg um_b (by rw [tb_bl_eq h0 hn]; simp [c1]), rfl⟩
  · refine lv_iload_n hx hb dX8_isBelow_4 rfl (lv_at hl 0 rfl) ?_
    refine lv_iload_n hx hb dX8_isBelow_5 rfl (lv_at hl 1 rfl) ?_
    refine lv_icmp_ge (tgt := 13) hx hb dX8_isBelow_6 (by decide) (fun c2 => ?_) (fun c2 => ?_)
    · refine lv_iconst (v := nI 0) hx hb dX8_isBelow_13 (by decide +kernel) ?_
      exact um_zret hx hb hr hlocks hK hJ hU dX8_isBelow_14 false rfl ⟨congrArg um_b (by rw [tb_bl_eq h0 hn]; simp [c1, c2]), rfl⟩
    · refine lv_iconst (v := nI 1) hx hb dX8_isBelow_9 (by decide +kernel) ?_
      refine lv_goto (tgt := 14) hx hb dX8_isBelow_10 (by decide) ?_
      exact um_zret hx hb hr hlocks hK hJ hU dX8_isBelow_14 true rfl ⟨congrArg um_b (by rw [tb_bl_eq h0 hn]; simp [c1, c2]), rfl⟩

set_option maxRecDepth 100000 in
set_option maxHeartbeats 4000000 in
theorem xf_isTablet (l : Launch) (D : va_G) (κ : Nat → ClassId) (τ : Nat → Nat) (A : Nat → Prop) (σ : um_M)  (x : Int32) : Met l yX8_isTablet wsX8_isTablet ({ frames := 1, cells := 0, slots := 0, locals := 21 }) (va_Pc [.int (x)] (um_U D κ τ A σ)) (va_Qi (fun (r9 : Int32) (σ' : um_M) => r9 = um_b (tb_in x (nI 1) (nI 4)) ∧ σ' = σ) (um_U D κ τ A) A) 0 0 A := by
  refine um_met (cc := cX8_isTablet) (maxL := 1) (ret := (some .boolean)) (by decide) rfl rfl ?_
  intro pp ee s mm args below meth cd ls hx hb hr hts hown hlocks hml hnm hK hJ hU hl
  have hown : s.vm.findClass RX8 = some mm.cls := hown
  have htg : ∀ w ∈ lw_g, w.before args s = true := fun w h => hts w (List.mem_cons_of_mem _ h)
  have hl : lv_has ls 1 [(0, .int (x))] := hl
  refine lv_iload_n hx hb dX8_isTablet_0 rfl (lv_at hl 0 rfl) ?_
  refine lv_if_eq (tgt := 16) hx hb dX8_isTablet_1 (by decide) (fun c1 => ?_) (fun c1 => ?_)
  · refine lv_iconst (v := nI 0) hx hb dX8_isTablet_16 (by decide +kernel) ?_
    exact um_zret hx hb hr hlocks hK hJ hU dX8_isTablet_17 false rfl ⟨congrArg um_b (by rw [tb_tb_eq]; simp [c1]), rfl⟩
  · refine lv_iload_n hx hb dX8_isTablet_4 rfl (lv_at hl 0 rfl) ?_
    refine lv_iconst (v := nI 5) hx hb dX8_isTablet_5 (by decide +kernel) ?_
    refine um_callP (va_runS (As := [.int (x), .int (nI (5))]) (rest := []) ⟨hx, hb, hml, hown, htg⟩ (xf_isBelow l D κ τ A σ x 5 (by decide) (by decide)) (cwS 2 htg (lw_cS tg_190 tg_191 tg_1 tg_192) rfl rfl rfl (by decide +kernel) ⟨Nat.le_of_ble_eq_true rfl, Nat.le_of_ble_eq_true rfl⟩) (um_preS hU hK hJ) rfl rfl hl.1 rfl (lv_room (Nat.le_of_ble_eq_true rfl)) dX8_isTablet_6 ⟨Nat.le_of_ble_eq_true rfl, Nat.le_of_ble_eq_true rfl⟩) hU (fun H locs hU => ?_)
    refine um_eqB (tgt := 16) hx hb dX8_isTablet_9 (by decide) (fun c2 => ?_) (fun c2 => ?_)
    · refine lv_iconst (v := nI 0) hx hb dX8_isTablet_16 (by decide +kernel) ?_
      exact um_zret hx hb hr hlocks hK hJ hU dX8_isTablet_17 false rfl ⟨congrArg um_b (by rw [tb_tb_eq]; simp [c1, c2]), rfl⟩
    · refine lv_iconst (v := nI 1) hx hb dX8_isTablet_12 (by decide +kernel) ?_
      refine lv_goto (tgt := 17) hx hb dX8_isTablet_13 (by decide) ?_
      exact um_zret hx hb hr hlocks hK hJ hU dX8_isTablet_17 true rfl ⟨congrArg um_b (by rw [tb_tb_eq]; simp [c1, c2]), rfl⟩

set_option maxRecDepth 100000 in
set_option maxHeartbeats 4000000 in
theorem xf_isField (l : Launch) (D : va_G) (κ : Nat → ClassId) (τ : Nat → Nat) (A : Nat → Prop) (σ : um_M)  (x1 x2 x3 : Int32) : Met l yX8_isField wsX8_isField ({ frames := 1, cells := 0, slots := 0, locals := 21 }) (va_Pc [.int (x1), .int (x2), .int (x3)] (um_U D κ τ A σ)) (va_Qi (fun (r9 : Int32) (σ' : um_M) => r9 = um_b (tb_fd x1 x2 x3) ∧ σ' = σ) (um_U D κ τ A) A) 0 0 A := by
  refine um_met (cc := cX8_isField) (maxL := 3) (ret := (some .boolean)) (by decide) rfl rfl ?_
  intro pp ee s mm args below meth cd ls hx hb hr hts hown hlocks hml hnm hK hJ hU hl
  have hown : s.vm.findClass RX8 = some mm.cls := hown
  have htg : ∀ w ∈ lw_g, w.before args s = true := fun w h => hts w (List.mem_cons_of_mem _ h)
  have hl : lv_has ls 3 [(0, .int (x1)), (1, .int (x2)), (2, .int (x3))] := hl
  refine lv_iload_n hx hb dX8_isField_0 rfl (lv_at hl 0 rfl) ?_
  refine lv_bipush (v := nI 6) hx hb dX8_isField_1 (by decide +kernel) ?_
  refine um_callP (va_runS (As := [.int (x1), .int (nI (6))]) (rest := []) ⟨hx, hb, hml, hown, htg⟩ (xf_isBelow l D κ τ A σ x1 6 (by decide) (by decide)) (cwS 2 htg (lw_cS tg_190 tg_191 tg_1 tg_192) rfl rfl rfl (by decide +kernel) ⟨Nat.le_of_ble_eq_true rfl, Nat.le_of_ble_eq_true rfl⟩) (um_preS hU hK hJ) rfl rfl hl.1 rfl (lv_room (Nat.le_of_ble_eq_true rfl)) dX8_isField_3 ⟨Nat.le_of_ble_eq_true rfl, Nat.le_of_ble_eq_true rfl⟩) hU (fun H locs hU => ?_)
  refine um_eqB (tgt := 29) hx hb dX8_isField_6 (by decide) (fun c1 => ?_) (fun c1 => ?_)
  · refine lv_iconst (v := nI 0) hx hb dX8_isField_29 (by decide +kernel) ?_
    exact um_zret hx hb hr hlocks hK hJ hU dX8_isField_30 false rfl ⟨congrArg um_b (by simp [tb_fd, c1]), rfl⟩
  · refine lv_iload_n hx hb dX8_isField_9 rfl (lv_at hl 1 rfl) ?_
    refine lv_iconst (v := nI 4) hx hb dX8_isField_10 (by decide +kernel) ?_
    refine um_callP (va_runS (As := [.int (x2), .int (nI (4))]) (rest := []) ⟨hx, hb, hml, hown, htg⟩ (xf_isBelow l D κ τ A σ x2 4 (by decide) (by decide)) (cwS 2 htg (lw_cS tg_190 tg_191 tg_1 tg_192) rfl rfl rfl (by decide +kernel) ⟨Nat.le_of_ble_eq_true rfl, Nat.le_of_ble_eq_true rfl⟩) (um_preS hU hK hJ) rfl rfl hl.1 rfl (lv_room (Nat.le_of_ble_eq_true rfl)) dX8_isField_11 ⟨Nat.le_of_ble_eq_true rfl, Nat.le_of_ble_eq_true rfl⟩) hU (fun H locs hU => ?_)
    refine um_eqB (tgt := 29) hx hb dX8_isField_14 (by decide) (fun c2 => ?_) (fun c2 => ?_)
    · refine lv_iconst (v := nI 0) hx hb dX8_isField_29 (by decide +kernel) ?_
      exact um_zret hx hb hr hlocks hK hJ hU dX8_isField_30 false rfl ⟨congrArg um_b (by simp [tb_fd, c1, c2]), rfl⟩
    · refine lv_iload_n hx hb dX8_isField_17 rfl (lv_at hl 2 rfl) ?_
      refine lv_iconst (v := nI 3) hx hb dX8_isField_18 (by decide +kernel) ?_
      refine um_callP (va_runS (As := [.int (x3), .int (nI (3))]) (rest := []) ⟨hx, hb, hml, hown, htg⟩ (xf_isBelow l D κ τ A σ x3 3 (by decide) (by decide)) (cwS 2 htg (lw_cS tg_190 tg_191 tg_1 tg_192) rfl rfl rfl (by decide +kernel) ⟨Nat.le_of_ble_eq_true rfl, Nat.le_of_ble_eq_true rfl⟩) (um_preS hU hK hJ) rfl rfl hl.1 rfl (lv_room (Nat.le_of_ble_eq_true rfl)) dX8_isField_19 ⟨Nat.le_of_ble_eq_true rfl, Nat.le_of_ble_eq_true rfl⟩) hU (fun H locs hU => ?_)
      refine um_eqB (tgt := 29) hx hb dX8_isField_22 (by decide) (fun c3 => ?_) (fun c3 => ?_)
      · refine lv_iconst (v := nI 0) hx hb dX8_isField_29 (by decide +kernel) ?_
        exact um_zret hx hb hr hlocks hK hJ hU dX8_isField_30 false rfl ⟨congrArg um_b (by simp [tb_fd, c1, c2, c3]), rfl⟩
      · refine lv_iconst (v := nI 1) hx hb dX8_isField_25 (by decide +kernel) ?_
        refine lv_goto (tgt := 30) hx hb dX8_isField_26 (by decide) ?_
        exact um_zret hx hb hr hlocks hK hJ hU dX8_isField_30 true rfl ⟨congrArg um_b (by simp [tb_fd, c1, c2, c3]), rfl⟩

set_option maxRecDepth 100000 in
set_option maxHeartbeats 4000000 in
theorem xf_fieldAllows (l : Launch) (D : va_G) (κ : Nat → ClassId) (τ : Nat → Nat) (A : Nat → Prop) (σ : um_M)  (f : Nat) (v : Int32) (hf : f < 3) : Met l yX8_fieldAllows wsX8_fieldAllows ({ frames := 0, cells := 0, slots := 0, locals := 0 }) (va_Pc [.int (nI (f)), .int (v)] (um_U D κ τ A σ)) (va_Qi (fun (r9 : Int32) (σ' : um_M) => r9 = um_b (tb_isVx (nI f) v) ∧ σ' = σ) (um_U D κ τ A) A) 0 0 A := by
  refine um_met (cc := cX8_fieldAllows) (maxL := 2) (ret := (some .boolean)) (by decide) rfl rfl ?_
  intro pp ee s mm args below meth cd ls hx hb hr hts hown hlocks hml hnm hK hJ hU hl
  have hown : s.vm.findClass RX8 = some mm.cls := hown
  have htg : ∀ w ∈ lw_g, w.before args s = true := fun w h => hts w (List.mem_cons_of_mem _ h)
  have hl : lv_has ls 2 [(0, .int (nI (f))), (1, .int (v))] := hl
  obtain ⟨a9, ha9⟩ := um_least_ex f
  obtain ⟨b9, hb9⟩ := um_great_ex f
  refine lv_iload_n hx hb dX8_fieldAllows_0 rfl (lv_at hl 1 rfl) ?_
  refine va_gets hx hb hJ.1.1 hU.2.2.1 hown (htg _ tg_369) (fun _ h => h) dX8_fieldAllows_1 ?_
  refine lv_iload_n hx hb dX8_fieldAllows_4 rfl (lv_at hl 0 rfl) ?_
  refine va_ti (v := .int a9) hx hb hJ.1.2 hU.2.2.1 (vp_in_nI hf (by decide)) (by rw [nI_clamp (by omega)]; exact ha9) dX8_fieldAllows_5 ?_
  refine lv_icmp_lt (tgt := 22) hx hb dX8_fieldAllows_6 (by decide) (fun c1 => ?_) (fun c1 => ?_)
  · refine lv_iconst (v := nI 0) hx hb dX8_fieldAllows_22 (by decide +kernel) ?_
    exact um_zret hx hb hr hlocks hK hJ hU dX8_fieldAllows_23 false rfl ⟨congrArg um_b (by rw [tb_vl_eq hf a9 b9 ha9 hb9]; simp [c1]), rfl⟩
  · refine lv_iload_n hx hb dX8_fieldAllows_9 rfl (lv_at hl 1 rfl) ?_
    refine va_gets hx hb hJ.2.1.1 hU.2.2.1 hown (htg _ tg_371) (fun _ h => h) dX8_fieldAllows_10 ?_
    refine lv_iload_n hx hb dX8_fieldAllows_13 rfl (lv_at hl 0 rfl) ?_
    refine va_ti (v := .int b9) hx hb hJ.2.1.2 hU.2.2.1 (vp_in_nI hf (by decide)) (by rw [nI_clamp (by omega)]; exact hb9) dX8_fieldAllows_14 ?_
    refine lv_icmp_gt (tgt := 22) hx hb dX8_fieldAllows_15 (by decide) (fun c2 => ?_) (fun c2 => ?_)
    · refine lv_iconst (v := nI 0) hx hb dX8_fieldAllows_22 (by decide +kernel) ?_
      exact um_zret hx hb hr hlocks hK hJ hU dX8_fieldAllows_23 false rfl ⟨congrArg um_b (by rw [tb_vl_eq hf a9 b9 ha9 hb9]; simp [c1, c2]), rfl⟩
    · refine lv_iconst (v := nI 1) hx hb dX8_fieldAllows_18 (by decide +kernel) ?_
      refine lv_goto (tgt := 23) hx hb dX8_fieldAllows_19 (by decide) ?_
      exact um_zret hx hb hr hlocks hK hJ hU dX8_fieldAllows_23 true rfl ⟨congrArg um_b (by rw [tb_vl_eq hf a9 b9 ha9 hb9]; simp [c1, c2]), rfl⟩

set_option maxRecDepth 100000 in
set_option maxHeartbeats 4000000 in
theorem xf_spotOf (l : Launch) (D : va_G) (κ : Nat → ClassId) (τ : Nat → Nat) (A : Nat → Prop) (σ : um_M)  (p t f : Nat) : Met l yX8_spotOf wsX8_spotOf ({ frames := 0, cells := 0, slots := 0, locals := 0 }) (va_Pc [.int (nI (p)), .int (nI (t)), .int (nI (f))] (um_U D κ τ A σ)) (va_Qi (fun (r9 : Int32) (σ' : um_M) => r9 = nI ((p * 4 + t) * 3 + f) ∧ σ' = σ) (um_U D κ τ A) A) 0 0 A := by
  refine um_met (cc := cX8_spotOf) (maxL := 3) (ret := (some .int)) (by decide) rfl rfl ?_
  intro pp ee s mm args below meth cd ls hx hb hr hts hown hlocks hml hnm hK hJ hU hl
  have hown : s.vm.findClass RX8 = some mm.cls := hown
  have htg : ∀ w ∈ lw_g, w.before args s = true := fun w h => hts w (List.mem_cons_of_mem _ h)
  have hl : lv_has ls 3 [(0, .int (nI (p))), (1, .int (nI (t))), (2, .int (nI (f)))] := hl
  refine lv_iload_n hx hb dX8_spotOf_0 rfl (lv_at hl 0 rfl) ?_
  refine lv_iconst (v := nI 4) hx hb dX8_spotOf_1 (by decide +kernel) ?_
  refine um_mulN hx hb dX8_spotOf_2 ?_
  refine lv_iload_n hx hb dX8_spotOf_3 rfl (lv_at hl 1 rfl) ?_
  refine um_addN hx hb dX8_spotOf_4 ?_
  refine lv_iconst (v := nI 3) hx hb dX8_spotOf_5 (by decide +kernel) ?_
  refine um_mulN hx hb dX8_spotOf_6 ?_
  refine lv_iload_n hx hb dX8_spotOf_7 rfl (lv_at hl 2 rfl) ?_
  refine um_addN hx hb dX8_spotOf_8 ?_
  exact um_iret hx hb hr hlocks hK hJ hU dX8_spotOf_9 ⟨congrArg nI (by rfl), rfl⟩

set_option maxRecDepth 100000 in
set_option maxHeartbeats 4000000 in
theorem xt_volumeOf (l : Launch) (D : va_G) (κ : Nat → ClassId) (τ : Nat → Nat) (A : Nat → Prop) (σ : um_M) (xd la ma va : Nat → Nat) (q : tb_Q) (sc : xs_S) (h : xs_at κ σ xd la ma va q sc) (k : Nat) (dv hv : Int64) (hk : k < 4) : Met l yX7_volumeOf wsX7_volumeOf ({ frames := 0, cells := 0, slots := 0, locals := 0 }) (va_Pc [.ref (xd 21), .int (nI (k)), .long (dv), .long (hv)] (um_U D κ τ A σ)) (va_Ql (fun (r9 : Int64) (σ' : um_M) => r9 = tb_vol dv hv (nI (q 9 k)).toInt64 ∧ σ' = σ) (um_U D κ τ A) A) 0 0 A := by
  refine um_met (cc := cX7_volumeOf) (maxL := 6) (ret := (some .long)) (by decide) rfl rfl ?_
  intro pp ee s mm args below meth cd ls hx hb hr hts hown hlocks hml hnm hK hJ hU hl
  have hown : s.vm.findClass RX7 = some mm.cls := hown
  have htg : ∀ w ∈ lw_g, w.before args s = true := fun w h => hts w (List.mem_cons_of_mem _ h)
  have hl : lv_has ls 6 [(0, .ref (xd 21)), (1, .int (nI (k))), (2, .long (dv)), (4, .long (hv))] := hl
  refine lv_lload_n hx hb dX7_volumeOf_0 rfl (lv_at hl 2 rfl) ?_
  refine lv_lload_n hx hb dX7_volumeOf_1 rfl (lv_at hl 2 rfl) ?_
  refine lv_lmul hx hb dX7_volumeOf_2 ?_
  refine lv_lload hx hb dX7_volumeOf_3 (lv_at hl 3 rfl) ?_
  refine lv_lmul hx hb dX7_volumeOf_5 ?_
  refine lv_aload_n hx hb dX7_volumeOf_6 rfl (lv_at hl 0 rfl) ?_
  refine um_get (v := .ref (xd 22)) hx hb htg inX7 hown hK hU h.c21 rfl 0 (by decide) (htg _ tg_97) rfl dX7_volumeOf_7 ?_
  refine lv_iload_n hx hb dX7_volumeOf_10 rfl (lv_at hl 1 rfl) ?_
  refine um_ild (v := nI (q 9 k)) hx hb hK hU 0 h.c22 rfl k rfl (by omega) (by decide) rfl dX7_volumeOf_11 ?_
  refine lv_i2l hx hb dX7_volumeOf_12 rfl ?_
  refine lv_lmul hx hb dX7_volumeOf_13 ?_
  refine lv_ldc2 (v := 100000) hx hb hown (htg _ tg_601) dX7_volumeOf_14 ?_
  refine lv_ldiv hx hb dX7_volumeOf_17 (by decide) ?_
  exact um_lret hx hb hr hlocks hK hJ hU dX7_volumeOf_18 ⟨by rfl, rfl⟩

set_option maxRecDepth 100000 in
set_option maxHeartbeats 4000000 in
theorem xt_isImplausible (l : Launch) (D : va_G) (κ : Nat → ClassId) (τ : Nat → Nat) (A : Nat → Prop) (σ : um_M) (xd la ma va : Nat → Nat) (q : tb_Q) (sc : xs_S) (h : xs_at κ σ xd la ma va q sc) (hq : tb_sm q) (k dv hv : Nat) (hk : k < 4) (hdv : dv ≤ 2000) (hhv : hv ≤ 2000) : Met l yX7_isImplausible wsX7_isImplausible ({ frames := 0, cells := 0, slots := 0, locals := 0 }) (va_Pc [.ref (xd 21), .int (nI (k)), .int (nI (dv)), .int (nI (hv))] (um_U D κ τ A σ)) (va_Qi (fun (r9 : Int32) (σ' : um_M) => r9 = um_b (tb_bad q k dv hv) ∧ σ' = σ) (um_U D κ τ A) A) 0 0 A := by
  refine um_met (cc := cX7_isImplausible) (maxL := 4) (ret := (some .boolean)) (by decide) rfl rfl ?_
  intro pp ee s mm args below meth cd ls hx hb hr hts hown hlocks hml hnm hK hJ hU hl
  have hown : s.vm.findClass RX7 = some mm.cls := hown
  have htg : ∀ w ∈ lw_g, w.before args s = true := fun w h => hts w (List.mem_cons_of_mem _ h)
  have hl : lv_has ls 4 [(0, .ref (xd 21)), (1, .int (nI (k))), (2, .int (nI (dv))), (3, .int (nI (hv)))] := hl
  refine lv_bipush (v := nI 100) hx hb dX7_isImplausible_0 (by decide +kernel) ?_
  refine lv_iload_n hx hb dX7_isImplausible_2 rfl (lv_at hl 3 rfl) ?_
  refine um_mulN hx hb dX7_isImplausible_3 ?_
  refine lv_aload_n hx hb dX7_isImplausible_4 rfl (lv_at hl 0 rfl) ?_
  refine um_get (v := .ref (xd 23)) hx hb htg inX7 hown hK hU h.c21 rfl 1 (by decide) (htg _ tg_99) rfl dX7_isImplausible_5 ?_
  refine lv_iload_n hx hb dX7_isImplausible_8 rfl (lv_at hl 1 rfl) ?_
  refine um_ild (v := nI (q 10 k)) hx hb hK hU 0 h.c23 rfl k rfl (by omega) (by decide) rfl dX7_isImplausible_9 ?_
  refine lv_iload_n hx hb dX7_isImplausible_10 rfl (lv_at hl 2 rfl) ?_
  refine um_mulN hx hb dX7_isImplausible_11 ?_
  refine um_ltN (tgt := 30) hx hb dX7_isImplausible_12 (by decide) (by omega) (tb_prod2 hq hdv) (fun c1 => ?_) (fun c1 => ?_)
  · refine lv_iconst (v := nI 1) hx hb dX7_isImplausible_30 (by decide +kernel) ?_
    refine lv_goto (tgt := 35) hx hb dX7_isImplausible_31 (by decide) ?_
    exact um_zret hx hb hr hlocks hK hJ hU dX7_isImplausible_35 true rfl ⟨congrArg um_b (by simp [tb_bad, c1]), rfl⟩
  · refine lv_bipush (v := nI 100) hx hb dX7_isImplausible_15 (by decide +kernel) ?_
    refine lv_iload_n hx hb dX7_isImplausible_17 rfl (lv_at hl 3 rfl) ?_
    refine um_mulN hx hb dX7_isImplausible_18 ?_
    refine lv_aload_n hx hb dX7_isImplausible_19 rfl (lv_at hl 0 rfl) ?_
    refine um_get (v := .ref (xd 24)) hx hb htg inX7 hown hK hU h.c21 rfl 2 (by decide) (htg _ tg_101) rfl dX7_isImplausible_20 ?_
    refine lv_iload_n hx hb dX7_isImplausible_23 rfl (lv_at hl 1 rfl) ?_
    refine um_ild (v := nI (q 11 k)) hx hb hK hU 0 h.c24 rfl k rfl (by omega) (by decide) rfl dX7_isImplausible_24 ?_
    refine lv_iload_n hx hb dX7_isImplausible_25 rfl (lv_at hl 2 rfl) ?_
    refine um_mulN hx hb dX7_isImplausible_26 ?_
    refine um_leN (tgt := 34) hx hb dX7_isImplausible_27 (by decide) (by omega) (tb_prod2 hq hdv) (fun c2 => ?_) (fun c2 => ?_)
    · refine lv_iconst (v := nI 0) hx hb dX7_isImplausible_34 (by decide +kernel) ?_
      exact um_zret hx hb hr hlocks hK hJ hU dX7_isImplausible_35 false rfl ⟨congrArg um_b (by simp [tb_bad, c1, c2]), rfl⟩
    · refine lv_iconst (v := nI 1) hx hb dX7_isImplausible_30 (by decide +kernel) ?_
      refine lv_goto (tgt := 35) hx hb dX7_isImplausible_31 (by decide) ?_
      exact um_zret hx hb hr hlocks hK hJ hU dX7_isImplausible_35 true rfl ⟨congrArg um_b (by simp [tb_bad, c1, c2]), rfl⟩

set_option maxRecDepth 100000 in
set_option maxHeartbeats 4000000 in
theorem xp_clear (l : Launch) (D : va_G) (κ : Nat → ClassId) (τ : Nat → Nat) (A : Nat → Prop) (σ : um_M) (xd la ma va : Nat → Nat) (q : tb_Q) (sc : xs_S) (h : xs_at κ σ xd la ma va q sc)  : Met l yX5_clear wsX5_clear ({ frames := 0, cells := 0, slots := 0, locals := 0 }) (va_Pc [.ref (xd 25)] (um_U D κ τ A σ)) (va_Qv (fun σ' : um_M => xs_at κ σ' xd la ma va q (xs_clP sc)) (um_U D κ τ A) A) 0 0 A := by
  refine um_met (cc := cX5_clear) (maxL := 1) (ret := none) (by decide) rfl rfl ?_
  intro pp ee s mm args below meth cd ls hx hb hr hts hown hlocks hml hnm hK hJ hU hl
  have hown : s.vm.findClass RX5 = some mm.cls := hown
  have htg : ∀ w ∈ lw_g, w.before args s = true := fun w h => hts w (List.mem_cons_of_mem _ h)
  have hl : lv_has ls 1 [(0, .ref (xd 25))] := hl
  refine lv_aload_n hx hb dX5_clear_0 rfl (lv_at hl 0 rfl) ?_
  refine lv_lconst (v := 0) hx hb dX5_clear_1 (by decide +kernel) ?_
  refine xs_putL0 hx hb htg hown hK hU h 0 (htg _ tg_116) dX5_clear_2 (fun σ H locs h hU => ?_)
  refine lv_aload_n hx hb dX5_clear_5 rfl (lv_at hl 0 rfl) ?_
  refine lv_lconst (v := 0) hx hb dX5_clear_6 (by decide +kernel) ?_
  refine xs_putL1 hx hb htg hown hK hU h 0 (htg _ tg_119) dX5_clear_7 (fun σ H locs h hU => ?_)
  refine lv_aload_n hx hb dX5_clear_10 rfl (lv_at hl 0 rfl) ?_
  refine lv_iconst (v := nI 0) hx hb dX5_clear_11 (by decide +kernel) ?_
  refine xs_putI2 hx hb htg hown hK hU h (nI 0) (htg _ tg_121) dX5_clear_12 (fun σ H locs h hU => ?_)
  refine lv_aload_n hx hb dX5_clear_15 rfl (lv_at hl 0 rfl) ?_
  refine lv_iconst (v := nI 0) hx hb dX5_clear_16 (by decide +kernel) ?_
  refine xs_putI3 hx hb htg hown hK hU h (nI 0) (htg _ tg_124) dX5_clear_17 (fun σ H locs h hU => ?_)
  exact um_vret hx hb hr hlocks hK hJ hU dX5_clear_20 (by exact h)

set_option maxRecDepth 100000 in
set_option maxHeartbeats 4000000 in
theorem xp_addTree (l : Launch) (D : va_G) (κ : Nat → ClassId) (τ : Nat → Nat) (A : Nat → Prop) (σ : um_M) (xd la ma va : Nat → Nat) (q : tb_Q) (sc : xs_S) (h : xs_at κ σ xd la ma va q sc) (hq : tb_sm q) (t k dv hv : Nat) (hk : k < 4) (hdv : dv ≤ 2000) (hhv : hv ≤ 2000) (f0 : sc.2.2.2 0 = nI k) (f1 : sc.2.2.2 1 = nI dv) (f2 : sc.2.2.2 2 = nI hv) : Met l yX5_addTree wsX5_addTree ({ frames := 1, cells := 0, slots := 0, locals := 25 }) (va_Pc [.ref (xd 25), .int (nI (t)), .ref (xd 28), .ref (xd 21)] (um_U D κ τ A σ)) (va_Qv (fun σ' : um_M => xs_at κ σ' xd la ma va q (xs_addT q sc t k dv hv)) (um_U D κ τ A) A) 0 0 A := by
  refine um_met (cc := cX5_addTree) (maxL := 7) (ret := none) (by decide) rfl rfl ?_
  intro pp ee s mm args below meth cd ls hx hb hr hts hown hlocks hml hnm hK hJ hU hl
  have hown : s.vm.findClass RX5 = some mm.cls := hown
  have htg : ∀ w ∈ lw_g, w.before args s = true := fun w h => hts w (List.mem_cons_of_mem _ h)
  have hl : lv_has ls 7 [(0, .ref (xd 25)), (1, .int (nI (t))), (2, .ref (xd 28)), (3, .ref (xd 21))] := hl
  refine lv_aload_n hx hb dX5_addTree_0 rfl (lv_at hl 2 rfl) ?_
  refine lv_iconst (v := nI 0) hx hb dX5_addTree_1 (by decide +kernel) ?_
  refine um_ild (v := nI k) hx hb hK hU 0 h.c28 rfl 0 rfl (by decide) (by decide) f0 dX5_addTree_2 ?_
  refine lv_istore (lv' := [(4, .int (nI (k))), (0, .ref (xd 25)), (1, .int (nI (t))), (2, .ref (xd 28)), (3, .ref (xd 21))]) hx hb dX5_addTree_3 hl (by decide) rfl (fun ls hl => ?_)
  refine lv_aload_n hx hb dX5_addTree_5 rfl (lv_at hl 3 rfl) ?_
  refine lv_iconst (v := nI 1) hx hb dX5_addTree_6 (by decide +kernel) ?_
  refine um_ild (v := nI dv) hx hb hK hU 0 h.c28 rfl 1 rfl (by decide) (by decide) f1 dX5_addTree_7 ?_
  refine lv_istore (lv' := [(5, .int (nI (dv))), (4, .int (nI (k))), (0, .ref (xd 25)), (1, .int (nI (t))), (2, .ref (xd 28)), (3, .ref (xd 21))]) hx hb dX5_addTree_8 hl (by decide) rfl (fun ls hl => ?_)
  refine lv_aload_n hx hb dX5_addTree_10 rfl (lv_at hl 4 rfl) ?_
  refine lv_iconst (v := nI 2) hx hb dX5_addTree_11 (by decide +kernel) ?_
  refine um_ild (v := nI hv) hx hb hK hU 0 h.c28 rfl 2 rfl (by decide) (by decide) f2 dX5_addTree_12 ?_
  refine lv_istore (lv' := [(6, .int (nI (hv))), (5, .int (nI (dv))), (4, .int (nI (k))), (0, .ref (xd 25)), (1, .int (nI (t))), (2, .ref (xd 28)), (3, .ref (xd 21))]) hx hb dX5_addTree_13 hl (by decide) rfl (fun ls hl => ?_)
  refine lv_aload_n hx hb dX5_addTree_15 rfl (lv_at hl 3 rfl) ?_
  refine lv_dup hx hb dX5_addTree_16 rfl ?_
  refine um_get (v := .long (sc.2.1 0)) hx hb htg inX5 hown hK hU h.c25 rfl 0 (by decide) (htg _ tg_116) rfl dX5_addTree_17 ?_
  refine lv_aload_n hx hb dX5_addTree_20 rfl (lv_at hl 6 rfl) ?_
  refine lv_iload hx hb dX5_addTree_21 (lv_at hl 2 rfl) ?_
  refine lv_iload hx hb dX5_addTree_23 (lv_at hl 1 rfl) ?_
  refine lv_i2l hx hb dX5_addTree_25 rfl ?_
  refine lv_iload hx hb dX5_addTree_26 (lv_at hl 0 rfl) ?_
  refine lv_i2l hx hb dX5_addTree_28 rfl ?_
  refine um_callPl (va_runV (As := [.int (nI (k)), .long ((nI dv).toInt64), .long ((nI hv).toInt64)]) (rest := [.long (sc.2.1 0), .ref (xd 25)]) ⟨hx, hb, hml, hown, htg⟩ (xt_volumeOf l D κ τ A σ xd la ma va q sc h k ((nI dv).toInt64) ((nI hv).toInt64) (by omega)) (cwV 3 htg (lw_cV tg_597 tg_598 tg_599 tg_5 tg_600) rfl rfl rfl (by decide +kernel) ⟨Nat.le_of_ble_eq_true rfl, Nat.le_of_ble_eq_true rfl⟩) (um_preV hU hK hJ h.c21 rfl) rfl rfl hl.1 rfl (lv_room (Nat.le_of_ble_eq_true rfl)) dX5_addTree_29 ⟨Nat.le_of_ble_eq_true rfl, Nat.le_of_ble_eq_true rfl⟩) hU (fun H locs hU => ?_)
  refine lv_ladd hx hb dX5_addTree_32 ?_
  refine xs_putL0 hx hb htg hown hK hU h ((sc.2.1 0) + (tb_vol ((nI dv).toInt64) ((nI hv).toInt64) (nI (q 9 k)).toInt64)) (htg _ tg_116) dX5_addTree_33 (fun σ H locs h hU => ?_)
  refine lv_aload_n hx hb dX5_addTree_36 rfl (lv_at hl 3 rfl) ?_
  refine lv_dup hx hb dX5_addTree_37 rfl ?_
  refine um_get (v := .long ((xs_sL sc 0 ((sc.2.1 0) + (tb_vol ((nI dv).toInt64) ((nI hv).toInt64) (nI (q 9 k)).toInt64))).2.1 1)) hx hb htg inX5 hown hK hU h.c25 rfl 1 (by decide) (htg _ tg_119) rfl dX5_addTree_38 ?_
  refine lv_iload hx hb dX5_addTree_41 (lv_at hl 1 rfl) ?_
  refine lv_i2l hx hb dX5_addTree_43 rfl ?_
  refine lv_iload hx hb dX5_addTree_44 (lv_at hl 1 rfl) ?_
  refine lv_i2l hx hb dX5_addTree_46 rfl ?_
  refine lv_lmul hx hb dX5_addTree_47 ?_
  refine lv_ladd hx hb dX5_addTree_48 ?_
  refine xs_putL1 hx hb htg hown hK hU h (((xs_sL sc 0 ((sc.2.1 0) + (tb_vol ((nI dv).toInt64) ((nI hv).toInt64) (nI (q 9 k)).toInt64))).2.1 1) + (((nI dv).toInt64) * ((nI dv).toInt64))) (htg _ tg_119) dX5_addTree_49 (fun σ H locs h hU => ?_)
  refine lv_aload_n hx hb dX5_addTree_52 rfl (lv_at hl 6 rfl) ?_
  refine lv_iload hx hb dX5_addTree_53 (lv_at hl 2 rfl) ?_
  refine lv_iload hx hb dX5_addTree_55 (lv_at hl 1 rfl) ?_
  refine lv_iload hx hb dX5_addTree_57 (lv_at hl 0 rfl) ?_
  refine um_callP (va_runV (As := [.int (nI (k)), .int (nI (dv)), .int (nI (hv))]) (rest := []) ⟨hx, hb, hml, hown, htg⟩ (xt_isImplausible l D κ τ A σ xd la ma va q (xs_sL (xs_sL sc 0 ((sc.2.1 0) + (tb_vol ((nI dv).toInt64) ((nI hv).toInt64) (nI (q 9 k)).toInt64))) 1 (((xs_sL sc 0 ((sc.2.1 0) + (tb_vol ((nI dv).toInt64) ((nI hv).toInt64) (nI (q 9 k)).toInt64))).2.1 1) + (((nI dv).toInt64) * ((nI dv).toInt64)))) h hq k dv hv (by omega) (by omega) (by omega)) (cwV 3 htg (lw_cV tg_602 tg_603 tg_604 tg_5 tg_605) rfl rfl rfl (by decide +kernel) ⟨Nat.le_of_ble_eq_true rfl, Nat.le_of_ble_eq_true rfl⟩) (um_preV hU hK hJ h.c21 rfl) rfl rfl hl.1 rfl (lv_room (Nat.le_of_ble_eq_true rfl)) dX5_addTree_59 ⟨Nat.le_of_ble_eq_true rfl, Nat.le_of_ble_eq_true rfl⟩) hU (fun H locs hU => ?_)
  refine um_eqB (tgt := 77) hx hb dX5_addTree_62 (by decide) (fun c1 => ?_) (fun c1 => ?_)
  · exact um_vret hx hb hr hlocks hK hJ hU dX5_addTree_77 (by unfold xs_addT; rw [if_neg (by simp [c1])]; exact h)
  · refine lv_aload_n hx hb dX5_addTree_65 rfl (lv_at hl 3 rfl) ?_
    refine lv_dup hx hb dX5_addTree_66 rfl ?_
    refine um_get (v := .int ((xs_sL (xs_sL sc 0 ((sc.2.1 0) + (tb_vol ((nI dv).toInt64) ((nI hv).toInt64) (nI (q 9 k)).toInt64))) 1 (((xs_sL sc 0 ((sc.2.1 0) + (tb_vol ((nI dv).toInt64) ((nI hv).toInt64) (nI (q 9 k)).toInt64))).2.1 1) + (((nI dv).toInt64) * ((nI dv).toInt64)))).2.2.1 3)) hx hb htg inX5 hown hK hU h.c25 rfl 3 (by decide) (htg _ tg_124) rfl dX5_addTree_67 ?_
    refine lv_iconst (v := nI 1) hx hb dX5_addTree_70 (by decide +kernel) ?_
    refine lv_iload_n hx hb dX5_addTree_71 rfl (lv_at hl 4 rfl) ?_
    refine lv_ishl hx hb dX5_addTree_72 ?_
    refine lv_ior hx hb dX5_addTree_73 ?_
    refine xs_putI3 hx hb htg hown hK hU h (((xs_sL (xs_sL sc 0 ((sc.2.1 0) + (tb_vol ((nI dv).toInt64) ((nI hv).toInt64) (nI (q 9 k)).toInt64))) 1 (((xs_sL sc 0 ((sc.2.1 0) + (tb_vol ((nI dv).toInt64) ((nI hv).toInt64) (nI (q 9 k)).toInt64))).2.1 1) + (((nI dv).toInt64) * ((nI dv).toInt64)))).2.2.1 3) ||| ((nI 1) <<< ((nI t) &&& 31))) (htg _ tg_124) dX5_addTree_74 (fun σ H locs h hU => ?_)
    exact um_vret hx hb hr hlocks hK hJ hU dX5_addTree_77 (by unfold xs_addT; rw [if_pos (by simp [c1])]; exact h)

set_option maxRecDepth 100000 in
set_option maxHeartbeats 4000000 in
theorem xq_clear (l : Launch) (D : va_G) (κ : Nat → ClassId) (τ : Nat → Nat) (A : Nat → Prop) (σ : um_M) (xd la ma va : Nat → Nat) (q : tb_Q) (sc : xs_S) (h : xs_at κ σ xd la ma va q sc)  : Met l yX6_clear wsX6_clear ({ frames := 0, cells := 0, slots := 0, locals := 0 }) (va_Pc [.ref (xd 26)] (um_U D κ τ A σ)) (va_Qv (fun σ' : um_M => xs_at κ σ' xd la ma va q (xs_clS sc)) (um_U D κ τ A) A) 0 0 A := by
  refine um_met (cc := cX6_clear) (maxL := 1) (ret := none) (by decide) rfl rfl ?_
  intro pp ee s mm args below meth cd ls hx hb hr hts hown hlocks hml hnm hK hJ hU hl
  have hown : s.vm.findClass RX6 = some mm.cls := hown
  have htg : ∀ w ∈ lw_g, w.before args s = true := fun w h => hts w (List.mem_cons_of_mem _ h)
  have hl : lv_has ls 1 [(0, .ref (xd 26))] := hl
  refine lv_aload_n hx hb dX6_clear_0 rfl (lv_at hl 0 rfl) ?_
  refine lv_lconst (v := 0) hx hb dX6_clear_1 (by decide +kernel) ?_
  refine xs_putL2 hx hb htg hown hK hU h 0 (htg _ tg_141) dX6_clear_2 (fun σ H locs h hU => ?_)
  refine lv_aload_n hx hb dX6_clear_5 rfl (lv_at hl 0 rfl) ?_
  refine lv_lconst (v := 0) hx hb dX6_clear_6 (by decide +kernel) ?_
  refine xs_putL3 hx hb htg hown hK hU h 0 (htg _ tg_143) dX6_clear_7 (fun σ H locs h hU => ?_)
  refine lv_aload_n hx hb dX6_clear_10 rfl (lv_at hl 0 rfl) ?_
  refine lv_iconst (v := nI 0) hx hb dX6_clear_11 (by decide +kernel) ?_
  refine xs_putI4 hx hb htg hown hK hU h (nI 0) (htg _ tg_144) dX6_clear_12 (fun σ H locs h hU => ?_)
  refine lv_aload_n hx hb dX6_clear_15 rfl (lv_at hl 0 rfl) ?_
  refine lv_iconst (v := nI 0) hx hb dX6_clear_16 (by decide +kernel) ?_
  refine xs_putI5 hx hb htg hown hK hU h (nI 0) (htg _ tg_146) dX6_clear_17 (fun σ H locs h hU => ?_)
  exact um_vret hx hb hr hlocks hK hJ hU dX6_clear_20 (by exact h)

set_option maxRecDepth 100000 in
set_option maxHeartbeats 4000000 in
theorem xq_add (l : Launch) (D : va_G) (κ : Nat → ClassId) (τ : Nat → Nat) (A : Nat → Prop) (σ : um_M) (xd la ma va : Nat → Nat) (q : tb_Q) (sc : xs_S) (h : xs_at κ σ xd la ma va q sc)  : Met l yX6_add wsX6_add ({ frames := 0, cells := 0, slots := 0, locals := 0 }) (va_Pc [.ref (xd 26), .ref (xd 25)] (um_U D κ τ A σ)) (va_Qv (fun σ' : um_M => xs_at κ σ' xd la ma va q (xs_addP sc)) (um_U D κ τ A) A) 0 0 A := by
  refine um_met (cc := cX6_add) (maxL := 2) (ret := none) (by decide) rfl rfl ?_
  intro pp ee s mm args below meth cd ls hx hb hr hts hown hlocks hml hnm hK hJ hU hl
  have hown : s.vm.findClass RX6 = some mm.cls := hown
  have htg : ∀ w ∈ lw_g, w.before args s = true := fun w h => hts w (List.mem_cons_of_mem _ h)
  have hl : lv_has ls 2 [(0, .ref (xd 26)), (1, .ref (xd 25))] := hl
  refine lv_aload_n hx hb dX6_add_0 rfl (lv_at hl 0 rfl) ?_
  refine lv_dup hx hb dX6_add_1 rfl ?_
  refine um_get (v := .long (sc.2.1 2)) hx hb htg inX6 hown hK hU h.c26 rfl 0 (by decide) (htg _ tg_141) rfl dX6_add_2 ?_
  refine lv_aload_n hx hb dX6_add_5 rfl (lv_at hl 1 rfl) ?_
  refine um_get (v := .long (sc.2.1 0)) hx hb htg inX5 hown hK hU h.c25 rfl 0 (by decide) (htg _ tg_117) rfl dX6_add_6 ?_
  refine lv_ladd hx hb dX6_add_9 ?_
  refine xs_putL2 hx hb htg hown hK hU h ((sc.2.1 2) + (sc.2.1 0)) (htg _ tg_141) dX6_add_10 (fun σ H locs h hU => ?_)
  refine lv_aload_n hx hb dX6_add_13 rfl (lv_at hl 0 rfl) ?_
  refine lv_dup hx hb dX6_add_14 rfl ?_
  refine um_get (v := .long ((xs_sL sc 2 ((sc.2.1 2) + (sc.2.1 0))).2.1 3)) hx hb htg inX6 hown hK hU h.c26 rfl 1 (by decide) (htg _ tg_143) rfl dX6_add_15 ?_
  refine lv_aload_n hx hb dX6_add_18 rfl (lv_at hl 1 rfl) ?_
  refine um_get (v := .long ((xs_sL sc 2 ((sc.2.1 2) + (sc.2.1 0))).2.1 0)) hx hb htg inX5 hown hK hU h.c25 rfl 0 (by decide) (htg _ tg_117) rfl dX6_add_19 ?_
  refine lv_aload_n hx hb dX6_add_22 rfl (lv_at hl 1 rfl) ?_
  refine um_get (v := .long ((xs_sL sc 2 ((sc.2.1 2) + (sc.2.1 0))).2.1 0)) hx hb htg inX5 hown hK hU h.c25 rfl 0 (by decide) (htg _ tg_117) rfl dX6_add_23 ?_
  refine lv_lmul hx hb dX6_add_26 ?_
  refine lv_ladd hx hb dX6_add_27 ?_
  refine xs_putL3 hx hb htg hown hK hU h (((xs_sL sc 2 ((sc.2.1 2) + (sc.2.1 0))).2.1 3) + (((xs_sL sc 2 ((sc.2.1 2) + (sc.2.1 0))).2.1 0) * ((xs_sL sc 2 ((sc.2.1 2) + (sc.2.1 0))).2.1 0))) (htg _ tg_143) dX6_add_28 (fun σ H locs h hU => ?_)
  refine lv_aload_n hx hb dX6_add_31 rfl (lv_at hl 0 rfl) ?_
  refine lv_dup hx hb dX6_add_32 rfl ?_
  refine um_get (v := .int ((xs_sL (xs_sL sc 2 ((sc.2.1 2) + (sc.2.1 0))) 3 (((xs_sL sc 2 ((sc.2.1 2) + (sc.2.1 0))).2.1 3) + (((xs_sL sc 2 ((sc.2.1 2) + (sc.2.1 0))).2.1 0) * ((xs_sL sc 2 ((sc.2.1 2) + (sc.2.1 0))).2.1 0)))).2.2.1 4)) hx hb htg inX6 hown hK hU h.c26 rfl 2 (by decide) (htg _ tg_144) rfl dX6_add_33 ?_
  refine lv_aload_n hx hb dX6_add_36 rfl (lv_at hl 1 rfl) ?_
  refine um_get (v := .int ((xs_sL (xs_sL sc 2 ((sc.2.1 2) + (sc.2.1 0))) 3 (((xs_sL sc 2 ((sc.2.1 2) + (sc.2.1 0))).2.1 3) + (((xs_sL sc 2 ((sc.2.1 2) + (sc.2.1 0))).2.1 0) * ((xs_sL sc 2 ((sc.2.1 2) + (sc.2.1 0))).2.1 0)))).2.2.1 2)) hx hb htg inX5 hown hK hU h.c25 rfl 2 (by decide) (htg _ tg_122) rfl dX6_add_37 ?_
  refine lv_iadd hx hb dX6_add_40 ?_
  refine xs_putI4 hx hb htg hown hK hU h (((xs_sL (xs_sL sc 2 ((sc.2.1 2) + (sc.2.1 0))) 3 (((xs_sL sc 2 ((sc.2.1 2) + (sc.2.1 0))).2.1 3) + (((xs_sL sc 2 ((sc.2.1 2) + (sc.2.1 0))).2.1 0) * ((xs_sL sc 2 ((sc.2.1 2) + (sc.2.1 0))).2.1 0)))).2.2.1 4) + ((xs_sL (xs_sL sc 2 ((sc.2.1 2) + (sc.2.1 0))) 3 (((xs_sL sc 2 ((sc.2.1 2) + (sc.2.1 0))).2.1 3) + (((xs_sL sc 2 ((sc.2.1 2) + (sc.2.1 0))).2.1 0) * ((xs_sL sc 2 ((sc.2.1 2) + (sc.2.1 0))).2.1 0)))).2.2.1 2)) (htg _ tg_144) dX6_add_41 (fun σ H locs h hU => ?_)
  refine lv_aload_n hx hb dX6_add_44 rfl (lv_at hl 0 rfl) ?_
  refine lv_dup hx hb dX6_add_45 rfl ?_
  refine um_get (v := .int ((xs_sI (xs_sL (xs_sL sc 2 ((sc.2.1 2) + (sc.2.1 0))) 3 (((xs_sL sc 2 ((sc.2.1 2) + (sc.2.1 0))).2.1 3) + (((xs_sL sc 2 ((sc.2.1 2) + (sc.2.1 0))).2.1 0) * ((xs_sL sc 2 ((sc.2.1 2) + (sc.2.1 0))).2.1 0)))) 4 (((xs_sL (xs_sL sc 2 ((sc.2.1 2) + (sc.2.1 0))) 3 (((xs_sL sc 2 ((sc.2.1 2) + (sc.2.1 0))).2.1 3) + (((xs_sL sc 2 ((sc.2.1 2) + (sc.2.1 0))).2.1 0) * ((xs_sL sc 2 ((sc.2.1 2) + (sc.2.1 0))).2.1 0)))).2.2.1 4) + ((xs_sL (xs_sL sc 2 ((sc.2.1 2) + (sc.2.1 0))) 3 (((xs_sL sc 2 ((sc.2.1 2) + (sc.2.1 0))).2.1 3) + (((xs_sL sc 2 ((sc.2.1 2) + (sc.2.1 0))).2.1 0) * ((xs_sL sc 2 ((sc.2.1 2) + (sc.2.1 0))).2.1 0)))).2.2.1 2))).2.2.1 5)) hx hb htg inX6 hown hK hU h.c26 rfl 3 (by decide) (htg _ tg_146) rfl dX6_add_46 ?_
  refine lv_iconst (v := nI 1) hx hb dX6_add_49 (by decide +kernel) ?_
  refine lv_iadd hx hb dX6_add_50 ?_
  refine xs_putI5 hx hb htg hown hK hU h (((xs_sI (xs_sL (xs_sL sc 2 ((sc.2.1 2) + (sc.2.1 0))) 3 (((xs_sL sc 2 ((sc.2.1 2) + (sc.2.1 0))).2.1 3) + (((xs_sL sc 2 ((sc.2.1 2) + (sc.2.1 0))).2.1 0) * ((xs_sL sc 2 ((sc.2.1 2) + (sc.2.1 0))).2.1 0)))) 4 (((xs_sL (xs_sL sc 2 ((sc.2.1 2) + (sc.2.1 0))) 3 (((xs_sL sc 2 ((sc.2.1 2) + (sc.2.1 0))).2.1 3) + (((xs_sL sc 2 ((sc.2.1 2) + (sc.2.1 0))).2.1 0) * ((xs_sL sc 2 ((sc.2.1 2) + (sc.2.1 0))).2.1 0)))).2.2.1 4) + ((xs_sL (xs_sL sc 2 ((sc.2.1 2) + (sc.2.1 0))) 3 (((xs_sL sc 2 ((sc.2.1 2) + (sc.2.1 0))).2.1 3) + (((xs_sL sc 2 ((sc.2.1 2) + (sc.2.1 0))).2.1 0) * ((xs_sL sc 2 ((sc.2.1 2) + (sc.2.1 0))).2.1 0)))).2.2.1 2))).2.2.1 5) + (nI 1)) (htg _ tg_146) dX6_add_51 (fun σ H locs h hU => ?_)
  exact um_vret hx hb hr hlocks hK hJ hU dX6_add_54 (by exact h)

set_option maxRecDepth 100000 in
set_option maxHeartbeats 4000000 in
theorem xq_rootOf (l : Launch) (D : va_G) (κ : Nat → ClassId) (τ : Nat → Nat) (A : Nat → Prop) (σ : um_M)  (v : Int64) : Met l yX6_rootOf wsX6_rootOf ({ frames := 0, cells := 0, slots := 0, locals := 0 }) (va_Pc [.long (v)] (um_U D κ τ A σ)) (va_Ql (fun (r9 : Int64) (σ' : um_M) => r9 = tb_root v ∧ σ' = σ) (um_U D κ τ A) A) 0 0 A := by
  refine um_met (cc := cX6_rootOf) (maxL := 7) (ret := (some .long)) (by decide) rfl rfl ?_
  intro pp ee s mm args below meth cd ls hx hb hr hts hown hlocks hml hnm hK hJ hU hl
  have hown : s.vm.findClass RX6 = some mm.cls := hown
  have htg : ∀ w ∈ lw_g, w.before args s = true := fun w h => hts w (List.mem_cons_of_mem _ h)
  have hl : lv_has ls 7 [(0, .long (v))] := hl
  have L1 : ∀ (nf : Nat) (n : Nat) (r : Int64) (ls : Array Slot) (H : Heap) (locs : List Loc), n < nf → n ≤ 31 → tb_rt v n r = tb_root v → um_S D vwCl A s σ H locs → lv_has ls 7 [(0, .long (v)), (2, .long (r)), (4, .int (tb_m1 (n)))] → W pp l ee ({ frames := 0, cells := 0, slots := 0, locals := 0 }) s mm args below meth cd H locs 0 0 (MQ below (va_Ql (fun (r9 : Int64) (σ' : um_M) => r9 = tb_root v ∧ σ' = σ) (um_U D κ τ A) A) args s 0 0 A) (F0 mm 6 ls []) := by
    intro nf
    induction nf with
    | zero => intro n r ls H locs hnf; exact absurd hnf (Nat.not_lt_zero _)
    | succ nf ih =>
      intro n r ls H locs hnf z1 z2 hU hl
      refine lv_iload hx hb dX6_rootOf_6 (lv_at hl 2 rfl) ?_
      refine um_ltM (tgt := 38) hx hb dX6_rootOf_8 (by decide) (by omega) (fun c1 => ?_) (fun c1 => ?_)
      · refine lv_lload_n hx hb dX6_rootOf_38 rfl (lv_at hl 1 rfl) ?_
        exact um_lret hx hb hr hlocks hK hJ hU dX6_rootOf_39 ⟨by rw [← z2, c1]; rfl, rfl⟩
      · rw [tb_m1_p c1] at hl
        refine lv_lload_n hx hb dX6_rootOf_11 rfl (lv_at hl 1 rfl) ?_
        refine lv_lconst (v := 1) hx hb dX6_rootOf_12 (by decide +kernel) ?_
        refine lv_iload hx hb dX6_rootOf_13 (lv_at hl 2 rfl) ?_
        refine lv_lshl (v := 1 <<< ((nI (n - 1)).toInt64 &&& 63)) hx hb dX6_rootOf_15 rfl ?_
        refine lv_ladd hx hb dX6_rootOf_16 ?_
        refine lv_lstore (lv' := [(5, .long (r + (1 <<< ((nI (n - 1)).toInt64 &&& 63)))), (0, .long (v)), (2, .long (r)), (4, .int (nI (n - 1)))]) hx hb dX6_rootOf_17 hl (by decide) rfl (fun ls hl => ?_)
        refine lv_lload hx hb dX6_rootOf_19 (lv_at hl 0 rfl) ?_
        refine lv_lload hx hb dX6_rootOf_21 (lv_at hl 0 rfl) ?_
        refine lv_lmul hx hb dX6_rootOf_23 ?_
        refine lv_lload_n hx hb dX6_rootOf_24 rfl (lv_at hl 1 rfl) ?_
        refine W.lcmp hx hb dX6_rootOf_25 ?_
        refine um_gtC (tgt := 32) hx hb dX6_rootOf_26 (by decide) (fun c2 => ?_) (fun c2 => ?_)
        · refine lv_iinc (k := 3) (v := tb_m1 (n - 1)) (lv' := [(4, .int (tb_m1 (n - 1))), (5, .long (r + (1 <<< ((nI (n - 1)).toInt64 &&& 63)))), (0, .long (v)), (2, .long (r))]) hx hb dX6_rootOf_32 hl rfl (tb_dec _) (by decide) rfl (fun ls hl => ?_)
          refine lv_goto (tgt := 6) hx hb dX6_rootOf_35 (by decide) ?_
          have hl : lv_has ls 7 [(0, .long (v)), (2, .long (r)), (4, .int (tb_m1 ((n - 1))))] := lv_sub hl [2, 3, 0] rfl
          exact ih (n - 1) r ls _ _ (by omega) (by omega) (by rw [← z2, tb_rt_s c1, tb_rtS, if_pos c2]) hU hl
        · refine lv_lload hx hb dX6_rootOf_29 (lv_at hl 0 rfl) ?_
          refine lv_lstore_n (lv' := [(2, .long (r + (1 <<< ((nI (n - 1)).toInt64 &&& 63)))), (5, .long (r + (1 <<< ((nI (n - 1)).toInt64 &&& 63)))), (0, .long (v)), (4, .int (nI (n - 1)))]) hx hb dX6_rootOf_31 rfl hl (by decide) rfl (fun ls hl => ?_)
          refine lv_iinc (k := 3) (v := tb_m1 (n - 1)) (lv' := [(4, .int (tb_m1 (n - 1))), (2, .long (r + (1 <<< ((nI (n - 1)).toInt64 &&& 63)))), (5, .long (r + (1 <<< ((nI (n - 1)).toInt64 &&& 63)))), (0, .long (v))]) hx hb dX6_rootOf_32 hl rfl (tb_dec _) (by decide) rfl (fun ls hl => ?_)
          refine lv_goto (tgt := 6) hx hb dX6_rootOf_35 (by decide) ?_
          have hl : lv_has ls 7 [(0, .long (v)), (2, .long ((r + (1 <<< ((nI (n - 1)).toInt64 &&& 63))))), (4, .int (tb_m1 ((n - 1))))] := lv_sub hl [3, 1, 0] rfl
          exact ih (n - 1) (r + (1 <<< ((nI (n - 1)).toInt64 &&& 63))) ls _ _ (by omega) (by omega) (by rw [← z2, tb_rt_s c1, tb_rtS, if_neg c2]) hU hl
  refine lv_lconst (v := 0) hx hb dX6_rootOf_0 (by decide +kernel) ?_
  refine lv_lstore_n (lv' := [(2, .long (0)), (0, .long (v))]) hx hb dX6_rootOf_1 rfl hl (by decide) rfl (fun ls hl => ?_)
  refine lv_bipush (v := nI 30) hx hb dX6_rootOf_2 (by decide +kernel) ?_
  refine lv_istore (lv' := [(4, .int (nI (30))), (2, .long (0)), (0, .long (v))]) hx hb dX6_rootOf_4 hl (by decide) rfl (fun ls hl => ?_)
  have hl : lv_has ls 7 [(0, .long (v)), (2, .long (0)), (4, .int (tb_m1 (31)))] := by
    rw [show (tb_m1 (31)) = (nI (30)) from (tb_m1_s 30)]
    exact lv_sub hl [2, 1, 0] rfl
  exact L1 32 31 0 ls _ _ (by omega) (by omega) rfl hU hl
