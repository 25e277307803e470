set_option maxRecDepth 100000 in
set_option maxHeartbeats 4000000 in
theorem xm_knew (l : Launch) (D : va_G) (κ : Nat → ClassId) (τ : Nat → Nat) (A : Nat → Prop) (σ : um_M) (xd la ma va : Nat → Nat) (q : tb_Q) (sc : xs_S) (h : xs_at κ σ xd la ma va q sc) (ok : tb_ok q) (e f : Nat) (hM : xs_isM q e) (hM2 : xs_isM q f) : Met l yX3_knew wsX3_knew ({ frames := 0, cells := 0, slots := 0, locals := 0 }) (va_Pc [.ref (ma e), .ref (ma f)] (um_U D κ τ A σ)) (va_Qi (fun (r9 : Int32) (σ' : um_M) => r9 = um_b (!decide (q 6 (5 * e + f / 40) < f % 40 + 1)) ∧ σ' = σ) (um_U D κ τ A) A) 0 0 A := by
  refine um_met (cc := cX3_knew) (maxL := 2) (ret := (some .boolean)) (by decide) rfl rfl ?_
  intro pp ee s mm args below meth cd ls hx hb hr hts hown hlocks hml hnm hK hJ hU hl
  have hown : s.vm.findClass RX3 = some mm.cls := hown
  have htg : ∀ w ∈ lw_g, w.before args s = true := fun w h => hts w (List.mem_cons_of_mem _ h)
  have hl : lv_has ls 2 [(0, .ref (ma e)), (1, .ref (ma f))] := hl
  have hq := ok.sm
  refine lv_aload_n hx hb dX3_knew_0 rfl (lv_at hl 1 rfl) ?_
  refine um_get (v := .int (nI (f % 40 + 1))) hx hb htg inX3 hown hK hU (show um_h σ (ma f) (.inr (3, _)) from (h.2.2.2 f hM2).1) rfl 1 (by decide) (htg _ tg_406) rfl dX3_knew_1 ?_
  refine lv_aload_n hx hb dX3_knew_4 rfl (lv_at hl 0 rfl) ?_
  refine um_get (v := .ref (va e)) hx hb htg inX3 hown hK hU (show um_h σ (ma e) (.inr (3, _)) from (h.2.2.2 e hM).1) rfl 4 (by decide) (htg _ tg_413) rfl dX3_knew_5 ?_
  refine lv_aload_n hx hb dX3_knew_8 rfl (lv_at hl 1 rfl) ?_
  refine um_get (v := .int (nI (f / 40))) hx hb htg inX3 hown hK hU (show um_h σ (ma f) (.inr (3, _)) from (h.2.2.2 f hM2).1) rfl 0 (by decide) (htg _ tg_404) rfl dX3_knew_9 ?_
  refine xs_ildR (r := 6) (d := e) hx hb hK hU (h.2.2.2 e hM).2.1 (f / 40) (by have := hM2.1; omega) dX3_knew_12 ?_
  refine um_gtN (tgt := 20) hx hb dX3_knew_13 (by decide) (by omega) (tb_sm_lt hq 6 _) (fun c1 => ?_) (fun c1 => ?_)
  · refine lv_iconst (v := nI 0) hx hb dX3_knew_20 (by decide +kernel) ?_
    exact um_zret hx hb hr hlocks hK hJ hU dX3_knew_21 false rfl ⟨congrArg um_b (by simp [c1]), rfl⟩
  · refine lv_iconst (v := nI 1) hx hb dX3_knew_16 (by decide +kernel) ?_
    refine lv_goto (tgt := 21) hx hb dX3_knew_17 (by decide) ?_
    exact um_zret hx hb hr hlocks hK hJ hU dX3_knew_21 true rfl ⟨congrArg um_b (by simp [c1]), rfl⟩

set_option maxRecDepth 100000 in
set_option maxHeartbeats 4000000 in
theorem xn_lastKnown (l : Launch) (D : va_G) (κ : Nat → ClassId) (τ : Nat → Nat) (A : Nat → Prop) (σ : um_M) (xd la ma va : Nat → Nat) (q : tb_Q) (sc : xs_S) (h : xs_at κ σ xd la ma va q sc) (ok : tb_ok q) (d sp a : Nat) (hd : d < 5) (hsp : sp < 72) (ha : a < 5) : Met l yX4_lastKnown wsX4_lastKnown ({ frames := 0, cells := 0, slots := 0, locals := 0 }) (va_Pc [.ref (xd 16), .int (nI (sp)), .int (nI (a)), .ref (xd (4 + d))] (um_U D κ τ A σ)) (va_Qq (fun (r9 : Option Nat) (σ' : um_M) => r9 = (xs_lm q sp a (q 7 (5 * d + a))).map ma ∧ σ' = σ) (um_U D κ τ A) A) 0 0 A := by
  refine um_met (cc := cX4_lastKnown) (maxL := 5) (ret := (some (.object "ForestTablets$Measure"))) (by decide) rfl rfl ?_
  intro pp ee s mm args below meth cd ls hx hb hr hts hown hlocks hml hnm hK hJ hU hl
  have hown : s.vm.findClass RX4 = some mm.cls := hown
  have htg : ∀ w ∈ lw_g, w.before args s = true := fun w h => hts w (List.mem_cons_of_mem _ h)
  have hl : lv_has ls 5 [(0, .ref (xd 16)), (1, .int (nI (sp))), (2, .int (nI (a))), (3, .ref (xd (4 + d)))] := hl
  have hq := ok.sm
  have hk := ok.kn d a hd ha
  have L1 : ∀ (nf : Nat) (n : Nat) (ls : Array Slot) (H : Heap) (locs : List Loc), n < nf → q 7 (5 * d + a) ≤ n → n ≤ q 0 a → um_S D vwCl A s σ H locs → lv_has ls 5 [(0, .ref (xd 16)), (1, .int (nI (sp))), (2, .int (nI (a))), (3, .ref (xd (4 + d))), (4, va_rf ((xs_lm q sp a n).map ma))] → W pp l ee ({ frames := 0, cells := 0, slots := 0, locals := 0 }) s mm args below meth cd H locs 0 0 (MQ below (va_Qq (fun (r9 : Option Nat) (σ' : um_M) => r9 = (xs_lm q sp a (q 7 (5 * d + a))).map ma ∧ σ' = σ) (um_U D κ τ A) A) args s 0 0 A) (F0 mm 12 ls []) := by
    intro nf
    induction nf with
    | zero => intro n ls H locs hnf; exact absurd hnf (Nat.not_lt_zero _)
    | succ nf ih =>
      intro n ls H locs hnf z1 z2 hU hl
      cases ho : xs_lm q sp a n with
      | none =>
        rw [ho] at hl
        have hl : lv_has ls 5 [(0, .ref (xd 16)), (1, .int (nI (sp))), (2, .int (nI (a))), (3, .ref (xd (4 + d))), (4, .null)] := hl
        refine lv_aloadN hx hb dX4_lastKnown_12 (lv_at hl 4 rfl) ?_
        refine lv_ifnullN (tgt := 41) hx hb dX4_lastKnown_14 (by decide) ?_
        refine lv_null hx hb dX4_lastKnown_41 ?_
        exact um_aret (r := none) hx hb hr (Or.inl ⟨_, rfl⟩) hlocks hK hJ hU dX4_lastKnown_42 ⟨by rw [xs_lm_none ho (by omega)]; rfl, rfl⟩
      | some e =>
        rw [ho] at hl
        have hl : lv_has ls 5 [(0, .ref (xd 16)), (1, .int (nI (sp))), (2, .int (nI (a))), (3, .ref (xd (4 + d))), (4, .ref (ma e))] := hl
        obtain ⟨hM, hM2, hM3, hM4, hM5⟩ := xs_lm_M ok.m40 ha z2 ho
        refine lv_aload hx hb dX4_lastKnown_12 (lv_at hl 4 rfl) ?_
        refine lv_ifnull hx hb dX4_lastKnown_14 ?_
        refine lv_aload hx hb dX4_lastKnown_17 (lv_at hl 4 rfl) ?_
        refine um_get (v := .int (nI (e % 40 + 1))) hx hb htg inX3 hown hK hU (show um_h σ (ma e) (.inr (3, _)) from (h.2.2.2 e hM).1) rfl 1 (by decide) (htg _ tg_407) rfl dX4_lastKnown_19 ?_
        refine lv_aload_n hx hb dX4_lastKnown_22 rfl (lv_at hl 3 rfl) ?_
        refine lv_iload_n hx hb dX4_lastKnown_23 rfl (lv_at hl 2 rfl) ?_
        refine xs_ildR (r := 7) (d := d) hx hb hK hU (h.row (by omega)) a (by omega) dX4_lastKnown_24 ?_
        refine um_gtN (tgt := 31) hx hb dX4_lastKnown_25 (by decide) (by omega) (tb_sm_lt hq 7 _) (fun c1 => ?_) (fun c1 => ?_)
        · refine lv_aload hx hb dX4_lastKnown_31 (lv_at hl 4 rfl) ?_
          refine um_get (v := va_rf ((xs_lm q (12 * q 2 e + q 3 e) (e / 40) (e % 40)).map ma)) hx hb htg inX3 hown hK hU (show um_h σ (ma e) (.inr (3, _)) from (h.2.2.2 e hM).1) rfl 5 (by decide) (htg _ tg_415) rfl dX4_lastKnown_33 ?_
          refine um_astoreQ (lv' := [(4, va_rf ((xs_lm q (12 * q 2 e + q 3 e) (e / 40) (e % 40)).map ma)), (0, .ref (xd 16)), (1, .int (nI (sp))), (2, .int (nI (a))), (3, .ref (xd (4 + d)))]) hx hb dX4_lastKnown_36 hl (by decide) rfl (fun ls hl => ?_)
          refine lv_goto (tgt := 12) hx hb dX4_lastKnown_38 (by decide) ?_
          have hl : lv_has ls 5 [(0, .ref (xd 16)), (1, .int (nI (sp))), (2, .int (nI (a))), (3, .ref (xd (4 + d))), (4, va_rf ((xs_lm q sp a (e % 40)).map ma))] := by
            rw [show (va_rf ((xs_lm q sp a (e % 40)).map ma)) = (va_rf ((xs_lm q (12 * q 2 e + q 3 e) (e / 40) (e % 40)).map ma)) from by rw [hM3, hM2]]
            exact lv_sub hl [1, 2, 3, 4, 0] rfl
          exact ih (e % 40) ls _ _ (by omega) (by omega) (by omega) hU hl
        · refine lv_aload hx hb dX4_lastKnown_28 (lv_at hl 4 rfl) ?_
          exact um_aret (r := (some (ma e))) hx hb hr (Or.inl ⟨_, rfl⟩) hlocks hK hJ hU dX4_lastKnown_30 ⟨by rw [xs_lm_mid ho (by omega) (by omega)]; rfl, rfl⟩
  refine lv_aload_n hx hb dX4_lastKnown_0 rfl (lv_at hl 0 rfl) ?_
  refine um_get (v := .ref (xd 17)) hx hb htg inX4 hown hK hU h.c16 rfl 0 (by decide) (htg _ tg_72) rfl dX4_lastKnown_1 ?_
  refine lv_iload_n hx hb dX4_lastKnown_4 rfl (lv_at hl 1 rfl) ?_
  refine lv_iconst (v := nI 5) hx hb dX4_lastKnown_5 (by decide +kernel) ?_
  refine um_mulN hx hb dX4_lastKnown_6 ?_
  refine lv_iload_n hx hb dX4_lastKnown_7 rfl (lv_at hl 2 rfl) ?_
  refine um_addN hx hb dX4_lastKnown_8 ?_
  refine um_ald (C := RX3) (r := (xs_lm q sp a (q 0 a)).map ma) hx hb hK hU 4 h.c17 rfl ((sp * 5) + a) rfl (by omega) (by decide) (by show (xs_lm q ((sp * 5 + a) / 5) ((sp * 5 + a) % 5) (q 0 ((sp * 5 + a) % 5))).map ma = _; rw [show (sp * 5 + a) / 5 = sp by omega, show (sp * 5 + a) % 5 = a by omega]) dX4_lastKnown_9 ?_
  refine um_astoreQ (lv' := [(4, va_rf ((xs_lm q sp a (q 0 a)).map ma)), (0, .ref (xd 16)), (1, .int (nI (sp))), (2, .int (nI (a))), (3, .ref (xd (4 + d)))]) hx hb dX4_lastKnown_10 hl (by decide) rfl (fun ls hl => ?_)
  have hl : lv_has ls 5 [(0, .ref (xd 16)), (1, .int (nI (sp))), (2, .int (nI (a))), (3, .ref (xd (4 + d))), (4, va_rf ((xs_lm q sp a (q 0 a)).map ma))] := lv_sub hl [1, 2, 3, 4, 0] rfl
  exact L1 (q 0 a + 1) (q 0 a) ls _ _ (by omega) (by omega) (by omega) hU hl

set_option maxRecDepth 100000 in
set_option maxHeartbeats 4000000 in
theorem xn_isKnown (l : Launch) (D : va_G) (κ : Nat → ClassId) (τ : Nat → Nat) (A : Nat → Prop) (σ : um_M) (xd la ma va : Nat → Nat) (q : tb_Q) (sc : xs_S) (h : xs_at κ σ xd la ma va q sc) (ok : tb_ok q) (lo : Nat → Option Nat) (hlo : ∀ i, i < 5 → sc.1 0 i = (lo i).map ma) (hlM : ∀ i f, i < 5 → lo i = some f → xs_isM q f) (e : Nat) (hM : xs_isM q e) : Met l yX4_isKnownToAnother wsX4_isKnownToAnother ({ frames := 1, cells := 0, slots := 0, locals := 21 }) (va_Pc [.ref (xd 16), .ref (ma e)] (um_U D κ τ A σ)) (va_Qi (fun (r9 : Int32) (σ' : um_M) => r9 = um_b (xs_ka q lo e) ∧ σ' = σ) (um_U D κ τ A) A) 0 0 A := by
  refine um_met (cc := cX4_isKnownToAnother) (maxL := 4) (ret := (some .boolean)) (by decide) rfl rfl ?_
  intro pp ee s mm args below meth cd ls hx hb hr hts hown hlocks hml hnm hK hJ hU hl
  have hown : s.vm.findClass RX4 = some mm.cls := hown
  have htg : ∀ w ∈ lw_g, w.before args s = true := fun w h => hts w (List.mem_cons_of_mem _ h)
  have hl : lv_has ls 4 [(0, .ref (xd 16)), (1, .ref (ma e))] := hl
  have hq := ok.sm
  have L1 : ∀ (nf : Nat) (i : Nat) (ls : Array Slot) (H : Heap) (locs : List Loc), 5 - i < nf → i ≤ 5 → tb_fo (xs_kaF q lo e) false i = false → um_S D vwCl A s σ H locs → lv_has ls 4 [(0, .ref (xd 16)), (1, .ref (ma e)), (2, .int (nI (i)))] → W pp l ee ({ frames := 1, cells := 0, slots := 0, locals := 21 }) s mm args below meth cd H locs 0 0 (MQ below (va_Qi (fun (r9 : Int32) (σ' : um_M) => r9 = um_b (xs_ka q lo e) ∧ σ' = σ) (um_U D κ τ A) A) args s 0 0 A) (F0 mm 2 ls []) := by
    intro nf
    induction nf with
    | zero => intro i ls H locs hnf; exact absurd hnf (Nat.not_lt_zero _)
    | succ nf ih =>
      intro i ls H locs hnf z1 z2 hU hl
      refine lv_iload_n hx hb dX4_isKnownToAnother_2 rfl (lv_at hl 2 rfl) ?_
      refine lv_iconst (v := nI 5) hx hb dX4_isKnownToAnother_3 (by decide +kernel) ?_
      refine um_geN (tgt := 39) hx hb dX4_isKnownToAnother_4 (by decide) (by omega) (by decide) (fun c1 => ?_) (fun c1 => ?_)
      · refine lv_iconst (v := nI 0) hx hb dX4_isKnownToAnother_39 (by decide +kernel) ?_
        exact um_zret hx hb hr hlocks hK hJ hU dX4_isKnownToAnother_40 false rfl ⟨congrArg um_b (by rw [← z2, show i = 5 by omega]; rfl), rfl⟩
      · refine lv_aload_n hx hb dX4_isKnownToAnother_7 rfl (lv_at hl 0 rfl) ?_
        refine um_get (v := .ref (xd 18)) hx hb htg inX4 hown hK hU h.c16 rfl 1 (by decide) (htg _ tg_73) rfl dX4_isKnownToAnother_8 ?_
        refine lv_iload_n hx hb dX4_isKnownToAnother_11 rfl (lv_at hl 2 rfl) ?_
        refine um_ald (C := RX3) (r := (lo i).map ma) hx hb hK hU 4 h.c18 rfl i rfl (by omega) (by decide) (hlo i (by omega)) dX4_isKnownToAnother_12 ?_
        refine um_astore_nQ (lv' := [(3, va_rf ((lo i).map ma)), (0, .ref (xd 16)), (1, .ref (ma e)), (2, .int (nI (i)))]) hx hb dX4_isKnownToAnother_13 rfl hl (by decide) rfl (fun ls hl => ?_)
        cases ho : lo i with
        | none =>
          rw [ho] at hl
          have hl : lv_has ls 4 [(3, .null), (0, .ref (xd 16)), (1, .ref (ma e)), (2, .int (nI (i)))] := hl
          refine lv_aload_nN hx hb dX4_isKnownToAnother_14 rfl (lv_at hl 0 rfl) ?_
          refine lv_ifnullN (tgt := 33) hx hb dX4_isKnownToAnother_15 (by decide) ?_
          refine lv_iinc (k := 3) (v := nI (i + 1)) (lv' := [(2, .int (nI (i + 1))), (3, .null), (0, .ref (xd 16)), (1, .ref (ma e))]) hx hb dX4_isKnownToAnother_33 hl rfl (nI_add _ _) (by decide) rfl (fun ls hl => ?_)
          refine lv_goto (tgt := 2) hx hb dX4_isKnownToAnother_36 (by decide) ?_
          have hl : lv_has ls 4 [(0, .ref (xd 16)), (1, .ref (ma e)), (2, .int (nI ((i + 1))))] := lv_sub hl [2, 3, 0] rfl
          exact ih (i + 1) ls _ _ (by omega) (by omega) (by rw [tb_fo_s, z2]; unfold xs_kaF; rw [xs_kaP_0 ho]; rfl) hU hl
        | some f =>
          rw [ho] at hl
          have hl : lv_has ls 4 [(3, .ref (ma f)), (0, .ref (xd 16)), (1, .ref (ma e)), (2, .int (nI (i)))] := hl
          have hF := hlM i f (by omega) ho
          refine lv_aload_n hx hb dX4_isKnownToAnother_14 rfl (lv_at hl 0 rfl) ?_
          refine lv_ifnull hx hb dX4_isKnownToAnother_15 ?_
          refine lv_aload_n hx hb dX4_isKnownToAnother_18 rfl (lv_at hl 0 rfl) ?_
          refine lv_aload_n hx hb dX4_isKnownToAnother_19 rfl (lv_at hl 2 rfl) ?_
          refine xs_acmp (tgt := 33) hx hb h hM hF dX4_isKnownToAnother_20 (by decide) (fun c2 => ?_) (fun c2 => ?_)
          · refine lv_iinc (k := 3) (v := nI (i + 1)) (lv' := [(2, .int (nI (i + 1))), (3, .ref (ma f)), (0, .ref (xd 16)), (1, .ref (ma e))]) hx hb dX4_isKnownToAnother_33 hl rfl (nI_add _ _) (by decide) rfl (fun ls hl => ?_)
            refine lv_goto (tgt := 2) hx hb dX4_isKnownToAnother_36 (by decide) ?_
            have hl : lv_has ls 4 [(0, .ref (xd 16)), (1, .ref (ma e)), (2, .int (nI ((i + 1))))] := lv_sub hl [2, 3, 0] rfl
            exact ih (i + 1) ls _ _ (by omega) (by omega) (by rw [tb_fo_s, z2]; unfold xs_kaF; rw [xs_kaP_e ho c2]; rfl) hU hl
          · refine lv_aload_n hx hb dX4_isKnownToAnother_23 rfl (lv_at hl 0 rfl) ?_
            refine lv_aload_n hx hb dX4_isKnownToAnother_24 rfl (lv_at hl 2 rfl) ?_
            refine um_callP (va_runV (As := [.ref (ma e)]) (rest := []) ⟨hx, hb, hml, hown, htg⟩ (xm_knew l D κ τ A σ xd la ma va q sc h ok f e hF hM) (cwV 1 htg (lw_cV tg_453 tg_454 tg_455 tg_16 tg_456) rfl rfl rfl (by decide +kernel) ⟨Nat.le_of_ble_eq_true rfl, Nat.le_of_ble_eq_true rfl⟩) (um_preV hU hK hJ (show um_h σ (ma f) (.inr (3, _)) from (h.2.2.2 f hF).1) rfl) rfl rfl hl.1 rfl (lv_room (Nat.le_of_ble_eq_true rfl)) dX4_isKnownToAnother_25 ⟨Nat.le_of_ble_eq_true rfl, Nat.le_of_ble_eq_true rfl⟩) hU (fun H locs hU => ?_)
            refine um_eqB (tgt := 33) hx hb dX4_isKnownToAnother_28 (by decide) (fun c3 => ?_) (fun c3 => ?_)
            · refine lv_iinc (k := 3) (v := nI (i + 1)) (lv' := [(2, .int (nI (i + 1))), (3, .ref (ma f)), (0, .ref (xd 16)), (1, .ref (ma e))]) hx hb dX4_isKnownToAnother_33 hl rfl (nI_add _ _) (by decide) rfl (fun ls hl => ?_)
              refine lv_goto (tgt := 2) hx hb dX4_isKnownToAnother_36 (by decide) ?_
              have hl : lv_has ls 4 [(0, .ref (xd 16)), (1, .ref (ma e)), (2, .int (nI ((i + 1))))] := lv_sub hl [2, 3, 0] rfl
              exact ih (i + 1) ls _ _ (by omega) (by omega) (by rw [tb_fo_s, z2]; unfold xs_kaF; rw [xs_kaP_y ho c2, c3]; rfl) hU hl
            · refine lv_iconst (v := nI 1) hx hb dX4_isKnownToAnother_31 (by decide +kernel) ?_
              exact um_zret hx hb hr hlocks hK hJ hU dX4_isKnownToAnother_32 true rfl ⟨congrArg um_b (by exact (xs_ka_t (i := i) (by rw [tb_fo_s, z2]; unfold xs_kaF; rw [xs_kaP_y ho c2, c3]; rfl) (by omega)).symm), rfl⟩
  refine lv_iconst (v := nI 0) hx hb dX4_isKnownToAnother_0 (by decide +kernel) ?_
  refine lv_istore_n (lv' := [(2, .int (nI (0))), (0, .ref (xd 16)), (1, .ref (ma e))]) hx hb dX4_isKnownToAnother_1 rfl hl (by decide) rfl (fun ls hl => ?_)
  have hl : lv_has ls 4 [(0, .ref (xd 16)), (1, .ref (ma e)), (2, .int (nI (0)))] := lv_sub hl [1, 2, 0] rfl
  exact L1 6 0 ls _ _ (by omega) (by omega) rfl hU hl

set_option maxRecDepth 100000 in
set_option maxHeartbeats 4000000 in
theorem xn_listByRank (l : Launch) (D : va_G) (κ : Nat → ClassId) (τ : Nat → Nat) (A : Nat → Prop) (σ : um_M) (xd la ma va : Nat → Nat) (q : tb_Q) (sc : xs_S) (h : xs_at κ σ xd la ma va q sc) (ok : tb_ok q) (un : Nat → Option Nat) (top : Nat) (b : Bool) (n0 : Nat) (hun : ∀ i, i < 5 → sc.1 1 i = (un i).map ma) (huM : ∀ i f, i < 5 → un i = some f → xs_isM q f) (htop : top < 2147483648) (hsz : sc.2.2.1 1 = nI n0) (hn0 : ∀ i, i ≤ 5 → n0 + (xs_ls q un top b i).length ≤ 5) : Met l yX4_listByRank wsX4_listByRank ({ frames := 0, cells := 0, slots := 0, locals := 0 }) (va_Pc [.ref (xd 16), .int (nI (top)), .int (um_b (b))] (um_U D κ τ A σ)) (va_Qv (fun σ' : um_M => xs_at κ σ' xd la ma va q (xs_app sc ma n0 (xs_ls q un top b 5))) (um_U D κ τ A) A) 0 0 A := by
  refine um_met (cc := cX4_listByRank) (maxL := 5) (ret := none) (by decide) rfl rfl ?_
  intro pp ee s mm args below meth cd ls hx hb hr hts hown hlocks hml hnm hK hJ hU hl
  have hown : s.vm.findClass RX4 = some mm.cls := hown
  have htg : ∀ w ∈ lw_g, w.before args s = true := fun w h => hts w (List.mem_cons_of_mem _ h)
  have hl : lv_has ls 5 [(0, .ref (xd 16)), (1, .int (nI (top))), (2, .int (um_b (b)))] := hl
  have hq := ok.sm
  have L1 : ∀ (nf : Nat) (i : Nat) (ls : Array Slot) (σ : um_M) (H : Heap) (locs : List Loc), 5 - i < nf → i ≤ 5 → xs_at κ σ xd la ma va q (xs_app sc ma n0 (xs_ls q un top b i)) → um_S D vwCl A s σ H locs → lv_has ls 5 [(0, .ref (xd 16)), (1, .int (nI (top))), (2, .int (um_b (b))), (3, .int (nI (i)))] → W pp l ee ({ frames := 0, cells := 0, slots := 0, locals := 0 }) s mm args below meth cd H locs 0 0 (MQ below (va_Qv (fun σ' : um_M => xs_at κ σ' xd la ma va q (xs_app sc ma n0 (xs_ls q un top b 5))) (um_U D κ τ A) A) args s 0 0 A) (F0 mm 2 ls []) := by
    intro nf
    induction nf with
    | zero => intro i ls σ H locs hnf; exact absurd hnf (Nat.not_lt_zero _)
    | succ nf ih =>
      intro i ls σ H locs hnf z1 h hU hl
      refine lv_iload_n hx hb dX4_listByRank_2 rfl (lv_at hl 3 rfl) ?_
      refine lv_iconst (v := nI 5) hx hb dX4_listByRank_3 (by decide +kernel) ?_
      refine um_geN (tgt := 65) hx hb dX4_listByRank_4 (by decide) (by omega) (by decide) (fun c1 => ?_) (fun c1 => ?_)
      · exact um_vret hx hb hr hlocks hK hJ hU dX4_listByRank_65 (by have hi : i = 5 := (by omega); subst hi; exact h)
      · refine lv_aload_n hx hb dX4_listByRank_7 rfl (lv_at hl 0 rfl) ?_
        refine um_get (v := .ref (xd 19)) hx hb htg inX4 hown hK hU h.c16 rfl 2 (by decide) (htg _ tg_74) rfl dX4_listByRank_8 ?_
        refine lv_iload_n hx hb dX4_listByRank_11 rfl (lv_at hl 3 rfl) ?_
        refine um_ald (C := RX3) (r := (un i).map ma) hx hb hK hU 4 h.c19 rfl i rfl (by omega) (by decide) (by rw [xs_app_n _ _ _ _ (by decide)]; exact hun i (by omega)) dX4_listByRank_12 ?_
        refine um_astoreQ (lv' := [(4, va_rf ((un i).map ma)), (0, .ref (xd 16)), (1, .int (nI (top))), (2, .int (um_b (b))), (3, .int (nI (i)))]) hx hb dX4_listByRank_13 hl (by decide) rfl (fun ls hl => ?_)
        cases ho : un i with
        | none =>
          rw [ho] at hl
          have hl : lv_has ls 5 [(4, .null), (0, .ref (xd 16)), (1, .int (nI (top))), (2, .int (um_b (b))), (3, .int (nI (i)))] := hl
          refine lv_aloadN hx hb dX4_listByRank_15 (lv_at hl 0 rfl) ?_
          refine lv_ifnullN (tgt := 59) hx hb dX4_listByRank_17 (by decide) ?_
          refine lv_iinc (k := 4) (v := nI (i + 1)) (lv' := [(3, .int (nI (i + 1))), (4, .null), (0, .ref (xd 16)), (1, .int (nI (top))), (2, .int (um_b (b)))]) hx hb dX4_listByRank_59 hl rfl (nI_add _ _) (by decide) rfl (fun ls hl => ?_)
          refine lv_goto (tgt := 2) hx hb dX4_listByRank_62 (by decide) ?_
          have hl : lv_has ls 5 [(0, .ref (xd 16)), (1, .int (nI (top))), (2, .int (um_b (b))), (3, .int (nI ((i + 1))))] := lv_sub hl [2, 3, 4, 0] rfl
          have h : xs_at κ σ xd la ma va q (xs_app sc ma n0 (xs_ls q un top b (i + 1))) := by
            rw [show (xs_app sc ma n0 (xs_ls q un top b (i + 1))) = (xs_app sc ma n0 (xs_ls q un top b i)) from (by rw [xs_ls_0 ho])]
            exact h
          exact ih (i + 1) ls _ _ _ (by omega) (by omega) h hU hl
        | some e =>
          rw [ho] at hl
          have hl : lv_has ls 5 [(4, .ref (ma e)), (0, .ref (xd 16)), (1, .int (nI (top))), (2, .int (um_b (b))), (3, .int (nI (i)))] := hl
          have hM := huM i e (by omega) ho
          refine lv_aload hx hb dX4_listByRank_15 (lv_at hl 0 rfl) ?_
          refine lv_ifnull hx hb dX4_listByRank_17 ?_
          refine lv_aload hx hb dX4_listByRank_20 (lv_at hl 0 rfl) ?_
          refine um_get (v := .int (nI (q 5 e))) hx hb htg inX3 hown hK hU (show um_h σ (ma e) (.inr (3, _)) from (h.2.2.2 e hM).1) rfl 3 (by decide) (htg _ tg_412) rfl dX4_listByRank_22 ?_
          refine lv_iload_n hx hb dX4_listByRank_25 rfl (lv_at hl 2 rfl) ?_
          refine um_neN (tgt := 33) hx hb dX4_listByRank_26 (by decide) (tb_sm_lt hq 5 _) htop (fun c2 => ?_) (fun c2 => ?_)
          · refine lv_iconst (v := nI 0) hx hb dX4_listByRank_33 (by decide +kernel) ?_
            refine lv_iload_n hx hb dX4_listByRank_34 rfl (lv_at hl 3 rfl) ?_
            refine um_ne0B (tgt := 59) hx hb dX4_listByRank_35 (by decide) (fun c3 => ?_) (fun c3 => ?_)
            · refine lv_iinc (k := 4) (v := nI (i + 1)) (lv' := [(3, .int (nI (i + 1))), (4, .ref (ma e)), (0, .ref (xd 16)), (1, .int (nI (top))), (2, .int (um_b (b)))]) hx hb dX4_listByRank_59 hl rfl (nI_add _ _) (by decide) rfl (fun ls hl => ?_)
              refine lv_goto (tgt := 2) hx hb dX4_listByRank_62 (by decide) ?_
              have hl : lv_has ls 5 [(0, .ref (xd 16)), (1, .int (nI (top))), (2, .int (um_b (b))), (3, .int (nI ((i + 1))))] := lv_sub hl [2, 3, 4, 0] rfl
              have h : xs_at κ σ xd la ma va q (xs_app sc ma n0 (xs_ls q un top b (i + 1))) := by
                rw [show (xs_app sc ma n0 (xs_ls q un top b (i + 1))) = (xs_app sc ma n0 (xs_ls q un top b i)) from (by rw [xs_ls_n ho (by simp [c2, c3])])]
                exact h
              exact ih (i + 1) ls _ _ _ (by omega) (by omega) h hU hl
            · refine lv_aload_n hx hb dX4_listByRank_38 rfl (lv_at hl 1 rfl) ?_
              refine um_get (v := .ref (xd 20)) hx hb htg inX4 hown hK hU h.c16 rfl 3 (by decide) (htg _ tg_75) rfl dX4_listByRank_39 ?_
              refine lv_aload_n hx hb dX4_listByRank_42 rfl (lv_at hl 1 rfl) ?_
              refine um_get (v := .int (nI (n0 + (xs_ls q un top b i).length))) hx hb htg inX4 hown hK hU h.c16 rfl 5 (by decide) (htg _ tg_77) (congrArg (fun z => some (Value.int z)) (xs_app_z sc ma n0 (xs_ls q un top b i))) dX4_listByRank_43 ?_
              refine lv_aload hx hb dX4_listByRank_46 (lv_at hl 0 rfl) ?_
              refine xs_astQ hx hb hK hU h 2 (n0 + (xs_ls q un top b i).length) (some e) (by decide) (by have := hn0 (i + 1) (by omega); rw [xs_ls_y ho (by simp [c2, c3])] at this; rw [List.length_append, List.length_singleton] at this; omega) (fun e9 he => by cases he; exact hM) dX4_listByRank_48 (fun σ H locs h hU => ?_)
              refine lv_aload_n hx hb dX4_listByRank_49 rfl (lv_at hl 1 rfl) ?_
              refine lv_dup hx hb dX4_listByRank_50 rfl ?_
              refine um_get (v := .int (nI (n0 + (xs_ls q un top b i).length))) hx hb htg inX4 hown hK hU h.c16 rfl 5 (by decide) (htg _ tg_77) (congrArg (fun z => some (Value.int z)) (xs_app_z sc ma n0 (xs_ls q un top b i))) dX4_listByRank_51 ?_
              refine lv_iconst (v := nI 1) hx hb dX4_listByRank_54 (by decide +kernel) ?_
              refine um_addN hx hb dX4_listByRank_55 ?_
              refine xs_putI1 hx hb htg hown hK hU h (nI ((n0 + (xs_ls q un top b i).length) + 1)) (htg _ tg_77) dX4_listByRank_56 (fun σ H locs h hU => ?_)
              refine lv_iinc (k := 4) (v := nI (i + 1)) (lv' := [(3, .int (nI (i + 1))), (4, .ref (ma e)), (0, .ref (xd 16)), (1, .int (nI (top))), (2, .int (um_b (b)))]) hx hb dX4_listByRank_59 hl rfl (nI_add _ _) (by decide) rfl (fun ls hl => ?_)
              refine lv_goto (tgt := 2) hx hb dX4_listByRank_62 (by decide) ?_
              have hl : lv_has ls 5 [(0, .ref (xd 16)), (1, .int (nI (top))), (2, .int (um_b (b))), (3, .int (nI ((i + 1))))] := lv_sub hl [2, 3, 4, 0] rfl
              have h : xs_at κ σ xd la ma va q (xs_app sc ma n0 (xs_ls q un top b (i + 1))) := by
                rw [show (xs_app sc ma n0 (xs_ls q un top b (i + 1))) = (xs_sI (xs_sR (xs_app sc ma n0 (xs_ls q un top b i)) 2 (n0 + (xs_ls q un top b i).length) (some (ma e))) 1 (nI ((n0 + (xs_ls q un top b i).length) + 1))) from (by rw [xs_ls_y ho (by simp [c2, c3])]; exact (xs_app_s _ _ _ _ _).symm)]
                exact h
              exact ih (i + 1) ls _ _ _ (by omega) (by omega) h hU hl
          · refine lv_iconst (v := nI 1) hx hb dX4_listByRank_29 (by decide +kernel) ?_
            refine lv_goto (tgt := 34) hx hb dX4_listByRank_30 (by decide) ?_
            refine lv_iload_n hx hb dX4_listByRank_34 rfl (lv_at hl 3 rfl) ?_
            refine um_ne1B (tgt := 59) hx hb dX4_listByRank_35 (by decide) (fun c4 => ?_) (fun c4 => ?_)
            · refine lv_iinc (k := 4) (v := nI (i + 1)) (lv' := [(3, .int (nI (i + 1))), (4, .ref (ma e)), (0, .ref (xd 16)), (1, .int (nI (top))), (2, .int (um_b (b)))]) hx hb dX4_listByRank_59 hl rfl (nI_add _ _) (by decide) rfl (fun ls hl => ?_)
              refine lv_goto (tgt := 2) hx hb dX4_listByRank_62 (by decide) ?_
              have hl : lv_has ls 5 [(0, .ref (xd 16)), (1, .int (nI (top))), (2, .int (um_b (b))), (3, .int (nI ((i + 1))))] := lv_sub hl [2, 3, 4, 0] rfl
              have h : xs_at κ σ xd la ma va q (xs_app sc ma n0 (xs_ls q un top b (i + 1))) := by
                rw [show (xs_app sc ma n0 (xs_ls q un top b (i + 1))) = (xs_app sc ma n0 (xs_ls q un top b i)) from (by rw [xs_ls_n ho (by simp [c2, c4])])]
                exact h
              exact ih (i + 1) ls _ _ _ (by omega) (by omega) h hU hl
            · refine lv_aload_n hx hb dX4_listByRank_38 rfl (lv_at hl 1 rfl) ?_
              refine um_get (v := .ref (xd 20)) hx hb htg inX4 hown hK hU h.c16 rfl 3 (by decide) (htg _ tg_75) rfl dX4_listByRank_39 ?_
              refine lv_aload_n hx hb dX4_listByRank_42 rfl (lv_at hl 1 rfl) ?_
              refine um_get (v := .int (nI (n0 + (xs_ls q un top b i).length))) hx hb htg inX4 hown hK hU h.c16 rfl 5 (by decide) (htg _ tg_77) (congrArg (fun z => some (Value.int z)) (xs_app_z sc ma n0 (xs_ls q un top b i))) dX4_listByRank_43 ?_
              refine lv_aload hx hb dX4_listByRank_46 (lv_at hl 0 rfl) ?_
              refine xs_astQ hx hb hK hU h 2 (n0 + (xs_ls q un top b i).length) (some e) (by decide) (by have := hn0 (i + 1) (by omega); rw [xs_ls_y ho (by simp [c2, c4])] at this; rw [List.length_append, List.length_singleton] at this; omega) (fun e9 he => by cases he; exact hM) dX4_listByRank_48 (fun σ H locs h hU => ?_)
              refine lv_aload_n hx hb dX4_listByRank_49 rfl (lv_at hl 1 rfl) ?_
              refine lv_dup hx hb dX4_listByRank_50 rfl ?_
              refine um_get (v := .int (nI (n0 + (xs_ls q un top b i).length))) hx hb htg inX4 hown hK hU h.c16 rfl 5 (by decide) (htg _ tg_77) (congrArg (fun z => some (Value.int z)) (xs_app_z sc ma n0 (xs_ls q un top b i))) dX4_listByRank_51 ?_
              refine lv_iconst (v := nI 1) hx hb dX4_listByRank_54 (by decide +kernel) ?_
              refine um_addN hx hb dX4_listByRank_55 ?_
              refine xs_putI1 hx hb htg hown hK hU h (nI ((n0 + (xs_ls q un top b i).length) + 1)) (htg _ tg_77) dX4_listByRank_56 (fun σ H locs h hU => ?_)
              refine lv_iinc (k := 4) (v := nI (i + 1)) (lv' := [(3, .int (nI (i + 1))), (4, .ref (ma e)), (0, .ref (xd 16)), (1, .int (nI (top))), (2, .int (um_b (b)))]) hx hb dX4_listByRank_59 hl rfl (nI_add _ _) (by decide) rfl (fun ls hl => ?_)
              refine lv_goto (tgt := 2) hx hb dX4_listByRank_62 (by decide) ?_
              have hl : lv_has ls 5 [(0, .ref (xd 16)), (1, .int (nI (top))), (2, .int (um_b (b))), (3, .int (nI ((i + 1))))] := lv_sub hl [2, 3, 4, 0] rfl
              have h : xs_at κ σ xd la ma va q (xs_app sc ma n0 (xs_ls q un top b (i + 1))) := by
                rw [show (xs_app sc ma n0 (xs_ls q un top b (i + 1))) = (xs_sI (xs_sR (xs_app sc ma n0 (xs_ls q un top b i)) 2 (n0 + (xs_ls q un top b i).length) (some (ma e))) 1 (nI ((n0 + (xs_ls q un top b i).length) + 1))) from (by rw [xs_ls_y ho (by simp [c2, c4])]; exact (xs_app_s _ _ _ _ _).symm)]
                exact h
              exact ih (i + 1) ls _ _ _ (by omega) (by omega) h hU hl
  refine lv_iconst (v := nI 0) hx hb dX4_listByRank_0 (by decide +kernel) ?_
  refine lv_istore_n (lv' := [(3, .int (nI (0))), (0, .ref (xd 16)), (1, .int (nI (top))), (2, .int (um_b (b)))]) hx hb dX4_listByRank_1 rfl hl (by decide) rfl (fun ls hl => ?_)
  have hl : lv_has ls 5 [(0, .ref (xd 16)), (1, .int (nI (top))), (2, .int (um_b (b))), (3, .int (nI (0)))] := lv_sub hl [1, 2, 3, 0] rfl
  have h : xs_at κ σ xd la ma va q (xs_app sc ma n0 (xs_ls q un top b 0)) := by
    rw [show (xs_app sc ma n0 (xs_ls q un top b 0)) = sc from (xs_app_0 _ _ _ hsz)]
    exact h
  exact L1 6 0 ls _ _ _ (by omega) (by omega) h hU hl

set_option maxRecDepth 100000 in
set_option maxHeartbeats 4000000 in
theorem xn_open (l : Launch) (D : va_G) (κ : Nat → ClassId) (τ : Nat → Nat) (A : Nat → Prop) (σ : um_M) (xd la ma va : Nat → Nat) (q : tb_Q) (sc : xs_S) (h : xs_at κ σ xd la ma va q sc) (ok : tb_ok q) (d sp : Nat) (hd : d < 5) (hsp : sp < 72) : Met l yX4_open wsX4_open ({ frames := 2, cells := 0, slots := 0, locals := 60 }) (va_Pc [.ref (xd 16), .int (nI (sp)), .ref (xd (4 + d))] (um_U D κ τ A σ)) (va_Qv (fun σ' : um_M => xs_at κ σ' xd la ma va q (xs_pg q ma sc d sp)) (um_U D κ τ A) A) 0 0 A := by
  refine um_met (cc := cX4_open) (maxL := 7) (ret := none) (by decide) rfl rfl ?_
  intro pp ee s mm args below meth cd ls hx hb hr hts hown hlocks hml hnm hK hJ hU hl
  have hown : s.vm.findClass RX4 = some mm.cls := hown
  have htg : ∀ w ∈ lw_g, w.before args s = true := fun w h => hts w (List.mem_cons_of_mem _ h)
  have hl : lv_has ls 7 [(0, .ref (xd 16)), (1, .int (nI (sp))), (2, .ref (xd (4 + d)))] := hl
  have hq := ok.sm
  have L2 : ∀ (nf : Nat) (i : Nat) (ls : Array Slot) (σ : um_M) (H : Heap) (locs : List Loc), 5 - i < nf → i ≤ 5 → xs_at κ σ xd la ma va q (xs_fill (xs_fill sc 0 (fun j => (xs_lo q d sp j).map ma) 5) 1 (fun j => (xs_un q (xs_lo q d sp) j).map ma) i) → um_S D vwCl A s σ H locs → lv_has ls 7 [(0, .ref (xd 16)), (3, .int (nI (tb_fo (xs_tpF q (xs_un q (xs_lo q d sp))) 0 i))), (4, .int (nI (i)))] → W pp l ee ({ frames := 2, cells := 0, slots := 0, locals := 60 }) s mm args below meth cd H locs 0 0 (MQ below (va_Qv (fun σ' : um_M => xs_at κ σ' xd la ma va q (xs_pg q ma sc d sp)) (um_U D κ τ A) A) args s 0 0 A) (F0 mm 31 ls []) := by
    intro nf
    induction nf with
    | zero => intro i ls σ H locs hnf; exact absurd hnf (Nat.not_lt_zero _)
    | succ nf ih =>
      intro i ls σ H locs hnf z1 h hU hl
      refine lv_iload hx hb dX4_open_31 (lv_at hl 2 rfl) ?_
      refine lv_iconst (v := nI 5) hx hb dX4_open_33 (by decide +kernel) ?_
      refine um_geN (tgt := 106) hx hb dX4_open_34 (by decide) (by omega) (by decide) (fun c1 => ?_) (fun c1 => ?_)
      · have hi5 : i = 5 := by omega
        subst hi5
        have hl : lv_has ls 7 [(0, .ref (xd 16)), (3, .int (nI (xs_tp q (xs_un q (xs_lo q d sp)))))] := lv_sub hl [0, 1] rfl
        refine lv_aload_n hx hb dX4_open_106 rfl (lv_at hl 0 rfl) ?_
        refine lv_iconst (v := nI 0) hx hb dX4_open_107 (by decide +kernel) ?_
        refine xs_putI1 hx hb htg hown hK hU h (nI 0) (htg _ tg_77) dX4_open_108 (fun σ H locs h hU => ?_)
        refine lv_aload_n hx hb dX4_open_111 rfl (lv_at hl 0 rfl) ?_
        refine lv_iload_n hx hb dX4_open_112 rfl (lv_at hl 1 rfl) ?_
        refine lv_iconst (v := nI 1) hx hb dX4_open_113 (by decide +kernel) ?_
        refine um_callv (va_runV (As := [.int (nI (xs_tp q (xs_un q (xs_lo q d sp)))), .int (nI (1))]) (rest := []) ⟨hx, hb, hml, hown, htg⟩ (xn_listByRank l D κ τ A σ xd la ma va q (xs_sI (xs_fill (xs_fill sc 0 (fun j => (xs_lo q d sp j).map ma) 5) 1 (fun j => (xs_un q (xs_lo q d sp) j).map ma) 5) 1 (nI 0)) h ok (xs_un q (xs_lo q d sp)) (xs_tp q (xs_un q (xs_lo q d sp))) true 0 (fun j9 hj9 => xs_fill_at (xs_fill sc 0 (fun j => (xs_lo q d sp j).map ma) 5) 1 (fun j => (xs_un q (xs_lo q d sp) j).map ma) hj9) (fun j9 f9 hj9 hf9 => (xs_lo_M ok.m40 ok.kn hd hj9 (xs_un_some hf9).1).1) (xs_tp_lt hq _ 5) (xs_sI_s _ _ _) (fun i9 hi9 => by have := xs_ls_len q (xs_un q (xs_lo q d sp)) (xs_tp q (xs_un q (xs_lo q d sp))) true i9; omega)) (cwV 2 htg (lw_cV tg_460 tg_462 slX4_listByRank tg_4 tg_463) rfl rfl rfl (by decide +kernel) ⟨Nat.le_of_ble_eq_true rfl, Nat.le_of_ble_eq_true rfl⟩) (um_preV hU hK hJ h.c16 rfl) rfl rfl hl.1 rfl (lv_room (Nat.le_of_ble_eq_true rfl)) dX4_open_114 ⟨Nat.le_of_ble_eq_true rfl, Nat.le_of_ble_eq_true rfl⟩) hU (fun σ H locs h hU => ?_)
        refine lv_aload_n hx hb dX4_open_117 rfl (lv_at hl 0 rfl) ?_
        refine lv_aload_n hx hb dX4_open_118 rfl (lv_at hl 0 rfl) ?_
        refine um_get (v := .int (nI ((xs_ls q (xs_un q (xs_lo q d sp)) (xs_tp q (xs_un q (xs_lo q d sp))) true 5).length))) hx hb htg inX4 hown hK hU h.c16 rfl 5 (by decide) (htg _ tg_77) (congrArg (fun z => some (Value.int z)) (xs_app_z0 _ _ _)) dX4_open_119 ?_
        refine xs_putI0 hx hb htg hown hK hU h (nI ((xs_ls q (xs_un q (xs_lo q d sp)) (xs_tp q (xs_un q (xs_lo q d sp))) true 5).length)) (htg _ tg_76) dX4_open_122 (fun σ H locs h hU => ?_)
        refine lv_aload_n hx hb dX4_open_125 rfl (lv_at hl 0 rfl) ?_
        refine lv_iload_n hx hb dX4_open_126 rfl (lv_at hl 1 rfl) ?_
        refine lv_iconst (v := nI 0) hx hb dX4_open_127 (by decide +kernel) ?_
        refine um_callv (va_runV (As := [.int (nI (xs_tp q (xs_un q (xs_lo q d sp)))), .int (nI (0))]) (rest := []) ⟨hx, hb, hml, hown, htg⟩ (xn_listByRank l D κ τ A σ xd la ma va q (xs_sI (xs_app (xs_sI (xs_fill (xs_fill sc 0 (fun j => (xs_lo q d sp j).map ma) 5) 1 (fun j => (xs_un q (xs_lo q d sp) j).map ma) 5) 1 (nI 0)) ma 0 (xs_ls q (xs_un q (xs_lo q d sp)) (xs_tp q (xs_un q (xs_lo q d sp))) true 5)) 0 (nI ((xs_ls q (xs_un q (xs_lo q d sp)) (xs_tp q (xs_un q (xs_lo q d sp))) true 5).length))) h ok (xs_un q (xs_lo q d sp)) (xs_tp q (xs_un q (xs_lo q d sp))) false (xs_ls q (xs_un q (xs_lo q d sp)) (xs_tp q (xs_un q (xs_lo q d sp))) true 5).length (fun j9 hj9 => (congrFun (xs_app_n (xs_sI (xs_fill (xs_fill sc 0 (fun j => (xs_lo q d sp j).map ma) 5) 1 (fun j => (xs_un q (xs_lo q d sp) j).map ma) 5) 1 (nI 0)) ma 0 (xs_ls q (xs_un q (xs_lo q d sp)) (xs_tp q (xs_un q (xs_lo q d sp))) true 5) (r := 1) (by decide)) j9).trans (xs_fill_at (xs_fill sc 0 (fun j => (xs_lo q d sp j).map ma) 5) 1 (fun j => (xs_un q (xs_lo q d sp) j).map ma) hj9)) (fun j9 f9 hj9 hf9 => (xs_lo_M ok.m40 ok.kn hd hj9 (xs_un_some hf9).1).1) (xs_tp_lt hq _ 5) ((xs_sI_n _ _ (by decide)).trans (xs_app_z0 _ _ _)) (fun i9 hi9 => xs_ls_5 q (xs_un q (xs_lo q d sp)) (xs_tp q (xs_un q (xs_lo q d sp))) hi9)) (cwV 2 htg (lw_cV tg_460 tg_462 slX4_listByRank tg_4 tg_463) rfl rfl rfl (by decide +kernel) ⟨Nat.le_of_ble_eq_true rfl, Nat.le_of_ble_eq_true rfl⟩) (um_preV hU hK hJ h.c16 rfl) rfl rfl hl.1 rfl (lv_room (Nat.le_of_ble_eq_true rfl)) dX4_open_128 ⟨Nat.le_of_ble_eq_true rfl, Nat.le_of_ble_eq_true rfl⟩) hU (fun σ H locs h hU => ?_)
        exact um_vret hx hb hr hlocks hK hJ hU dX4_open_131 (by exact h)
      · refine lv_aload_n hx hb dX4_open_37 rfl (lv_at hl 0 rfl) ?_
        refine um_get (v := .ref (xd 18)) hx hb htg inX4 hown hK hU h.c16 rfl 1 (by decide) (htg _ tg_73) rfl dX4_open_38 ?_
        refine lv_iload hx hb dX4_open_41 (lv_at hl 2 rfl) ?_
        refine um_ald (C := RX3) (r := (xs_lo q d sp i).map ma) hx hb hK hU 4 h.c18 rfl i rfl (by omega) (by decide) (by rw [xs_fill_n _ _ _ (by decide)]; exact xs_fill_at _ _ _ (by omega)) dX4_open_43 ?_
        refine um_astoreQ (lv' := [(5, va_rf ((xs_lo q d sp i).map ma)), (0, .ref (xd 16)), (3, .int (nI (tb_fo (xs_tpF q (xs_un q (xs_lo q d sp))) 0 i))), (4, .int (nI (i)))]) hx hb dX4_open_44 hl (by decide) rfl (fun ls hl => ?_)
        cases ho : xs_lo q d sp i with
        | none =>
          rw [ho] at hl
          have hl : lv_has ls 7 [(5, .null), (0, .ref (xd 16)), (3, .int (nI (tb_fo (xs_tpF q (xs_un q (xs_lo q d sp))) 0 i))), (4, .int (nI (i)))] := hl
          refine lv_aloadN hx hb dX4_open_46 (lv_at hl 0 rfl) ?_
          refine lv_ifnullN (tgt := 64) hx hb dX4_open_48 (by decide) ?_
          refine lv_iconst (v := nI 0) hx hb dX4_open_64 (by decide +kernel) ?_
          refine lv_istore (lv' := [(6, .int (nI (0))), (5, .null), (0, .ref (xd 16)), (3, .int (nI (tb_fo (xs_tpF q (xs_un q (xs_lo q d sp))) 0 i))), (4, .int (nI (i)))]) hx hb dX4_open_65 hl (by decide) rfl (fun ls hl => ?_)
          refine lv_aload_n hx hb dX4_open_67 rfl (lv_at hl 2 rfl) ?_
          refine um_get (v := .ref (xd 19)) hx hb htg inX4 hown hK hU h.c16 rfl 2 (by decide) (htg _ tg_74) rfl dX4_open_68 ?_
          refine lv_iload hx hb dX4_open_71 (lv_at hl 4 rfl) ?_
          refine lv_iload hx hb dX4_open_73 (lv_at hl 0 rfl) ?_
          refine lv_if_eq (tgt := 83) hx hb dX4_open_75 (by decide) (fun _ => ?_) (fun h => absurd (by decide +kernel) h)
          refine lv_null hx hb dX4_open_83 ?_
          refine xs_astQ hx hb hK hU h 1 i none (by decide) (by omega) (fun e9 he => by cases he) dX4_open_84 (fun σ H locs h hU => ?_)
          refine lv_iload hx hb dX4_open_85 (lv_at hl 0 rfl) ?_
          refine lv_if_eq (tgt := 100) hx hb dX4_open_87 (by decide) (fun _ => ?_) (fun h => absurd (by decide +kernel) h)
          refine lv_iinc (k := 4) (v := nI (i + 1)) (lv' := [(4, .int (nI (i + 1))), (6, .int (nI (0))), (5, .null), (0, .ref (xd 16)), (3, .int (nI (tb_fo (xs_tpF q (xs_un q (xs_lo q d sp))) 0 i)))]) hx hb dX4_open_100 hl rfl (nI_add _ _) (by decide) rfl (fun ls hl => ?_)
          refine lv_goto (tgt := 31) hx hb dX4_open_103 (by decide) ?_
          have hl : lv_has ls 7 [(0, .ref (xd 16)), (3, .int (nI (tb_fo (xs_tpF q (xs_un q (xs_lo q d sp))) 0 (i + 1)))), (4, .int (nI ((i + 1))))] := by
            rw [show (tb_fo (xs_tpF q (xs_un q (xs_lo q d sp))) 0 (i + 1)) = (tb_fo (xs_tpF q (xs_un q (xs_lo q d sp))) 0 i) from xs_tp_n (xs_un_n0 ho)]
            exact lv_sub hl [3, 4, 0] rfl
          have h : xs_at κ σ xd la ma va q (xs_fill (xs_fill sc 0 (fun j => (xs_lo q d sp j).map ma) 5) 1 (fun j => (xs_un q (xs_lo q d sp) j).map ma) (i + 1)) := by
            rw [show (xs_fill (xs_fill sc 0 (fun j => (xs_lo q d sp j).map ma) 5) 1 (fun j => (xs_un q (xs_lo q d sp) j).map ma) (i + 1)) = (xs_sR (xs_fill (xs_fill sc 0 (fun j => (xs_lo q d sp j).map ma) 5) 1 (fun j => (xs_un q (xs_lo q d sp) j).map ma) i) 1 i none) from ((xs_fill_s _ _ _ _).symm.trans (congrArg (xs_sR _ 1 i) (by show Option.map ma (xs_un q (xs_lo q d sp) i) = _; rw [xs_un_n0 ho]; rfl)))]
            exact h
          exact ih (i + 1) ls _ _ _ (by omega) (by omega) h hU hl
        | some e =>
          rw [ho] at hl
          have hl : lv_has ls 7 [(5, .ref (ma e)), (0, .ref (xd 16)), (3, .int (nI (tb_fo (xs_tpF q (xs_un q (xs_lo q d sp))) 0 i))), (4, .int (nI (i)))] := hl
          have hM := (xs_lo_M ok.m40 ok.kn hd (show i < 5 by omega) ho).1
          refine lv_aload hx hb dX4_open_46 (lv_at hl 0 rfl) ?_
          refine lv_ifnull hx hb dX4_open_48 ?_
          refine lv_aload_n hx hb dX4_open_51 rfl (lv_at hl 1 rfl) ?_
          refine lv_aload hx hb dX4_open_52 (lv_at hl 0 rfl) ?_
          refine um_callP (va_runV (As := [.ref (ma e)]) (rest := []) ⟨hx, hb, hml, hown, htg⟩ (xn_isKnown l D κ τ A σ xd la ma va q (xs_fill (xs_fill sc 0 (fun j => (xs_lo q d sp j).map ma) 5) 1 (fun j => (xs_un q (xs_lo q d sp) j).map ma) i) h ok (xs_lo q d sp) (fun j9 hj9 => by rw [xs_fill_n _ _ _ (by decide)]; exact xs_fill_at _ _ _ (by omega)) (fun j9 f9 hj9 hf9 => (xs_lo_M ok.m40 ok.kn hd hj9 hf9).1) e hM) (cwV 1 htg (lw_cV tg_449 tg_451 slX4_isKnownToAnother tg_4 tg_452) rfl rfl rfl (by decide +kernel) ⟨Nat.le_of_ble_eq_true rfl, Nat.le_of_ble_eq_true rfl⟩) (um_preV hU hK hJ h.c16 rfl) rfl rfl hl.1 rfl (lv_room (Nat.le_of_ble_eq_true rfl)) dX4_open_54 ⟨Nat.le_of_ble_eq_true rfl, Nat.le_of_ble_eq_true rfl⟩) hU (fun H locs hU => ?_)
          refine um_neB (tgt := 64) hx hb dX4_open_57 (by decide) (fun c2 => ?_) (fun c2 => ?_)
          · refine lv_iconst (v := nI 0) hx hb dX4_open_64 (by decide +kernel) ?_
            refine lv_istore (lv' := [(6, .int (nI (0))), (5, .ref (ma e)), (0, .ref (xd 16)), (3, .int (nI (tb_fo (xs_tpF q (xs_un q (xs_lo q d sp))) 0 i))), (4, .int (nI (i)))]) hx hb dX4_open_65 hl (by decide) rfl (fun ls hl => ?_)
            refine lv_aload_n hx hb dX4_open_67 rfl (lv_at hl 2 rfl) ?_
            refine um_get (v := .ref (xd 19)) hx hb htg inX4 hown hK hU h.c16 rfl 2 (by decide) (htg _ tg_74) rfl dX4_open_68 ?_
            refine lv_iload hx hb dX4_open_71 (lv_at hl 4 rfl) ?_
            refine lv_iload hx hb dX4_open_73 (lv_at hl 0 rfl) ?_
            refine lv_if_eq (tgt := 83) hx hb dX4_open_75 (by decide) (fun _ => ?_) (fun h => absurd (by decide +kernel) h)
            refine lv_null hx hb dX4_open_83 ?_
            refine xs_astQ hx hb hK hU h 1 i none (by decide) (by omega) (fun e9 he => by cases he) dX4_open_84 (fun σ H locs h hU => ?_)
            refine lv_iload hx hb dX4_open_85 (lv_at hl 0 rfl) ?_
            refine lv_if_eq (tgt := 100) hx hb dX4_open_87 (by decide) (fun _ => ?_) (fun h => absurd (by decide +kernel) h)
            refine lv_iinc (k := 4) (v := nI (i + 1)) (lv' := [(4, .int (nI (i + 1))), (6, .int (nI (0))), (5, .ref (ma e)), (0, .ref (xd 16)), (3, .int (nI (tb_fo (xs_tpF q (xs_un q (xs_lo q d sp))) 0 i)))]) hx hb dX4_open_100 hl rfl (nI_add _ _) (by decide) rfl (fun ls hl => ?_)
            refine lv_goto (tgt := 31) hx hb dX4_open_103 (by decide) ?_
            have hl : lv_has ls 7 [(0, .ref (xd 16)), (3, .int (nI (tb_fo (xs_tpF q (xs_un q (xs_lo q d sp))) 0 (i + 1)))), (4, .int (nI ((i + 1))))] := by
              rw [show (tb_fo (xs_tpF q (xs_un q (xs_lo q d sp))) 0 (i + 1)) = (tb_fo (xs_tpF q (xs_un q (xs_lo q d sp))) 0 i) from xs_tp_n (xs_un_n1 ho c2)]
              exact lv_sub hl [3, 4, 0] rfl
            have h : xs_at κ σ xd la ma va q (xs_fill (xs_fill sc 0 (fun j => (xs_lo q d sp j).map ma) 5) 1 (fun j => (xs_un q (xs_lo q d sp) j).map ma) (i + 1)) := by
              rw [show (xs_fill (xs_fill sc 0 (fun j => (xs_lo q d sp j).map ma) 5) 1 (fun j => (xs_un q (xs_lo q d sp) j).map ma) (i + 1)) = (xs_sR (xs_fill (xs_fill sc 0 (fun j => (xs_lo q d sp j).map ma) 5) 1 (fun j => (xs_un q (xs_lo q d sp) j).map ma) i) 1 i none) from ((xs_fill_s _ _ _ _).symm.trans (congrArg (xs_sR _ 1 i) (by show Option.map ma (xs_un q (xs_lo q d sp) i) = _; rw [xs_un_n1 ho c2]; rfl)))]
              exact h
            exact ih (i + 1) ls _ _ _ (by omega) (by omega) h hU hl
          · refine lv_iconst (v := nI 1) hx hb dX4_open_60 (by decide +kernel) ?_
            refine lv_goto (tgt := 65) hx hb dX4_open_61 (by decide) ?_
            refine lv_istore (lv' := [(6, .int (nI (1))), (5, .ref (ma e)), (0, .ref (xd 16)), (3, .int (nI (tb_fo (xs_tpF q (xs_un q (xs_lo q d sp))) 0 i))), (4, .int (nI (i)))]) hx hb dX4_open_65 hl (by decide) rfl (fun ls hl => ?_)
            refine lv_aload_n hx hb dX4_open_67 rfl (lv_at hl 2 rfl) ?_
            refine um_get (v := .ref (xd 19)) hx hb htg inX4 hown hK hU h.c16 rfl 2 (by decide) (htg _ tg_74) rfl dX4_open_68 ?_
            refine lv_iload hx hb dX4_open_71 (lv_at hl 4 rfl) ?_
            refine lv_iload hx hb dX4_open_73 (lv_at hl 0 rfl) ?_
            refine lv_if_eq (tgt := 83) hx hb dX4_open_75 (by decide) (fun h => absurd h (by decide +kernel)) (fun _ => ?_)
            refine lv_aload hx hb dX4_open_78 (lv_at hl 1 rfl) ?_
            refine lv_goto (tgt := 84) hx hb dX4_open_80 (by decide) ?_
            refine xs_astQ hx hb hK hU h 1 i (some e) (by decide) (by omega) (fun e9 he => by cases he; exact hM) dX4_open_84 (fun σ H locs h hU => ?_)
            refine lv_iload hx hb dX4_open_85 (lv_at hl 0 rfl) ?_
            refine lv_if_eq (tgt := 100) hx hb dX4_open_87 (by decide) (fun h => absurd h (by decide +kernel)) (fun _ => ?_)
            refine lv_iload_n hx hb dX4_open_90 rfl (lv_at hl 3 rfl) ?_
            refine lv_aload hx hb dX4_open_91 (lv_at hl 1 rfl) ?_
            refine um_get (v := .int (nI (q 5 e))) hx hb htg inX3 hown hK hU (show um_h σ (ma e) (.inr (3, _)) from (h.2.2.2 e hM).1) rfl 3 (by decide) (htg _ tg_412) rfl dX4_open_93 ?_
            refine um_max (x := tb_fo (xs_tpF q (xs_un q (xs_lo q d sp))) 0 i) (y := q 5 e) hx hb (by rw [hml]; exact hl.1.symm) hown (htg _ tg_457) (htg _ tg_458) (htg _ tg_17) (htg _ tg_459) (Nat.le_of_ble_eq_true rfl) (Nat.le_of_ble_eq_true rfl) (Nat.le_of_ble_eq_true rfl) (Nat.le_of_ble_eq_true rfl) (xs_tp_lt hq _ i) (tb_sm_lt hq 5 _) dX4_open_96 ?_
            refine lv_istore_n (lv' := [(3, .int (nI (if tb_fo (xs_tpF q (xs_un q (xs_lo q d sp))) 0 i < q 5 e then q 5 e else tb_fo (xs_tpF q (xs_un q (xs_lo q d sp))) 0 i))), (6, .int (nI (1))), (5, .ref (ma e)), (0, .ref (xd 16)), (4, .int (nI (i)))]) hx hb dX4_open_99 rfl hl (by decide) rfl (fun ls hl => ?_)
            refine lv_iinc (k := 4) (v := nI (i + 1)) (lv' := [(4, .int (nI (i + 1))), (3, .int (nI (if tb_fo (xs_tpF q (xs_un q (xs_lo q d sp))) 0 i < q 5 e then q 5 e else tb_fo (xs_tpF q (xs_un q (xs_lo q d sp))) 0 i))), (6, .int (nI (1))), (5, .ref (ma e)), (0, .ref (xd 16))]) hx hb dX4_open_100 hl rfl (nI_add _ _) (by decide) rfl (fun ls hl => ?_)
            refine lv_goto (tgt := 31) hx hb dX4_open_103 (by decide) ?_
            have hl : lv_has ls 7 [(0, .ref (xd 16)), (3, .int (nI (tb_fo (xs_tpF q (xs_un q (xs_lo q d sp))) 0 (i + 1)))), (4, .int (nI ((i + 1))))] := by
              rw [show (tb_fo (xs_tpF q (xs_un q (xs_lo q d sp))) 0 (i + 1)) = (if tb_fo (xs_tpF q (xs_un q (xs_lo q d sp))) 0 i < q 5 e then q 5 e else tb_fo (xs_tpF q (xs_un q (xs_lo q d sp))) 0 i) from xs_tp_y (xs_un_y ho c2)]
              exact lv_sub hl [4, 1, 0] rfl
            have h : xs_at κ σ xd la ma va q (xs_fill (xs_fill sc 0 (fun j => (xs_lo q d sp j).map ma) 5) 1 (fun j => (xs_un q (xs_lo q d sp) j).map ma) (i + 1)) := by
              rw [show (xs_fill (xs_fill sc 0 (fun j => (xs_lo q d sp j).map ma) 5) 1 (fun j => (xs_un q (xs_lo q d sp) j).map ma) (i + 1)) = (xs_sR (xs_fill (xs_fill sc 0 (fun j => (xs_lo q d sp j).map ma) 5) 1 (fun j => (xs_un q (xs_lo q d sp) j).map ma) i) 1 i (some (ma e))) from ((xs_fill_s _ _ _ _).symm.trans (congrArg (xs_sR _ 1 i) (by show Option.map ma (xs_un q (xs_lo q d sp) i) = _; rw [xs_un_y ho c2]; rfl)))]
              exact h
            exact ih (i + 1) ls _ _ _ (by omega) (by omega) h hU hl
  have L1 : ∀ (nf : Nat) (i : Nat) (ls : Array Slot) (σ : um_M) (H : Heap) (locs : List Loc), 5 - i < nf → i ≤ 5 → xs_at κ σ xd la ma va q (xs_fill sc 0 (fun j => (xs_lo q d sp j).map ma) i) → um_S D vwCl A s σ H locs → lv_has ls 7 [(0, .ref (xd 16)), (1, .int (nI (sp))), (2, .ref (xd (4 + d))), (3, .int (nI (i)))] → W pp l ee ({ frames := 2, cells := 0, slots := 0, locals := 60 }) s mm args below meth cd H locs 0 0 (MQ below (va_Qv (fun σ' : um_M => xs_at κ σ' xd la ma va q (xs_pg q ma sc d sp)) (um_U D κ τ A) A) args s 0 0 A) (F0 mm 2 ls []) := by
    intro nf
    induction nf with
    | zero => intro i ls σ H locs hnf; exact absurd hnf (Nat.not_lt_zero _)
    | succ nf ih =>
      intro i ls σ H locs hnf z1 h hU hl
      refine lv_iload_n hx hb dX4_open_2 rfl (lv_at hl 3 rfl) ?_
      refine lv_iconst (v := nI 5) hx hb dX4_open_3 (by decide +kernel) ?_
      refine um_geN (tgt := 26) hx hb dX4_open_4 (by decide) (by omega) (by decide) (fun c3 => ?_) (fun c3 => ?_)
      · refine lv_iconst (v := nI 0) hx hb dX4_open_26 (by decide +kernel) ?_
        refine lv_istore_n (lv' := [(3, .int (nI (0))), (0, .ref (xd 16)), (1, .int (nI (sp))), (2, .ref (xd (4 + d)))]) hx hb dX4_open_27 rfl hl (by decide) rfl (fun ls hl => ?_)
        refine lv_iconst (v := nI 0) hx hb dX4_open_28 (by decide +kernel) ?_
        refine lv_istore (lv' := [(4, .int (nI (0))), (3, .int (nI (0))), (0, .ref (xd 16)), (1, .int (nI (sp))), (2, .ref (xd (4 + d)))]) hx hb dX4_open_29 hl (by decide) rfl (fun ls hl => ?_)
        have hl : lv_has ls 7 [(0, .ref (xd 16)), (3, .int (nI (tb_fo (xs_tpF q (xs_un q (xs_lo q d sp))) 0 0))), (4, .int (nI (0)))] := by
          rw [show (tb_fo (xs_tpF q (xs_un q (xs_lo q d sp))) 0 0) = 0 from rfl]
          exact lv_sub hl [2, 1, 0] rfl
        have h : xs_at κ σ xd la ma va q (xs_fill (xs_fill sc 0 (fun j => (xs_lo q d sp j).map ma) 5) 1 (fun j => (xs_un q (xs_lo q d sp) j).map ma) 0) := by
          rw [show (xs_fill (xs_fill sc 0 (fun j => (xs_lo q d sp j).map ma) 5) 1 (fun j => (xs_un q (xs_lo q d sp) j).map ma) 0) = (xs_fill sc 0 (fun j => (xs_lo q d sp j).map ma) i) from (by rw [xs_fill_0, show i = 5 by omega])]
          exact h
        exact L2 6 0 ls _ _ _ (by omega) (by omega) h hU hl
      · refine lv_aload_n hx hb dX4_open_7 rfl (lv_at hl 0 rfl) ?_
        refine um_get (v := .ref (xd 18)) hx hb htg inX4 hown hK hU h.c16 rfl 1 (by decide) (htg _ tg_73) rfl dX4_open_8 ?_
        refine lv_iload_n hx hb dX4_open_11 rfl (lv_at hl 3 rfl) ?_
        refine lv_aload_n hx hb dX4_open_12 rfl (lv_at hl 0 rfl) ?_
        refine lv_iload_n hx hb dX4_open_13 rfl (lv_at hl 1 rfl) ?_
        refine lv_iload_n hx hb dX4_open_14 rfl (lv_at hl 3 rfl) ?_
        refine lv_aload_n hx hb dX4_open_15 rfl (lv_at hl 2 rfl) ?_
        refine um_callPq (va_runV (As := [.int (nI (sp)), .int (nI (i)), .ref (xd (4 + d))]) (rest := [.int (nI (i)), .ref (xd 18)]) ⟨hx, hb, hml, hown, htg⟩ (xn_lastKnown l D κ τ A σ xd la ma va q (xs_fill sc 0 (fun j => (xs_lo q d sp j).map ma) i) h ok d sp i (by omega) (by omega) (by omega)) (cwV 3 htg (lw_cV tg_445 tg_447 slX4_lastKnown tg_4 tg_448) rfl rfl rfl (by decide +kernel) ⟨Nat.le_of_ble_eq_true rfl, Nat.le_of_ble_eq_true rfl⟩) (um_preV hU hK hJ h.c16 rfl) rfl rfl hl.1 rfl (lv_room (Nat.le_of_ble_eq_true rfl)) dX4_open_16 ⟨Nat.le_of_ble_eq_true rfl, Nat.le_of_ble_eq_true rfl⟩) hU (fun H locs hU => ?_)
        refine xs_astQ hx hb hK hU h 0 i (xs_lm q sp i (q 7 (5 * d + i))) (by decide) (by omega) (fun e9 he9 => (xs_lo_M ok.m40 ok.kn hd (show i < 5 by omega) he9).1) dX4_open_19 (fun σ H locs h hU => ?_)
        refine lv_iinc (k := 3) (v := nI (i + 1)) (lv' := [(3, .int (nI (i + 1))), (0, .ref (xd 16)), (1, .int (nI (sp))), (2, .ref (xd (4 + d)))]) hx hb dX4_open_20 hl rfl (nI_add _ _) (by decide) rfl (fun ls hl => ?_)
        refine lv_goto (tgt := 2) hx hb dX4_open_23 (by decide) ?_
        have hl : lv_has ls 7 [(0, .ref (xd 16)), (1, .int (nI (sp))), (2, .ref (xd (4 + d))), (3, .int (nI ((i + 1))))] := lv_sub hl [1, 2, 3, 0] rfl
        have h : xs_at κ σ xd la ma va q (xs_fill sc 0 (fun j => (xs_lo q d sp j).map ma) (i + 1)) := by
          rw [show (xs_fill sc 0 (fun j => (xs_lo q d sp j).map ma) (i + 1)) = (xs_sR (xs_fill sc 0 (fun j => (xs_lo q d sp j).map ma) i) 0 i ((xs_lm q sp i (q 7 (5 * d + i))).map ma)) from (xs_fill_s _ _ _ _).symm]
          exact h
        exact ih (i + 1) ls _ _ _ (by omega) (by omega) h hU hl
  refine lv_iconst (v := nI 0) hx hb dX4_open_0 (by decide +kernel) ?_
  refine lv_istore_n (lv' := [(3, .int (nI (0))), (0, .ref (xd 16)), (1, .int (nI (sp))), (2, .ref (xd (4 + d)))]) hx hb dX4_open_1 rfl hl (by decide) rfl (fun ls hl => ?_)
  have hl : lv_has ls 7 [(0, .ref (xd 16)), (1, .int (nI (sp))), (2, .ref (xd (4 + d))), (3, .int (nI (0)))] := lv_sub hl [1, 2, 3, 0] rfl
  have h : xs_at κ σ xd la ma va q (xs_fill sc 0 (fun j => (xs_lo q d sp j).map ma) 0) := by
    rw [show (xs_fill sc 0 (fun j => (xs_lo q d sp j).map ma) 0) = sc from (xs_fill_0 _ _ _)]
    exact h
  exact L1 6 0 ls _ _ _ (by omega) (by omega) h hU hl

set_option maxRecDepth 100000 in
set_option maxHeartbeats 4000000 in
theorem xn_shown (l : Launch) (D : va_G) (κ : Nat → ClassId) (τ : Nat → Nat) (A : Nat → Prop) (σ : um_M) (xd la ma va : Nat → Nat) (q : tb_Q) (sc : xs_S) (h : xs_at κ σ xd la ma va q sc) (ok : tb_ok q) (C S : List Nat) (hpg : xs_page ma sc C S) (hl5 : C.length + S.length ≤ 5) (hCM : ∀ e, e ∈ C ++ S → xs_isM q e) : Met l yX4_shownMeasure wsX4_shownMeasure ({ frames := 0, cells := 0, slots := 0, locals := 0 }) (va_Pc [.ref (xd 16)] (um_U D κ τ A σ)) (va_Qq (fun (r9 : Option Nat) (σ' : um_M) => r9 = C.getLast?.map ma ∧ σ' = σ) (um_U D κ τ A) A) 0 0 A := by
  refine um_met (cc := cX4_shownMeasure) (maxL := 1) (ret := (some (.object "ForestTablets$Measure"))) (by decide) rfl rfl ?_
  intro pp ee s mm args below meth cd ls hx hb hr hts hown hlocks hml hnm hK hJ hU hl
  have hown : s.vm.findClass RX4 = some mm.cls := hown
  have htg : ∀ w ∈ lw_g, w.before args s = true := fun w h => hts w (List.mem_cons_of_mem _ h)
  have hl : lv_has ls 1 [(0, .ref (xd 16))] := hl
  have hq := ok.sm
  refine lv_aload_n hx hb dX4_shownMeasure_0 rfl (lv_at hl 0 rfl) ?_
  refine um_get (v := .int (nI (C.length))) hx hb htg inX4 hown hK hU h.c16 rfl 4 (by decide) (htg _ tg_76) (congrArg (fun z => some (Value.int z)) hpg.1) dX4_shownMeasure_1 ?_
  refine um_ne0N (tgt := 11) hx hb dX4_shownMeasure_4 (by decide) (by omega) (fun c1 => ?_) (fun c1 => ?_)
  · refine lv_aload_n hx hb dX4_shownMeasure_11 rfl (lv_at hl 0 rfl) ?_
    refine um_get (v := .ref (xd 20)) hx hb htg inX4 hown hK hU h.c16 rfl 3 (by decide) (htg _ tg_75) rfl dX4_shownMeasure_12 ?_
    refine lv_aload_n hx hb dX4_shownMeasure_15 rfl (lv_at hl 0 rfl) ?_
    refine um_get (v := .int (nI (C.length))) hx hb htg inX4 hown hK hU h.c16 rfl 4 (by decide) (htg _ tg_76) (congrArg (fun z => some (Value.int z)) hpg.1) dX4_shownMeasure_16 ?_
    refine lv_iconst (v := nI 1) hx hb dX4_shownMeasure_19 (by decide +kernel) ?_
    refine um_subN hx hb dX4_shownMeasure_20 c1 ?_
    refine um_ald (C := RX3) (r := some (ma ((C ++ S).getD (C.length - 1) 0))) hx hb hK hU 4 h.c20 rfl (C.length - 1) rfl (by omega) (by decide) (hpg.2.2 (C.length - 1) (by omega)) dX4_shownMeasure_21 ?_
    exact um_aret (r := (some (ma ((C ++ S).getD (C.length - 1) 0)))) hx hb hr (Or.inl ⟨_, rfl⟩) hlocks hK hJ hU dX4_shownMeasure_22 ⟨by rw [xs_last_y c1]; rfl, rfl⟩
  · refine lv_null hx hb dX4_shownMeasure_7 ?_
    refine lv_goto (tgt := 22) hx hb dX4_shownMeasure_8 (by decide) ?_
    exact um_aret (r := none) hx hb hr (Or.inl ⟨_, rfl⟩) hlocks hK hJ hU dX4_shownMeasure_22 ⟨by rw [xs_last_n c1]; rfl, rfl⟩

set_option maxRecDepth 100000 in
set_option maxHeartbeats 4000000 in
theorem xn_isInConflict (l : Launch) (D : va_G) (κ : Nat → ClassId) (τ : Nat → Nat) (A : Nat → Prop) (σ : um_M) (xd la ma va : Nat → Nat) (q : tb_Q) (sc : xs_S) (h : xs_at κ σ xd la ma va q sc) (ok : tb_ok q) (C S : List Nat) (hpg : xs_page ma sc C S) (hl5 : C.length + S.length ≤ 5) (hCM : ∀ e, e ∈ C ++ S → xs_isM q e) : Met l yX4_isInConflict wsX4_isInConflict ({ frames := 0, cells := 0, slots := 0, locals := 0 }) (va_Pc [.ref (xd 16)] (um_U D κ τ A σ)) (va_Qi (fun (r9 : Int32) (σ' : um_M) => r9 = um_b (xs_cf q C) ∧ σ' = σ) (um_U D κ τ A) A) 0 0 A := by
  refine um_met (cc := cX4_isInConflict) (maxL := 2) (ret := (some .boolean)) (by decide) rfl rfl ?_
  intro pp ee s mm args below meth cd ls hx hb hr hts hown hlocks hml hnm hK hJ hU hl
  have hown : s.vm.findClass RX4 = some mm.cls := hown
  have htg : ∀ w ∈ lw_g, w.before args s = true := fun w h => hts w (List.mem_cons_of_mem _ h)
  have hl : lv_has ls 2 [(0, .ref (xd 16))] := hl
  have hq := ok.sm
  have L1 : ∀ (nf : Nat) (i : Nat) (ls : Array Slot) (H : Heap) (locs : List Loc), 6 - i < nf → 1 ≤ i → i ≤ 5 → (∀ j, j < i → j < C.length → q 4 (C.getD j 0) = q 4 (C.getD 0 0)) → um_S D vwCl A s σ H locs → lv_has ls 2 [(0, .ref (xd 16)), (1, .int (nI (i)))] → W pp l ee ({ frames := 0, cells := 0, slots := 0, locals := 0 }) s mm args below meth cd H locs 0 0 (MQ below (va_Qi (fun (r9 : Int32) (σ' : um_M) => r9 = um_b (xs_cf q C) ∧ σ' = σ) (um_U D κ τ A) A) args s 0 0 A) (F0 mm 2 ls []) := by
    intro nf
    induction nf with
    | zero => intro i ls H locs hnf; exact absurd hnf (Nat.not_lt_zero _)
    | succ nf ih =>
      intro i ls H locs hnf z1 z2 z3 hU hl
      refine lv_iload_n hx hb dX4_isInConflict_2 rfl (lv_at hl 1 rfl) ?_
      refine lv_aload_n hx hb dX4_isInConflict_3 rfl (lv_at hl 0 rfl) ?_
      refine um_get (v := .int (nI (C.length))) hx hb htg inX4 hown hK hU h.c16 rfl 4 (by decide) (htg _ tg_76) (congrArg (fun z => some (Value.int z)) hpg.1) dX4_isInConflict_4 ?_
      refine um_geN (tgt := 39) hx hb dX4_isInConflict_7 (by decide) (by omega) (by omega) (fun c1 => ?_) (fun c1 => ?_)
      · refine lv_iconst (v := nI 0) hx hb dX4_isInConflict_39 (by decide +kernel) ?_
        exact um_zret hx hb hr hlocks hK hJ hU dX4_isInConflict_40 false rfl ⟨congrArg um_b (by exact (xs_cf_f (fun j9 h9 => z3 j9 (by omega) h9)).symm), rfl⟩
      · refine lv_aload_n hx hb dX4_isInConflict_10 rfl (lv_at hl 0 rfl) ?_
        refine um_get (v := .ref (xd 20)) hx hb htg inX4 hown hK hU h.c16 rfl 3 (by decide) (htg _ tg_75) rfl dX4_isInConflict_11 ?_
        refine lv_iload_n hx hb dX4_isInConflict_14 rfl (lv_at hl 1 rfl) ?_
        refine um_ald (C := RX3) (r := some (ma ((C ++ S).getD i 0))) hx hb hK hU 4 h.c20 rfl i rfl (by omega) (by decide) (hpg.2.2 i (by omega)) dX4_isInConflict_15 ?_
        refine um_get (v := .int (nI (q 4 ((C ++ S).getD i 0)))) hx hb htg inX3 hown hK hU (show um_h σ (ma ((C ++ S).getD i 0)) (.inr (3, _)) from (h.2.2.2 ((C ++ S).getD i 0) (hCM _ (xs_getD_mem (by rw [List.length_append]; omega)))).1) rfl 2 (by decide) (htg _ tg_409) rfl dX4_isInConflict_16 ?_
        refine lv_aload_n hx hb dX4_isInConflict_19 rfl (lv_at hl 0 rfl) ?_
        refine um_get (v := .ref (xd 20)) hx hb htg inX4 hown hK hU h.c16 rfl 3 (by decide) (htg _ tg_75) rfl dX4_isInConflict_20 ?_
        refine lv_iconst (v := nI 0) hx hb dX4_isInConflict_23 (by decide +kernel) ?_
        refine um_ald (C := RX3) (r := some (ma ((C ++ S).getD 0 0))) hx hb hK hU 4 h.c20 rfl 0 rfl (by omega) (by decide) (hpg.2.2 0 (by omega)) dX4_isInConflict_24 ?_
        refine um_get (v := .int (nI (q 4 ((C ++ S).getD 0 0)))) hx hb htg inX3 hown hK hU (show um_h σ (ma ((C ++ S).getD 0 0)) (.inr (3, _)) from (h.2.2.2 ((C ++ S).getD 0 0) (hCM _ (xs_getD_mem (by rw [List.length_append]; omega)))).1) rfl 2 (by decide) (htg _ tg_409) rfl dX4_isInConflict_25 ?_
        refine um_eqN (tgt := 33) hx hb dX4_isInConflict_28 (by decide) (tb_sm_lt hq 4 _) (tb_sm_lt hq 4 _) (fun c2 => ?_) (fun c2 => ?_)
        · refine lv_iinc (k := 1) (v := nI (i + 1)) (lv' := [(1, .int (nI (i + 1))), (0, .ref (xd 16))]) hx hb dX4_isInConflict_33 hl rfl (nI_add _ _) (by decide) rfl (fun ls hl => ?_)
          refine lv_goto (tgt := 2) hx hb dX4_isInConflict_36 (by decide) ?_
          have hl : lv_has ls 2 [(0, .ref (xd 16)), (1, .int (nI ((i + 1))))] := lv_sub hl [1, 0] rfl
          exact ih (i + 1) ls _ _ (by omega) (by omega) (by omega) (fun j9 h1 h2 => if hj : j9 = i then (by rw [xs_getD_l (show i < C.length by omega), xs_getD_l (show 0 < C.length by omega)] at c2; rw [hj]; exact c2) else z3 j9 (by omega) h2) hU hl
        · refine lv_iconst (v := nI 1) hx hb dX4_isInConflict_31 (by decide +kernel) ?_
          exact um_zret hx hb hr hlocks hK hJ hU dX4_isInConflict_32 true rfl ⟨congrArg um_b (by rw [xs_getD_l (show i < C.length by omega), xs_getD_l (show 0 < C.length by omega)] at c2; exact (xs_cf_t (i := i) (by omega) c2).symm), rfl⟩
  refine lv_iconst (v := nI 1) hx hb dX4_isInConflict_0 (by decide +kernel) ?_
  refine lv_istore_n (lv' := [(1, .int (nI (1))), (0, .ref (xd 16))]) hx hb dX4_isInConflict_1 rfl hl (by decide) rfl (fun ls hl => ?_)
  have hl : lv_has ls 2 [(0, .ref (xd 16)), (1, .int (nI (1)))] := lv_sub hl [1, 0] rfl
  exact L1 7 1 ls _ _ (by omega) (by omega) (by omega) (fun j9 h1 _ => by rw [show j9 = 0 by omega]) hU hl

set_option maxRecDepth 100000 in
set_option maxHeartbeats 4000000 in
theorem xn_codeAt (l : Launch) (D : va_G) (κ : Nat → ClassId) (τ : Nat → Nat) (A : Nat → Prop) (σ : um_M) (xd la ma va : Nat → Nat) (q : tb_Q) (sc : xs_S) (h : xs_at κ σ xd la ma va q sc) (ok : tb_ok q) (C S : List Nat) (hpg : xs_page ma sc C S) (hl5 : C.length + S.length ≤ 5) (hCM : ∀ e, e ∈ C ++ S → xs_isM q e) (j : Nat) (hj : j < 2147483648) : Met l yX4_codeAt wsX4_codeAt ({ frames := 0, cells := 0, slots := 0, locals := 0 }) (va_Pc [.ref (xd 16), .int (nI (j))] (um_U D κ τ A σ)) (va_Qi (fun (r9 : Int32) (σ' : um_M) => r9 = xs_code C S j ∧ σ' = σ) (um_U D κ τ A) A) 0 0 A := by
  refine um_met (cc := cX4_codeAt) (maxL := 3) (ret := (some .int)) (by decide) rfl rfl ?_
  intro pp ee s mm args below meth cd ls hx hb hr hts hown hlocks hml hnm hK hJ hU hl
  have hown : s.vm.findClass RX4 = some mm.cls := hown
  have htg : ∀ w ∈ lw_g, w.before args s = true := fun w h => hts w (List.mem_cons_of_mem _ h)
  have hl : lv_has ls 3 [(0, .ref (xd 16)), (1, .int (nI (j)))] := hl
  have hq := ok.sm
  refine lv_iload_n hx hb dX4_codeAt_0 rfl (lv_at hl 1 rfl) ?_
  refine lv_aload_n hx hb dX4_codeAt_1 rfl (lv_at hl 0 rfl) ?_
  refine um_get (v := .int (nI (C.length + S.length))) hx hb htg inX4 hown hK hU h.c16 rfl 5 (by decide) (htg _ tg_77) (congrArg (fun z => some (Value.int z)) hpg.2.1) dX4_codeAt_2 ?_
  refine um_ltN (tgt := 10) hx hb dX4_codeAt_5 (by decide) hj (by omega) (fun c1 => ?_) (fun c1 => ?_)
  · refine lv_bipush (v := nI 100) hx hb dX4_codeAt_10 (by decide +kernel) ?_
    refine lv_aload_n hx hb dX4_codeAt_12 rfl (lv_at hl 0 rfl) ?_
    refine um_get (v := .ref (xd 20)) hx hb htg inX4 hown hK hU h.c16 rfl 3 (by decide) (htg _ tg_75) rfl dX4_codeAt_13 ?_
    refine lv_iload_n hx hb dX4_codeAt_16 rfl (lv_at hl 1 rfl) ?_
    refine um_ald (C := RX3) (r := some (ma ((C ++ S).getD j 0))) hx hb hK hU 4 h.c20 rfl j rfl (by omega) (by decide) (hpg.2.2 j (by omega)) dX4_codeAt_17 ?_
    refine um_get (v := .int (nI (((C ++ S).getD j 0) / 40))) hx hb htg inX3 hown hK hU (show um_h σ (ma ((C ++ S).getD j 0)) (.inr (3, _)) from (h.2.2.2 ((C ++ S).getD j 0) (hCM _ (xs_getD_mem (by rw [List.length_append]; omega)))).1) rfl 0 (by decide) (htg _ tg_405) rfl dX4_codeAt_18 ?_
    refine um_mulN hx hb dX4_codeAt_21 ?_
    refine lv_aload_n hx hb dX4_codeAt_22 rfl (lv_at hl 0 rfl) ?_
    refine um_get (v := .ref (xd 20)) hx hb htg inX4 hown hK hU h.c16 rfl 3 (by decide) (htg _ tg_75) rfl dX4_codeAt_23 ?_
    refine lv_iload_n hx hb dX4_codeAt_26 rfl (lv_at hl 1 rfl) ?_
    refine um_ald (C := RX3) (r := some (ma ((C ++ S).getD j 0))) hx hb hK hU 4 h.c20 rfl j rfl (by omega) (by decide) (hpg.2.2 j (by omega)) dX4_codeAt_27 ?_
    refine um_get (v := .int (nI (((C ++ S).getD j 0) % 40 + 1))) hx hb htg inX3 hown hK hU (show um_h σ (ma ((C ++ S).getD j 0)) (.inr (3, _)) from (h.2.2.2 ((C ++ S).getD j 0) (hCM _ (xs_getD_mem (by rw [List.length_append]; omega)))).1) rfl 1 (by decide) (htg _ tg_407) rfl dX4_codeAt_28 ?_
    refine um_addN hx hb dX4_codeAt_31 ?_
    refine lv_istore_n (lv' := [(2, .int (nI ((100 * (((C ++ S).getD j 0) / 40)) + (((C ++ S).getD j 0) % 40 + 1)))), (0, .ref (xd 16)), (1, .int (nI (j)))]) hx hb dX4_codeAt_32 rfl hl (by decide) rfl (fun ls hl => ?_)
    refine lv_iload_n hx hb dX4_codeAt_33 rfl (lv_at hl 2 rfl) ?_
    refine lv_aload_n hx hb dX4_codeAt_34 rfl (lv_at hl 1 rfl) ?_
    refine um_get (v := .int (nI (C.length))) hx hb htg inX4 hown hK hU h.c16 rfl 4 (by decide) (htg _ tg_76) (congrArg (fun z => some (Value.int z)) hpg.1) dX4_codeAt_35 ?_
    refine um_geN (tgt := 45) hx hb dX4_codeAt_38 (by decide) hj (by omega) (fun c2 => ?_) (fun c2 => ?_)
    · refine lv_iload_n hx hb dX4_codeAt_45 rfl (lv_at hl 0 rfl) ?_
      refine lv_sipush (v := nI 1000) hx hb dX4_codeAt_46 (by decide +kernel) ?_
      refine um_addN hx hb dX4_codeAt_49 ?_
      exact um_iret hx hb hr hlocks hK hJ hU dX4_codeAt_50 ⟨by unfold xs_code; rw [if_neg (by omega), if_neg (by omega)], rfl⟩
    · refine lv_iload_n hx hb dX4_codeAt_41 rfl (lv_at hl 0 rfl) ?_
      refine lv_goto (tgt := 50) hx hb dX4_codeAt_42 (by decide) ?_
      exact um_iret hx hb hr hlocks hK hJ hU dX4_codeAt_50 ⟨by unfold xs_code; rw [if_neg (by omega), if_pos (by omega)], rfl⟩
  · refine lv_iconst (v := -1) hx hb dX4_codeAt_8 (by decide +kernel) ?_
    exact um_iret hx hb hr hlocks hK hJ hU dX4_codeAt_9 ⟨by unfold xs_code; rw [if_pos (by omega)], rfl⟩

set_option maxRecDepth 100000 in
set_option maxHeartbeats 4000000 in
theorem xn_greatestRank (l : Launch) (D : va_G) (κ : Nat → ClassId) (τ : Nat → Nat) (A : Nat → Prop) (σ : um_M) (xd la ma va : Nat → Nat) (q : tb_Q) (sc : xs_S) (h : xs_at κ σ xd la ma va q sc) (ok : tb_ok q) (d sp : Nat) (hd : d < 5) (hsp : sp < 72) : Met l yX4_greatestRank wsX4_greatestRank ({ frames := 1, cells := 0, slots := 0, locals := 60 }) (va_Pc [.ref (xd 16), .int (nI (sp)), .ref (xd (4 + d))] (um_U D κ τ A σ)) (va_Qi (fun (r9 : Int32) (σ' : um_M) => r9 = nI (xs_gr q d sp) ∧ σ' = σ) (um_U D κ τ A) A) 0 0 A := by
  refine um_met (cc := cX4_greatestRank) (maxL := 6) (ret := (some .int)) (by decide) rfl rfl ?_
  intro pp ee s mm args below meth cd ls hx hb hr hts hown hlocks hml hnm hK hJ hU hl
  have hown : s.vm.findClass RX4 = some mm.cls := hown
  have htg : ∀ w ∈ lw_g, w.before args s = true := fun w h => hts w (List.mem_cons_of_mem _ h)
  have hl : lv_has ls 6 [(0, .ref (xd 16)), (1, .int (nI (sp))), (2, .ref (xd (4 + d)))] := hl
  have hq := ok.sm
  have L1 : ∀ (nf : Nat) (i : Nat) (ls : Array Slot) (H : Heap) (locs : List Loc), 5 - i < nf → i ≤ 5 → um_S D vwCl A s σ H locs → lv_has ls 6 [(0, .ref (xd 16)), (1, .int (nI (sp))), (2, .ref (xd (4 + d))), (3, .int (nI (tb_fo (fun a g => xs_grC q sp a (q 7 (5 * d + a)) g) 0 i))), (4, .int (nI (i)))] → W pp l ee ({ frames := 1, cells := 0, slots := 0, locals := 60 }) s mm args below meth cd H locs 0 0 (MQ below (va_Qi (fun (r9 : Int32) (σ' : um_M) => r9 = nI (xs_gr q d sp) ∧ σ' = σ) (um_U D κ τ A) A) args s 0 0 A) (F0 mm 5 ls []) := by
    intro nf
    induction nf with
    | zero => intro i ls H locs hnf; exact absurd hnf (Nat.not_lt_zero _)
    | succ nf ih =>
      intro i ls H locs hnf z1 hU hl
      refine lv_iload hx hb dX4_greatestRank_5 (lv_at hl 4 rfl) ?_
      refine lv_iconst (v := nI 5) hx hb dX4_greatestRank_7 (by decide +kernel) ?_
      refine um_geN (tgt := 52) hx hb dX4_greatestRank_8 (by decide) (by omega) (by decide) (fun c1 => ?_) (fun c1 => ?_)
      · refine lv_iload_n hx hb dX4_greatestRank_52 rfl (lv_at hl 3 rfl) ?_
        exact um_iret hx hb hr hlocks hK hJ hU dX4_greatestRank_53 ⟨congrArg nI (by rw [show i = 5 by omega]; rfl), rfl⟩
      · refine lv_aload_n hx hb dX4_greatestRank_11 rfl (lv_at hl 0 rfl) ?_
        refine lv_iload_n hx hb dX4_greatestRank_12 rfl (lv_at hl 1 rfl) ?_
        refine lv_iload hx hb dX4_greatestRank_13 (lv_at hl 4 rfl) ?_
        refine lv_aload_n hx hb dX4_greatestRank_15 rfl (lv_at hl 2 rfl) ?_
        refine um_callPq (va_runV (As := [.int (nI (sp)), .int (nI (i)), .ref (xd (4 + d))]) (rest := []) ⟨hx, hb, hml, hown, htg⟩ (xn_lastKnown l D κ τ A σ xd la ma va q sc h ok d sp i (by omega) (by omega) (by omega)) (cwV 3 htg (lw_cV tg_445 tg_447 slX4_lastKnown tg_4 tg_448) rfl rfl rfl (by decide +kernel) ⟨Nat.le_of_ble_eq_true rfl, Nat.le_of_ble_eq_true rfl⟩) (um_preV hU hK hJ h.c16 rfl) rfl rfl hl.1 rfl (lv_room (Nat.le_of_ble_eq_true rfl)) dX4_greatestRank_16 ⟨Nat.le_of_ble_eq_true rfl, Nat.le_of_ble_eq_true rfl⟩) hU (fun H locs hU => ?_)
        refine um_astoreQ (lv' := [(5, va_rf ((xs_lm q sp i (q 7 (5 * d + i))).map ma)), (0, .ref (xd 16)), (1, .int (nI (sp))), (2, .ref (xd (4 + d))), (3, .int (nI (tb_fo (fun a g => xs_grC q sp a (q 7 (5 * d + a)) g) 0 i))), (4, .int (nI (i)))]) hx hb dX4_greatestRank_19 hl (by decide) rfl (fun ls hl => ?_)
        have ih1 := ih
        have hkm := ok.kn d i hd (by omega)
        have hmm := ok.m40 i
        have L2 : ∀ (nf : Nat) (n : Nat) (gg : Nat) (ls : Array Slot) (H : Heap) (locs : List Loc), n < nf → n ≤ q 0 i → xs_grC q sp i n gg = xs_grC q sp i (q 7 (5 * d + i)) (tb_fo (fun a g => xs_grC q sp a (q 7 (5 * d + a)) g) 0 i) → gg ≤ 2000 → um_S D vwCl A s σ H locs → lv_has ls 6 [(0, .ref (xd 16)), (1, .int (nI (sp))), (2, .ref (xd (4 + d))), (3, .int (nI (gg))), (4, .int (nI (i))), (5, va_rf ((xs_lm q sp i n).map ma))] → W pp l ee ({ frames := 1, cells := 0, slots := 0, locals := 60 }) s mm args below meth cd H locs 0 0 (MQ below (va_Qi (fun (r9 : Int32) (σ' : um_M) => r9 = nI (xs_gr q d sp) ∧ σ' = σ) (um_U D κ τ A) A) args s 0 0 A) (F0 mm 21 ls []) := by
          intro nf
          induction nf with
          | zero => intro n gg ls H locs hnf; exact absurd hnf (Nat.not_lt_zero _)
          | succ nf ih =>
            intro n gg ls H locs hnf z1 z2 z3 hU hl
            cases ho : xs_lm q sp i n with
            | none =>
              rw [ho] at hl
              have hl : lv_has ls 6 [(0, .ref (xd 16)), (1, .int (nI (sp))), (2, .ref (xd (4 + d))), (3, .int (nI (gg))), (4, .int (nI (i))), (5, .null)] := hl
              refine lv_aloadN hx hb dX4_greatestRank_21 (lv_at hl 5 rfl) ?_
              refine lv_ifnullN (tgt := 46) hx hb dX4_greatestRank_23 (by decide) ?_
              refine lv_iinc (k := 4) (v := nI (i + 1)) (lv' := [(4, .int (nI (i + 1))), (0, .ref (xd 16)), (1, .int (nI (sp))), (2, .ref (xd (4 + d))), (3, .int (nI (gg))), (5, .null)]) hx hb dX4_greatestRank_46 hl rfl (nI_add _ _) (by decide) rfl (fun ls hl => ?_)
              refine lv_goto (tgt := 5) hx hb dX4_greatestRank_49 (by decide) ?_
              have hl : lv_has ls 6 [(0, .ref (xd 16)), (1, .int (nI (sp))), (2, .ref (xd (4 + d))), (3, .int (nI (tb_fo (fun a g => xs_grC q sp a (q 7 (5 * d + a)) g) 0 (i + 1)))), (4, .int (nI ((i + 1))))] := by
                rw [show (tb_fo (fun a g => xs_grC q sp a (q 7 (5 * d + a)) g) 0 (i + 1)) = gg from (by rw [xs_grC_n ho] at z2; exact z2.symm)]
                exact lv_sub hl [1, 2, 3, 4, 0] rfl
              exact ih1 (i + 1) ls _ _ (by omega) (by omega) hU hl
            | some e =>
              rw [ho] at hl
              have hl : lv_has ls 6 [(0, .ref (xd 16)), (1, .int (nI (sp))), (2, .ref (xd (4 + d))), (3, .int (nI (gg))), (4, .int (nI (i))), (5, .ref (ma e))] := hl
              obtain ⟨hM, hM2, hM3, hM4, hM5⟩ := xs_lm_M ok.m40 (show i < 5 by omega) z1 ho
              refine lv_aload hx hb dX4_greatestRank_21 (lv_at hl 5 rfl) ?_
              refine lv_ifnull hx hb dX4_greatestRank_23 ?_
              refine lv_iload_n hx hb dX4_greatestRank_26 rfl (lv_at hl 3 rfl) ?_
              refine lv_aload hx hb dX4_greatestRank_27 (lv_at hl 5 rfl) ?_
              refine um_get (v := .int (nI (q 5 e))) hx hb htg inX3 hown hK hU (show um_h σ (ma e) (.inr (3, _)) from (h.2.2.2 e hM).1) rfl 3 (by decide) (htg _ tg_412) rfl dX4_greatestRank_29 ?_
              refine um_max (x := gg) (y := q 5 e) hx hb (by rw [hml]; exact hl.1.symm) hown (htg _ tg_457) (htg _ tg_458) (htg _ tg_17) (htg _ tg_459) (Nat.le_of_ble_eq_true rfl) (Nat.le_of_ble_eq_true rfl) (Nat.le_of_ble_eq_true rfl) (Nat.le_of_ble_eq_true rfl) (by omega) (tb_sm_lt hq 5 _) dX4_greatestRank_32 ?_
              refine lv_istore_n (lv' := [(3, .int (nI (if gg < q 5 e then q 5 e else gg))), (0, .ref (xd 16)), (1, .int (nI (sp))), (2, .ref (xd (4 + d))), (4, .int (nI (i))), (5, .ref (ma e))]) hx hb dX4_greatestRank_35 rfl hl (by decide) rfl (fun ls hl => ?_)
              refine lv_aload hx hb dX4_greatestRank_36 (lv_at hl 5 rfl) ?_
              refine um_get (v := va_rf ((xs_lm q (12 * q 2 e + q 3 e) (e / 40) (e % 40)).map ma)) hx hb htg inX3 hown hK hU (show um_h σ (ma e) (.inr (3, _)) from (h.2.2.2 e hM).1) rfl 5 (by decide) (htg _ tg_415) rfl dX4_greatestRank_38 ?_
              refine um_astoreQ (lv' := [(5, va_rf ((xs_lm q (12 * q 2 e + q 3 e) (e / 40) (e % 40)).map ma)), (3, .int (nI (if gg < q 5 e then q 5 e else gg))), (0, .ref (xd 16)), (1, .int (nI (sp))), (2, .ref (xd (4 + d))), (4, .int (nI (i)))]) hx hb dX4_greatestRank_41 hl (by decide) rfl (fun ls hl => ?_)
              refine lv_goto (tgt := 21) hx hb dX4_greatestRank_43 (by decide) ?_
              have hl : lv_has ls 6 [(0, .ref (xd 16)), (1, .int (nI (sp))), (2, .ref (xd (4 + d))), (3, .int (nI ((if gg < q 5 e then q 5 e else gg)))), (4, .int (nI (i))), (5, va_rf ((xs_lm q sp i (e % 40)).map ma))] := by
                rw [show (va_rf ((xs_lm q sp i (e % 40)).map ma)) = (va_rf ((xs_lm q (12 * q 2 e + q 3 e) (e / 40) (e % 40)).map ma)) from by rw [hM3, hM2]]
                exact lv_sub hl [2, 3, 4, 1, 5, 0] rfl
              exact ih (e % 40) (if gg < q 5 e then q 5 e else gg) ls _ _ (by omega) (by omega) (by rw [xs_grC_y ho, show e - 40 * i = e % 40 by omega] at z2; exact z2) (by have := hq 5 e; split <;> omega) hU hl
        have hl : lv_has ls 6 [(0, .ref (xd 16)), (1, .int (nI (sp))), (2, .ref (xd (4 + d))), (3, .int (nI ((tb_fo (fun a g => xs_grC q sp a (q 7 (5 * d + a)) g) 0 i)))), (4, .int (nI (i))), (5, va_rf ((xs_lm q sp i (q 7 (5 * d + i))).map ma))] := lv_sub hl [1, 2, 3, 4, 5, 0] rfl
        exact L2 41 (q 7 (5 * d + i)) (tb_fo (fun a g => xs_grC q sp a (q 7 (5 * d + a)) g) 0 i) ls _ _ (by omega) (ok.kn d i hd (by omega)) rfl (xs_gr_le (hq 5) _ _ _) hU hl
  refine lv_iconst (v := nI 0) hx hb dX4_greatestRank_0 (by decide +kernel) ?_
  refine lv_istore_n (lv' := [(3, .int (nI (0))), (0, .ref (xd 16)), (1, .int (nI (sp))), (2, .ref (xd (4 + d)))]) hx hb dX4_greatestRank_1 rfl hl (by decide) rfl (fun ls hl => ?_)
  refine lv_iconst (v := nI 0) hx hb dX4_greatestRank_2 (by decide +kernel) ?_
  refine lv_istore (lv' := [(4, .int (nI (0))), (3, .int (nI (0))), (0, .ref (xd 16)), (1, .int (nI (sp))), (2, .ref (xd (4 + d)))]) hx hb dX4_greatestRank_3 hl (by decide) rfl (fun ls hl => ?_)
  have hl : lv_has ls 6 [(0, .ref (xd 16)), (1, .int (nI (sp))), (2, .ref (xd (4 + d))), (3, .int (nI (tb_fo (fun a g => xs_grC q sp a (q 7 (5 * d + a)) g) 0 0))), (4, .int (nI (0)))] := by
    rw [show (tb_fo (fun a g => xs_grC q sp a (q 7 (5 * d + a)) g) 0 0) = 0 from rfl]
    exact lv_sub hl [2, 3, 4, 1, 0] rfl
  exact L1 6 0 ls _ _ (by omega) (by omega) hU hl
