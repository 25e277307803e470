set_option maxRecDepth 100000 in
set_option maxHeartbeats 4000000 in
theorem mm_in (l : Launch) (D : va_G) (κ : Nat → ClassId) (τ : Nat → Nat) (A : Nat → Prop) (σ : um_M) (v lo hi : Int32) : Met l yX9_in wsX9_in ({ frames := 0, cells := 0, slots := 0, locals := 0 }) (va_Pc [.int (v), .int (lo), .int (hi)] (um_U D κ τ A σ)) (va_Qi (fun (r9 : Int32) (σ' : um_M) => r9 = um_b (tb_in v lo hi) ∧ σ' = σ) (um_U D κ τ A) A) 0 0 A := by
  refine um_met (cc := cX9_in) (maxL := 3) (ret := (some .boolean)) (by decide) rfl rfl ?_
  intro pp ee s mm args below meth cd ls hx hb hr hts hown hlocks hml hnm hK hJ hU hl
  have hown : s.vm.findClass RX9 = some mm.cls := hown
  have htg : ∀ w ∈ lw_g, w.before args s = true := fun w h => hts w (List.mem_cons_of_mem _ h)
  have hl : lv_has ls 3 [(0, .int (v)), (1, .int (lo)), (2, .int (hi))] := hl
  refine lv_iload_n hx hb dX9_in_0 rfl (lv_at hl 0 rfl) ?_
  refine lv_iload_n hx hb dX9_in_1 rfl (lv_at hl 1 rfl) ?_
  refine lv_icmp_lt (tgt := 14) hx hb dX9_in_2 (by decide) (fun c1 => ?_) (fun c1 => ?_)
  · refine lv_iconst (v := nI 0) hx hb dX9_in_14 (by decide +kernel) ?_
    exact um_zret hx hb hr hlocks hK hJ hU dX9_in_15 false rfl ⟨congrArg um_b (by simp [tb_in, c1]), rfl⟩
  · refine lv_iload_n hx hb dX9_in_5 rfl (lv_at hl 0 rfl) ?_
    refine lv_iload_n hx hb dX9_in_6 rfl (lv_at hl 2 rfl) ?_
    refine lv_icmp_gt (tgt := 14) hx hb dX9_in_7 (by decide) (fun c2 => ?_) (fun c2 => ?_)
    · refine lv_iconst (v := nI 0) hx hb dX9_in_14 (by decide +kernel) ?_
      exact um_zret hx hb hr hlocks hK hJ hU dX9_in_15 false rfl ⟨congrArg um_b (by simp [tb_in, c1, c2]), rfl⟩
    · refine lv_iconst (v := nI 1) hx hb dX9_in_10 (by decide +kernel) ?_
      refine lv_goto (tgt := 15) hx hb dX9_in_11 (by decide) ?_
      exact um_zret hx hb hr hlocks hK hJ hU dX9_in_15 true rfl ⟨congrArg um_b (by simp [tb_in, c1, c2]), rfl⟩

set_option maxRecDepth 100000 in
set_option maxHeartbeats 4000000 in
theorem mm_fails (l : Launch) (D : va_G) (κ : Nat → ClassId) (τ : Nat → Nat) (A : Nat → Prop) (σ : um_M) (md : Nat → Nat) (q : tb_Q) (th : Nat) (h : md_at κ σ md q th) (b : Bool) (k : Nat) : Met l yX9_fails wsX9_fails ({ frames := 0, cells := 0, slots := 0, locals := 0 }) (va_Pc [.ref (md 13), .int (um_b (b)), .int (nI (k))] (um_U D κ τ A σ)) (va_Qi (fun (r9 : Int32) (σ' : um_M) => r9 = um_b (b) ∧ md_at κ σ' md q (if b = true then k else 0)) (um_U D κ τ A) A) 0 0 A := by
  refine um_met (cc := cX9_fails) (maxL := 3) (ret := (some .boolean)) (by decide) rfl rfl ?_
  intro pp ee s mm args below meth cd ls hx hb hr hts hown hlocks hml hnm hK hJ hU hl
  have hown : s.vm.findClass RX9 = some mm.cls := hown
  have htg : ∀ w ∈ lw_g, w.before args s = true := fun w h => hts w (List.mem_cons_of_mem _ h)
  have hl : lv_has ls 3 [(0, .ref (md 13)), (1, .int (um_b (b))), (2, .int (nI (k)))] := hl
  refine lv_aload_n hx hb dX9_fails_0 rfl (lv_at hl 0 rfl) ?_
  refine lv_iload_n hx hb dX9_fails_1 rfl (lv_at hl 1 rfl) ?_
  refine um_eqB (tgt := 9) hx hb dX9_fails_2 (by decide) (fun c1 => ?_) (fun c1 => ?_)
  · refine lv_iconst (v := nI 0) hx hb dX9_fails_9 (by decide +kernel) ?_
    refine um_put (v := .int (nI (0))) (ty := .int) (fs' := md_obj md q 0) hx hb htg inX9 tyX9 tyX9_ok nmX9 hown hK hU h.obj rfl 0 (by decide) (htg _ tg_638) rfl (by decide +kernel) rfl rfl rfl (Nat.le_of_ble_eq_true rfl) dX9_fails_10 (fun H locs hU => ?_)
    have h := h.thr 0
    obtain ⟨σ', hσ⟩ : ∃ z, z = um_up σ (md 13) (.inr (md_ci, md_obj md q 0)) := ⟨_, rfl⟩
    rw [← hσ] at h hU
    clear hσ
    generalize σ' = σ at h hU
    refine lv_iload_n hx hb dX9_fails_13 rfl (lv_at hl 1 rfl) ?_
    exact um_zret hx hb hr hlocks hK hJ hU dX9_fails_14 b rfl ⟨congrArg um_b (by rfl), (by rw [if_neg (by simp [c1])]; exact h)⟩
  · refine lv_iload_n hx hb dX9_fails_5 rfl (lv_at hl 2 rfl) ?_
    refine lv_goto (tgt := 10) hx hb dX9_fails_6 (by decide) ?_
    refine um_put (v := .int (nI (k))) (ty := .int) (fs' := md_obj md q k) hx hb htg inX9 tyX9 tyX9_ok nmX9 hown hK hU h.obj rfl 0 (by decide) (htg _ tg_638) rfl (by decide +kernel) rfl rfl rfl (Nat.le_of_ble_eq_true rfl) dX9_fails_10 (fun H locs hU => ?_)
    have h := h.thr k
    obtain ⟨σ', hσ⟩ : ∃ z, z = um_up σ (md 13) (.inr (md_ci, md_obj md q k)) := ⟨_, rfl⟩
    rw [← hσ] at h hU
    clear hσ
    generalize σ' = σ at h hU
    refine lv_iload_n hx hb dX9_fails_13 rfl (lv_at hl 1 rfl) ?_
    exact um_zret hx hb hr hlocks hK hJ hU dX9_fails_14 b rfl ⟨congrArg um_b (by rfl), (by rw [if_pos (by simp [c1])]; exact h)⟩

set_option maxRecDepth 100000 in
set_option maxHeartbeats 4000000 in
theorem mm_isKnown (l : Launch) (D : va_G) (κ : Nat → ClassId) (τ : Nat → Nat) (A : Nat → Prop) (σ : um_M) (md : Nat → Nat) (q : tb_Q) (th : Nat) (h : md_at κ σ md q th) (hq : tb_sm q) (d a k : Nat) (hd : d < 5) (ha : a < 5) (hk : k < 2147483648) : Met l yX9_isKnown wsX9_isKnown ({ frames := 0, cells := 0, slots := 0, locals := 0 }) (va_Pc [.ref (md 13), .int (nI (d)), .int (nI (a)), .int (nI (k))] (um_U D κ τ A σ)) (va_Qi (fun (r9 : Int32) (σ' : um_M) => r9 = um_b (tb_kn q d a k) ∧ σ' = σ) (um_U D κ τ A) A) 0 0 A := by
  refine um_met (cc := cX9_isKnown) (maxL := 4) (ret := (some .boolean)) (by decide) rfl rfl ?_
  intro pp ee s mm args below meth cd ls hx hb hr hts hown hlocks hml hnm hK hJ hU hl
  have hown : s.vm.findClass RX9 = some mm.cls := hown
  have htg : ∀ w ∈ lw_g, w.before args s = true := fun w h => hts w (List.mem_cons_of_mem _ h)
  have hl : lv_has ls 4 [(0, .ref (md 13)), (1, .int (nI (d))), (2, .int (nI (a))), (3, .int (nI (k)))] := hl
  refine lv_iload_n hx hb dX9_isKnown_0 rfl (lv_at hl 3 rfl) ?_
  refine lv_aload_n hx hb dX9_isKnown_1 rfl (lv_at hl 0 rfl) ?_
  refine um_get (v := .ref (md 7)) hx hb htg inX9 hown hK hU h.obj rfl 8 (by decide) (htg _ tg_646) rfl dX9_isKnown_2 ?_
  refine lv_iconst (v := nI 5) hx hb dX9_isKnown_5 (by decide +kernel) ?_
  refine lv_iload_n hx hb dX9_isKnown_6 rfl (lv_at hl 1 rfl) ?_
  refine um_mulN hx hb dX9_isKnown_7 ?_
  refine lv_iload_n hx hb dX9_isKnown_8 rfl (lv_at hl 2 rfl) ?_
  refine um_addN hx hb dX9_isKnown_9 ?_
  refine md_ild hx hb hK hU h 7 ((5 * d) + a) (by decide) (show (5 * d) + a < 25 from by omega) dX9_isKnown_10 ?_
  refine um_geN (tgt := 18) hx hb dX9_isKnown_11 (by decide) hk (tb_sm_lt hq 7 _) (fun c1 => ?_) (fun c1 => ?_)
  · refine lv_iconst (v := nI 0) hx hb dX9_isKnown_18 (by decide +kernel) ?_
    exact um_zret hx hb hr hlocks hK hJ hU dX9_isKnown_19 false rfl ⟨congrArg um_b (by simp [tb_kn, c1]), rfl⟩
  · refine lv_iconst (v := nI 1) hx hb dX9_isKnown_14 (by decide +kernel) ?_
    refine lv_goto (tgt := 19) hx hb dX9_isKnown_15 (by decide) ?_
    exact um_zret hx hb hr hlocks hK hJ hU dX9_isKnown_19 true rfl ⟨congrArg um_b (by simp [tb_kn, c1]), rfl⟩

set_option maxRecDepth 100000 in
set_option maxHeartbeats 4000000 in
theorem mm_lent (l : Launch) (D : va_G) (κ : Nat → ClassId) (τ : Nat → Nat) (A : Nat → Prop) (σ : um_M) (md : Nat → Nat) (q : tb_Q) (th : Nat) (h : md_at κ σ md q th) (hq : tb_sm q) (d p : Nat) (hd : d < 5) (hp : p < 2147483648) : Met l yX9_lent wsX9_lent ({ frames := 1, cells := 0, slots := 0, locals := 23 }) (va_Pc [.ref (md 13), .int (nI (d)), .int (nI (p))] (um_U D κ τ A σ)) (va_Qi (fun (r9 : Int32) (σ' : um_M) => r9 = nI (tb_lent q d p) ∧ σ' = σ) (um_U D κ τ A) A) 0 0 A := by
  refine um_met (cc := cX9_lent) (maxL := 6) (ret := (some .int)) (by decide) rfl rfl ?_
  intro pp ee s mm args below meth cd ls hx hb hr hts hown hlocks hml hnm hK hJ hU hl
  have hown : s.vm.findClass RX9 = some mm.cls := hown
  have htg : ∀ w ∈ lw_g, w.before args s = true := fun w h => hts w (List.mem_cons_of_mem _ h)
  have hl : lv_has ls 6 [(0, .ref (md 13)), (1, .int (nI (d))), (2, .int (nI (p)))] := hl
  have L1 : ∀ (nf : Nat) (i : Nat) (ls : Array Slot) (H : Heap) (locs : List Loc), 40 - i < nf → i ≤ 40 → um_S D vwCl A s σ H locs → lv_has ls 6 [(0, .ref (md 13)), (1, .int (nI (d))), (2, .int (nI (p))), (3, .int (nI (tb_fo (tb_lentF q d p) 0 i))), (4, .int (nI (i)))] → W pp l ee ({ frames := 1, cells := 0, slots := 0, locals := 23 }) s mm args below meth cd H locs 0 0 (MQ below (va_Qi (fun (r9 : Int32) (σ' : um_M) => r9 = nI (tb_lent q d p) ∧ σ' = σ) (um_U D κ τ A) A) args s 0 0 A) (F0 mm 5 ls []) := by
    intro nf
    induction nf with
    | zero => intro i ls H locs hnf; exact absurd hnf (Nat.not_lt_zero _)
    | succ nf ih =>
      intro i ls H locs hnf z1 hU hl
      refine lv_iload hx hb dX9_lent_5 (lv_at hl 4 rfl) ?_
      refine lv_bipush (v := nI 40) hx hb dX9_lent_7 (by decide +kernel) ?_
      refine um_geN (tgt := 85) hx hb dX9_lent_9 (by decide) (by omega) (by decide) (fun c1 => ?_) (fun c1 => ?_)
      · refine lv_iload_n hx hb dX9_lent_85 rfl (lv_at hl 3 rfl) ?_
        exact um_iret hx hb hr hlocks hK hJ hU dX9_lent_86 ⟨congrArg nI (by rw [show i = 40 by omega]; rfl), rfl⟩
      · refine lv_aload_n hx hb dX9_lent_12 rfl (lv_at hl 0 rfl) ?_
        refine lv_iload_n hx hb dX9_lent_13 rfl (lv_at hl 1 rfl) ?_
        refine lv_iconst (v := nI 0) hx hb dX9_lent_14 (by decide +kernel) ?_
        refine lv_iload hx hb dX9_lent_15 (lv_at hl 4 rfl) ?_
        refine um_callP (va_runV (As := [.int (nI (d)), .int (nI (0)), .int (nI (i))]) (rest := []) ⟨hx, hb, hml, hown, htg⟩ (mm_isKnown l D κ τ A σ md q th h hq d 0 i (by omega) (by omega) (by omega)) (cwV 3 htg (lw_cV tg_718 tg_720 slX9_isKnown tg_8 tg_721) rfl rfl rfl (by decide +kernel) ⟨Nat.le_of_ble_eq_true rfl, Nat.le_of_ble_eq_true rfl⟩) (um_preV hU hK hJ h.obj rfl) rfl rfl hl.1 rfl (lv_room (Nat.le_of_ble_eq_true rfl)) dX9_lent_17 ⟨Nat.le_of_ble_eq_true rfl, Nat.le_of_ble_eq_true rfl⟩) hU (fun H locs hU => ?_)
        refine um_eqB (tgt := 48) hx hb dX9_lent_20 (by decide) (fun c2 => ?_) (fun c2 => ?_)
        · refine lv_iconst (v := nI 0) hx hb dX9_lent_48 (by decide +kernel) ?_
          refine lv_istore (lv' := [(5, .int (nI (0))), (0, .ref (md 13)), (1, .int (nI (d))), (2, .int (nI (p))), (3, .int (nI (tb_fo (tb_lentF q d p) 0 i))), (4, .int (nI (i)))]) hx hb dX9_lent_49 hl (by decide) rfl (fun ls hl => ?_)
          refine lv_iload hx hb dX9_lent_51 (lv_at hl 0 rfl) ?_
          refine lv_if_eq (tgt := 77) hx hb dX9_lent_53 (by decide) (fun _ => ?_) (fun h => absurd (by decide +kernel) h)
          refine lv_iload_n hx hb dX9_lent_77 rfl (lv_at hl 4 rfl) ?_
          refine lv_istore_n (lv' := [(3, .int (nI (tb_fo (tb_lentF q d p) 0 i))), (5, .int (nI (0))), (0, .ref (md 13)), (1, .int (nI (d))), (2, .int (nI (p))), (4, .int (nI (i)))]) hx hb dX9_lent_78 rfl hl (by decide) rfl (fun ls hl => ?_)
          refine lv_iinc (k := 5) (v := nI (i + 1)) (lv' := [(4, .int (nI (i + 1))), (3, .int (nI (tb_fo (tb_lentF q d p) 0 i))), (5, .int (nI (0))), (0, .ref (md 13)), (1, .int (nI (d))), (2, .int (nI (p)))]) hx hb dX9_lent_79 hl rfl (nI_add _ _) (by decide) rfl (fun ls hl => ?_)
          refine lv_goto (tgt := 5) hx hb dX9_lent_82 (by decide) ?_
          have hl : lv_has ls 6 [(0, .ref (md 13)), (1, .int (nI (d))), (2, .int (nI (p))), (3, .int (nI (tb_fo (tb_lentF q d p) 0 (i + 1)))), (4, .int (nI ((i + 1))))] := by
            rw [show (tb_fo (tb_lentF q d p) 0 (i + 1)) = (tb_fo (tb_lentF q d p) 0 i) from by first | rfl | simp [tb_fo_s, tb_lentF, tb_ln, c1, c2]]
            exact lv_sub hl [3, 4, 5, 1, 0] rfl
          exact ih (i + 1) ls _ _ (by omega) (by omega) hU hl
        · refine lv_aload_n hx hb dX9_lent_23 rfl (lv_at hl 0 rfl) ?_
          refine um_get (v := .ref (md 1)) hx hb htg inX9 hown hK hU h.obj rfl 2 (by decide) (htg _ tg_640) rfl dX9_lent_24 ?_
          refine lv_iload hx hb dX9_lent_27 (lv_at hl 4 rfl) ?_
          refine md_ild hx hb hK hU h 1 i (by decide) (show i < 200 from by omega) dX9_lent_29 ?_
          refine um_ne0N (tgt := 48) hx hb dX9_lent_30 (by decide) (tb_sm_lt hq 1 _) (fun c3 => ?_) (fun c3 => ?_)
          · refine lv_iconst (v := nI 0) hx hb dX9_lent_48 (by decide +kernel) ?_
            refine lv_istore (lv' := [(5, .int (nI (0))), (0, .ref (md 13)), (1, .int (nI (d))), (2, .int (nI (p))), (3, .int (nI (tb_fo (tb_lentF q d p) 0 i))), (4, .int (nI (i)))]) hx hb dX9_lent_49 hl (by decide) rfl (fun ls hl => ?_)
            refine lv_iload hx hb dX9_lent_51 (lv_at hl 0 rfl) ?_
            refine lv_if_eq (tgt := 77) hx hb dX9_lent_53 (by decide) (fun _ => ?_) (fun h => absurd (by decide +kernel) h)
            refine lv_iload_n hx hb dX9_lent_77 rfl (lv_at hl 4 rfl) ?_
            refine lv_istore_n (lv' := [(3, .int (nI (tb_fo (tb_lentF q d p) 0 i))), (5, .int (nI (0))), (0, .ref (md 13)), (1, .int (nI (d))), (2, .int (nI (p))), (4, .int (nI (i)))]) hx hb dX9_lent_78 rfl hl (by decide) rfl (fun ls hl => ?_)
            refine lv_iinc (k := 5) (v := nI (i + 1)) (lv' := [(4, .int (nI (i + 1))), (3, .int (nI (tb_fo (tb_lentF q d p) 0 i))), (5, .int (nI (0))), (0, .ref (md 13)), (1, .int (nI (d))), (2, .int (nI (p)))]) hx hb dX9_lent_79 hl rfl (nI_add _ _) (by decide) rfl (fun ls hl => ?_)
            refine lv_goto (tgt := 5) hx hb dX9_lent_82 (by decide) ?_
            have hl : lv_has ls 6 [(0, .ref (md 13)), (1, .int (nI (d))), (2, .int (nI (p))), (3, .int (nI (tb_fo (tb_lentF q d p) 0 (i + 1)))), (4, .int (nI ((i + 1))))] := by
              rw [show (tb_fo (tb_lentF q d p) 0 (i + 1)) = (tb_fo (tb_lentF q d p) 0 i) from by first | rfl | simp [tb_fo_s, tb_lentF, tb_ln, c1, c2, c3]]
              exact lv_sub hl [3, 4, 5, 1, 0] rfl
            exact ih (i + 1) ls _ _ (by omega) (by omega) hU hl
          · refine lv_aload_n hx hb dX9_lent_33 rfl (lv_at hl 0 rfl) ?_
            refine um_get (v := .ref (md 2)) hx hb htg inX9 hown hK hU h.obj rfl 3 (by decide) (htg _ tg_641) rfl dX9_lent_34 ?_
            refine lv_iload hx hb dX9_lent_37 (lv_at hl 4 rfl) ?_
            refine md_ild hx hb hK hU h 2 i (by decide) (show i < 200 from by omega) dX9_lent_39 ?_
            refine lv_iload_n hx hb dX9_lent_40 rfl (lv_at hl 2 rfl) ?_
            refine um_neN (tgt := 48) hx hb dX9_lent_41 (by decide) (tb_sm_lt hq 2 _) hp (fun c4 => ?_) (fun c4 => ?_)
            · refine lv_iconst (v := nI 0) hx hb dX9_lent_48 (by decide +kernel) ?_
              refine lv_istore (lv' := [(5, .int (nI (0))), (0, .ref (md 13)), (1, .int (nI (d))), (2, .int (nI (p))), (3, .int (nI (tb_fo (tb_lentF q d p) 0 i))), (4, .int (nI (i)))]) hx hb dX9_lent_49 hl (by decide) rfl (fun ls hl => ?_)
              refine lv_iload hx hb dX9_lent_51 (lv_at hl 0 rfl) ?_
              refine lv_if_eq (tgt := 77) hx hb dX9_lent_53 (by decide) (fun _ => ?_) (fun h => absurd (by decide +kernel) h)
              refine lv_iload_n hx hb dX9_lent_77 rfl (lv_at hl 4 rfl) ?_
              refine lv_istore_n (lv' := [(3, .int (nI (tb_fo (tb_lentF q d p) 0 i))), (5, .int (nI (0))), (0, .ref (md 13)), (1, .int (nI (d))), (2, .int (nI (p))), (4, .int (nI (i)))]) hx hb dX9_lent_78 rfl hl (by decide) rfl (fun ls hl => ?_)
              refine lv_iinc (k := 5) (v := nI (i + 1)) (lv' := [(4, .int (nI (i + 1))), (3, .int (nI (tb_fo (tb_lentF q d p) 0 i))), (5, .int (nI (0))), (0, .ref (md 13)), (1, .int (nI (d))), (2, .int (nI (p)))]) hx hb dX9_lent_79 hl rfl (nI_add _ _) (by decide) rfl (fun ls hl => ?_)
              refine lv_goto (tgt := 5) hx hb dX9_lent_82 (by decide) ?_
              have hl : lv_has ls 6 [(0, .ref (md 13)), (1, .int (nI (d))), (2, .int (nI (p))), (3, .int (nI (tb_fo (tb_lentF q d p) 0 (i + 1)))), (4, .int (nI ((i + 1))))] := by
                rw [show (tb_fo (tb_lentF q d p) 0 (i + 1)) = (tb_fo (tb_lentF q d p) 0 i) from by first | rfl | simp [tb_fo_s, tb_lentF, tb_ln, c1, c2, c3, c4]]
                exact lv_sub hl [3, 4, 5, 1, 0] rfl
              exact ih (i + 1) ls _ _ (by omega) (by omega) hU hl
            · refine lv_iconst (v := nI 1) hx hb dX9_lent_44 (by decide +kernel) ?_
              refine lv_goto (tgt := 49) hx hb dX9_lent_45 (by decide) ?_
              refine lv_istore (lv' := [(5, .int (nI (1))), (0, .ref (md 13)), (1, .int (nI (d))), (2, .int (nI (p))), (3, .int (nI (tb_fo (tb_lentF q d p) 0 i))), (4, .int (nI (i)))]) hx hb dX9_lent_49 hl (by decide) rfl (fun ls hl => ?_)
              refine lv_iload hx hb dX9_lent_51 (lv_at hl 0 rfl) ?_
              refine lv_if_eq (tgt := 77) hx hb dX9_lent_53 (by decide) (fun h => absurd h (by decide +kernel)) (fun _ => ?_)
              refine lv_aload_n hx hb dX9_lent_56 rfl (lv_at hl 1 rfl) ?_
              refine um_get (v := .ref (md 5)) hx hb htg inX9 hown hK hU h.obj rfl 6 (by decide) (htg _ tg_644) rfl dX9_lent_57 ?_
              refine lv_iload hx hb dX9_lent_60 (lv_at hl 5 rfl) ?_
              refine md_ild hx hb hK hU h 5 i (by decide) (show i < 200 from by omega) dX9_lent_62 ?_
              refine lv_iload_n hx hb dX9_lent_63 rfl (lv_at hl 4 rfl) ?_
              refine um_leN (tgt := 77) hx hb dX9_lent_64 (by decide) (tb_sm_lt hq 5 _) (tb_lent_lt hq d p i) (fun c5 => ?_) (fun c5 => ?_)
              · refine lv_iload_n hx hb dX9_lent_77 rfl (lv_at hl 4 rfl) ?_
                refine lv_istore_n (lv' := [(3, .int (nI (tb_fo (tb_lentF q d p) 0 i))), (5, .int (nI (1))), (0, .ref (md 13)), (1, .int (nI (d))), (2, .int (nI (p))), (4, .int (nI (i)))]) hx hb dX9_lent_78 rfl hl (by decide) rfl (fun ls hl => ?_)
                refine lv_iinc (k := 5) (v := nI (i + 1)) (lv' := [(4, .int (nI (i + 1))), (3, .int (nI (tb_fo (tb_lentF q d p) 0 i))), (5, .int (nI (1))), (0, .ref (md 13)), (1, .int (nI (d))), (2, .int (nI (p)))]) hx hb dX9_lent_79 hl rfl (nI_add _ _) (by decide) rfl (fun ls hl => ?_)
                refine lv_goto (tgt := 5) hx hb dX9_lent_82 (by decide) ?_
                have hl : lv_has ls 6 [(0, .ref (md 13)), (1, .int (nI (d))), (2, .int (nI (p))), (3, .int (nI (tb_fo (tb_lentF q d p) 0 (i + 1)))), (4, .int (nI ((i + 1))))] := by
                  rw [show (tb_fo (tb_lentF q d p) 0 (i + 1)) = (tb_fo (tb_lentF q d p) 0 i) from by first | rfl | simp [tb_fo_s, tb_lentF, tb_ln, c1, c2, c3, c4, c5]]
                  exact lv_sub hl [3, 4, 5, 1, 0] rfl
                exact ih (i + 1) ls _ _ (by omega) (by omega) hU hl
              · refine lv_aload_n hx hb dX9_lent_67 rfl (lv_at hl 1 rfl) ?_
                refine um_get (v := .ref (md 5)) hx hb htg inX9 hown hK hU h.obj rfl 6 (by decide) (htg _ tg_644) rfl dX9_lent_68 ?_
                refine lv_iload hx hb dX9_lent_71 (lv_at hl 5 rfl) ?_
                refine md_ild hx hb hK hU h 5 i (by decide) (show i < 200 from by omega) dX9_lent_73 ?_
                refine lv_goto (tgt := 78) hx hb dX9_lent_74 (by decide) ?_
                refine lv_istore_n (lv' := [(3, .int (nI (q 5 i))), (5, .int (nI (1))), (0, .ref (md 13)), (1, .int (nI (d))), (2, .int (nI (p))), (4, .int (nI (i)))]) hx hb dX9_lent_78 rfl hl (by decide) rfl (fun ls hl => ?_)
                refine lv_iinc (k := 5) (v := nI (i + 1)) (lv' := [(4, .int (nI (i + 1))), (3, .int (nI (q 5 i))), (5, .int (nI (1))), (0, .ref (md 13)), (1, .int (nI (d))), (2, .int (nI (p)))]) hx hb dX9_lent_79 hl rfl (nI_add _ _) (by decide) rfl (fun ls hl => ?_)
                refine lv_goto (tgt := 5) hx hb dX9_lent_82 (by decide) ?_
                have hl : lv_has ls 6 [(0, .ref (md 13)), (1, .int (nI (d))), (2, .int (nI (p))), (3, .int (nI (tb_fo (tb_lentF q d p) 0 (i + 1)))), (4, .int (nI ((i + 1))))] := by
                  rw [show (tb_fo (tb_lentF q d p) 0 (i + 1)) = (q 5 i) from by first | rfl | simp [tb_fo_s, tb_lentF, tb_ln, c1, c2, c3, c4, c5]]
                  exact lv_sub hl [3, 4, 5, 1, 0] rfl
                exact ih (i + 1) ls _ _ (by omega) (by omega) hU hl
  refine lv_iconst (v := nI 0) hx hb dX9_lent_0 (by decide +kernel) ?_
  refine lv_istore_n (lv' := [(3, .int (nI (0))), (0, .ref (md 13)), (1, .int (nI (d))), (2, .int (nI (p)))]) hx hb dX9_lent_1 rfl hl (by decide) rfl (fun ls hl => ?_)
  refine lv_iconst (v := nI 0) hx hb dX9_lent_2 (by decide +kernel) ?_
  refine lv_istore (lv' := [(4, .int (nI (0))), (3, .int (nI (0))), (0, .ref (md 13)), (1, .int (nI (d))), (2, .int (nI (p)))]) hx hb dX9_lent_3 hl (by decide) rfl (fun ls hl => ?_)
  have hl : lv_has ls 6 [(0, .ref (md 13)), (1, .int (nI (d))), (2, .int (nI (p))), (3, .int (nI (tb_fo (tb_lentF q d p) 0 0))), (4, .int (nI (0)))] := by
    rw [show (tb_fo (tb_lentF q d p) 0 0) = 0 from by first | rfl | simp [tb_fo_s, tb_lentF, tb_ln, ]]
    exact lv_sub hl [2, 3, 4, 1, 0] rfl
  exact L1 41 0 ls _ _ (by omega) (by omega) hU hl

set_option maxRecDepth 100000 in
set_option maxHeartbeats 4000000 in
theorem mm_isBack (l : Launch) (D : va_G) (κ : Nat → ClassId) (τ : Nat → Nat) (A : Nat → Prop) (σ : um_M) (md : Nat → Nat) (q : tb_Q) (th : Nat) (h : md_at κ σ md q th) (hq : tb_sm q) (d p n : Nat) (hd : d < 5) (hp : p < 2147483648) (hn : n < 2147483648) : Met l yX9_isBack wsX9_isBack ({ frames := 1, cells := 0, slots := 0, locals := 23 }) (va_Pc [.ref (md 13), .int (nI (d)), .int (nI (p)), .int (nI (n))] (um_U D κ τ A σ)) (va_Qi (fun (r9 : Int32) (σ' : um_M) => r9 = um_b (tb_back q d p n) ∧ σ' = σ) (um_U D κ τ A) A) 0 0 A := by
  refine um_met (cc := cX9_isBack) (maxL := 6) (ret := (some .boolean)) (by decide) rfl rfl ?_
  intro pp ee s mm args below meth cd ls hx hb hr hts hown hlocks hml hnm hK hJ hU hl
  have hown : s.vm.findClass RX9 = some mm.cls := hown
  have htg : ∀ w ∈ lw_g, w.before args s = true := fun w h => hts w (List.mem_cons_of_mem _ h)
  have hl : lv_has ls 6 [(0, .ref (md 13)), (1, .int (nI (d))), (2, .int (nI (p))), (3, .int (nI (n)))] := hl
  have L1 : ∀ (nf : Nat) (i : Nat) (ls : Array Slot) (H : Heap) (locs : List Loc), 200 - i < nf → i ≤ 200 → um_S D vwCl A s σ H locs → lv_has ls 6 [(0, .ref (md 13)), (1, .int (nI (d))), (2, .int (nI (p))), (3, .int (nI (n))), (4, .int (um_b (tb_fo (tb_bkF q d p n) false i))), (5, .int (nI (i)))] → W pp l ee ({ frames := 1, cells := 0, slots := 0, locals := 23 }) s mm args below meth cd H locs 0 0 (MQ below (va_Qi (fun (r9 : Int32) (σ' : um_M) => r9 = um_b (tb_back q d p n) ∧ σ' = σ) (um_U D κ τ A) A) args s 0 0 A) (F0 mm 6 ls []) := by
    intro nf
    induction nf with
    | zero => intro i ls H locs hnf; exact absurd hnf (Nat.not_lt_zero _)
    | succ nf ih =>
      intro i ls H locs hnf z1 hU hl
      refine lv_iload hx hb dX9_isBack_6 (lv_at hl 5 rfl) ?_
      refine lv_sipush (v := nI 200) hx hb dX9_isBack_8 (by decide +kernel) ?_
      refine um_geN (tgt := 83) hx hb dX9_isBack_11 (by decide) (by omega) (by decide) (fun c1 => ?_) (fun c1 => ?_)
      · refine lv_iload hx hb dX9_isBack_83 (lv_at hl 4 rfl) ?_
        exact um_zret hx hb hr hlocks hK hJ hU dX9_isBack_85 (tb_fo (tb_bkF q d p n) false i) rfl ⟨congrArg um_b (by rw [show i = 200 by omega]; rfl), rfl⟩
      · refine lv_iload hx hb dX9_isBack_14 (lv_at hl 4 rfl) ?_
        refine um_neB (tgt := 70) hx hb dX9_isBack_16 (by decide) (fun c2 => ?_) (fun c2 => ?_)
        · refine lv_iconst (v := nI 1) hx hb dX9_isBack_70 (by decide +kernel) ?_
          refine lv_goto (tgt := 75) hx hb dX9_isBack_71 (by decide) ?_
          refine lv_istore (lv' := [(4, .int (nI (1))), (0, .ref (md 13)), (1, .int (nI (d))), (2, .int (nI (p))), (3, .int (nI (n))), (5, .int (nI (i)))]) hx hb dX9_isBack_75 hl (by decide) rfl (fun ls hl => ?_)
          refine lv_iinc (k := 5) (v := nI (i + 1)) (lv' := [(5, .int (nI (i + 1))), (4, .int (nI (1))), (0, .ref (md 13)), (1, .int (nI (d))), (2, .int (nI (p))), (3, .int (nI (n)))]) hx hb dX9_isBack_77 hl rfl (nI_add _ _) (by decide) rfl (fun ls hl => ?_)
          refine lv_goto (tgt := 6) hx hb dX9_isBack_80 (by decide) ?_
          have hl : lv_has ls 6 [(0, .ref (md 13)), (1, .int (nI (d))), (2, .int (nI (p))), (3, .int (nI (n))), (4, .int (um_b (tb_fo (tb_bkF q d p n) false (i + 1)))), (5, .int (nI ((i + 1))))] := by
            rw [show um_b (tb_fo (tb_bkF q d p n) false (i + 1)) = nI 1 from by rw [show (tb_fo (tb_bkF q d p n) false (i + 1)) = true from by first | rfl | simp [tb_fo_s, tb_bkF, tb_bkP, c1, c2]]; rfl]
            exact lv_sub hl [2, 3, 4, 5, 1, 0] rfl
          exact ih (i + 1) ls _ _ (by omega) (by omega) hU hl
        · refine lv_aload_n hx hb dX9_isBack_19 rfl (lv_at hl 0 rfl) ?_
          refine lv_iload_n hx hb dX9_isBack_20 rfl (lv_at hl 1 rfl) ?_
          refine lv_iload hx hb dX9_isBack_21 (lv_at hl 5 rfl) ?_
          refine lv_bipush (v := nI 40) hx hb dX9_isBack_23 (by decide +kernel) ?_
          refine um_divN hx hb dX9_isBack_25 (by omega) (by decide) (by decide) ?_
          refine lv_iload hx hb dX9_isBack_26 (lv_at hl 5 rfl) ?_
          refine lv_bipush (v := nI 40) hx hb dX9_isBack_28 (by decide +kernel) ?_
          refine um_remN hx hb dX9_isBack_30 (by omega) (by decide) (by decide) ?_
          refine um_callP (va_runV (As := [.int (nI (d)), .int (nI (i / 40)), .int (nI (i % 40))]) (rest := []) ⟨hx, hb, hml, hown, htg⟩ (mm_isKnown l D κ τ A σ md q th h hq d (i / 40) (i % 40) (by omega) (by omega) (by omega)) (cwV 3 htg (lw_cV tg_718 tg_720 slX9_isKnown tg_8 tg_721) rfl rfl rfl (by decide +kernel) ⟨Nat.le_of_ble_eq_true rfl, Nat.le_of_ble_eq_true rfl⟩) (um_preV hU hK hJ h.obj rfl) rfl rfl hl.1 rfl (lv_room (Nat.le_of_ble_eq_true rfl)) dX9_isBack_31 ⟨Nat.le_of_ble_eq_true rfl, Nat.le_of_ble_eq_true rfl⟩) hU (fun H locs hU => ?_)
          refine um_eqB (tgt := 74) hx hb dX9_isBack_34 (by decide) (fun c3 => ?_) (fun c3 => ?_)
          · refine lv_iconst (v := nI 0) hx hb dX9_isBack_74 (by decide +kernel) ?_
            refine lv_istore (lv' := [(4, .int (nI (0))), (0, .ref (md 13)), (1, .int (nI (d))), (2, .int (nI (p))), (3, .int (nI (n))), (5, .int (nI (i)))]) hx hb dX9_isBack_75 hl (by decide) rfl (fun ls hl => ?_)
            refine lv_iinc (k := 5) (v := nI (i + 1)) (lv' := [(5, .int (nI (i + 1))), (4, .int (nI (0))), (0, .ref (md 13)), (1, .int (nI (d))), (2, .int (nI (p))), (3, .int (nI (n)))]) hx hb dX9_isBack_77 hl rfl (nI_add _ _) (by decide) rfl (fun ls hl => ?_)
            refine lv_goto (tgt := 6) hx hb dX9_isBack_80 (by decide) ?_
            have hl : lv_has ls 6 [(0, .ref (md 13)), (1, .int (nI (d))), (2, .int (nI (p))), (3, .int (nI (n))), (4, .int (um_b (tb_fo (tb_bkF q d p n) false (i + 1)))), (5, .int (nI ((i + 1))))] := by
              rw [show um_b (tb_fo (tb_bkF q d p n) false (i + 1)) = nI 0 from by rw [show (tb_fo (tb_bkF q d p n) false (i + 1)) = false from by first | rfl | simp [tb_fo_s, tb_bkF, tb_bkP, c1, c2, c3]]; rfl]
              exact lv_sub hl [2, 3, 4, 5, 1, 0] rfl
            exact ih (i + 1) ls _ _ (by omega) (by omega) hU hl
          · refine lv_aload_n hx hb dX9_isBack_37 rfl (lv_at hl 0 rfl) ?_
            refine um_get (v := .ref (md 1)) hx hb htg inX9 hown hK hU h.obj rfl 2 (by decide) (htg _ tg_640) rfl dX9_isBack_38 ?_
            refine lv_iload hx hb dX9_isBack_41 (lv_at hl 5 rfl) ?_
            refine md_ild hx hb hK hU h 1 i (by decide) (show i < 200 from by omega) dX9_isBack_43 ?_
            refine lv_iconst (v := nI 1) hx hb dX9_isBack_44 (by decide +kernel) ?_
            refine um_neN (tgt := 74) hx hb dX9_isBack_45 (by decide) (tb_sm_lt hq 1 _) (by decide) (fun c4 => ?_) (fun c4 => ?_)
            · refine lv_iconst (v := nI 0) hx hb dX9_isBack_74 (by decide +kernel) ?_
              refine lv_istore (lv' := [(4, .int (nI (0))), (0, .ref (md 13)), (1, .int (nI (d))), (2, .int (nI (p))), (3, .int (nI (n))), (5, .int (nI (i)))]) hx hb dX9_isBack_75 hl (by decide) rfl (fun ls hl => ?_)
              refine lv_iinc (k := 5) (v := nI (i + 1)) (lv' := [(5, .int (nI (i + 1))), (4, .int (nI (0))), (0, .ref (md 13)), (1, .int (nI (d))), (2, .int (nI (p))), (3, .int (nI (n)))]) hx hb dX9_isBack_77 hl rfl (nI_add _ _) (by decide) rfl (fun ls hl => ?_)
              refine lv_goto (tgt := 6) hx hb dX9_isBack_80 (by decide) ?_
              have hl : lv_has ls 6 [(0, .ref (md 13)), (1, .int (nI (d))), (2, .int (nI (p))), (3, .int (nI (n))), (4, .int (um_b (tb_fo (tb_bkF q d p n) false (i + 1)))), (5, .int (nI ((i + 1))))] := by
                rw [show um_b (tb_fo (tb_bkF q d p n) false (i + 1)) = nI 0 from by rw [show (tb_fo (tb_bkF q d p n) false (i + 1)) = false from by first | rfl | simp [tb_fo_s, tb_bkF, tb_bkP, c1, c2, c3, c4]]; rfl]
                exact lv_sub hl [2, 3, 4, 5, 1, 0] rfl
              exact ih (i + 1) ls _ _ (by omega) (by omega) hU hl
            · refine lv_aload_n hx hb dX9_isBack_48 rfl (lv_at hl 0 rfl) ?_
              refine um_get (v := .ref (md 2)) hx hb htg inX9 hown hK hU h.obj rfl 3 (by decide) (htg _ tg_641) rfl dX9_isBack_49 ?_
              refine lv_iload hx hb dX9_isBack_52 (lv_at hl 5 rfl) ?_
              refine md_ild hx hb hK hU h 2 i (by decide) (show i < 200 from by omega) dX9_isBack_54 ?_
              refine lv_iload_n hx hb dX9_isBack_55 rfl (lv_at hl 2 rfl) ?_
              refine um_neN (tgt := 74) hx hb dX9_isBack_56 (by decide) (tb_sm_lt hq 2 _) hp (fun c5 => ?_) (fun c5 => ?_)
              · refine lv_iconst (v := nI 0) hx hb dX9_isBack_74 (by decide +kernel) ?_
                refine lv_istore (lv' := [(4, .int (nI (0))), (0, .ref (md 13)), (1, .int (nI (d))), (2, .int (nI (p))), (3, .int (nI (n))), (5, .int (nI (i)))]) hx hb dX9_isBack_75 hl (by decide) rfl (fun ls hl => ?_)
                refine lv_iinc (k := 5) (v := nI (i + 1)) (lv' := [(5, .int (nI (i + 1))), (4, .int (nI (0))), (0, .ref (md 13)), (1, .int (nI (d))), (2, .int (nI (p))), (3, .int (nI (n)))]) hx hb dX9_isBack_77 hl rfl (nI_add _ _) (by decide) rfl (fun ls hl => ?_)
                refine lv_goto (tgt := 6) hx hb dX9_isBack_80 (by decide) ?_
                have hl : lv_has ls 6 [(0, .ref (md 13)), (1, .int (nI (d))), (2, .int (nI (p))), (3, .int (nI (n))), (4, .int (um_b (tb_fo (tb_bkF q d p n) false (i + 1)))), (5, .int (nI ((i + 1))))] := by
                  rw [show um_b (tb_fo (tb_bkF q d p n) false (i + 1)) = nI 0 from by rw [show (tb_fo (tb_bkF q d p n) false (i + 1)) = false from by first | rfl | simp [tb_fo_s, tb_bkF, tb_bkP, c1, c2, c3, c4, c5]]; rfl]
                  exact lv_sub hl [2, 3, 4, 5, 1, 0] rfl
                exact ih (i + 1) ls _ _ (by omega) (by omega) hU hl
              · refine lv_aload_n hx hb dX9_isBack_59 rfl (lv_at hl 0 rfl) ?_
                refine um_get (v := .ref (md 4)) hx hb htg inX9 hown hK hU h.obj rfl 5 (by decide) (htg _ tg_643) rfl dX9_isBack_60 ?_
                refine lv_iload hx hb dX9_isBack_63 (lv_at hl 5 rfl) ?_
                refine md_ild hx hb hK hU h 4 i (by decide) (show i < 200 from by omega) dX9_isBack_65 ?_
                refine lv_iload_n hx hb dX9_isBack_66 rfl (lv_at hl 3 rfl) ?_
                refine um_neN (tgt := 74) hx hb dX9_isBack_67 (by decide) (tb_sm_lt hq 4 _) hn (fun c6 => ?_) (fun c6 => ?_)
                · refine lv_iconst (v := nI 0) hx hb dX9_isBack_74 (by decide +kernel) ?_
                  refine lv_istore (lv' := [(4, .int (nI (0))), (0, .ref (md 13)), (1, .int (nI (d))), (2, .int (nI (p))), (3, .int (nI (n))), (5, .int (nI (i)))]) hx hb dX9_isBack_75 hl (by decide) rfl (fun ls hl => ?_)
                  refine lv_iinc (k := 5) (v := nI (i + 1)) (lv' := [(5, .int (nI (i + 1))), (4, .int (nI (0))), (0, .ref (md 13)), (1, .int (nI (d))), (2, .int (nI (p))), (3, .int (nI (n)))]) hx hb dX9_isBack_77 hl rfl (nI_add _ _) (by decide) rfl (fun ls hl => ?_)
                  refine lv_goto (tgt := 6) hx hb dX9_isBack_80 (by decide) ?_
                  have hl : lv_has ls 6 [(0, .ref (md 13)), (1, .int (nI (d))), (2, .int (nI (p))), (3, .int (nI (n))), (4, .int (um_b (tb_fo (tb_bkF q d p n) false (i + 1)))), (5, .int (nI ((i + 1))))] := by
                    rw [show um_b (tb_fo (tb_bkF q d p n) false (i + 1)) = nI 0 from by rw [show (tb_fo (tb_bkF q d p n) false (i + 1)) = false from by first | rfl | simp [tb_fo_s, tb_bkF, tb_bkP, c1, c2, c3, c4, c5, c6]]; rfl]
                    exact lv_sub hl [2, 3, 4, 5, 1, 0] rfl
                  exact ih (i + 1) ls _ _ (by omega) (by omega) hU hl
                · refine lv_iconst (v := nI 1) hx hb dX9_isBack_70 (by decide +kernel) ?_
                  refine lv_goto (tgt := 75) hx hb dX9_isBack_71 (by decide) ?_
                  refine lv_istore (lv' := [(4, .int (nI (1))), (0, .ref (md 13)), (1, .int (nI (d))), (2, .int (nI (p))), (3, .int (nI (n))), (5, .int (nI (i)))]) hx hb dX9_isBack_75 hl (by decide) rfl (fun ls hl => ?_)
                  refine lv_iinc (k := 5) (v := nI (i + 1)) (lv' := [(5, .int (nI (i + 1))), (4, .int (nI (1))), (0, .ref (md 13)), (1, .int (nI (d))), (2, .int (nI (p))), (3, .int (nI (n)))]) hx hb dX9_isBack_77 hl rfl (nI_add _ _) (by decide) rfl (fun ls hl => ?_)
                  refine lv_goto (tgt := 6) hx hb dX9_isBack_80 (by decide) ?_
                  have hl : lv_has ls 6 [(0, .ref (md 13)), (1, .int (nI (d))), (2, .int (nI (p))), (3, .int (nI (n))), (4, .int (um_b (tb_fo (tb_bkF q d p n) false (i + 1)))), (5, .int (nI ((i + 1))))] := by
                    rw [show um_b (tb_fo (tb_bkF q d p n) false (i + 1)) = nI 1 from by rw [show (tb_fo (tb_bkF q d p n) false (i + 1)) = true from by first | rfl | simp [tb_fo_s, tb_bkF, tb_bkP, c1, c2, c3, c4, c5, c6]]; rfl]
                    exact lv_sub hl [2, 3, 4, 5, 1, 0] rfl
                  exact ih (i + 1) ls _ _ (by omega) (by omega) hU hl
  refine lv_iconst (v := nI 0) hx hb dX9_isBack_0 (by decide +kernel) ?_
  refine lv_istore (lv' := [(4, .int (nI (0))), (0, .ref (md 13)), (1, .int (nI (d))), (2, .int (nI (p))), (3, .int (nI (n)))]) hx hb dX9_isBack_1 hl (by decide) rfl (fun ls hl => ?_)
  refine lv_iconst (v := nI 0) hx hb dX9_isBack_3 (by decide +kernel) ?_
  refine lv_istore (lv' := [(5, .int (nI (0))), (4, .int (nI (0))), (0, .ref (md 13)), (1, .int (nI (d))), (2, .int (nI (p))), (3, .int (nI (n)))]) hx hb dX9_isBack_4 hl (by decide) rfl (fun ls hl => ?_)
  have hl : lv_has ls 6 [(0, .ref (md 13)), (1, .int (nI (d))), (2, .int (nI (p))), (3, .int (nI (n))), (4, .int (um_b (tb_fo (tb_bkF q d p n) false 0))), (5, .int (nI (0)))] := by
    rw [show um_b (tb_fo (tb_bkF q d p n) false 0) = nI 0 from by rw [show (tb_fo (tb_bkF q d p n) false 0) = false from by first | rfl | simp [tb_fo_s, tb_bkF, tb_bkP, ]]; rfl]
    exact lv_sub hl [2, 3, 4, 5, 1, 0] rfl
  exact L1 201 0 ls _ _ (by omega) (by omega) hU hl

set_option maxRecDepth 100000 in
set_option maxHeartbeats 4000000 in
theorem mm_holds (l : Launch) (D : va_G) (κ : Nat → ClassId) (τ : Nat → Nat) (A : Nat → Prop) (σ : um_M) (md : Nat → Nat) (q : tb_Q) (th : Nat) (h : md_at κ σ md q th) (hq : tb_sm q) (d p : Nat) (hd : d < 5) (hp : p < 2147483648) : Met l yX9_holds wsX9_holds ({ frames := 2, cells := 0, slots := 0, locals := 48 }) (va_Pc [.ref (md 13), .int (nI (d)), .int (nI (p))] (um_U D κ τ A σ)) (va_Qi (fun (r9 : Int32) (σ' : um_M) => r9 = tb_m1 (tb_holds q d p) ∧ σ' = σ) (um_U D κ τ A) A) 0 0 A := by
  refine um_met (cc := cX9_holds) (maxL := 7) (ret := (some .int)) (by decide) rfl rfl ?_
  intro pp ee s mm args below meth cd ls hx hb hr hts hown hlocks hml hnm hK hJ hU hl
  have hown : s.vm.findClass RX9 = some mm.cls := hown
  have htg : ∀ w ∈ lw_g, w.before args s = true := fun w h => hts w (List.mem_cons_of_mem _ h)
  have hl : lv_has ls 7 [(0, .ref (md 13)), (1, .int (nI (d))), (2, .int (nI (p)))] := hl
  have L1 : ∀ (nf : Nat) (i : Nat) (ls : Array Slot) (H : Heap) (locs : List Loc), 40 - i < nf → i ≤ 40 → (decide (tb_lent q d p = 0) || tb_back q d p (tb_lent q d p)) = false → um_S D vwCl A s σ H locs → lv_has ls 7 [(0, .ref (md 13)), (1, .int (nI (d))), (2, .int (nI (p))), (3, .int (nI (tb_lent q d p))), (4, .int (tb_m1 (tb_fo (tb_htF q d p (tb_lent q d p)) 0 i))), (5, .int (nI (i)))] → W pp l ee ({ frames := 2, cells := 0, slots := 0, locals := 48 }) s mm args below meth cd H locs 0 0 (MQ below (va_Qi (fun (r9 : Int32) (σ' : um_M) => r9 = tb_m1 (tb_holds q d p) ∧ σ' = σ) (um_U D κ τ A) A) args s 0 0 A) (F0 mm 29 ls []) := by
    intro nf
    induction nf with
    | zero => intro i ls H locs hnf; exact absurd hnf (Nat.not_lt_zero _)
    | succ nf ih =>
      intro i ls H locs hnf z1 z2 hU hl
      refine lv_iload hx hb dX9_holds_29 (lv_at hl 5 rfl) ?_
      refine lv_bipush (v := nI 40) hx hb dX9_holds_31 (by decide +kernel) ?_
      refine um_geN (tgt := 111) hx hb dX9_holds_33 (by decide) (by omega) (by decide) (fun c1 => ?_) (fun c1 => ?_)
      · refine lv_iload hx hb dX9_holds_111 (lv_at hl 4 rfl) ?_
        exact um_iret hx hb hr hlocks hK hJ hU dX9_holds_113 ⟨congrArg tb_m1 (by rw [show i = 40 by omega]; unfold tb_holds; rw [if_neg (by rw [z2]; decide)]; rfl), rfl⟩
      · refine lv_aload_n hx hb dX9_holds_36 rfl (lv_at hl 0 rfl) ?_
        refine lv_iload_n hx hb dX9_holds_37 rfl (lv_at hl 1 rfl) ?_
        refine lv_iconst (v := nI 0) hx hb dX9_holds_38 (by decide +kernel) ?_
        refine lv_iload hx hb dX9_holds_39 (lv_at hl 5 rfl) ?_
        refine um_callP (va_runV (As := [.int (nI (d)), .int (nI (0)), .int (nI (i))]) (rest := []) ⟨hx, hb, hml, hown, htg⟩ (mm_isKnown l D κ τ A σ md q th h hq d 0 i (by omega) (by omega) (by omega)) (cwV 3 htg (lw_cV tg_718 tg_720 slX9_isKnown tg_8 tg_721) rfl rfl rfl (by decide +kernel) ⟨Nat.le_of_ble_eq_true rfl, Nat.le_of_ble_eq_true rfl⟩) (um_preV hU hK hJ h.obj rfl) rfl rfl hl.1 rfl (lv_room (Nat.le_of_ble_eq_true rfl)) dX9_holds_41 ⟨Nat.le_of_ble_eq_true rfl, Nat.le_of_ble_eq_true rfl⟩) hU (fun H locs hU => ?_)
        refine um_eqB (tgt := 83) hx hb dX9_holds_44 (by decide) (fun c2 => ?_) (fun c2 => ?_)
        · refine lv_iconst (v := nI 0) hx hb dX9_holds_83 (by decide +kernel) ?_
          refine lv_istore (lv' := [(6, .int (nI (0))), (0, .ref (md 13)), (1, .int (nI (d))), (2, .int (nI (p))), (3, .int (nI (tb_lent q d p))), (4, .int (tb_m1 (tb_fo (tb_htF q d p (tb_lent q d p)) 0 i))), (5, .int (nI (i)))]) hx hb dX9_holds_84 hl (by decide) rfl (fun ls hl => ?_)
          refine lv_iload hx hb dX9_holds_86 (lv_at hl 0 rfl) ?_
          refine lv_if_eq (tgt := 101) hx hb dX9_holds_88 (by decide) (fun _ => ?_) (fun h => absurd (by decide +kernel) h)
          refine lv_iload hx hb dX9_holds_101 (lv_at hl 5 rfl) ?_
          refine lv_istore (lv' := [(4, .int (tb_m1 (tb_fo (tb_htF q d p (tb_lent q d p)) 0 i))), (6, .int (nI (0))), (0, .ref (md 13)), (1, .int (nI (d))), (2, .int (nI (p))), (3, .int (nI (tb_lent q d p))), (5, .int (nI (i)))]) hx hb dX9_holds_103 hl (by decide) rfl (fun ls hl => ?_)
          refine lv_iinc (k := 6) (v := nI (i + 1)) (lv' := [(5, .int (nI (i + 1))), (4, .int (tb_m1 (tb_fo (tb_htF q d p (tb_lent q d p)) 0 i))), (6, .int (nI (0))), (0, .ref (md 13)), (1, .int (nI (d))), (2, .int (nI (p))), (3, .int (nI (tb_lent q d p)))]) hx hb dX9_holds_105 hl rfl (nI_add _ _) (by decide) rfl (fun ls hl => ?_)
          refine lv_goto (tgt := 29) hx hb dX9_holds_108 (by decide) ?_
          have hl : lv_has ls 7 [(0, .ref (md 13)), (1, .int (nI (d))), (2, .int (nI (p))), (3, .int (nI (tb_lent q d p))), (4, .int (tb_m1 (tb_fo (tb_htF q d p (tb_lent q d p)) 0 (i + 1)))), (5, .int (nI ((i + 1))))] := by
            rw [show (tb_fo (tb_htF q d p (tb_lent q d p)) 0 (i + 1)) = (tb_fo (tb_htF q d p (tb_lent q d p)) 0 i) from by simp [tb_fo_s, tb_htF, tb_ln, c1, c2]]
            exact lv_sub hl [3, 4, 5, 6, 1, 0] rfl
          exact ih (i + 1) ls _ _ (by omega) (by omega) z2 hU hl
        · refine lv_aload_n hx hb dX9_holds_47 rfl (lv_at hl 0 rfl) ?_
          refine um_get (v := .ref (md 1)) hx hb htg inX9 hown hK hU h.obj rfl 2 (by decide) (htg _ tg_640) rfl dX9_holds_48 ?_
          refine lv_iload hx hb dX9_holds_51 (lv_at hl 5 rfl) ?_
          refine md_ild hx hb hK hU h 1 i (by decide) (show i < 200 from by omega) dX9_holds_53 ?_
          refine um_ne0N (tgt := 83) hx hb dX9_holds_54 (by decide) (tb_sm_lt hq 1 _) (fun c3 => ?_) (fun c3 => ?_)
          · refine lv_iconst (v := nI 0) hx hb dX9_holds_83 (by decide +kernel) ?_
            refine lv_istore (lv' := [(6, .int (nI (0))), (0, .ref (md 13)), (1, .int (nI (d))), (2, .int (nI (p))), (3, .int (nI (tb_lent q d p))), (4, .int (tb_m1 (tb_fo (tb_htF q d p (tb_lent q d p)) 0 i))), (5, .int (nI (i)))]) hx hb dX9_holds_84 hl (by decide) rfl (fun ls hl => ?_)
            refine lv_iload hx hb dX9_holds_86 (lv_at hl 0 rfl) ?_
            refine lv_if_eq (tgt := 101) hx hb dX9_holds_88 (by decide) (fun _ => ?_) (fun h => absurd (by decide +kernel) h)
            refine lv_iload hx hb dX9_holds_101 (lv_at hl 5 rfl) ?_
            refine lv_istore (lv' := [(4, .int (tb_m1 (tb_fo (tb_htF q d p (tb_lent q d p)) 0 i))), (6, .int (nI (0))), (0, .ref (md 13)), (1, .int (nI (d))), (2, .int (nI (p))), (3, .int (nI (tb_lent q d p))), (5, .int (nI (i)))]) hx hb dX9_holds_103 hl (by decide) rfl (fun ls hl => ?_)
            refine lv_iinc (k := 6) (v := nI (i + 1)) (lv' := [(5, .int (nI (i + 1))), (4, .int (tb_m1 (tb_fo (tb_htF q d p (tb_lent q d p)) 0 i))), (6, .int (nI (0))), (0, .ref (md 13)), (1, .int (nI (d))), (2, .int (nI (p))), (3, .int (nI (tb_lent q d p)))]) hx hb dX9_holds_105 hl rfl (nI_add _ _) (by decide) rfl (fun ls hl => ?_)
            refine lv_goto (tgt := 29) hx hb dX9_holds_108 (by decide) ?_
            have hl : lv_has ls 7 [(0, .ref (md 13)), (1, .int (nI (d))), (2, .int (nI (p))), (3, .int (nI (tb_lent q d p))), (4, .int (tb_m1 (tb_fo (tb_htF q d p (tb_lent q d p)) 0 (i + 1)))), (5, .int (nI ((i + 1))))] := by
              rw [show (tb_fo (tb_htF q d p (tb_lent q d p)) 0 (i + 1)) = (tb_fo (tb_htF q d p (tb_lent q d p)) 0 i) from by simp [tb_fo_s, tb_htF, tb_ln, c1, c2, c3]]
              exact lv_sub hl [3, 4, 5, 6, 1, 0] rfl
            exact ih (i + 1) ls _ _ (by omega) (by omega) z2 hU hl
          · refine lv_aload_n hx hb dX9_holds_57 rfl (lv_at hl 0 rfl) ?_
            refine um_get (v := .ref (md 2)) hx hb htg inX9 hown hK hU h.obj rfl 3 (by decide) (htg _ tg_641) rfl dX9_holds_58 ?_
            refine lv_iload hx hb dX9_holds_61 (lv_at hl 5 rfl) ?_
            refine md_ild hx hb hK hU h 2 i (by decide) (show i < 200 from by omega) dX9_holds_63 ?_
            refine lv_iload_n hx hb dX9_holds_64 rfl (lv_at hl 2 rfl) ?_
            refine um_neN (tgt := 83) hx hb dX9_holds_65 (by decide) (tb_sm_lt hq 2 _) hp (fun c4 => ?_) (fun c4 => ?_)
            · refine lv_iconst (v := nI 0) hx hb dX9_holds_83 (by decide +kernel) ?_
              refine lv_istore (lv' := [(6, .int (nI (0))), (0, .ref (md 13)), (1, .int (nI (d))), (2, .int (nI (p))), (3, .int (nI (tb_lent q d p))), (4, .int (tb_m1 (tb_fo (tb_htF q d p (tb_lent q d p)) 0 i))), (5, .int (nI (i)))]) hx hb dX9_holds_84 hl (by decide) rfl (fun ls hl => ?_)
              refine lv_iload hx hb dX9_holds_86 (lv_at hl 0 rfl) ?_
              refine lv_if_eq (tgt := 101) hx hb dX9_holds_88 (by decide) (fun _ => ?_) (fun h => absurd (by decide +kernel) h)
              refine lv_iload hx hb dX9_holds_101 (lv_at hl 5 rfl) ?_
              refine lv_istore (lv' := [(4, .int (tb_m1 (tb_fo (tb_htF q d p (tb_lent q d p)) 0 i))), (6, .int (nI (0))), (0, .ref (md 13)), (1, .int (nI (d))), (2, .int (nI (p))), (3, .int (nI (tb_lent q d p))), (5, .int (nI (i)))]) hx hb dX9_holds_103 hl (by decide) rfl (fun ls hl => ?_)
              refine lv_iinc (k := 6) (v := nI (i + 1)) (lv' := [(5, .int (nI (i + 1))), (4, .int (tb_m1 (tb_fo (tb_htF q d p (tb_lent q d p)) 0 i))), (6, .int (nI (0))), (0, .ref (md 13)), (1, .int (nI (d))), (2, .int (nI (p))), (3, .int (nI (tb_lent q d p)))]) hx hb dX9_holds_105 hl rfl (nI_add _ _) (by decide) rfl (fun ls hl => ?_)
              refine lv_goto (tgt := 29) hx hb dX9_holds_108 (by decide) ?_
              have hl : lv_has ls 7 [(0, .ref (md 13)), (1, .int (nI (d))), (2, .int (nI (p))), (3, .int (nI (tb_lent q d p))), (4, .int (tb_m1 (tb_fo (tb_htF q d p (tb_lent q d p)) 0 (i + 1)))), (5, .int (nI ((i + 1))))] := by
                rw [show (tb_fo (tb_htF q d p (tb_lent q d p)) 0 (i + 1)) = (tb_fo (tb_htF q d p (tb_lent q d p)) 0 i) from by simp [tb_fo_s, tb_htF, tb_ln, c1, c2, c3, c4]]
                exact lv_sub hl [3, 4, 5, 6, 1, 0] rfl
              exact ih (i + 1) ls _ _ (by omega) (by omega) z2 hU hl
            · refine lv_aload_n hx hb dX9_holds_68 rfl (lv_at hl 0 rfl) ?_
              refine um_get (v := .ref (md 5)) hx hb htg inX9 hown hK hU h.obj rfl 6 (by decide) (htg _ tg_644) rfl dX9_holds_69 ?_
              refine lv_iload hx hb dX9_holds_72 (lv_at hl 5 rfl) ?_
              refine md_ild hx hb hK hU h 5 i (by decide) (show i < 200 from by omega) dX9_holds_74 ?_
              refine lv_iload_n hx hb dX9_holds_75 rfl (lv_at hl 3 rfl) ?_
              refine um_neN (tgt := 83) hx hb dX9_holds_76 (by decide) (tb_sm_lt hq 5 _) (tb_lentlt hq d p) (fun c5 => ?_) (fun c5 => ?_)
              · refine lv_iconst (v := nI 0) hx hb dX9_holds_83 (by decide +kernel) ?_
                refine lv_istore (lv' := [(6, .int (nI (0))), (0, .ref (md 13)), (1, .int (nI (d))), (2, .int (nI (p))), (3, .int (nI (tb_lent q d p))), (4, .int (tb_m1 (tb_fo (tb_htF q d p (tb_lent q d p)) 0 i))), (5, .int (nI (i)))]) hx hb dX9_holds_84 hl (by decide) rfl (fun ls hl => ?_)
                refine lv_iload hx hb dX9_holds_86 (lv_at hl 0 rfl) ?_
                refine lv_if_eq (tgt := 101) hx hb dX9_holds_88 (by decide) (fun _ => ?_) (fun h => absurd (by decide +kernel) h)
                refine lv_iload hx hb dX9_holds_101 (lv_at hl 5 rfl) ?_
                refine lv_istore (lv' := [(4, .int (tb_m1 (tb_fo (tb_htF q d p (tb_lent q d p)) 0 i))), (6, .int (nI (0))), (0, .ref (md 13)), (1, .int (nI (d))), (2, .int (nI (p))), (3, .int (nI (tb_lent q d p))), (5, .int (nI (i)))]) hx hb dX9_holds_103 hl (by decide) rfl (fun ls hl => ?_)
                refine lv_iinc (k := 6) (v := nI (i + 1)) (lv' := [(5, .int (nI (i + 1))), (4, .int (tb_m1 (tb_fo (tb_htF q d p (tb_lent q d p)) 0 i))), (6, .int (nI (0))), (0, .ref (md 13)), (1, .int (nI (d))), (2, .int (nI (p))), (3, .int (nI (tb_lent q d p)))]) hx hb dX9_holds_105 hl rfl (nI_add _ _) (by decide) rfl (fun ls hl => ?_)
                refine lv_goto (tgt := 29) hx hb dX9_holds_108 (by decide) ?_
                have hl : lv_has ls 7 [(0, .ref (md 13)), (1, .int (nI (d))), (2, .int (nI (p))), (3, .int (nI (tb_lent q d p))), (4, .int (tb_m1 (tb_fo (tb_htF q d p (tb_lent q d p)) 0 (i + 1)))), (5, .int (nI ((i + 1))))] := by
                  rw [show (tb_fo (tb_htF q d p (tb_lent q d p)) 0 (i + 1)) = (tb_fo (tb_htF q d p (tb_lent q d p)) 0 i) from by simp [tb_fo_s, tb_htF, tb_ln, c1, c2, c3, c4, c5]]
                  exact lv_sub hl [3, 4, 5, 6, 1, 0] rfl
                exact ih (i + 1) ls _ _ (by omega) (by omega) z2 hU hl
              · refine lv_iconst (v := nI 1) hx hb dX9_holds_79 (by decide +kernel) ?_
                refine lv_goto (tgt := 84) hx hb dX9_holds_80 (by decide) ?_
                refine lv_istore (lv' := [(6, .int (nI (1))), (0, .ref (md 13)), (1, .int (nI (d))), (2, .int (nI (p))), (3, .int (nI (tb_lent q d p))), (4, .int (tb_m1 (tb_fo (tb_htF q d p (tb_lent q d p)) 0 i))), (5, .int (nI (i)))]) hx hb dX9_holds_84 hl (by decide) rfl (fun ls hl => ?_)
                refine lv_iload hx hb dX9_holds_86 (lv_at hl 0 rfl) ?_
                refine lv_if_eq (tgt := 101) hx hb dX9_holds_88 (by decide) (fun h => absurd h (by decide +kernel)) (fun _ => ?_)
                refine lv_aload_n hx hb dX9_holds_91 rfl (lv_at hl 1 rfl) ?_
                refine um_get (v := .ref (md 4)) hx hb htg inX9 hown hK hU h.obj rfl 5 (by decide) (htg _ tg_643) rfl dX9_holds_92 ?_
                refine lv_iload hx hb dX9_holds_95 (lv_at hl 6 rfl) ?_
                refine md_ild hx hb hK hU h 4 i (by decide) (show i < 200 from by omega) dX9_holds_97 ?_
                refine lv_goto (tgt := 103) hx hb dX9_holds_98 (by decide) ?_
                refine lv_istore (lv' := [(4, .int (nI (q 4 i))), (6, .int (nI (1))), (0, .ref (md 13)), (1, .int (nI (d))), (2, .int (nI (p))), (3, .int (nI (tb_lent q d p))), (5, .int (nI (i)))]) hx hb dX9_holds_103 hl (by decide) rfl (fun ls hl => ?_)
                refine lv_iinc (k := 6) (v := nI (i + 1)) (lv' := [(5, .int (nI (i + 1))), (4, .int (nI (q 4 i))), (6, .int (nI (1))), (0, .ref (md 13)), (1, .int (nI (d))), (2, .int (nI (p))), (3, .int (nI (tb_lent q d p)))]) hx hb dX9_holds_105 hl rfl (nI_add _ _) (by decide) rfl (fun ls hl => ?_)
                refine lv_goto (tgt := 29) hx hb dX9_holds_108 (by decide) ?_
                have hl : lv_has ls 7 [(0, .ref (md 13)), (1, .int (nI (d))), (2, .int (nI (p))), (3, .int (nI (tb_lent q d p))), (4, .int (tb_m1 (tb_fo (tb_htF q d p (tb_lent q d p)) 0 (i + 1)))), (5, .int (nI ((i + 1))))] := by
                  rw [show (tb_m1 (tb_fo (tb_htF q d p (tb_lent q d p)) 0 (i + 1))) = (nI (q 4 i)) from by rw [show tb_fo (tb_htF q d p (tb_lent q d p)) 0 (i + 1) = q 4 i + 1 from by simp [tb_fo_s, tb_htF, tb_ln, c1, c2, c3, c4, c5]]; exact tb_m1_s _]
                  exact lv_sub hl [3, 4, 5, 6, 1, 0] rfl
                exact ih (i + 1) ls _ _ (by omega) (by omega) z2 hU hl
  refine lv_aload_n hx hb dX9_holds_0 rfl (lv_at hl 0 rfl) ?_
  refine lv_iload_n hx hb dX9_holds_1 rfl (lv_at hl 1 rfl) ?_
  refine lv_iload_n hx hb dX9_holds_2 rfl (lv_at hl 2 rfl) ?_
  refine um_callP (va_runV (As := [.int (nI (d)), .int (nI (p))]) (rest := []) ⟨hx, hb, hml, hown, htg⟩ (mm_lent l D κ τ A σ md q th h hq d p (by omega) (by omega)) (cwV 2 htg (lw_cV tg_714 tg_716 slX9_lent tg_8 tg_717) rfl rfl rfl (by decide +kernel) ⟨Nat.le_of_ble_eq_true rfl, Nat.le_of_ble_eq_true rfl⟩) (um_preV hU hK hJ h.obj rfl) rfl rfl hl.1 rfl (lv_room (Nat.le_of_ble_eq_true rfl)) dX9_holds_3 ⟨Nat.le_of_ble_eq_true rfl, Nat.le_of_ble_eq_true rfl⟩) hU (fun H locs hU => ?_)
  refine lv_istore_n (lv' := [(3, .int (nI (tb_lent q d p))), (0, .ref (md 13)), (1, .int (nI (d))), (2, .int (nI (p)))]) hx hb dX9_holds_6 rfl hl (by decide) rfl (fun ls hl => ?_)
  refine lv_iload_n hx hb dX9_holds_7 rfl (lv_at hl 0 rfl) ?_
  refine um_eq0N (tgt := 21) hx hb dX9_holds_8 (by decide) (tb_lentlt hq _ _) (fun c6 => ?_) (fun c6 => ?_)
  · refine lv_iconst (v := -1) hx hb dX9_holds_21 (by decide +kernel) ?_
    exact um_iret hx hb hr hlocks hK hJ hU dX9_holds_22 ⟨by rw [show (tb_holds q d p) = 0 from by simp [tb_holds, c6]]; exact tb_m1_0.symm, rfl⟩
  · refine lv_aload_n hx hb dX9_holds_11 rfl (lv_at hl 1 rfl) ?_
    refine lv_iload_n hx hb dX9_holds_12 rfl (lv_at hl 2 rfl) ?_
    refine lv_iload_n hx hb dX9_holds_13 rfl (lv_at hl 3 rfl) ?_
    refine lv_iload_n hx hb dX9_holds_14 rfl (lv_at hl 0 rfl) ?_
    refine um_callP (va_runV (As := [.int (nI (d)), .int (nI (p)), .int (nI (tb_lent q d p))]) (rest := []) ⟨hx, hb, hml, hown, htg⟩ (mm_isBack l D κ τ A σ md q th h hq d p (tb_lent q d p) (by omega) (by omega) (tb_lentlt hq _ _)) (cwV 3 htg (lw_cV tg_722 tg_724 slX9_isBack tg_8 tg_725) rfl rfl rfl (by decide +kernel) ⟨Nat.le_of_ble_eq_true rfl, Nat.le_of_ble_eq_true rfl⟩) (um_preV hU hK hJ h.obj rfl) rfl rfl hl.1 rfl (lv_room (Nat.le_of_ble_eq_true rfl)) dX9_holds_15 ⟨Nat.le_of_ble_eq_true rfl, Nat.le_of_ble_eq_true rfl⟩) hU (fun H locs hU => ?_)
    refine um_eqB (tgt := 23) hx hb dX9_holds_18 (by decide) (fun c7 => ?_) (fun c7 => ?_)
    · refine lv_iconst (v := -1) hx hb dX9_holds_23 (by decide +kernel) ?_
      refine lv_istore (lv' := [(4, .int (-1)), (3, .int (nI (tb_lent q d p))), (0, .ref (md 13)), (1, .int (nI (d))), (2, .int (nI (p)))]) hx hb dX9_holds_24 hl (by decide) rfl (fun ls hl => ?_)
      refine lv_iconst (v := nI 0) hx hb dX9_holds_26 (by decide +kernel) ?_
      refine lv_istore (lv' := [(5, .int (nI (0))), (4, .int (-1)), (3, .int (nI (tb_lent q d p))), (0, .ref (md 13)), (1, .int (nI (d))), (2, .int (nI (p)))]) hx hb dX9_holds_27 hl (by decide) rfl (fun ls hl => ?_)
      have hl : lv_has ls 7 [(0, .ref (md 13)), (1, .int (nI (d))), (2, .int (nI (p))), (3, .int (nI (tb_lent q d p))), (4, .int (tb_m1 (tb_fo (tb_htF q d p (tb_lent q d p)) 0 0))), (5, .int (nI (0)))] := by
        rw [show (tb_m1 (tb_fo (tb_htF q d p (tb_lent q d p)) 0 0)) = (-1) from tb_m1_0]
        exact lv_sub hl [3, 4, 5, 2, 1, 0] rfl
      exact L1 41 0 ls _ _ (by omega) (by omega) (by simp [c6, c7]) hU hl
    · refine lv_iconst (v := -1) hx hb dX9_holds_21 (by decide +kernel) ?_
      exact um_iret hx hb hr hlocks hK hJ hU dX9_holds_22 ⟨by rw [show (tb_holds q d p) = 0 from by simp [tb_holds, c6, c7]]; exact tb_m1_0.symm, rfl⟩

set_option maxRecDepth 100000 in
set_option maxHeartbeats 4000000 in
theorem mm_keep (l : Launch) (D : va_G) (κ : Nat → ClassId) (τ : Nat → Nat) (A : Nat → Prop) (σ : um_M) (md : Nat → Nat) (q : tb_Q) (th : Nat) (h : md_at κ σ md q th) (d : Nat) (hd : d < 5) : Met l yX9_keep wsX9_keep ({ frames := 0, cells := 0, slots := 0, locals := 0 }) (va_Pc [.ref (md 13), .int (nI (d))] (um_U D κ τ A σ)) (va_Qv (fun σ' : um_M => md_at κ σ' md (tb_keep q d) th) (um_U D κ τ A) A) 0 0 A := by
  refine um_met (cc := cX9_keep) (maxL := 3) (ret := none) (by decide) rfl rfl ?_
  intro pp ee s mm args below meth cd ls hx hb hr hts hown hlocks hml hnm hK hJ hU hl
  have hown : s.vm.findClass RX9 = some mm.cls := hown
  have htg : ∀ w ∈ lw_g, w.before args s = true := fun w h => hts w (List.mem_cons_of_mem _ h)
  have hl : lv_has ls 3 [(0, .ref (md 13)), (1, .int (nI (d)))] := hl
  have L1 : ∀ (nf : Nat) (i : Nat) (ls : Array Slot) (σ : um_M) (H : Heap) (locs : List Loc), 5 - i < nf → i ≤ 5 → md_at κ σ md (tb_fo (tb_kpF d) q i) th → um_S D vwCl A s σ H locs → lv_has ls 3 [(0, .ref (md 13)), (1, .int (nI (d))), (2, .int (nI (i)))] → W pp l ee ({ frames := 0, cells := 0, slots := 0, locals := 0 }) s mm args below meth cd H locs 0 0 (MQ below (va_Qv (fun σ' : um_M => md_at κ σ' md (tb_keep q d) th) (um_U D κ τ A) A) args s 0 0 A) (F0 mm 2 ls []) := by
    intro nf
    induction nf with
    | zero => intro i ls σ H locs hnf; exact absurd hnf (Nat.not_lt_zero _)
    | succ nf ih =>
      intro i ls σ H locs hnf z1 h hU hl
      refine lv_iload_n hx hb dX9_keep_2 rfl (lv_at hl 2 rfl) ?_
      refine lv_iconst (v := nI 5) hx hb dX9_keep_3 (by decide +kernel) ?_
      refine um_geN (tgt := 33) hx hb dX9_keep_4 (by decide) (by omega) (by decide) (fun c1 => ?_) (fun c1 => ?_)
      · exact um_vret hx hb hr hlocks hK hJ hU dX9_keep_33 (by rw [show i = 5 by omega] at h; exact h)
      · refine lv_aload_n hx hb dX9_keep_7 rfl (lv_at hl 0 rfl) ?_
        refine um_get (v := .ref (md 8)) hx hb htg inX9 hown hK hU h.obj rfl 9 (by decide) (htg _ tg_647) rfl dX9_keep_8 ?_
        refine lv_iconst (v := nI 5) hx hb dX9_keep_11 (by decide +kernel) ?_
        refine lv_iload_n hx hb dX9_keep_12 rfl (lv_at hl 1 rfl) ?_
        refine um_mulN hx hb dX9_keep_13 ?_
        refine lv_iload_n hx hb dX9_keep_14 rfl (lv_at hl 2 rfl) ?_
        refine um_addN hx hb dX9_keep_15 ?_
        refine lv_aload_n hx hb dX9_keep_16 rfl (lv_at hl 0 rfl) ?_
        refine um_get (v := .ref (md 7)) hx hb htg inX9 hown hK hU h.obj rfl 8 (by decide) (htg _ tg_646) rfl dX9_keep_17 ?_
        refine lv_iconst (v := nI 5) hx hb dX9_keep_20 (by decide +kernel) ?_
        refine lv_iload_n hx hb dX9_keep_21 rfl (lv_at hl 1 rfl) ?_
        refine um_mulN hx hb dX9_keep_22 ?_
        refine lv_iload_n hx hb dX9_keep_23 rfl (lv_at hl 2 rfl) ?_
        refine um_addN hx hb dX9_keep_24 ?_
        refine md_ild hx hb hK hU h 7 ((5 * d) + i) (by decide) (show (5 * d) + i < 25 from by omega) dX9_keep_25 ?_
        refine md_ist hx hb hK hU h 8 ((5 * d) + i) ((tb_fo (tb_kpF d) q i) 7 ((5 * d) + i)) (by decide) (show (5 * d) + i < 25 by omega) dX9_keep_26 (fun σ H locs h hU => ?_)
        refine lv_iinc (k := 2) (v := nI (i + 1)) (lv' := [(2, .int (nI (i + 1))), (0, .ref (md 13)), (1, .int (nI (d)))]) hx hb dX9_keep_27 hl rfl (nI_add _ _) (by decide) rfl (fun ls hl => ?_)
        refine lv_goto (tgt := 2) hx hb dX9_keep_30 (by decide) ?_
        have hl : lv_has ls 3 [(0, .ref (md 13)), (1, .int (nI (d))), (2, .int (nI ((i + 1))))] := lv_sub hl [1, 2, 0] rfl
        have h : md_at κ σ md (tb_fo (tb_kpF d) q (i + 1)) th := by
          rw [show (tb_fo (tb_kpF d) q (i + 1)) = (tb_set (tb_fo (tb_kpF d) q i) 8 ((5 * d) + i) ((tb_fo (tb_kpF d) q i) 7 ((5 * d) + i))) from rfl]
          exact h
        exact ih (i + 1) ls _ _ _ (by omega) (by omega) h hU hl
  refine lv_iconst (v := nI 0) hx hb dX9_keep_0 (by decide +kernel) ?_
  refine lv_istore_n (lv' := [(2, .int (nI (0))), (0, .ref (md 13)), (1, .int (nI (d)))]) hx hb dX9_keep_1 rfl hl (by decide) rfl (fun ls hl => ?_)
  have hl : lv_has ls 3 [(0, .ref (md 13)), (1, .int (nI (d))), (2, .int (nI (0)))] := lv_sub hl [1, 2, 0] rfl
  have h : md_at κ σ md (tb_fo (tb_kpF d) q 0) th := by
    rw [show (tb_fo (tb_kpF d) q 0) = q from rfl]
    exact h
  exact L1 6 0 ls _ _ _ (by omega) (by omega) h hU hl

set_option maxRecDepth 100000 in
set_option maxHeartbeats 4000000 in
theorem mm_enters (l : Launch) (D : va_G) (κ : Nat → ClassId) (τ : Nat → Nat) (A : Nat → Prop) (σ : um_M) (md : Nat → Nat) (q : tb_Q) (th : Nat) (h : md_at κ σ md q th) (d kd p f v r : Nat) (hd : d < 5) (hm : q 0 d < 40) : Met l yX9_enters wsX9_enters ({ frames := 1, cells := 0, slots := 0, locals := 22 }) (va_Pc [.ref (md 13), .int (nI (d)), .int (nI (kd)), .int (nI (p)), .int (nI (f)), .int (nI (v)), .int (nI (r))] (um_U D κ τ A σ)) (va_Qi (fun (r9 : Int32) (σ' : um_M) => r9 = nI (tb_ent q d kd p f v r 0 d) ∧ md_at κ σ' md (tb_ent q d kd p f v r) th) (um_U D κ τ A) A) 0 0 A := by
  refine um_met (cc := cX9_enters) (maxL := 9) (ret := (some .int)) (by decide) rfl rfl ?_
  intro pp ee s mm args below meth cd ls hx hb hr hts hown hlocks hml hnm hK hJ hU hl
  have hown : s.vm.findClass RX9 = some mm.cls := hown
  have htg : ∀ w ∈ lw_g, w.before args s = true := fun w h => hts w (List.mem_cons_of_mem _ h)
  have hl : lv_has ls 9 [(0, .ref (md 13)), (1, .int (nI (d))), (2, .int (nI (kd))), (3, .int (nI (p))), (4, .int (nI (f))), (5, .int (nI (v))), (6, .int (nI (r)))] := hl
  have L1 : ∀ (nf : Nat) (i : Nat) (ls : Array Slot) (σ : um_M) (H : Heap) (locs : List Loc), 5 - i < nf → i ≤ 5 → md_at κ σ md (tb_fo (tb_vcF d (40 * d + q 0 d)) (tb_en1 q (40 * d + q 0 d) kd p f v r) i) th → um_S D vwCl A s σ H locs → lv_has ls 9 [(0, .ref (md 13)), (1, .int (nI (d))), (7, .int (nI (40 * d + q 0 d))), (8, .int (nI (i)))] → W pp l ee ({ frames := 1, cells := 0, slots := 0, locals := 22 }) s mm args below meth cd H locs 0 0 (MQ below (va_Qi (fun (r9 : Int32) (σ' : um_M) => r9 = nI (tb_ent q d kd p f v r 0 d) ∧ md_at κ σ' md (tb_ent q d kd p f v r) th) (um_U D κ τ A) A) args s 0 0 A) (F0 mm 59 ls []) := by
    intro nf
    induction nf with
    | zero => intro i ls σ H locs hnf; exact absurd hnf (Nat.not_lt_zero _)
    | succ nf ih =>
      intro i ls σ H locs hnf z1 h hU hl
      refine lv_iload hx hb dX9_enters_59 (lv_at hl 3 rfl) ?_
      refine lv_iconst (v := nI 5) hx hb dX9_enters_61 (by decide +kernel) ?_
      refine um_geN (tgt := 94) hx hb dX9_enters_62 (by decide) (by omega) (by decide) (fun c1 => ?_) (fun c1 => ?_)
      · have h : md_at κ σ md (tb_en2 q d kd p f v r) th := by
          rw [show i = 5 by omega] at h
          exact h
        refine lv_aload_n hx hb dX9_enters_94 rfl (lv_at hl 0 rfl) ?_
        refine um_get (v := .ref (md 0)) hx hb htg inX9 hown hK hU h.obj rfl 1 (by decide) (htg _ tg_639) rfl dX9_enters_95 ?_
        refine lv_iload_n hx hb dX9_enters_98 rfl (lv_at hl 1 rfl) ?_
        refine lv_dup2_11 hx hb dX9_enters_99 rfl rfl ?_
        refine md_ild hx hb hK hU h 0 d (by decide) (show d < 5 from by omega) dX9_enters_100 ?_
        refine lv_iconst (v := nI 1) hx hb dX9_enters_101 (by decide +kernel) ?_
        refine um_addN hx hb dX9_enters_102 ?_
        refine md_ist hx hb hK hU h 0 d (((tb_en2 q d kd p f v r) 0 d) + 1) (by decide) (show d < 5 by omega) dX9_enters_103 (fun σ H locs h hU => ?_)
        refine lv_aload_n hx hb dX9_enters_104 rfl (lv_at hl 0 rfl) ?_
        refine um_get (v := .ref (md 7)) hx hb htg inX9 hown hK hU h.obj rfl 8 (by decide) (htg _ tg_646) rfl dX9_enters_105 ?_
        refine lv_iconst (v := nI 5) hx hb dX9_enters_108 (by decide +kernel) ?_
        refine lv_iload_n hx hb dX9_enters_109 rfl (lv_at hl 1 rfl) ?_
        refine um_mulN hx hb dX9_enters_110 ?_
        refine lv_iload_n hx hb dX9_enters_111 rfl (lv_at hl 1 rfl) ?_
        refine um_addN hx hb dX9_enters_112 ?_
        refine lv_dup2_11 hx hb dX9_enters_113 rfl rfl ?_
        refine md_ild hx hb hK hU h 7 ((5 * d) + d) (by decide) (show (5 * d) + d < 25 from by omega) dX9_enters_114 ?_
        refine lv_iconst (v := nI 1) hx hb dX9_enters_115 (by decide +kernel) ?_
        refine um_addN hx hb dX9_enters_116 ?_
        refine md_ist hx hb hK hU h 7 ((5 * d) + d) (((tb_set (tb_en2 q d kd p f v r) 0 d (((tb_en2 q d kd p f v r) 0 d) + 1)) 7 ((5 * d) + d)) + 1) (by decide) (show (5 * d) + d < 25 by omega) dX9_enters_117 (fun σ H locs h hU => ?_)
        refine lv_aload_n hx hb dX9_enters_118 rfl (lv_at hl 0 rfl) ?_
        refine lv_iload_n hx hb dX9_enters_119 rfl (lv_at hl 1 rfl) ?_
        refine um_callv (va_runV (As := [.int (nI (d))]) (rest := []) ⟨hx, hb, hml, hown, htg⟩ (mm_keep l D κ τ A σ md (tb_set (tb_set (tb_en2 q d kd p f v r) 0 d (((tb_en2 q d kd p f v r) 0 d) + 1)) 7 ((5 * d) + d) (((tb_set (tb_en2 q d kd p f v r) 0 d (((tb_en2 q d kd p f v r) 0 d) + 1)) 7 ((5 * d) + d)) + 1)) th h d (by omega)) (cwV 1 htg (lw_cV tg_730 tg_732 slX9_keep tg_8 tg_733) rfl rfl rfl (by decide +kernel) ⟨Nat.le_of_ble_eq_true rfl, Nat.le_of_ble_eq_true rfl⟩) (um_preV hU hK hJ h.obj rfl) rfl rfl hl.1 rfl (lv_room (Nat.le_of_ble_eq_true rfl)) dX9_enters_120 ⟨Nat.le_of_ble_eq_true rfl, Nat.le_of_ble_eq_true rfl⟩) hU (fun σ H locs h hU => ?_)
        refine lv_aload_n hx hb dX9_enters_123 rfl (lv_at hl 0 rfl) ?_
        refine um_get (v := .ref (md 0)) hx hb htg inX9 hown hK hU h.obj rfl 1 (by decide) (htg _ tg_639) rfl dX9_enters_124 ?_
        refine lv_iload_n hx hb dX9_enters_127 rfl (lv_at hl 1 rfl) ?_
        refine md_ild hx hb hK hU h 0 d (by decide) (show d < 5 from by omega) dX9_enters_128 ?_
        exact um_iret hx hb hr hlocks hK hJ hU dX9_enters_129 ⟨congrArg nI (by rfl), (by exact h)⟩
      · refine lv_aload_n hx hb dX9_enters_65 rfl (lv_at hl 0 rfl) ?_
        refine um_get (v := .ref (md 6)) hx hb htg inX9 hown hK hU h.obj rfl 7 (by decide) (htg _ tg_645) rfl dX9_enters_66 ?_
        refine lv_iconst (v := nI 5) hx hb dX9_enters_69 (by decide +kernel) ?_
        refine lv_iload hx hb dX9_enters_70 (lv_at hl 2 rfl) ?_
        refine um_mulN hx hb dX9_enters_72 ?_
        refine lv_iload hx hb dX9_enters_73 (lv_at hl 3 rfl) ?_
        refine um_addN hx hb dX9_enters_75 ?_
        refine lv_aload_n hx hb dX9_enters_76 rfl (lv_at hl 0 rfl) ?_
        refine um_get (v := .ref (md 7)) hx hb htg inX9 hown hK hU h.obj rfl 8 (by decide) (htg _ tg_646) rfl dX9_enters_77 ?_
        refine lv_iconst (v := nI 5) hx hb dX9_enters_80 (by decide +kernel) ?_
        refine lv_iload_n hx hb dX9_enters_81 rfl (lv_at hl 1 rfl) ?_
        refine um_mulN hx hb dX9_enters_82 ?_
        refine lv_iload hx hb dX9_enters_83 (lv_at hl 3 rfl) ?_
        refine um_addN hx hb dX9_enters_85 ?_
        refine md_ild hx hb hK hU h 7 ((5 * d) + i) (by decide) (show (5 * d) + i < 25 from by omega) dX9_enters_86 ?_
        refine md_ist hx hb hK hU h 6 ((5 * (40 * d + q 0 d)) + i) ((tb_fo (tb_vcF d (40 * d + q 0 d)) (tb_en1 q (40 * d + q 0 d) kd p f v r) i) 7 ((5 * d) + i)) (by decide) (show (5 * (40 * d + q 0 d)) + i < 1000 by omega) dX9_enters_87 (fun σ H locs h hU => ?_)
        refine lv_iinc (k := 3) (v := nI (i + 1)) (lv' := [(8, .int (nI (i + 1))), (0, .ref (md 13)), (1, .int (nI (d))), (7, .int (nI (40 * d + q 0 d)))]) hx hb dX9_enters_88 hl rfl (nI_add _ _) (by decide) rfl (fun ls hl => ?_)
        refine lv_goto (tgt := 59) hx hb dX9_enters_91 (by decide) ?_
        have hl : lv_has ls 9 [(0, .ref (md 13)), (1, .int (nI (d))), (7, .int (nI (40 * d + q 0 d))), (8, .int (nI ((i + 1))))] := lv_sub hl [1, 2, 3, 0] rfl
        have h : md_at κ σ md (tb_fo (tb_vcF d (40 * d + q 0 d)) (tb_en1 q (40 * d + q 0 d) kd p f v r) (i + 1)) th := by
          rw [show (tb_fo (tb_vcF d (40 * d + q 0 d)) (tb_en1 q (40 * d + q 0 d) kd p f v r) (i + 1)) = (tb_set (tb_fo (tb_vcF d (40 * d + q 0 d)) (tb_en1 q (40 * d + q 0 d) kd p f v r) i) 6 ((5 * (40 * d + q 0 d)) + i) ((tb_fo (tb_vcF d (40 * d + q 0 d)) (tb_en1 q (40 * d + q 0 d) kd p f v r) i) 7 ((5 * d) + i))) from rfl]
          exact h
        exact ih (i + 1) ls _ _ _ (by omega) (by omega) h hU hl
  refine lv_bipush (v := nI 40) hx hb dX9_enters_0 (by decide +kernel) ?_
  refine lv_iload_n hx hb dX9_enters_2 rfl (lv_at hl 1 rfl) ?_
  refine um_mulN hx hb dX9_enters_3 ?_
  refine lv_aload_n hx hb dX9_enters_4 rfl (lv_at hl 0 rfl) ?_
  refine um_get (v := .ref (md 0)) hx hb htg inX9 hown hK hU h.obj rfl 1 (by decide) (htg _ tg_639) rfl dX9_enters_5 ?_
  refine lv_iload_n hx hb dX9_enters_8 rfl (lv_at hl 1 rfl) ?_
  refine md_ild hx hb hK hU h 0 d (by decide) (show d < 5 from by omega) dX9_enters_9 ?_
  refine um_addN hx hb dX9_enters_10 ?_
  refine lv_istore (lv' := [(7, .int (nI ((40 * d) + (q 0 d)))), (0, .ref (md 13)), (1, .int (nI (d))), (2, .int (nI (kd))), (3, .int (nI (p))), (4, .int (nI (f))), (5, .int (nI (v))), (6, .int (nI (r)))]) hx hb dX9_enters_11 hl (by decide) rfl (fun ls hl => ?_)
  refine lv_aload_n hx hb dX9_enters_13 rfl (lv_at hl 1 rfl) ?_
  refine um_get (v := .ref (md 1)) hx hb htg inX9 hown hK hU h.obj rfl 2 (by decide) (htg _ tg_640) rfl dX9_enters_14 ?_
  refine lv_iload hx hb dX9_enters_17 (lv_at hl 0 rfl) ?_
  refine lv_iload_n hx hb dX9_enters_19 rfl (lv_at hl 3 rfl) ?_
  refine md_ist hx hb hK hU h 1 ((40 * d) + (q 0 d)) kd (by decide) (show (40 * d) + (q 0 d) < 200 by omega) dX9_enters_20 (fun σ H locs h hU => ?_)
  refine lv_aload_n hx hb dX9_enters_21 rfl (lv_at hl 1 rfl) ?_
  refine um_get (v := .ref (md 2)) hx hb htg inX9 hown hK hU h.obj rfl 3 (by decide) (htg _ tg_641) rfl dX9_enters_22 ?_
  refine lv_iload hx hb dX9_enters_25 (lv_at hl 0 rfl) ?_
  refine lv_iload_n hx hb dX9_enters_27 rfl (lv_at hl 4 rfl) ?_
  refine md_ist hx hb hK hU h 2 ((40 * d) + (q 0 d)) p (by decide) (show (40 * d) + (q 0 d) < 200 by omega) dX9_enters_28 (fun σ H locs h hU => ?_)
  refine lv_aload_n hx hb dX9_enters_29 rfl (lv_at hl 1 rfl) ?_
  refine um_get (v := .ref (md 3)) hx hb htg inX9 hown hK hU h.obj rfl 4 (by decide) (htg _ tg_642) rfl dX9_enters_30 ?_
  refine lv_iload hx hb dX9_enters_33 (lv_at hl 0 rfl) ?_
  refine lv_iload hx hb dX9_enters_35 (lv_at hl 5 rfl) ?_
  refine md_ist hx hb hK hU h 3 ((40 * d) + (q 0 d)) f (by decide) (show (40 * d) + (q 0 d) < 200 by omega) dX9_enters_37 (fun σ H locs h hU => ?_)
  refine lv_aload_n hx hb dX9_enters_38 rfl (lv_at hl 1 rfl) ?_
  refine um_get (v := .ref (md 4)) hx hb htg inX9 hown hK hU h.obj rfl 5 (by decide) (htg _ tg_643) rfl dX9_enters_39 ?_
  refine lv_iload hx hb dX9_enters_42 (lv_at hl 0 rfl) ?_
  refine lv_iload hx hb dX9_enters_44 (lv_at hl 6 rfl) ?_
  refine md_ist hx hb hK hU h 4 ((40 * d) + (q 0 d)) v (by decide) (show (40 * d) + (q 0 d) < 200 by omega) dX9_enters_46 (fun σ H locs h hU => ?_)
  refine lv_aload_n hx hb dX9_enters_47 rfl (lv_at hl 1 rfl) ?_
  refine um_get (v := .ref (md 5)) hx hb htg inX9 hown hK hU h.obj rfl 6 (by decide) (htg _ tg_644) rfl dX9_enters_48 ?_
  refine lv_iload hx hb dX9_enters_51 (lv_at hl 0 rfl) ?_
  refine lv_iload hx hb dX9_enters_53 (lv_at hl 7 rfl) ?_
  refine md_ist hx hb hK hU h 5 ((40 * d) + (q 0 d)) r (by decide) (show (40 * d) + (q 0 d) < 200 by omega) dX9_enters_55 (fun σ H locs h hU => ?_)
  refine lv_iconst (v := nI 0) hx hb dX9_enters_56 (by decide +kernel) ?_
  refine lv_istore (lv' := [(8, .int (nI (0))), (7, .int (nI ((40 * d) + (q 0 d)))), (0, .ref (md 13)), (1, .int (nI (d))), (2, .int (nI (kd))), (3, .int (nI (p))), (4, .int (nI (f))), (5, .int (nI (v))), (6, .int (nI (r)))]) hx hb dX9_enters_57 hl (by decide) rfl (fun ls hl => ?_)
  have hl : lv_has ls 9 [(0, .ref (md 13)), (1, .int (nI (d))), (7, .int (nI (40 * d + q 0 d))), (8, .int (nI (0)))] := by
    rw [show (40 * d + q 0 d) = ((40 * d) + (q 0 d)) from rfl]
    exact lv_sub hl [2, 3, 1, 0] rfl
  have h : md_at κ σ md (tb_fo (tb_vcF d (40 * d + q 0 d)) (tb_en1 q (40 * d + q 0 d) kd p f v r) 0) th := by
    rw [show (tb_fo (tb_vcF d (40 * d + q 0 d)) (tb_en1 q (40 * d + q 0 d) kd p f v r) 0) = (tb_set (tb_set (tb_set (tb_set (tb_set q 1 ((40 * d) + (q 0 d)) kd) 2 ((40 * d) + (q 0 d)) p) 3 ((40 * d) + (q 0 d)) f) 4 ((40 * d) + (q 0 d)) v) 5 ((40 * d) + (q 0 d)) r) from rfl]
    exact h
  exact L1 6 0 ls _ _ _ (by omega) (by omega) h hU hl

set_option maxRecDepth 100000 in
set_option maxHeartbeats 4000000 in
theorem mm_isOf (l : Launch) (D : va_G) (κ : Nat → ClassId) (τ : Nat → Nat) (A : Nat → Prop) (σ : um_M) (md : Nat → Nat) (q : tb_Q) (th : Nat) (h : md_at κ σ md q th) (hq : tb_sm q) (d p f e : Nat) (hd : d < 5) (hp : p < 2147483648) (hf : f < 2147483648) (he : e < 200) : Met l yX9_isOf wsX9_isOf ({ frames := 1, cells := 0, slots := 0, locals := 23 }) (va_Pc [.ref (md 13), .int (nI (d)), .int (nI (p)), .int (nI (f)), .int (nI (e))] (um_U D κ τ A σ)) (va_Qi (fun (r9 : Int32) (σ' : um_M) => r9 = um_b (tb_of q d p f e) ∧ σ' = σ) (um_U D κ τ A) A) 0 0 A := by
  refine um_met (cc := cX9_isOf) (maxL := 5) (ret := (some .boolean)) (by decide) rfl rfl ?_
  intro pp ee s mm args below meth cd ls hx hb hr hts hown hlocks hml hnm hK hJ hU hl
  have hown : s.vm.findClass RX9 = some mm.cls := hown
  have htg : ∀ w ∈ lw_g, w.before args s = true := fun w h => hts w (List.mem_cons_of_mem _ h)
  have hl : lv_has ls 5 [(0, .ref (md 13)), (1, .int (nI (d))), (2, .int (nI (p))), (3, .int (nI (f))), (4, .int (nI (e)))] := hl
  refine lv_aload_n hx hb dX9_isOf_0 rfl (lv_at hl 0 rfl) ?_
  refine lv_iload_n hx hb dX9_isOf_1 rfl (lv_at hl 1 rfl) ?_
  refine lv_iload hx hb dX9_isOf_2 (lv_at hl 4 rfl) ?_
  refine lv_bipush (v := nI 40) hx hb dX9_isOf_4 (by decide +kernel) ?_
  refine um_divN hx hb dX9_isOf_6 (by omega) (by decide) (by decide) ?_
  refine lv_iload hx hb dX9_isOf_7 (lv_at hl 4 rfl) ?_
  refine lv_bipush (v := nI 40) hx hb dX9_isOf_9 (by decide +kernel) ?_
  refine um_remN hx hb dX9_isOf_11 (by omega) (by decide) (by decide) ?_
  refine um_callP (va_runV (As := [.int (nI (d)), .int (nI (e / 40)), .int (nI (e % 40))]) (rest := []) ⟨hx, hb, hml, hown, htg⟩ (mm_isKnown l D κ τ A σ md q th h hq d (e / 40) (e % 40) (by omega) (by omega) (by omega)) (cwV 3 htg (lw_cV tg_718 tg_720 slX9_isKnown tg_8 tg_721) rfl rfl rfl (by decide +kernel) ⟨Nat.le_of_ble_eq_true rfl, Nat.le_of_ble_eq_true rfl⟩) (um_preV hU hK hJ h.obj rfl) rfl rfl hl.1 rfl (lv_room (Nat.le_of_ble_eq_true rfl)) dX9_isOf_12 ⟨Nat.le_of_ble_eq_true rfl, Nat.le_of_ble_eq_true rfl⟩) hU (fun H locs hU => ?_)
  refine um_eqB (tgt := 55) hx hb dX9_isOf_15 (by decide) (fun c1 => ?_) (fun c1 => ?_)
  · refine lv_iconst (v := nI 0) hx hb dX9_isOf_55 (by decide +kernel) ?_
    exact um_zret hx hb hr hlocks hK hJ hU dX9_isOf_56 false rfl ⟨congrArg um_b (by simp [tb_of, c1]), rfl⟩
  · refine lv_aload_n hx hb dX9_isOf_18 rfl (lv_at hl 0 rfl) ?_
    refine um_get (v := .ref (md 1)) hx hb htg inX9 hown hK hU h.obj rfl 2 (by decide) (htg _ tg_640) rfl dX9_isOf_19 ?_
    refine lv_iload hx hb dX9_isOf_22 (lv_at hl 4 rfl) ?_
    refine md_ild hx hb hK hU h 1 e (by decide) (show e < 200 from by omega) dX9_isOf_24 ?_
    refine lv_iconst (v := nI 2) hx hb dX9_isOf_25 (by decide +kernel) ?_
    refine um_neN (tgt := 55) hx hb dX9_isOf_26 (by decide) (tb_sm_lt hq 1 _) (by decide) (fun c2 => ?_) (fun c2 => ?_)
    · refine lv_iconst (v := nI 0) hx hb dX9_isOf_55 (by decide +kernel) ?_
      exact um_zret hx hb hr hlocks hK hJ hU dX9_isOf_56 false rfl ⟨congrArg um_b (by simp [tb_of, c1, c2]), rfl⟩
    · refine lv_aload_n hx hb dX9_isOf_29 rfl (lv_at hl 0 rfl) ?_
      refine um_get (v := .ref (md 2)) hx hb htg inX9 hown hK hU h.obj rfl 3 (by decide) (htg _ tg_641) rfl dX9_isOf_30 ?_
      refine lv_iload hx hb dX9_isOf_33 (lv_at hl 4 rfl) ?_
      refine md_ild hx hb hK hU h 2 e (by decide) (show e < 200 from by omega) dX9_isOf_35 ?_
      refine lv_iload_n hx hb dX9_isOf_36 rfl (lv_at hl 2 rfl) ?_
      refine um_neN (tgt := 55) hx hb dX9_isOf_37 (by decide) (tb_sm_lt hq 2 _) hp (fun c3 => ?_) (fun c3 => ?_)
      · refine lv_iconst (v := nI 0) hx hb dX9_isOf_55 (by decide +kernel) ?_
        exact um_zret hx hb hr hlocks hK hJ hU dX9_isOf_56 false rfl ⟨congrArg um_b (by simp [tb_of, c1, c2, c3]), rfl⟩
      · refine lv_aload_n hx hb dX9_isOf_40 rfl (lv_at hl 0 rfl) ?_
        refine um_get (v := .ref (md 3)) hx hb htg inX9 hown hK hU h.obj rfl 4 (by decide) (htg _ tg_642) rfl dX9_isOf_41 ?_
        refine lv_iload hx hb dX9_isOf_44 (lv_at hl 4 rfl) ?_
        refine md_ild hx hb hK hU h 3 e (by decide) (show e < 200 from by omega) dX9_isOf_46 ?_
        refine lv_iload_n hx hb dX9_isOf_47 rfl (lv_at hl 3 rfl) ?_
        refine um_neN (tgt := 55) hx hb dX9_isOf_48 (by decide) (tb_sm_lt hq 3 _) hf (fun c4 => ?_) (fun c4 => ?_)
        · refine lv_iconst (v := nI 0) hx hb dX9_isOf_55 (by decide +kernel) ?_
          exact um_zret hx hb hr hlocks hK hJ hU dX9_isOf_56 false rfl ⟨congrArg um_b (by simp [tb_of, c1, c2, c3, c4]), rfl⟩
        · refine lv_iconst (v := nI 1) hx hb dX9_isOf_51 (by decide +kernel) ?_
          refine lv_goto (tgt := 56) hx hb dX9_isOf_52 (by decide) ?_
          exact um_zret hx hb hr hlocks hK hJ hU dX9_isOf_56 true rfl ⟨congrArg um_b (by simp [tb_of, c1, c2, c3, c4]), rfl⟩

set_option maxRecDepth 100000 in
set_option maxHeartbeats 4000000 in
theorem mm_isLast (l : Launch) (D : va_G) (κ : Nat → ClassId) (τ : Nat → Nat) (A : Nat → Prop) (σ : um_M) (md : Nat → Nat) (q : tb_Q) (th : Nat) (h : md_at κ σ md q th) (hq : tb_sm q) (d p f e : Nat) (hd : d < 5) (hp : p < 2147483648) (hf : f < 2147483648) (he : e < 200) : Met l yX9_isLast wsX9_isLast ({ frames := 2, cells := 0, slots := 0, locals := 47 }) (va_Pc [.ref (md 13), .int (nI (d)), .int (nI (p)), .int (nI (f)), .int (nI (e))] (um_U D κ τ A σ)) (va_Qi (fun (r9 : Int32) (σ' : um_M) => r9 = um_b (tb_last q d p f e) ∧ σ' = σ) (um_U D κ τ A) A) 0 0 A := by
  refine um_met (cc := cX9_isLast) (maxL := 7) (ret := (some .boolean)) (by decide) rfl rfl ?_
  intro pp ee s mm args below meth cd ls hx hb hr hts hown hlocks hml hnm hK hJ hU hl
  have hown : s.vm.findClass RX9 = some mm.cls := hown
  have htg : ∀ w ∈ lw_g, w.before args s = true := fun w h => hts w (List.mem_cons_of_mem _ h)
  have hl : lv_has ls 7 [(0, .ref (md 13)), (1, .int (nI (d))), (2, .int (nI (p))), (3, .int (nI (f))), (4, .int (nI (e)))] := hl
  have L1 : ∀ (nf : Nat) (i : Nat) (ls : Array Slot) (H : Heap) (locs : List Loc), 200 - i < nf → i ≤ 200 → um_S D vwCl A s σ H locs → lv_has ls 7 [(0, .ref (md 13)), (1, .int (nI (d))), (2, .int (nI (p))), (3, .int (nI (f))), (4, .int (nI (e))), (5, .int (um_b (tb_fo (tb_lsF q d p f e) (tb_of q d p f e) i))), (6, .int (nI (i)))] → W pp l ee ({ frames := 2, cells := 0, slots := 0, locals := 47 }) s mm args below meth cd H locs 0 0 (MQ below (va_Qi (fun (r9 : Int32) (σ' : um_M) => r9 = um_b (tb_last q d p f e) ∧ σ' = σ) (um_U D κ τ A) A) args s 0 0 A) (F0 mm 14 ls []) := by
    intro nf
    induction nf with
    | zero => intro i ls H locs hnf; exact absurd hnf (Nat.not_lt_zero _)
    | succ nf ih =>
      intro i ls H locs hnf z1 hU hl
      refine lv_iload hx hb dX9_isLast_14 (lv_at hl 6 rfl) ?_
      refine lv_sipush (v := nI 200) hx hb dX9_isLast_16 (by decide +kernel) ?_
      refine um_geN (tgt := 82) hx hb dX9_isLast_19 (by decide) (by omega) (by decide) (fun c1 => ?_) (fun c1 => ?_)
      · refine lv_iload hx hb dX9_isLast_82 (lv_at hl 5 rfl) ?_
        exact um_zret hx hb hr hlocks hK hJ hU dX9_isLast_84 (tb_fo (tb_lsF q d p f e) (tb_of q d p f e) i) rfl ⟨congrArg um_b (by first | (rw [show i = 200 by omega]; rfl) | (rw [tb_ls_f (i := i) (by assumption) (by omega)]; assumption)), rfl⟩
      · refine lv_iload hx hb dX9_isLast_22 (lv_at hl 5 rfl) ?_
        refine um_eqB (tgt := 82) hx hb dX9_isLast_24 (by decide) (fun c2 => ?_) (fun c2 => ?_)
        · refine lv_iload hx hb dX9_isLast_82 (lv_at hl 5 rfl) ?_
          exact um_zret hx hb hr hlocks hK hJ hU dX9_isLast_84 (tb_fo (tb_lsF q d p f e) (tb_of q d p f e) i) rfl ⟨congrArg um_b (by first | (rw [show i = 200 by omega]; rfl) | (rw [tb_ls_f (i := i) (by assumption) (by omega)]; assumption)), rfl⟩
        · refine lv_iload hx hb dX9_isLast_27 (lv_at hl 6 rfl) ?_
          refine lv_iload hx hb dX9_isLast_29 (lv_at hl 4 rfl) ?_
          refine um_eqN (tgt := 69) hx hb dX9_isLast_31 (by decide) (by omega) (by omega) (fun c3 => ?_) (fun c3 => ?_)
          · refine lv_iconst (v := nI 1) hx hb dX9_isLast_69 (by decide +kernel) ?_
            refine lv_goto (tgt := 74) hx hb dX9_isLast_70 (by decide) ?_
            refine lv_istore (lv' := [(5, .int (nI (1))), (0, .ref (md 13)), (1, .int (nI (d))), (2, .int (nI (p))), (3, .int (nI (f))), (4, .int (nI (e))), (6, .int (nI (i)))]) hx hb dX9_isLast_74 hl (by decide) rfl (fun ls hl => ?_)
            refine lv_iinc (k := 6) (v := nI (i + 1)) (lv' := [(6, .int (nI (i + 1))), (5, .int (nI (1))), (0, .ref (md 13)), (1, .int (nI (d))), (2, .int (nI (p))), (3, .int (nI (f))), (4, .int (nI (e)))]) hx hb dX9_isLast_76 hl rfl (nI_add _ _) (by decide) rfl (fun ls hl => ?_)
            refine lv_goto (tgt := 14) hx hb dX9_isLast_79 (by decide) ?_
            have hl : lv_has ls 7 [(0, .ref (md 13)), (1, .int (nI (d))), (2, .int (nI (p))), (3, .int (nI (f))), (4, .int (nI (e))), (5, .int (um_b (tb_fo (tb_lsF q d p f e) (tb_of q d p f e) (i + 1)))), (6, .int (nI ((i + 1))))] := by
              rw [show um_b (tb_fo (tb_lsF q d p f e) (tb_of q d p f e) (i + 1)) = nI 1 from by rw [show (tb_fo (tb_lsF q d p f e) (tb_of q d p f e) (i + 1)) = true from by first | rfl | (simp [tb_fo_s, tb_lsF, tb_lsP, c1, c2, c3]; done) | (rw [tb_fo_s, tb_lsF, c2]; simp [tb_lsP, c1, c2, c3])]; rfl]
              exact lv_sub hl [2, 3, 4, 5, 6, 1, 0] rfl
            exact ih (i + 1) ls _ _ (by omega) (by omega) hU hl
          · refine lv_aload_n hx hb dX9_isLast_34 rfl (lv_at hl 0 rfl) ?_
            refine lv_iload_n hx hb dX9_isLast_35 rfl (lv_at hl 1 rfl) ?_
            refine lv_iload_n hx hb dX9_isLast_36 rfl (lv_at hl 2 rfl) ?_
            refine lv_iload_n hx hb dX9_isLast_37 rfl (lv_at hl 3 rfl) ?_
            refine lv_iload hx hb dX9_isLast_38 (lv_at hl 6 rfl) ?_
            refine um_callP (va_runV (As := [.int (nI (d)), .int (nI (p)), .int (nI (f)), .int (nI (i))]) (rest := []) ⟨hx, hb, hml, hown, htg⟩ (mm_isOf l D κ τ A σ md q th h hq d p f i (by omega) hp hf (by omega)) (cwV 4 htg (lw_cV tg_772 tg_774 slX9_isOf tg_8 tg_775) rfl rfl rfl (by decide +kernel) ⟨Nat.le_of_ble_eq_true rfl, Nat.le_of_ble_eq_true rfl⟩) (um_preV hU hK hJ h.obj rfl) rfl rfl hl.1 rfl (lv_room (Nat.le_of_ble_eq_true rfl)) dX9_isLast_40 ⟨Nat.le_of_ble_eq_true rfl, Nat.le_of_ble_eq_true rfl⟩) hU (fun H locs hU => ?_)
            refine um_eqB (tgt := 69) hx hb dX9_isLast_43 (by decide) (fun c4 => ?_) (fun c4 => ?_)
            · refine lv_iconst (v := nI 1) hx hb dX9_isLast_69 (by decide +kernel) ?_
              refine lv_goto (tgt := 74) hx hb dX9_isLast_70 (by decide) ?_
              refine lv_istore (lv' := [(5, .int (nI (1))), (0, .ref (md 13)), (1, .int (nI (d))), (2, .int (nI (p))), (3, .int (nI (f))), (4, .int (nI (e))), (6, .int (nI (i)))]) hx hb dX9_isLast_74 hl (by decide) rfl (fun ls hl => ?_)
              refine lv_iinc (k := 6) (v := nI (i + 1)) (lv' := [(6, .int (nI (i + 1))), (5, .int (nI (1))), (0, .ref (md 13)), (1, .int (nI (d))), (2, .int (nI (p))), (3, .int (nI (f))), (4, .int (nI (e)))]) hx hb dX9_isLast_76 hl rfl (nI_add _ _) (by decide) rfl (fun ls hl => ?_)
              refine lv_goto (tgt := 14) hx hb dX9_isLast_79 (by decide) ?_
              have hl : lv_has ls 7 [(0, .ref (md 13)), (1, .int (nI (d))), (2, .int (nI (p))), (3, .int (nI (f))), (4, .int (nI (e))), (5, .int (um_b (tb_fo (tb_lsF q d p f e) (tb_of q d p f e) (i + 1)))), (6, .int (nI ((i + 1))))] := by
                rw [show um_b (tb_fo (tb_lsF q d p f e) (tb_of q d p f e) (i + 1)) = nI 1 from by rw [show (tb_fo (tb_lsF q d p f e) (tb_of q d p f e) (i + 1)) = true from by first | rfl | (simp [tb_fo_s, tb_lsF, tb_lsP, c1, c2, c3, c4]; done) | (rw [tb_fo_s, tb_lsF, c2]; simp [tb_lsP, c1, c2, c3, c4])]; rfl]
                exact lv_sub hl [2, 3, 4, 5, 6, 1, 0] rfl
              exact ih (i + 1) ls _ _ (by omega) (by omega) hU hl
            · refine lv_aload_n hx hb dX9_isLast_46 rfl (lv_at hl 0 rfl) ?_
              refine um_get (v := .ref (md 6)) hx hb htg inX9 hown hK hU h.obj rfl 7 (by decide) (htg _ tg_645) rfl dX9_isLast_47 ?_
              refine lv_iconst (v := nI 5) hx hb dX9_isLast_50 (by decide +kernel) ?_
              refine lv_iload hx hb dX9_isLast_51 (lv_at hl 6 rfl) ?_
              refine um_mulN hx hb dX9_isLast_53 ?_
              refine lv_iload hx hb dX9_isLast_54 (lv_at hl 4 rfl) ?_
              refine lv_bipush (v := nI 40) hx hb dX9_isLast_56 (by decide +kernel) ?_
              refine um_divN hx hb dX9_isLast_58 (by omega) (by decide) (by decide) ?_
              refine um_addN hx hb dX9_isLast_59 ?_
              refine md_ild hx hb hK hU h 6 ((5 * i) + (e / 40)) (by decide) (show (5 * i) + (e / 40) < 1000 from by omega) dX9_isLast_60 ?_
              refine lv_iload hx hb dX9_isLast_61 (lv_at hl 4 rfl) ?_
              refine lv_bipush (v := nI 40) hx hb dX9_isLast_63 (by decide +kernel) ?_
              refine um_remN hx hb dX9_isLast_65 (by omega) (by decide) (by decide) ?_
              refine um_gtN (tgt := 73) hx hb dX9_isLast_66 (by decide) (tb_sm_lt hq 6 _) (by omega) (fun c5 => ?_) (fun c5 => ?_)
              · refine lv_iconst (v := nI 0) hx hb dX9_isLast_73 (by decide +kernel) ?_
                refine lv_istore (lv' := [(5, .int (nI (0))), (0, .ref (md 13)), (1, .int (nI (d))), (2, .int (nI (p))), (3, .int (nI (f))), (4, .int (nI (e))), (6, .int (nI (i)))]) hx hb dX9_isLast_74 hl (by decide) rfl (fun ls hl => ?_)
                refine lv_iinc (k := 6) (v := nI (i + 1)) (lv' := [(6, .int (nI (i + 1))), (5, .int (nI (0))), (0, .ref (md 13)), (1, .int (nI (d))), (2, .int (nI (p))), (3, .int (nI (f))), (4, .int (nI (e)))]) hx hb dX9_isLast_76 hl rfl (nI_add _ _) (by decide) rfl (fun ls hl => ?_)
                refine lv_goto (tgt := 14) hx hb dX9_isLast_79 (by decide) ?_
                have hl : lv_has ls 7 [(0, .ref (md 13)), (1, .int (nI (d))), (2, .int (nI (p))), (3, .int (nI (f))), (4, .int (nI (e))), (5, .int (um_b (tb_fo (tb_lsF q d p f e) (tb_of q d p f e) (i + 1)))), (6, .int (nI ((i + 1))))] := by
                  rw [show um_b (tb_fo (tb_lsF q d p f e) (tb_of q d p f e) (i + 1)) = nI 0 from by rw [show (tb_fo (tb_lsF q d p f e) (tb_of q d p f e) (i + 1)) = false from by first | rfl | (simp [tb_fo_s, tb_lsF, tb_lsP, c1, c2, c3, c4, c5]; done) | (rw [tb_fo_s, tb_lsF, c2]; simp [tb_lsP, c1, c2, c3, c4, c5])]; rfl]
                  exact lv_sub hl [2, 3, 4, 5, 6, 1, 0] rfl
                exact ih (i + 1) ls _ _ (by omega) (by omega) hU hl
              · refine lv_iconst (v := nI 1) hx hb dX9_isLast_69 (by decide +kernel) ?_
                refine lv_goto (tgt := 74) hx hb dX9_isLast_70 (by decide) ?_
                refine lv_istore (lv' := [(5, .int (nI (1))), (0, .ref (md 13)), (1, .int (nI (d))), (2, .int (nI (p))), (3, .int (nI (f))), (4, .int (nI (e))), (6, .int (nI (i)))]) hx hb dX9_isLast_74 hl (by decide) rfl (fun ls hl => ?_)
                refine lv_iinc (k := 6) (v := nI (i + 1)) (lv' := [(6, .int (nI (i + 1))), (5, .int (nI (1))), (0, .ref (md 13)), (1, .int (nI (d))), (2, .int (nI (p))), (3, .int (nI (f))), (4, .int (nI (e)))]) hx hb dX9_isLast_76 hl rfl (nI_add _ _) (by decide) rfl (fun ls hl => ?_)
                refine lv_goto (tgt := 14) hx hb dX9_isLast_79 (by decide) ?_
                have hl : lv_has ls 7 [(0, .ref (md 13)), (1, .int (nI (d))), (2, .int (nI (p))), (3, .int (nI (f))), (4, .int (nI (e))), (5, .int (um_b (tb_fo (tb_lsF q d p f e) (tb_of q d p f e) (i + 1)))), (6, .int (nI ((i + 1))))] := by
                  rw [show um_b (tb_fo (tb_lsF q d p f e) (tb_of q d p f e) (i + 1)) = nI 1 from by rw [show (tb_fo (tb_lsF q d p f e) (tb_of q d p f e) (i + 1)) = true from by first | rfl | (simp [tb_fo_s, tb_lsF, tb_lsP, c1, c2, c3, c4, c5]; done) | (rw [tb_fo_s, tb_lsF, c2]; simp [tb_lsP, c1, c2, c3, c4, c5])]; rfl]
                  exact lv_sub hl [2, 3, 4, 5, 6, 1, 0] rfl
                exact ih (i + 1) ls _ _ (by omega) (by omega) hU hl
  refine lv_aload_n hx hb dX9_isLast_0 rfl (lv_at hl 0 rfl) ?_
  refine lv_iload_n hx hb dX9_isLast_1 rfl (lv_at hl 1 rfl) ?_
  refine lv_iload_n hx hb dX9_isLast_2 rfl (lv_at hl 2 rfl) ?_
  refine lv_iload_n hx hb dX9_isLast_3 rfl (lv_at hl 3 rfl) ?_
  refine lv_iload hx hb dX9_isLast_4 (lv_at hl 4 rfl) ?_
  refine um_callP (va_runV (As := [.int (nI (d)), .int (nI (p)), .int (nI (f)), .int (nI (e))]) (rest := []) ⟨hx, hb, hml, hown, htg⟩ (mm_isOf l D κ τ A σ md q th h hq d p f e (by omega) hp hf (by omega)) (cwV 4 htg (lw_cV tg_772 tg_774 slX9_isOf tg_8 tg_775) rfl rfl rfl (by decide +kernel) ⟨Nat.le_of_ble_eq_true rfl, Nat.le_of_ble_eq_true rfl⟩) (um_preV hU hK hJ h.obj rfl) rfl rfl hl.1 rfl (lv_room (Nat.le_of_ble_eq_true rfl)) dX9_isLast_6 ⟨Nat.le_of_ble_eq_true rfl, Nat.le_of_ble_eq_true rfl⟩) hU (fun H locs hU => ?_)
  refine lv_istore (lv' := [(5, .int (um_b (tb_of q d p f e))), (0, .ref (md 13)), (1, .int (nI (d))), (2, .int (nI (p))), (3, .int (nI (f))), (4, .int (nI (e)))]) hx hb dX9_isLast_9 hl (by decide) rfl (fun ls hl => ?_)
  refine lv_iconst (v := nI 0) hx hb dX9_isLast_11 (by decide +kernel) ?_
  refine lv_istore (lv' := [(6, .int (nI (0))), (5, .int (um_b (tb_of q d p f e))), (0, .ref (md 13)), (1, .int (nI (d))), (2, .int (nI (p))), (3, .int (nI (f))), (4, .int (nI (e)))]) hx hb dX9_isLast_12 hl (by decide) rfl (fun ls hl => ?_)
  have hl : lv_has ls 7 [(0, .ref (md 13)), (1, .int (nI (d))), (2, .int (nI (p))), (3, .int (nI (f))), (4, .int (nI (e))), (5, .int (um_b (tb_fo (tb_lsF q d p f e) (tb_of q d p f e) 0))), (6, .int (nI (0)))] := by
    rw [show (tb_fo (tb_lsF q d p f e) (tb_of q d p f e) 0) = (tb_of q d p f e) from by first | rfl | (simp [tb_fo_s, tb_lsF, tb_lsP, ]; done) | (rw [tb_fo_s, tb_lsF, rfl]; simp [tb_lsP, ])]
    exact lv_sub hl [2, 3, 4, 5, 6, 1, 0] rfl
  exact L1 201 0 ls _ _ (by omega) (by omega) hU hl

set_option maxRecDepth 100000 in
set_option maxHeartbeats 4000000 in
theorem mm_rankOf (l : Launch) (D : va_G) (κ : Nat → ClassId) (τ : Nat → Nat) (A : Nat → Prop) (σ : um_M) (md : Nat → Nat) (q : tb_Q) (th : Nat) (h : md_at κ σ md q th) (hq : tb_sm q) (d p f : Nat) (hd : d < 5) (hp : p < 2147483648) (hf : f < 2147483648) : Met l yX9_rankOf wsX9_rankOf ({ frames := 3, cells := 0, slots := 0, locals := 73 }) (va_Pc [.ref (md 13), .int (nI (d)), .int (nI (p)), .int (nI (f))] (um_U D κ τ A σ)) (va_Qi (fun (r9 : Int32) (σ' : um_M) => r9 = tb_m1 (tb_rank q d p f) ∧ σ' = σ) (um_U D κ τ A) A) 0 0 A := by
  refine um_met (cc := cX9_rankOf) (maxL := 6) (ret := (some .int)) (by decide) rfl rfl ?_
  intro pp ee s mm args below meth cd ls hx hb hr hts hown hlocks hml hnm hK hJ hU hl
  have hown : s.vm.findClass RX9 = some mm.cls := hown
  have htg : ∀ w ∈ lw_g, w.before args s = true := fun w h => hts w (List.mem_cons_of_mem _ h)
  have hl : lv_has ls 6 [(0, .ref (md 13)), (1, .int (nI (d))), (2, .int (nI (p))), (3, .int (nI (f)))] := hl
  have L1 : ∀ (nf : Nat) (i : Nat) (ls : Array Slot) (H : Heap) (locs : List Loc), 200 - i < nf → i ≤ 200 → um_S D vwCl A s σ H locs → lv_has ls 6 [(0, .ref (md 13)), (1, .int (nI (d))), (2, .int (nI (p))), (3, .int (nI (f))), (4, .int (tb_m1 (tb_fo (tb_rkF q d p f) 0 i))), (5, .int (nI (i)))] → W pp l ee ({ frames := 3, cells := 0, slots := 0, locals := 73 }) s mm args below meth cd H locs 0 0 (MQ below (va_Qi (fun (r9 : Int32) (σ' : um_M) => r9 = tb_m1 (tb_rank q d p f) ∧ σ' = σ) (um_U D κ τ A) A) args s 0 0 A) (F0 mm 6 ls []) := by
    intro nf
    induction nf with
    | zero => intro i ls H locs hnf; exact absurd hnf (Nat.not_lt_zero _)
    | succ nf ih =>
      intro i ls H locs hnf z1 hU hl
      refine lv_iload hx hb dX9_rankOf_6 (lv_at hl 5 rfl) ?_
      refine lv_sipush (v := nI 200) hx hb dX9_rankOf_8 (by decide +kernel) ?_
      refine um_geN (tgt := 58) hx hb dX9_rankOf_11 (by decide) (by omega) (by decide) (fun c1 => ?_) (fun c1 => ?_)
      · refine lv_iload hx hb dX9_rankOf_58 (lv_at hl 4 rfl) ?_
        exact um_iret hx hb hr hlocks hK hJ hU dX9_rankOf_60 ⟨congrArg tb_m1 (by rw [show i = 200 by omega]; rfl), rfl⟩
      · refine lv_aload_n hx hb dX9_rankOf_14 rfl (lv_at hl 0 rfl) ?_
        refine lv_iload_n hx hb dX9_rankOf_15 rfl (lv_at hl 1 rfl) ?_
        refine lv_iload_n hx hb dX9_rankOf_16 rfl (lv_at hl 2 rfl) ?_
        refine lv_iload_n hx hb dX9_rankOf_17 rfl (lv_at hl 3 rfl) ?_
        refine lv_iload hx hb dX9_rankOf_18 (lv_at hl 5 rfl) ?_
        refine um_callP (va_runV (As := [.int (nI (d)), .int (nI (p)), .int (nI (f)), .int (nI (i))]) (rest := []) ⟨hx, hb, hml, hown, htg⟩ (mm_isLast l D κ τ A σ md q th h hq d p f i (by omega) hp hf (by omega)) (cwV 4 htg (lw_cV tg_768 tg_770 slX9_isLast tg_8 tg_771) rfl rfl rfl (by decide +kernel) ⟨Nat.le_of_ble_eq_true rfl, Nat.le_of_ble_eq_true rfl⟩) (um_preV hU hK hJ h.obj rfl) rfl rfl hl.1 rfl (lv_room (Nat.le_of_ble_eq_true rfl)) dX9_rankOf_20 ⟨Nat.le_of_ble_eq_true rfl, Nat.le_of_ble_eq_true rfl⟩) hU (fun H locs hU => ?_)
        refine um_eqB (tgt := 48) hx hb dX9_rankOf_23 (by decide) (fun c2 => ?_) (fun c2 => ?_)
        · refine lv_iload hx hb dX9_rankOf_48 (lv_at hl 4 rfl) ?_
          refine lv_istore (lv' := [(4, .int (tb_m1 (tb_fo (tb_rkF q d p f) 0 i))), (0, .ref (md 13)), (1, .int (nI (d))), (2, .int (nI (p))), (3, .int (nI (f))), (5, .int (nI (i)))]) hx hb dX9_rankOf_50 hl (by decide) rfl (fun ls hl => ?_)
          refine lv_iinc (k := 5) (v := nI (i + 1)) (lv' := [(5, .int (nI (i + 1))), (4, .int (tb_m1 (tb_fo (tb_rkF q d p f) 0 i))), (0, .ref (md 13)), (1, .int (nI (d))), (2, .int (nI (p))), (3, .int (nI (f)))]) hx hb dX9_rankOf_52 hl rfl (nI_add _ _) (by decide) rfl (fun ls hl => ?_)
          refine lv_goto (tgt := 6) hx hb dX9_rankOf_55 (by decide) ?_
          have hl : lv_has ls 6 [(0, .ref (md 13)), (1, .int (nI (d))), (2, .int (nI (p))), (3, .int (nI (f))), (4, .int (tb_m1 (tb_fo (tb_rkF q d p f) 0 (i + 1)))), (5, .int (nI ((i + 1))))] := by
            rw [show (tb_fo (tb_rkF q d p f) 0 (i + 1)) = (tb_fo (tb_rkF q d p f) 0 i) from by simp [tb_fo_s, tb_rkF, c1, c2]]
            exact lv_sub hl [2, 3, 4, 5, 1, 0] rfl
          exact ih (i + 1) ls _ _ (by omega) (by omega) hU hl
        · refine lv_aload_n hx hb dX9_rankOf_26 rfl (lv_at hl 0 rfl) ?_
          refine um_get (v := .ref (md 5)) hx hb htg inX9 hown hK hU h.obj rfl 6 (by decide) (htg _ tg_644) rfl dX9_rankOf_27 ?_
          refine lv_iload hx hb dX9_rankOf_30 (lv_at hl 5 rfl) ?_
          refine md_ild hx hb hK hU h 5 i (by decide) (show i < 200 from by omega) dX9_rankOf_32 ?_
          refine lv_iload hx hb dX9_rankOf_33 (lv_at hl 4 rfl) ?_
          refine um_leNM (tgt := 48) hx hb dX9_rankOf_35 (by decide) (tb_sm_lt hq 5 _) (tb_rank_lt hq d p f i) (fun c3 => ?_) (fun c3 => ?_)
          · refine lv_iload hx hb dX9_rankOf_48 (lv_at hl 4 rfl) ?_
            refine lv_istore (lv' := [(4, .int (tb_m1 (tb_fo (tb_rkF q d p f) 0 i))), (0, .ref (md 13)), (1, .int (nI (d))), (2, .int (nI (p))), (3, .int (nI (f))), (5, .int (nI (i)))]) hx hb dX9_rankOf_50 hl (by decide) rfl (fun ls hl => ?_)
            refine lv_iinc (k := 5) (v := nI (i + 1)) (lv' := [(5, .int (nI (i + 1))), (4, .int (tb_m1 (tb_fo (tb_rkF q d p f) 0 i))), (0, .ref (md 13)), (1, .int (nI (d))), (2, .int (nI (p))), (3, .int (nI (f)))]) hx hb dX9_rankOf_52 hl rfl (nI_add _ _) (by decide) rfl (fun ls hl => ?_)
            refine lv_goto (tgt := 6) hx hb dX9_rankOf_55 (by decide) ?_
            have hl : lv_has ls 6 [(0, .ref (md 13)), (1, .int (nI (d))), (2, .int (nI (p))), (3, .int (nI (f))), (4, .int (tb_m1 (tb_fo (tb_rkF q d p f) 0 (i + 1)))), (5, .int (nI ((i + 1))))] := by
              rw [show (tb_fo (tb_rkF q d p f) 0 (i + 1)) = (tb_fo (tb_rkF q d p f) 0 i) from by simp [tb_fo_s, tb_rkF, c1, c2, c3]]
              exact lv_sub hl [2, 3, 4, 5, 1, 0] rfl
            exact ih (i + 1) ls _ _ (by omega) (by omega) hU hl
          · refine lv_aload_n hx hb dX9_rankOf_38 rfl (lv_at hl 0 rfl) ?_
            refine um_get (v := .ref (md 5)) hx hb htg inX9 hown hK hU h.obj rfl 6 (by decide) (htg _ tg_644) rfl dX9_rankOf_39 ?_
            refine lv_iload hx hb dX9_rankOf_42 (lv_at hl 5 rfl) ?_
            refine md_ild hx hb hK hU h 5 i (by decide) (show i < 200 from by omega) dX9_rankOf_44 ?_
            refine lv_goto (tgt := 50) hx hb dX9_rankOf_45 (by decide) ?_
            refine lv_istore (lv' := [(4, .int (nI (q 5 i))), (0, .ref (md 13)), (1, .int (nI (d))), (2, .int (nI (p))), (3, .int (nI (f))), (5, .int (nI (i)))]) hx hb dX9_rankOf_50 hl (by decide) rfl (fun ls hl => ?_)
            refine lv_iinc (k := 5) (v := nI (i + 1)) (lv' := [(5, .int (nI (i + 1))), (4, .int (nI (q 5 i))), (0, .ref (md 13)), (1, .int (nI (d))), (2, .int (nI (p))), (3, .int (nI (f)))]) hx hb dX9_rankOf_52 hl rfl (nI_add _ _) (by decide) rfl (fun ls hl => ?_)
            refine lv_goto (tgt := 6) hx hb dX9_rankOf_55 (by decide) ?_
            have hl : lv_has ls 6 [(0, .ref (md 13)), (1, .int (nI (d))), (2, .int (nI (p))), (3, .int (nI (f))), (4, .int (tb_m1 (tb_fo (tb_rkF q d p f) 0 (i + 1)))), (5, .int (nI ((i + 1))))] := by
              rw [show (tb_m1 (tb_fo (tb_rkF q d p f) 0 (i + 1))) = (nI (q 5 i)) from by rw [show tb_fo (tb_rkF q d p f) 0 (i + 1) = q 5 i + 1 from by simp [tb_fo_s, tb_rkF, c1, c2, c3]]; exact tb_m1_s _]
              exact lv_sub hl [2, 3, 4, 5, 1, 0] rfl
            exact ih (i + 1) ls _ _ (by omega) (by omega) hU hl
  refine lv_iconst (v := -1) hx hb dX9_rankOf_0 (by decide +kernel) ?_
  refine lv_istore (lv' := [(4, .int (-1)), (0, .ref (md 13)), (1, .int (nI (d))), (2, .int (nI (p))), (3, .int (nI (f)))]) hx hb dX9_rankOf_1 hl (by decide) rfl (fun ls hl => ?_)
  refine lv_iconst (v := nI 0) hx hb dX9_rankOf_3 (by decide +kernel) ?_
  refine lv_istore (lv' := [(5, .int (nI (0))), (4, .int (-1)), (0, .ref (md 13)), (1, .int (nI (d))), (2, .int (nI (p))), (3, .int (nI (f)))]) hx hb dX9_rankOf_4 hl (by decide) rfl (fun ls hl => ?_)
  have hl : lv_has ls 6 [(0, .ref (md 13)), (1, .int (nI (d))), (2, .int (nI (p))), (3, .int (nI (f))), (4, .int (tb_m1 (tb_fo (tb_rkF q d p f) 0 0))), (5, .int (nI (0)))] := by
    rw [show (tb_m1 (tb_fo (tb_rkF q d p f) 0 0)) = (-1) from tb_m1_0]
    exact lv_sub hl [2, 3, 4, 5, 1, 0] rfl
  exact L1 201 0 ls _ _ (by omega) (by omega) hU hl

set_option maxRecDepth 100000 in
set_option maxHeartbeats 4000000 in
theorem mm_shown (l : Launch) (D : va_G) (κ : Nat → ClassId) (τ : Nat → Nat) (A : Nat → Prop) (σ : um_M) (md : Nat → Nat) (q : tb_Q) (th : Nat) (h : md_at κ σ md q th) (hq : tb_sm q) (d p f : Nat) (hd : d < 5) (hp : p < 2147483648) (hf : f < 2147483648) : Met l yX9_shown wsX9_shown ({ frames := 4, cells := 0, slots := 0, locals := 98 }) (va_Pc [.ref (md 13), .int (nI (d)), .int (nI (p)), .int (nI (f))] (um_U D κ τ A σ)) (va_Qi (fun (r9 : Int32) (σ' : um_M) => r9 = tb_m1 (tb_shown q d p f) ∧ σ' = σ) (um_U D κ τ A) A) 0 0 A := by
  refine um_met (cc := cX9_shown) (maxL := 7) (ret := (some .int)) (by decide) rfl rfl ?_
  intro pp ee s mm args below meth cd ls hx hb hr hts hown hlocks hml hnm hK hJ hU hl
  have hown : s.vm.findClass RX9 = some mm.cls := hown
  have htg : ∀ w ∈ lw_g, w.before args s = true := fun w h => hts w (List.mem_cons_of_mem _ h)
  have hl : lv_has ls 7 [(0, .ref (md 13)), (1, .int (nI (d))), (2, .int (nI (p))), (3, .int (nI (f)))] := hl
  have L1 : ∀ (nf : Nat) (i : Nat) (ls : Array Slot) (H : Heap) (locs : List Loc), 200 - i < nf → i ≤ 200 → um_S D vwCl A s σ H locs → lv_has ls 7 [(0, .ref (md 13)), (1, .int (nI (d))), (2, .int (nI (p))), (3, .int (nI (f))), (4, .int (tb_m1 (tb_rank q d p f))), (5, .int (tb_m1 (tb_fo (tb_shF q d p f (tb_rank q d p f)) 0 i))), (6, .int (nI (i)))] → W pp l ee ({ frames := 4, cells := 0, slots := 0, locals := 98 }) s mm args below meth cd H locs 0 0 (MQ below (va_Qi (fun (r9 : Int32) (σ' : um_M) => r9 = tb_m1 (tb_shown q d p f) ∧ σ' = σ) (um_U D κ τ A) A) args s 0 0 A) (F0 mm 15 ls []) := by
    intro nf
    induction nf with
    | zero => intro i ls H locs hnf; exact absurd hnf (Nat.not_lt_zero _)
    | succ nf ih =>
      intro i ls H locs hnf z1 hU hl
      refine lv_iload hx hb dX9_shown_15 (lv_at hl 6 rfl) ?_
      refine lv_sipush (v := nI 200) hx hb dX9_shown_17 (by decide +kernel) ?_
      refine um_geN (tgt := 62) hx hb dX9_shown_20 (by decide) (by omega) (by decide) (fun c1 => ?_) (fun c1 => ?_)
      · refine lv_iload hx hb dX9_shown_62 (lv_at hl 5 rfl) ?_
        exact um_iret hx hb hr hlocks hK hJ hU dX9_shown_64 ⟨congrArg tb_m1 (by rw [show i = 200 by omega]; rfl), rfl⟩
      · refine lv_aload_n hx hb dX9_shown_23 rfl (lv_at hl 0 rfl) ?_
        refine lv_iload_n hx hb dX9_shown_24 rfl (lv_at hl 1 rfl) ?_
        refine lv_iload_n hx hb dX9_shown_25 rfl (lv_at hl 2 rfl) ?_
        refine lv_iload_n hx hb dX9_shown_26 rfl (lv_at hl 3 rfl) ?_
        refine lv_iload hx hb dX9_shown_27 (lv_at hl 6 rfl) ?_
        refine um_callP (va_runV (As := [.int (nI (d)), .int (nI (p)), .int (nI (f)), .int (nI (i))]) (rest := []) ⟨hx, hb, hml, hown, htg⟩ (mm_isLast l D κ τ A σ md q th h hq d p f i (by omega) hp hf (by omega)) (cwV 4 htg (lw_cV tg_768 tg_770 slX9_isLast tg_8 tg_771) rfl rfl rfl (by decide +kernel) ⟨Nat.le_of_ble_eq_true rfl, Nat.le_of_ble_eq_true rfl⟩) (um_preV hU hK hJ h.obj rfl) rfl rfl hl.1 rfl (lv_room (Nat.le_of_ble_eq_true rfl)) dX9_shown_29 ⟨Nat.le_of_ble_eq_true rfl, Nat.le_of_ble_eq_true rfl⟩) hU (fun H locs hU => ?_)
        refine um_eqB (tgt := 52) hx hb dX9_shown_32 (by decide) (fun c2 => ?_) (fun c2 => ?_)
        · refine lv_iload hx hb dX9_shown_52 (lv_at hl 5 rfl) ?_
          refine lv_istore (lv' := [(5, .int (tb_m1 (tb_fo (tb_shF q d p f (tb_rank q d p f)) 0 i))), (0, .ref (md 13)), (1, .int (nI (d))), (2, .int (nI (p))), (3, .int (nI (f))), (4, .int (tb_m1 (tb_rank q d p f))), (6, .int (nI (i)))]) hx hb dX9_shown_54 hl (by decide) rfl (fun ls hl => ?_)
          refine lv_iinc (k := 6) (v := nI (i + 1)) (lv' := [(6, .int (nI (i + 1))), (5, .int (tb_m1 (tb_fo (tb_shF q d p f (tb_rank q d p f)) 0 i))), (0, .ref (md 13)), (1, .int (nI (d))), (2, .int (nI (p))), (3, .int (nI (f))), (4, .int (tb_m1 (tb_rank q d p f)))]) hx hb dX9_shown_56 hl rfl (nI_add _ _) (by decide) rfl (fun ls hl => ?_)
          refine lv_goto (tgt := 15) hx hb dX9_shown_59 (by decide) ?_
          have hl : lv_has ls 7 [(0, .ref (md 13)), (1, .int (nI (d))), (2, .int (nI (p))), (3, .int (nI (f))), (4, .int (tb_m1 (tb_rank q d p f))), (5, .int (tb_m1 (tb_fo (tb_shF q d p f (tb_rank q d p f)) 0 (i + 1)))), (6, .int (nI ((i + 1))))] := by
            rw [show (tb_fo (tb_shF q d p f (tb_rank q d p f)) 0 (i + 1)) = (tb_fo (tb_shF q d p f (tb_rank q d p f)) 0 i) from by simp [tb_fo_s, tb_shF, c1, c2]]
            exact lv_sub hl [2, 3, 4, 5, 6, 1, 0] rfl
          exact ih (i + 1) ls _ _ (by omega) (by omega) hU hl
        · refine lv_aload_n hx hb dX9_shown_35 rfl (lv_at hl 0 rfl) ?_
          refine um_get (v := .ref (md 5)) hx hb htg inX9 hown hK hU h.obj rfl 6 (by decide) (htg _ tg_644) rfl dX9_shown_36 ?_
          refine lv_iload hx hb dX9_shown_39 (lv_at hl 6 rfl) ?_
          refine md_ild hx hb hK hU h 5 i (by decide) (show i < 200 from by omega) dX9_shown_41 ?_
          refine lv_iload hx hb dX9_shown_42 (lv_at hl 4 rfl) ?_
          refine um_neNM (tgt := 52) hx hb dX9_shown_44 (by decide) (tb_sm_lt hq 5 _) (tb_rank_lt hq d p f 200) (fun c3 => ?_) (fun c3 => ?_)
          · refine lv_iload hx hb dX9_shown_52 (lv_at hl 5 rfl) ?_
            refine lv_istore (lv' := [(5, .int (tb_m1 (tb_fo (tb_shF q d p f (tb_rank q d p f)) 0 i))), (0, .ref (md 13)), (1, .int (nI (d))), (2, .int (nI (p))), (3, .int (nI (f))), (4, .int (tb_m1 (tb_rank q d p f))), (6, .int (nI (i)))]) hx hb dX9_shown_54 hl (by decide) rfl (fun ls hl => ?_)
            refine lv_iinc (k := 6) (v := nI (i + 1)) (lv' := [(6, .int (nI (i + 1))), (5, .int (tb_m1 (tb_fo (tb_shF q d p f (tb_rank q d p f)) 0 i))), (0, .ref (md 13)), (1, .int (nI (d))), (2, .int (nI (p))), (3, .int (nI (f))), (4, .int (tb_m1 (tb_rank q d p f)))]) hx hb dX9_shown_56 hl rfl (nI_add _ _) (by decide) rfl (fun ls hl => ?_)
            refine lv_goto (tgt := 15) hx hb dX9_shown_59 (by decide) ?_
            have hl : lv_has ls 7 [(0, .ref (md 13)), (1, .int (nI (d))), (2, .int (nI (p))), (3, .int (nI (f))), (4, .int (tb_m1 (tb_rank q d p f))), (5, .int (tb_m1 (tb_fo (tb_shF q d p f (tb_rank q d p f)) 0 (i + 1)))), (6, .int (nI ((i + 1))))] := by
              rw [show (tb_fo (tb_shF q d p f (tb_rank q d p f)) 0 (i + 1)) = (tb_fo (tb_shF q d p f (tb_rank q d p f)) 0 i) from by simp [tb_fo_s, tb_shF, c1, c2, c3]]
              exact lv_sub hl [2, 3, 4, 5, 6, 1, 0] rfl
            exact ih (i + 1) ls _ _ (by omega) (by omega) hU hl
          · refine lv_iload hx hb dX9_shown_47 (lv_at hl 6 rfl) ?_
            refine lv_goto (tgt := 54) hx hb dX9_shown_49 (by decide) ?_
            refine lv_istore (lv' := [(5, .int (nI (i))), (0, .ref (md 13)), (1, .int (nI (d))), (2, .int (nI (p))), (3, .int (nI (f))), (4, .int (tb_m1 (tb_rank q d p f))), (6, .int (nI (i)))]) hx hb dX9_shown_54 hl (by decide) rfl (fun ls hl => ?_)
            refine lv_iinc (k := 6) (v := nI (i + 1)) (lv' := [(6, .int (nI (i + 1))), (5, .int (nI (i))), (0, .ref (md 13)), (1, .int (nI (d))), (2, .int (nI (p))), (3, .int (nI (f))), (4, .int (tb_m1 (tb_rank q d p f)))]) hx hb dX9_shown_56 hl rfl (nI_add _ _) (by decide) rfl (fun ls hl => ?_)
            refine lv_goto (tgt := 15) hx hb dX9_shown_59 (by decide) ?_
            have hl : lv_has ls 7 [(0, .ref (md 13)), (1, .int (nI (d))), (2, .int (nI (p))), (3, .int (nI (f))), (4, .int (tb_m1 (tb_rank q d p f))), (5, .int (tb_m1 (tb_fo (tb_shF q d p f (tb_rank q d p f)) 0 (i + 1)))), (6, .int (nI ((i + 1))))] := by
              rw [show (tb_m1 (tb_fo (tb_shF q d p f (tb_rank q d p f)) 0 (i + 1))) = (nI (i)) from by rw [show tb_fo (tb_shF q d p f (tb_rank q d p f)) 0 (i + 1) = i + 1 from by simp [tb_fo_s, tb_shF, c1, c2, c3]]; exact tb_m1_s _]
              exact lv_sub hl [2, 3, 4, 5, 6, 1, 0] rfl
            exact ih (i + 1) ls _ _ (by omega) (by omega) hU hl
  refine lv_aload_n hx hb dX9_shown_0 rfl (lv_at hl 0 rfl) ?_
  refine lv_iload_n hx hb dX9_shown_1 rfl (lv_at hl 1 rfl) ?_
  refine lv_iload_n hx hb dX9_shown_2 rfl (lv_at hl 2 rfl) ?_
  refine lv_iload_n hx hb dX9_shown_3 rfl (lv_at hl 3 rfl) ?_
  refine um_callP (va_runV (As := [.int (nI (d)), .int (nI (p)), .int (nI (f))]) (rest := []) ⟨hx, hb, hml, hown, htg⟩ (mm_rankOf l D κ τ A σ md q th h hq d p f (by omega) hp hf) (cwV 3 htg (lw_cV tg_764 tg_766 slX9_rankOf tg_8 tg_767) rfl rfl rfl (by decide +kernel) ⟨Nat.le_of_ble_eq_true rfl, Nat.le_of_ble_eq_true rfl⟩) (um_preV hU hK hJ h.obj rfl) rfl rfl hl.1 rfl (lv_room (Nat.le_of_ble_eq_true rfl)) dX9_shown_4 ⟨Nat.le_of_ble_eq_true rfl, Nat.le_of_ble_eq_true rfl⟩) hU (fun H locs hU => ?_)
  refine lv_istore (lv' := [(4, .int (tb_m1 (tb_rank q d p f))), (0, .ref (md 13)), (1, .int (nI (d))), (2, .int (nI (p))), (3, .int (nI (f)))]) hx hb dX9_shown_7 hl (by decide) rfl (fun ls hl => ?_)
  refine lv_iconst (v := -1) hx hb dX9_shown_9 (by decide +kernel) ?_
  refine lv_istore (lv' := [(5, .int (-1)), (4, .int (tb_m1 (tb_rank q d p f))), (0, .ref (md 13)), (1, .int (nI (d))), (2, .int (nI (p))), (3, .int (nI (f)))]) hx hb dX9_shown_10 hl (by decide) rfl (fun ls hl => ?_)
  refine lv_iconst (v := nI 0) hx hb dX9_shown_12 (by decide +kernel) ?_
  refine lv_istore (lv' := [(6, .int (nI (0))), (5, .int (-1)), (4, .int (tb_m1 (tb_rank q d p f))), (0, .ref (md 13)), (1, .int (nI (d))), (2, .int (nI (p))), (3, .int (nI (f)))]) hx hb dX9_shown_13 hl (by decide) rfl (fun ls hl => ?_)
  have hl : lv_has ls 7 [(0, .ref (md 13)), (1, .int (nI (d))), (2, .int (nI (p))), (3, .int (nI (f))), (4, .int (tb_m1 (tb_rank q d p f))), (5, .int (tb_m1 (tb_fo (tb_shF q d p f (tb_rank q d p f)) 0 0))), (6, .int (nI (0)))] := by
    rw [show (tb_m1 (tb_fo (tb_shF q d p f (tb_rank q d p f)) 0 0)) = (-1) from tb_m1_0]
    exact lv_sub hl [3, 4, 5, 6, 2, 1, 0] rfl
  exact L1 201 0 ls _ _ (by omega) (by omega) hU hl

set_option maxRecDepth 100000 in
set_option maxHeartbeats 4000000 in
theorem mm_isConflict (l : Launch) (D : va_G) (κ : Nat → ClassId) (τ : Nat → Nat) (A : Nat → Prop) (σ : um_M) (md : Nat → Nat) (q : tb_Q) (th : Nat) (h : md_at κ σ md q th) (hq : tb_sm q) (d p f : Nat) (hd : d < 5) (hp : p < 2147483648) (hf : f < 2147483648) : Met l yX9_isConflict wsX9_isConflict ({ frames := 5, cells := 0, slots := 0, locals := 124 }) (va_Pc [.ref (md 13), .int (nI (d)), .int (nI (p)), .int (nI (f))] (um_U D κ τ A σ)) (va_Qi (fun (r9 : Int32) (σ' : um_M) => r9 = um_b (tb_conf q d p f) ∧ σ' = σ) (um_U D κ τ A) A) 0 0 A := by
  refine um_met (cc := cX9_isConflict) (maxL := 7) (ret := (some .boolean)) (by decide) rfl rfl ?_
  intro pp ee s mm args below meth cd ls hx hb hr hts hown hlocks hml hnm hK hJ hU hl
  have hown : s.vm.findClass RX9 = some mm.cls := hown
  have htg : ∀ w ∈ lw_g, w.before args s = true := fun w h => hts w (List.mem_cons_of_mem _ h)
  have hl : lv_has ls 7 [(0, .ref (md 13)), (1, .int (nI (d))), (2, .int (nI (p))), (3, .int (nI (f)))] := hl
  have hsl := tb_shown_le q d p f
  have L1 : ∀ (nf : Nat) (i : Nat) (ls : Array Slot) (H : Heap) (locs : List Loc), 200 - i < nf → i ≤ 200 → um_S D vwCl A s σ H locs → lv_has ls 7 [(0, .ref (md 13)), (1, .int (nI (d))), (2, .int (nI (p))), (3, .int (nI (f))), (4, .int (tb_m1 (tb_shown q d p f))), (5, .int (um_b (tb_cfx q d p f i))), (6, .int (nI (i)))] → W pp l ee ({ frames := 5, cells := 0, slots := 0, locals := 124 }) s mm args below meth cd H locs 0 0 (MQ below (va_Qi (fun (r9 : Int32) (σ' : um_M) => r9 = um_b (tb_conf q d p f) ∧ σ' = σ) (um_U D κ τ A) A) args s 0 0 A) (F0 mm 15 ls []) := by
    intro nf
    induction nf with
    | zero => intro i ls H locs hnf; exact absurd hnf (Nat.not_lt_zero _)
    | succ nf ih =>
      intro i ls H locs hnf z1 hU hl
      refine lv_iload hx hb dX9_isConflict_15 (lv_at hl 6 rfl) ?_
      refine lv_sipush (v := nI 200) hx hb dX9_isConflict_17 (by decide +kernel) ?_
      refine um_geN (tgt := 92) hx hb dX9_isConflict_20 (by decide) (by omega) (by decide) (fun c1 => ?_) (fun c1 => ?_)
      · refine lv_iload hx hb dX9_isConflict_92 (lv_at hl 5 rfl) ?_
        exact um_zret hx hb hr hlocks hK hJ hU dX9_isConflict_94 (tb_cfx q d p f i) rfl ⟨congrArg um_b (by first | (rw [show i = 200 by omega]; rfl) | (unfold tb_conf; rw [tb_cfx_0 (by assumption), tb_cfx_0 (by assumption)])), rfl⟩
      · refine lv_iload hx hb dX9_isConflict_23 (lv_at hl 4 rfl) ?_
        refine um_ltM (tgt := 92) hx hb dX9_isConflict_25 (by decide) (Nat.lt_of_le_of_lt (tb_shown_le q d p f) (by decide)) (fun c2 => ?_) (fun c2 => ?_)
        · refine lv_iload hx hb dX9_isConflict_92 (lv_at hl 5 rfl) ?_
          exact um_zret hx hb hr hlocks hK hJ hU dX9_isConflict_94 (tb_cfx q d p f i) rfl ⟨congrArg um_b (by first | (rw [show i = 200 by omega]; rfl) | (unfold tb_conf; rw [tb_cfx_0 (by assumption), tb_cfx_0 (by assumption)])), rfl⟩
        · rw [tb_m1_p c2] at hl
          refine lv_iload hx hb dX9_isConflict_28 (lv_at hl 5 rfl) ?_
          refine um_neB (tgt := 79) hx hb dX9_isConflict_30 (by decide) (fun c3 => ?_) (fun c3 => ?_)
          · refine lv_iconst (v := nI 1) hx hb dX9_isConflict_79 (by decide +kernel) ?_
            refine lv_goto (tgt := 84) hx hb dX9_isConflict_80 (by decide) ?_
            refine lv_istore (lv' := [(5, .int (nI (1))), (0, .ref (md 13)), (1, .int (nI (d))), (2, .int (nI (p))), (3, .int (nI (f))), (4, .int (nI (tb_shown q d p f - 1))), (6, .int (nI (i)))]) hx hb dX9_isConflict_84 hl (by decide) rfl (fun ls hl => ?_)
            refine lv_iinc (k := 6) (v := nI (i + 1)) (lv' := [(6, .int (nI (i + 1))), (5, .int (nI (1))), (0, .ref (md 13)), (1, .int (nI (d))), (2, .int (nI (p))), (3, .int (nI (f))), (4, .int (nI (tb_shown q d p f - 1)))]) hx hb dX9_isConflict_86 hl rfl (nI_add _ _) (by decide) rfl (fun ls hl => ?_)
            refine lv_goto (tgt := 15) hx hb dX9_isConflict_89 (by decide) ?_
            have hl : lv_has ls 7 [(0, .ref (md 13)), (1, .int (nI (d))), (2, .int (nI (p))), (3, .int (nI (f))), (4, .int (tb_m1 (tb_shown q d p f))), (5, .int (um_b (tb_cfx q d p f (i + 1)))), (6, .int (nI ((i + 1))))] := by
              rw [show (tb_m1 (tb_shown q d p f)) = (nI (tb_shown q d p f - 1)) from tb_m1_p c2]
              rw [show um_b (tb_cfx q d p f (i + 1)) = nI 1 from by rw [show (tb_cfx q d p f (i + 1)) = true from by rw [tb_cfx_s c2]; simp [c1, c2, c3]]; rfl]
              exact lv_sub hl [2, 3, 4, 5, 6, 1, 0] rfl
            exact ih (i + 1) ls _ _ (by omega) (by omega) hU hl
          · refine lv_aload_n hx hb dX9_isConflict_33 rfl (lv_at hl 0 rfl) ?_
            refine lv_iload_n hx hb dX9_isConflict_34 rfl (lv_at hl 1 rfl) ?_
            refine lv_iload_n hx hb dX9_isConflict_35 rfl (lv_at hl 2 rfl) ?_
            refine lv_iload_n hx hb dX9_isConflict_36 rfl (lv_at hl 3 rfl) ?_
            refine lv_iload hx hb dX9_isConflict_37 (lv_at hl 6 rfl) ?_
            refine um_callP (va_runV (As := [.int (nI (d)), .int (nI (p)), .int (nI (f)), .int (nI (i))]) (rest := []) ⟨hx, hb, hml, hown, htg⟩ (mm_isLast l D κ τ A σ md q th h hq d p f i (by omega) hp hf (by omega)) (cwV 4 htg (lw_cV tg_768 tg_770 slX9_isLast tg_8 tg_771) rfl rfl rfl (by decide +kernel) ⟨Nat.le_of_ble_eq_true rfl, Nat.le_of_ble_eq_true rfl⟩) (um_preV hU hK hJ h.obj rfl) rfl rfl hl.1 rfl (lv_room (Nat.le_of_ble_eq_true rfl)) dX9_isConflict_39 ⟨Nat.le_of_ble_eq_true rfl, Nat.le_of_ble_eq_true rfl⟩) hU (fun H locs hU => ?_)
            refine um_eqB (tgt := 83) hx hb dX9_isConflict_42 (by decide) (fun c4 => ?_) (fun c4 => ?_)
            · refine lv_iconst (v := nI 0) hx hb dX9_isConflict_83 (by decide +kernel) ?_
              refine lv_istore (lv' := [(5, .int (nI (0))), (0, .ref (md 13)), (1, .int (nI (d))), (2, .int (nI (p))), (3, .int (nI (f))), (4, .int (nI (tb_shown q d p f - 1))), (6, .int (nI (i)))]) hx hb dX9_isConflict_84 hl (by decide) rfl (fun ls hl => ?_)
              refine lv_iinc (k := 6) (v := nI (i + 1)) (lv' := [(6, .int (nI (i + 1))), (5, .int (nI (0))), (0, .ref (md 13)), (1, .int (nI (d))), (2, .int (nI (p))), (3, .int (nI (f))), (4, .int (nI (tb_shown q d p f - 1)))]) hx hb dX9_isConflict_86 hl rfl (nI_add _ _) (by decide) rfl (fun ls hl => ?_)
              refine lv_goto (tgt := 15) hx hb dX9_isConflict_89 (by decide) ?_
              have hl : lv_has ls 7 [(0, .ref (md 13)), (1, .int (nI (d))), (2, .int (nI (p))), (3, .int (nI (f))), (4, .int (tb_m1 (tb_shown q d p f))), (5, .int (um_b (tb_cfx q d p f (i + 1)))), (6, .int (nI ((i + 1))))] := by
                rw [show (tb_m1 (tb_shown q d p f)) = (nI (tb_shown q d p f - 1)) from tb_m1_p c2]
                rw [show um_b (tb_cfx q d p f (i + 1)) = nI 0 from by rw [show (tb_cfx q d p f (i + 1)) = false from by rw [tb_cfx_s c2]; simp [c1, c2, c3, c4]]; rfl]
                exact lv_sub hl [2, 3, 4, 5, 6, 1, 0] rfl
              exact ih (i + 1) ls _ _ (by omega) (by omega) hU hl
            · refine lv_aload_n hx hb dX9_isConflict_45 rfl (lv_at hl 0 rfl) ?_
              refine um_get (v := .ref (md 5)) hx hb htg inX9 hown hK hU h.obj rfl 6 (by decide) (htg _ tg_644) rfl dX9_isConflict_46 ?_
              refine lv_iload hx hb dX9_isConflict_49 (lv_at hl 6 rfl) ?_
              refine md_ild hx hb hK hU h 5 i (by decide) (show i < 200 from by omega) dX9_isConflict_51 ?_
              refine lv_aload_n hx hb dX9_isConflict_52 rfl (lv_at hl 0 rfl) ?_
              refine um_get (v := .ref (md 5)) hx hb htg inX9 hown hK hU h.obj rfl 6 (by decide) (htg _ tg_644) rfl dX9_isConflict_53 ?_
              refine lv_iload hx hb dX9_isConflict_56 (lv_at hl 4 rfl) ?_
              refine md_ild hx hb hK hU h 5 (tb_shown q d p f - 1) (by decide) (show tb_shown q d p f - 1 < 200 from by omega) dX9_isConflict_58 ?_
              refine um_neN (tgt := 83) hx hb dX9_isConflict_59 (by decide) (tb_sm_lt hq 5 _) (tb_sm_lt hq 5 _) (fun c5 => ?_) (fun c5 => ?_)
              · refine lv_iconst (v := nI 0) hx hb dX9_isConflict_83 (by decide +kernel) ?_
                refine lv_istore (lv' := [(5, .int (nI (0))), (0, .ref (md 13)), (1, .int (nI (d))), (2, .int (nI (p))), (3, .int (nI (f))), (4, .int (nI (tb_shown q d p f - 1))), (6, .int (nI (i)))]) hx hb dX9_isConflict_84 hl (by decide) rfl (fun ls hl => ?_)
                refine lv_iinc (k := 6) (v := nI (i + 1)) (lv' := [(6, .int (nI (i + 1))), (5, .int (nI (0))), (0, .ref (md 13)), (1, .int (nI (d))), (2, .int (nI (p))), (3, .int (nI (f))), (4, .int (nI (tb_shown q d p f - 1)))]) hx hb dX9_isConflict_86 hl rfl (nI_add _ _) (by decide) rfl (fun ls hl => ?_)
                refine lv_goto (tgt := 15) hx hb dX9_isConflict_89 (by decide) ?_
                have hl : lv_has ls 7 [(0, .ref (md 13)), (1, .int (nI (d))), (2, .int (nI (p))), (3, .int (nI (f))), (4, .int (tb_m1 (tb_shown q d p f))), (5, .int (um_b (tb_cfx q d p f (i + 1)))), (6, .int (nI ((i + 1))))] := by
                  rw [show (tb_m1 (tb_shown q d p f)) = (nI (tb_shown q d p f - 1)) from tb_m1_p c2]
                  rw [show um_b (tb_cfx q d p f (i + 1)) = nI 0 from by rw [show (tb_cfx q d p f (i + 1)) = false from by rw [tb_cfx_s c2]; simp [c1, c2, c3, c4, c5]]; rfl]
                  exact lv_sub hl [2, 3, 4, 5, 6, 1, 0] rfl
                exact ih (i + 1) ls _ _ (by omega) (by omega) hU hl
              · refine lv_aload_n hx hb dX9_isConflict_62 rfl (lv_at hl 0 rfl) ?_
                refine um_get (v := .ref (md 4)) hx hb htg inX9 hown hK hU h.obj rfl 5 (by decide) (htg _ tg_643) rfl dX9_isConflict_63 ?_
                refine lv_iload hx hb dX9_isConflict_66 (lv_at hl 6 rfl) ?_
                refine md_ild hx hb hK hU h 4 i (by decide) (show i < 200 from by omega) dX9_isConflict_68 ?_
                refine lv_aload_n hx hb dX9_isConflict_69 rfl (lv_at hl 0 rfl) ?_
                refine um_get (v := .ref (md 4)) hx hb htg inX9 hown hK hU h.obj rfl 5 (by decide) (htg _ tg_643) rfl dX9_isConflict_70 ?_
                refine lv_iload hx hb dX9_isConflict_73 (lv_at hl 4 rfl) ?_
                refine md_ild hx hb hK hU h 4 (tb_shown q d p f - 1) (by decide) (show tb_shown q d p f - 1 < 200 from by omega) dX9_isConflict_75 ?_
                refine um_eqN (tgt := 83) hx hb dX9_isConflict_76 (by decide) (tb_sm_lt hq 4 _) (tb_sm_lt hq 4 _) (fun c6 => ?_) (fun c6 => ?_)
                · refine lv_iconst (v := nI 0) hx hb dX9_isConflict_83 (by decide +kernel) ?_
                  refine lv_istore (lv' := [(5, .int (nI (0))), (0, .ref (md 13)), (1, .int (nI (d))), (2, .int (nI (p))), (3, .int (nI (f))), (4, .int (nI (tb_shown q d p f - 1))), (6, .int (nI (i)))]) hx hb dX9_isConflict_84 hl (by decide) rfl (fun ls hl => ?_)
                  refine lv_iinc (k := 6) (v := nI (i + 1)) (lv' := [(6, .int (nI (i + 1))), (5, .int (nI (0))), (0, .ref (md 13)), (1, .int (nI (d))), (2, .int (nI (p))), (3, .int (nI (f))), (4, .int (nI (tb_shown q d p f - 1)))]) hx hb dX9_isConflict_86 hl rfl (nI_add _ _) (by decide) rfl (fun ls hl => ?_)
                  refine lv_goto (tgt := 15) hx hb dX9_isConflict_89 (by decide) ?_
                  have hl : lv_has ls 7 [(0, .ref (md 13)), (1, .int (nI (d))), (2, .int (nI (p))), (3, .int (nI (f))), (4, .int (tb_m1 (tb_shown q d p f))), (5, .int (um_b (tb_cfx q d p f (i + 1)))), (6, .int (nI ((i + 1))))] := by
                    rw [show (tb_m1 (tb_shown q d p f)) = (nI (tb_shown q d p f - 1)) from tb_m1_p c2]
                    rw [show um_b (tb_cfx q d p f (i + 1)) = nI 0 from by rw [show (tb_cfx q d p f (i + 1)) = false from by rw [tb_cfx_s c2]; simp [c1, c2, c3, c4, c5, c6]]; rfl]
                    exact lv_sub hl [2, 3, 4, 5, 6, 1, 0] rfl
                  exact ih (i + 1) ls _ _ (by omega) (by omega) hU hl
                · refine lv_iconst (v := nI 1) hx hb dX9_isConflict_79 (by decide +kernel) ?_
                  refine lv_goto (tgt := 84) hx hb dX9_isConflict_80 (by decide) ?_
                  refine lv_istore (lv' := [(5, .int (nI (1))), (0, .ref (md 13)), (1, .int (nI (d))), (2, .int (nI (p))), (3, .int (nI (f))), (4, .int (nI (tb_shown q d p f - 1))), (6, .int (nI (i)))]) hx hb dX9_isConflict_84 hl (by decide) rfl (fun ls hl => ?_)
                  refine lv_iinc (k := 6) (v := nI (i + 1)) (lv' := [(6, .int (nI (i + 1))), (5, .int (nI (1))), (0, .ref (md 13)), (1, .int (nI (d))), (2, .int (nI (p))), (3, .int (nI (f))), (4, .int (nI (tb_shown q d p f - 1)))]) hx hb dX9_isConflict_86 hl rfl (nI_add _ _) (by decide) rfl (fun ls hl => ?_)
                  refine lv_goto (tgt := 15) hx hb dX9_isConflict_89 (by decide) ?_
                  have hl : lv_has ls 7 [(0, .ref (md 13)), (1, .int (nI (d))), (2, .int (nI (p))), (3, .int (nI (f))), (4, .int (tb_m1 (tb_shown q d p f))), (5, .int (um_b (tb_cfx q d p f (i + 1)))), (6, .int (nI ((i + 1))))] := by
                    rw [show (tb_m1 (tb_shown q d p f)) = (nI (tb_shown q d p f - 1)) from tb_m1_p c2]
                    rw [show um_b (tb_cfx q d p f (i + 1)) = nI 1 from by rw [show (tb_cfx q d p f (i + 1)) = true from by rw [tb_cfx_s c2]; simp [c1, c2, c3, c4, c5, c6]]; rfl]
                    exact lv_sub hl [2, 3, 4, 5, 6, 1, 0] rfl
                  exact ih (i + 1) ls _ _ (by omega) (by omega) hU hl
  refine lv_aload_n hx hb dX9_isConflict_0 rfl (lv_at hl 0 rfl) ?_
  refine lv_iload_n hx hb dX9_isConflict_1 rfl (lv_at hl 1 rfl) ?_
  refine lv_iload_n hx hb dX9_isConflict_2 rfl (lv_at hl 2 rfl) ?_
  refine lv_iload_n hx hb dX9_isConflict_3 rfl (lv_at hl 3 rfl) ?_
  refine um_callP (va_runV (As := [.int (nI (d)), .int (nI (p)), .int (nI (f))]) (rest := []) ⟨hx, hb, hml, hown, htg⟩ (mm_shown l D κ τ A σ md q th h hq d p f (by omega) hp hf) (cwV 3 htg (lw_cV tg_760 tg_762 slX9_shown tg_8 tg_763) rfl rfl rfl (by decide +kernel) ⟨Nat.le_of_ble_eq_true rfl, Nat.le_of_ble_eq_true rfl⟩) (um_preV hU hK hJ h.obj rfl) rfl rfl hl.1 rfl (lv_room (Nat.le_of_ble_eq_true rfl)) dX9_isConflict_4 ⟨Nat.le_of_ble_eq_true rfl, Nat.le_of_ble_eq_true rfl⟩) hU (fun H locs hU => ?_)
  refine lv_istore (lv' := [(4, .int (tb_m1 (tb_shown q d p f))), (0, .ref (md 13)), (1, .int (nI (d))), (2, .int (nI (p))), (3, .int (nI (f)))]) hx hb dX9_isConflict_7 hl (by decide) rfl (fun ls hl => ?_)
  refine lv_iconst (v := nI 0) hx hb dX9_isConflict_9 (by decide +kernel) ?_
  refine lv_istore (lv' := [(5, .int (nI (0))), (4, .int (tb_m1 (tb_shown q d p f))), (0, .ref (md 13)), (1, .int (nI (d))), (2, .int (nI (p))), (3, .int (nI (f)))]) hx hb dX9_isConflict_10 hl (by decide) rfl (fun ls hl => ?_)
  refine lv_iconst (v := nI 0) hx hb dX9_isConflict_12 (by decide +kernel) ?_
  refine lv_istore (lv' := [(6, .int (nI (0))), (5, .int (nI (0))), (4, .int (tb_m1 (tb_shown q d p f))), (0, .ref (md 13)), (1, .int (nI (d))), (2, .int (nI (p))), (3, .int (nI (f)))]) hx hb dX9_isConflict_13 hl (by decide) rfl (fun ls hl => ?_)
  have hl : lv_has ls 7 [(0, .ref (md 13)), (1, .int (nI (d))), (2, .int (nI (p))), (3, .int (nI (f))), (4, .int (tb_m1 (tb_shown q d p f))), (5, .int (um_b (tb_cfx q d p f 0))), (6, .int (nI (0)))] := by
    rw [show um_b (tb_cfx q d p f 0) = nI 0 from by rw [show (tb_cfx q d p f 0) = false from by unfold tb_cfx; split <;> rfl]; rfl]
    exact lv_sub hl [3, 4, 5, 6, 2, 1, 0] rfl
  exact L1 201 0 ls _ _ (by omega) (by omega) hU hl

set_option maxRecDepth 100000 in
set_option maxHeartbeats 4000000 in
theorem mm_inConflict (l : Launch) (D : va_G) (κ : Nat → ClassId) (τ : Nat → Nat) (A : Nat → Prop) (σ : um_M) (md : Nat → Nat) (q : tb_Q) (th : Nat) (h : md_at κ σ md q th) (hq : tb_sm q) (d : Nat) (x : Int32) (hd : d < 5) : Met l yX9_inConflict wsX9_inConflict ({ frames := 6, cells := 0, slots := 0, locals := 150 }) (va_Pc [.ref (md 13), .int (nI (d)), .int (x)] (um_U D κ τ A σ)) (va_Qi (fun (r9 : Int32) (σ' : um_M) => r9 = tb_m1 (tb_inc q d x 72) ∧ σ' = σ) (um_U D κ τ A) A) 0 0 A := by
  refine um_met (cc := cX9_inConflict) (maxL := 5) (ret := (some .int)) (by decide) rfl rfl ?_
  intro pp ee s mm args below meth cd ls hx hb hr hts hown hlocks hml hnm hK hJ hU hl
  have hown : s.vm.findClass RX9 = some mm.cls := hown
  have htg : ∀ w ∈ lw_g, w.before args s = true := fun w h => hts w (List.mem_cons_of_mem _ h)
  have hl : lv_has ls 5 [(0, .ref (md 13)), (1, .int (nI (d))), (2, .int (x))] := hl
  have L1 : ∀ (nf : Nat) (i : Nat) (ls : Array Slot) (H : Heap) (locs : List Loc), 72 - i < nf → i ≤ 72 → tb_inc q d x i = 0 → um_S D vwCl A s σ H locs → lv_has ls 5 [(0, .ref (md 13)), (1, .int (nI (d))), (2, .int (x)), (3, .int (nI (tb_cnt q d i))), (4, .int (nI (i)))] → W pp l ee ({ frames := 6, cells := 0, slots := 0, locals := 150 }) s mm args below meth cd H locs 0 0 (MQ below (va_Qi (fun (r9 : Int32) (σ' : um_M) => r9 = tb_m1 (tb_inc q d x 72) ∧ σ' = σ) (um_U D κ τ A) A) args s 0 0 A) (F0 mm 5 ls []) := by
    intro nf
    induction nf with
    | zero => intro i ls H locs hnf; exact absurd hnf (Nat.not_lt_zero _)
    | succ nf ih =>
      intro i ls H locs hnf z1 z2 hU hl
      refine lv_iload hx hb dX9_inConflict_5 (lv_at hl 4 rfl) ?_
      refine lv_bipush (v := nI 72) hx hb dX9_inConflict_7 (by decide +kernel) ?_
      refine um_geN (tgt := 50) hx hb dX9_inConflict_9 (by decide) (by omega) (by decide) (fun c1 => ?_) (fun c1 => ?_)
      · refine lv_iconst (v := -1) hx hb dX9_inConflict_50 (by decide +kernel) ?_
        exact um_iret hx hb hr hlocks hK hJ hU dX9_inConflict_51 ⟨by rw [show (tb_inc q d x 72) = 0 from by rw [← z2, show i = 72 by omega]]; exact tb_m1_0.symm, rfl⟩
      · refine lv_aload_n hx hb dX9_inConflict_12 rfl (lv_at hl 0 rfl) ?_
        refine lv_iload_n hx hb dX9_inConflict_13 rfl (lv_at hl 1 rfl) ?_
        refine lv_iload hx hb dX9_inConflict_14 (lv_at hl 4 rfl) ?_
        refine lv_bipush (v := nI 12) hx hb dX9_inConflict_16 (by decide +kernel) ?_
        refine um_divN hx hb dX9_inConflict_18 (by omega) (by decide) (by decide) ?_
        refine lv_iload hx hb dX9_inConflict_19 (lv_at hl 4 rfl) ?_
        refine lv_bipush (v := nI 12) hx hb dX9_inConflict_21 (by decide +kernel) ?_
        refine um_remN hx hb dX9_inConflict_23 (by omega) (by decide) (by decide) ?_
        refine um_callP (va_runV (As := [.int (nI (d)), .int (nI (i / 12)), .int (nI (i % 12))]) (rest := []) ⟨hx, hb, hml, hown, htg⟩ (mm_isConflict l D κ τ A σ md q th h hq d (i / 12) (i % 12) (by omega) (by omega) (by omega)) (cwV 3 htg (lw_cV tg_756 tg_758 slX9_isConflict tg_8 tg_759) rfl rfl rfl (by decide +kernel) ⟨Nat.le_of_ble_eq_true rfl, Nat.le_of_ble_eq_true rfl⟩) (um_preV hU hK hJ h.obj rfl) rfl rfl hl.1 rfl (lv_room (Nat.le_of_ble_eq_true rfl)) dX9_inConflict_24 ⟨Nat.le_of_ble_eq_true rfl, Nat.le_of_ble_eq_true rfl⟩) hU (fun H locs hU => ?_)
        refine um_neB (tgt := 33) hx hb dX9_inConflict_27 (by decide) (fun c2 => ?_) (fun c2 => ?_)
        · refine lv_iload_n hx hb dX9_inConflict_33 rfl (lv_at hl 3 rfl) ?_
          refine lv_iload_n hx hb dX9_inConflict_34 rfl (lv_at hl 2 rfl) ?_
          refine lv_icmp_ne (tgt := 41) hx hb dX9_inConflict_35 (by decide) (fun c3 => ?_) (fun c3 => ?_)
          · refine lv_iinc (k := 3) (v := nI ((tb_cnt q d i) + 1)) (lv' := [(3, .int (nI ((tb_cnt q d i) + 1))), (0, .ref (md 13)), (1, .int (nI (d))), (2, .int (x)), (4, .int (nI (i)))]) hx hb dX9_inConflict_41 hl rfl (nI_add _ _) (by decide) rfl (fun ls hl => ?_)
            refine lv_iinc (k := 4) (v := nI (i + 1)) (lv' := [(4, .int (nI (i + 1))), (3, .int (nI ((tb_cnt q d i) + 1))), (0, .ref (md 13)), (1, .int (nI (d))), (2, .int (x))]) hx hb dX9_inConflict_44 hl rfl (nI_add _ _) (by decide) rfl (fun ls hl => ?_)
            refine lv_goto (tgt := 5) hx hb dX9_inConflict_47 (by decide) ?_
            have hl : lv_has ls 5 [(0, .ref (md 13)), (1, .int (nI (d))), (2, .int (x)), (3, .int (nI (tb_cnt q d (i + 1)))), (4, .int (nI ((i + 1))))] := by
              rw [show (tb_cnt q d (i + 1)) = ((tb_cnt q d i) + 1) from by first | rfl | simp [tb_cnt, c1, c2, c3]]
              exact lv_sub hl [2, 3, 4, 1, 0] rfl
            exact ih (i + 1) ls _ _ (by omega) (by omega) (by simp [tb_inc, z2, c1, c2, c3]) hU hl
          · refine lv_iload hx hb dX9_inConflict_38 (lv_at hl 4 rfl) ?_
            exact um_iret hx hb hr hlocks hK hJ hU dX9_inConflict_40 ⟨by rw [show (tb_inc q d x 72) = i + 1 from by exact tb_inc_at (by simp [tb_inc, z2, c1, c2, c3]) (by omega)]; exact (tb_m1_s _).symm, rfl⟩
        · refine lv_goto (tgt := 44) hx hb dX9_inConflict_30 (by decide) ?_
          refine lv_iinc (k := 4) (v := nI (i + 1)) (lv' := [(4, .int (nI (i + 1))), (0, .ref (md 13)), (1, .int (nI (d))), (2, .int (x)), (3, .int (nI (tb_cnt q d i)))]) hx hb dX9_inConflict_44 hl rfl (nI_add _ _) (by decide) rfl (fun ls hl => ?_)
          refine lv_goto (tgt := 5) hx hb dX9_inConflict_47 (by decide) ?_
          have hl : lv_has ls 5 [(0, .ref (md 13)), (1, .int (nI (d))), (2, .int (x)), (3, .int (nI (tb_cnt q d (i + 1)))), (4, .int (nI ((i + 1))))] := by
            rw [show (tb_cnt q d (i + 1)) = (tb_cnt q d i) from by first | rfl | simp [tb_cnt, c1, c2]]
            exact lv_sub hl [1, 2, 3, 4, 0] rfl
          exact ih (i + 1) ls _ _ (by omega) (by omega) (by simp [tb_inc, z2, c1, c2]) hU hl
  refine lv_iconst (v := nI 0) hx hb dX9_inConflict_0 (by decide +kernel) ?_
  refine lv_istore_n (lv' := [(3, .int (nI (0))), (0, .ref (md 13)), (1, .int (nI (d))), (2, .int (x))]) hx hb dX9_inConflict_1 rfl hl (by decide) rfl (fun ls hl => ?_)
  refine lv_iconst (v := nI 0) hx hb dX9_inConflict_2 (by decide +kernel) ?_
  refine lv_istore (lv' := [(4, .int (nI (0))), (3, .int (nI (0))), (0, .ref (md 13)), (1, .int (nI (d))), (2, .int (x))]) hx hb dX9_inConflict_3 hl (by decide) rfl (fun ls hl => ?_)
  have hl : lv_has ls 5 [(0, .ref (md 13)), (1, .int (nI (d))), (2, .int (x)), (3, .int (nI (tb_cnt q d 0))), (4, .int (nI (0)))] := by
    rw [show (tb_cnt q d 0) = 0 from by first | rfl | simp [tb_cnt, ]]
    exact lv_sub hl [2, 3, 4, 1, 0] rfl
  exact L1 73 0 ls _ _ (by omega) (by omega) rfl hU hl

set_option maxRecDepth 100000 in
set_option maxHeartbeats 4000000 in
theorem mm_carries (l : Launch) (D : va_G) (κ : Nat → ClassId) (τ : Nat → Nat) (A : Nat → Prop) (σ : um_M) (md : Nat → Nat) (q : tb_Q) (th : Nat) (h : md_at κ σ md q th) (hq : tb_sm q) (fr to : Nat) (hf : fr < 5) (ht : to < 5) : Met l yX9_carries wsX9_carries ({ frames := 0, cells := 0, slots := 0, locals := 0 }) (va_Pc [.ref (md 13), .int (nI (fr)), .int (nI (to))] (um_U D κ τ A σ)) (va_Qi (fun (r9 : Int32) (σ' : um_M) => r9 = um_b (!decide (tb_car q fr to = 0)) ∧ md_at κ σ' md (tb_cary q fr to) th) (um_U D κ τ A) A) 0 0 A := by
  refine um_met (cc := cX9_carries) (maxL := 4) (ret := (some .boolean)) (by decide) rfl rfl ?_
  intro pp ee s mm args below meth cd ls hx hb hr hts hown hlocks hml hnm hK hJ hU hl
  have hown : s.vm.findClass RX9 = some mm.cls := hown
  have htg : ∀ w ∈ lw_g, w.before args s = true := fun w h => hts w (List.mem_cons_of_mem _ h)
  have hl : lv_has ls 4 [(0, .ref (md 13)), (1, .int (nI (fr))), (2, .int (nI (to)))] := hl
  have L1 : ∀ (nf : Nat) (i : Nat) (ls : Array Slot) (H : Heap) (locs : List Loc), 5 - i < nf → i ≤ 5 → tb_carF q fr to i = 0 → um_S D vwCl A s σ H locs → lv_has ls 4 [(0, .ref (md 13)), (1, .int (nI (fr))), (2, .int (nI (to))), (3, .int (nI (i)))] → W pp l ee ({ frames := 0, cells := 0, slots := 0, locals := 0 }) s mm args below meth cd H locs 0 0 (MQ below (va_Qi (fun (r9 : Int32) (σ' : um_M) => r9 = um_b (!decide (tb_car q fr to = 0)) ∧ md_at κ σ' md (tb_cary q fr to) th) (um_U D κ τ A) A) args s 0 0 A) (F0 mm 2 ls []) := by
    intro nf
    induction nf with
    | zero => intro i ls H locs hnf; exact absurd hnf (Nat.not_lt_zero _)
    | succ nf ih =>
      intro i ls H locs hnf z1 z2 hU hl
      refine lv_iload_n hx hb dX9_carries_2 rfl (lv_at hl 3 rfl) ?_
      refine lv_iconst (v := nI 5) hx hb dX9_carries_3 (by decide +kernel) ?_
      refine um_geN (tgt := 52) hx hb dX9_carries_4 (by decide) (by omega) (by decide) (fun c1 => ?_) (fun c1 => ?_)
      · refine lv_iconst (v := nI 0) hx hb dX9_carries_52 (by decide +kernel) ?_
        exact um_zret hx hb hr hlocks hK hJ hU dX9_carries_53 false rfl ⟨congrArg um_b (by (have e1 : tb_car q fr to = 0 := (by unfold tb_car; rw [← z2, show i = 5 by omega]); simp [e1])), (by have e1 : tb_car q fr to = 0 := (by unfold tb_car; rw [← z2, show i = 5 by omega]); unfold tb_cary; rw [if_pos e1]; exact h)⟩
      · refine lv_aload_n hx hb dX9_carries_7 rfl (lv_at hl 0 rfl) ?_
        refine um_get (v := .ref (md 7)) hx hb htg inX9 hown hK hU h.obj rfl 8 (by decide) (htg _ tg_646) rfl dX9_carries_8 ?_
        refine lv_iconst (v := nI 5) hx hb dX9_carries_11 (by decide +kernel) ?_
        refine lv_iload_n hx hb dX9_carries_12 rfl (lv_at hl 2 rfl) ?_
        refine um_mulN hx hb dX9_carries_13 ?_
        refine lv_iload_n hx hb dX9_carries_14 rfl (lv_at hl 3 rfl) ?_
        refine um_addN hx hb dX9_carries_15 ?_
        refine md_ild hx hb hK hU h 7 ((5 * to) + i) (by decide) (show (5 * to) + i < 25 from by omega) dX9_carries_16 ?_
        refine lv_aload_n hx hb dX9_carries_17 rfl (lv_at hl 0 rfl) ?_
        refine um_get (v := .ref (md 7)) hx hb htg inX9 hown hK hU h.obj rfl 8 (by decide) (htg _ tg_646) rfl dX9_carries_18 ?_
        refine lv_iconst (v := nI 5) hx hb dX9_carries_21 (by decide +kernel) ?_
        refine lv_iload_n hx hb dX9_carries_22 rfl (lv_at hl 1 rfl) ?_
        refine um_mulN hx hb dX9_carries_23 ?_
        refine lv_iload_n hx hb dX9_carries_24 rfl (lv_at hl 3 rfl) ?_
        refine um_addN hx hb dX9_carries_25 ?_
        refine md_ild hx hb hK hU h 7 ((5 * fr) + i) (by decide) (show (5 * fr) + i < 25 from by omega) dX9_carries_26 ?_
        refine um_geN (tgt := 46) hx hb dX9_carries_27 (by decide) (tb_sm_lt hq 7 _) (tb_sm_lt hq 7 _) (fun c2 => ?_) (fun c2 => ?_)
        · refine lv_iinc (k := 3) (v := nI (i + 1)) (lv' := [(3, .int (nI (i + 1))), (0, .ref (md 13)), (1, .int (nI (fr))), (2, .int (nI (to)))]) hx hb dX9_carries_46 hl rfl (nI_add _ _) (by decide) rfl (fun ls hl => ?_)
          refine lv_goto (tgt := 2) hx hb dX9_carries_49 (by decide) ?_
          have hl : lv_has ls 4 [(0, .ref (md 13)), (1, .int (nI (fr))), (2, .int (nI (to))), (3, .int (nI ((i + 1))))] := lv_sub hl [1, 2, 3, 0] rfl
          exact ih (i + 1) ls _ _ (by omega) (by omega) (by simp [tb_carF, z2, c1, c2]) hU hl
        · refine lv_aload_n hx hb dX9_carries_30 rfl (lv_at hl 0 rfl) ?_
          refine um_get (v := .ref (md 7)) hx hb htg inX9 hown hK hU h.obj rfl 8 (by decide) (htg _ tg_646) rfl dX9_carries_31 ?_
          refine lv_iconst (v := nI 5) hx hb dX9_carries_34 (by decide +kernel) ?_
          refine lv_iload_n hx hb dX9_carries_35 rfl (lv_at hl 2 rfl) ?_
          refine um_mulN hx hb dX9_carries_36 ?_
          refine lv_iload_n hx hb dX9_carries_37 rfl (lv_at hl 3 rfl) ?_
          refine um_addN hx hb dX9_carries_38 ?_
          refine lv_dup2_11 hx hb dX9_carries_39 rfl rfl ?_
          refine md_ild hx hb hK hU h 7 ((5 * to) + i) (by decide) (show (5 * to) + i < 25 from by omega) dX9_carries_40 ?_
          refine lv_iconst (v := nI 1) hx hb dX9_carries_41 (by decide +kernel) ?_
          refine um_addN hx hb dX9_carries_42 ?_
          refine md_ist hx hb hK hU h 7 ((5 * to) + i) ((q 7 ((5 * to) + i)) + 1) (by decide) (show (5 * to) + i < 25 by omega) dX9_carries_43 (fun σ H locs h hU => ?_)
          refine lv_iconst (v := nI 1) hx hb dX9_carries_44 (by decide +kernel) ?_
          exact um_zret hx hb hr hlocks hK hJ hU dX9_carries_45 true rfl ⟨congrArg um_b (by (have e1 := tb_car_at (q := q) (fr := fr) (to := to) (i := i) (by simp [tb_carF, z2, c1, c2]) (by omega); simp [e1])), (by have e1 := tb_car_at (q := q) (fr := fr) (to := to) (i := i) (by simp [tb_carF, z2, c1, c2]) (by omega); unfold tb_cary; rw [if_neg (by omega), e1]; exact h)⟩
  refine lv_iconst (v := nI 0) hx hb dX9_carries_0 (by decide +kernel) ?_
  refine lv_istore_n (lv' := [(3, .int (nI (0))), (0, .ref (md 13)), (1, .int (nI (fr))), (2, .int (nI (to)))]) hx hb dX9_carries_1 rfl hl (by decide) rfl (fun ls hl => ?_)
  have hl : lv_has ls 4 [(0, .ref (md 13)), (1, .int (nI (fr))), (2, .int (nI (to))), (3, .int (nI (0)))] := lv_sub hl [1, 2, 3, 0] rfl
  exact L1 6 0 ls _ _ (by omega) (by omega) rfl hU hl

set_option maxRecDepth 100000 in
set_option maxHeartbeats 4000000 in
theorem mm_ends (l : Launch) (D : va_G) (κ : Nat → ClassId) (τ : Nat → Nat) (A : Nat → Prop) (σ : um_M) (md : Nat → Nat) (q : tb_Q) (th : Nat) (h : md_at κ σ md q th)  : Met l yX9_ends wsX9_ends ({ frames := 0, cells := 0, slots := 0, locals := 0 }) (va_Pc [.ref (md 13)] (um_U D κ τ A σ)) (va_Qv (fun σ' : um_M => md_at κ σ' md (tb_ends q) th) (um_U D κ τ A) A) 0 0 A := by
  refine um_met (cc := cX9_ends) (maxL := 1) (ret := none) (by decide) rfl rfl ?_
  intro pp ee s mm args below meth cd ls hx hb hr hts hown hlocks hml hnm hK hJ hU hl
  have hown : s.vm.findClass RX9 = some mm.cls := hown
  have htg : ∀ w ∈ lw_g, w.before args s = true := fun w h => hts w (List.mem_cons_of_mem _ h)
  have hl : lv_has ls 1 [(0, .ref (md 13))] := hl
  refine lv_aload_n hx hb dX9_ends_0 rfl (lv_at hl 0 rfl) ?_
  refine lv_iconst (v := -1) hx hb dX9_ends_1 (by decide +kernel) ?_
  refine um_put (v := .int (-1)) (ty := .int) (fs' := md_obj md (tb_set q 13 0 0) th) hx hb htg inX9 tyX9 tyX9_ok nmX9 hown hK hU h.obj rfl 10 (by decide) (htg _ tg_648) rfl (by decide +kernel) rfl rfl (by first | rfl | (unfold md_obj; simp [tb_set, va_up, tb_m1_0, tb_m1_s, List.set])) (Nat.le_of_ble_eq_true rfl) dX9_ends_2 (fun H locs hU => ?_)
  have h := h.put (q' := tb_set q 13 0 0) (th' := th) (fun i hi => tb_set_n _ _ _ (by omega))
  obtain ⟨σ', hσ⟩ : ∃ z, z = um_up σ (md 13) (.inr (md_ci, md_obj md (tb_set q 13 0 0) th)) := ⟨_, rfl⟩
  rw [← hσ] at h hU
  clear hσ
  generalize σ' = σ at h hU
  refine lv_aload_n hx hb dX9_ends_5 rfl (lv_at hl 0 rfl) ?_
  refine lv_iconst (v := -1) hx hb dX9_ends_6 (by decide +kernel) ?_
  refine um_put (v := .int (-1)) (ty := .int) (fs' := md_obj md (tb_set (tb_set q 13 0 0) 13 1 0) th) hx hb htg inX9 tyX9 tyX9_ok nmX9 hown hK hU h.obj rfl 11 (by decide) (htg _ tg_649) rfl (by decide +kernel) rfl rfl (by first | rfl | (unfold md_obj; simp [tb_set, va_up, tb_m1_0, tb_m1_s, List.set])) (Nat.le_of_ble_eq_true rfl) dX9_ends_7 (fun H locs hU => ?_)
  have h := h.put (q' := tb_set (tb_set q 13 0 0) 13 1 0) (th' := th) (fun i hi => tb_set_n _ _ _ (by omega))
  obtain ⟨σ', hσ⟩ : ∃ z, z = um_up σ (md 13) (.inr (md_ci, md_obj md (tb_set (tb_set q 13 0 0) 13 1 0) th)) := ⟨_, rfl⟩
  rw [← hσ] at h hU
  clear hσ
  generalize σ' = σ at h hU
  exact um_vret hx hb hr hlocks hK hJ hU dX9_ends_10 (by exact h)
