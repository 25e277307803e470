set_option maxRecDepth 100000 in
set_option maxHeartbeats 4000000 in
theorem xk_Lend (l : Launch) (D : va_G) (κ : Nat → ClassId) (τ : Nat → Nat) (A : Nat → Prop) (σ : um_M) (a : Nat) (x1 : Int32) (x2 : Int32) (x3 : Int32) (o : Option Nat) (hh : um_h σ a (.inr (1, [.int 0, .int 0, .int 0, .null, .int 0]))) : Met l yX1_init wsX1_init ({ frames := 1, cells := 0, slots := 0, locals := 12 }) (va_Pc [.ref a, .int x1, .int x2, .int x3, va_rf o] (um_U D κ τ A σ)) (va_Qv (fun σ' : um_M => σ' = um_up σ a (.inr (1, [.int x1, .int x2, .int x3, va_rf o, .int 0]))) (um_U D κ τ A) A) 0 0 A := by
  cases o with
  | none =>
    refine um_met (cc := cX1_init) (maxL := 5) (ret := none) (by decide) rfl rfl ?_
    intro pp ee s mm args below meth cd ls hx hb hr hts hown hlocks hml hnm hK hJ hU hl
    have hown : s.vm.findClass RX1 = some mm.cls := hown
    have htg : ∀ w ∈ lw_g, w.before args s = true := fun w h => hts w (List.mem_cons_of_mem _ h)
    have hl : lv_has ls 5 [(0, .ref a), (1, .int x1), (2, .int x2), (3, .int x3), (4, .null)] := hl
    refine lv_aload_n hx hb dX1_init_0 rfl (lv_at hl 0 rfl) ?_
    refine W.objInit hx hb hown (htg _ tg_326) (htg _ tg_25) (htg _ tg_26) rfl (by rw [hml]; exact hl.1) rfl dX1_init_1 (Nat.le_of_ble_eq_true rfl) (Nat.le_of_ble_eq_true rfl) ?_
    refine W.eq (g2 := F0 mm 4 ls []) rfl ?_
    refine lv_aload_n hx hb dX1_init_4 rfl (lv_at hl 0 rfl) ?_
    refine lv_iload_n hx hb dX1_init_5 rfl (lv_at hl 1 rfl) ?_
    refine um_putF (v := .int x1) (ty := .int) (fs' := [.int x1, .int 0, .int 0, .null, .int 0]) hx hb htg inX1 tyX1 tyX1_ok nmX1 hown hK hU hh rfl 0 (by decide) (htg _ tg_327) rfl hnm rfl (by decide +kernel) rfl rfl rfl (Nat.le_of_ble_eq_true rfl) dX1_init_6 (fun H locs hU => ?_)
    refine lv_aload_n hx hb dX1_init_9 rfl (lv_at hl 0 rfl) ?_
    refine lv_iload_n hx hb dX1_init_10 rfl (lv_at hl 2 rfl) ?_
    refine um_putF (v := .int x2) (ty := .int) (fs' := [.int x1, .int x2, .int 0, .null, .int 0]) hx hb htg inX1 tyX1 tyX1_ok nmX1 hown hK hU hh.self rfl 1 (by decide) (htg _ tg_329) rfl hnm rfl (by decide +kernel) rfl rfl rfl (Nat.le_of_ble_eq_true rfl) dX1_init_11 (fun H locs hU => ?_)
    rw [um_uu] at hU
    refine lv_aload_n hx hb dX1_init_14 rfl (lv_at hl 0 rfl) ?_
    refine lv_iload_n hx hb dX1_init_15 rfl (lv_at hl 3 rfl) ?_
    refine um_putF (v := .int x3) (ty := .int) (fs' := [.int x1, .int x2, .int x3, .null, .int 0]) hx hb htg inX1 tyX1 tyX1_ok nmX1 hown hK hU hh.self rfl 2 (by decide) (htg _ tg_331) rfl hnm rfl (by decide +kernel) rfl rfl rfl (Nat.le_of_ble_eq_true rfl) dX1_init_16 (fun H locs hU => ?_)
    rw [um_uu] at hU
    refine lv_aload_n hx hb dX1_init_19 rfl (lv_at hl 0 rfl) ?_
    refine lv_aloadN hx hb dX1_init_20 (lv_at hl 4 rfl) ?_
    refine um_putF (v := .null) (ty := .object "ForestTablets$Lend") (fs' := [.int x1, .int x2, .int x3, .null, .int 0]) hx hb htg inX1 tyX1 tyX1_ok nmX1 hown hK hU hh.self rfl 3 (by decide) (htg _ tg_333) rfl hnm rfl (by decide +kernel) rfl rfl rfl (Nat.le_of_ble_eq_true rfl) dX1_init_22 (fun H locs hU => ?_)
    rw [um_uu] at hU
    exact um_vret hx hb hr hlocks hK hJ hU dX1_init_25 rfl
  | some v9 =>
    refine um_met (cc := cX1_init) (maxL := 5) (ret := none) (by decide) rfl rfl ?_
    intro pp ee s mm args below meth cd ls hx hb hr hts hown hlocks hml hnm hK hJ hU hl
    have hown : s.vm.findClass RX1 = some mm.cls := hown
    have htg : ∀ w ∈ lw_g, w.before args s = true := fun w h => hts w (List.mem_cons_of_mem _ h)
    have hl : lv_has ls 5 [(0, .ref a), (1, .int x1), (2, .int x2), (3, .int x3), (4, .ref v9)] := hl
    refine lv_aload_n hx hb dX1_init_0 rfl (lv_at hl 0 rfl) ?_
    refine W.objInit hx hb hown (htg _ tg_326) (htg _ tg_25) (htg _ tg_26) rfl (by rw [hml]; exact hl.1) rfl dX1_init_1 (Nat.le_of_ble_eq_true rfl) (Nat.le_of_ble_eq_true rfl) ?_
    refine W.eq (g2 := F0 mm 4 ls []) rfl ?_
    refine lv_aload_n hx hb dX1_init_4 rfl (lv_at hl 0 rfl) ?_
    refine lv_iload_n hx hb dX1_init_5 rfl (lv_at hl 1 rfl) ?_
    refine um_putF (v := .int x1) (ty := .int) (fs' := [.int x1, .int 0, .int 0, .null, .int 0]) hx hb htg inX1 tyX1 tyX1_ok nmX1 hown hK hU hh rfl 0 (by decide) (htg _ tg_327) rfl hnm rfl (by decide +kernel) rfl rfl rfl (Nat.le_of_ble_eq_true rfl) dX1_init_6 (fun H locs hU => ?_)
    refine lv_aload_n hx hb dX1_init_9 rfl (lv_at hl 0 rfl) ?_
    refine lv_iload_n hx hb dX1_init_10 rfl (lv_at hl 2 rfl) ?_
    refine um_putF (v := .int x2) (ty := .int) (fs' := [.int x1, .int x2, .int 0, .null, .int 0]) hx hb htg inX1 tyX1 tyX1_ok nmX1 hown hK hU hh.self rfl 1 (by decide) (htg _ tg_329) rfl hnm rfl (by decide +kernel) rfl rfl rfl (Nat.le_of_ble_eq_true rfl) dX1_init_11 (fun H locs hU => ?_)
    rw [um_uu] at hU
    refine lv_aload_n hx hb dX1_init_14 rfl (lv_at hl 0 rfl) ?_
    refine lv_iload_n hx hb dX1_init_15 rfl (lv_at hl 3 rfl) ?_
    refine um_putF (v := .int x3) (ty := .int) (fs' := [.int x1, .int x2, .int x3, .null, .int 0]) hx hb htg inX1 tyX1 tyX1_ok nmX1 hown hK hU hh.self rfl 2 (by decide) (htg _ tg_331) rfl hnm rfl (by decide +kernel) rfl rfl rfl (Nat.le_of_ble_eq_true rfl) dX1_init_16 (fun H locs hU => ?_)
    rw [um_uu] at hU
    refine lv_aload_n hx hb dX1_init_19 rfl (lv_at hl 0 rfl) ?_
    refine lv_aload hx hb dX1_init_20 (lv_at hl 4 rfl) ?_
    refine um_putF (v := .ref v9) (ty := .object "ForestTablets$Lend") (fs' := [.int x1, .int x2, .int x3, .ref v9, .int 0]) hx hb htg inX1 tyX1 tyX1_ok nmX1 hown hK hU hh.self rfl 3 (by decide) (htg _ tg_333) rfl hnm rfl (by decide +kernel) rfl rfl rfl (Nat.le_of_ble_eq_true rfl) dX1_init_22 (fun H locs hU => ?_)
    rw [um_uu] at hU
    exact um_vret hx hb hr hlocks hK hJ hU dX1_init_25 rfl
set_option maxRecDepth 100000 in
set_option maxHeartbeats 4000000 in
theorem xk_Meas (l : Launch) (D : va_G) (κ : Nat → ClassId) (τ : Nat → Nat) (A : Nat → Prop) (σ : um_M) (a : Nat) (x1 : Int32) (x2 : Int32) (x3 : Int32) (x4 : Int32) (v : Nat) (o : Option Nat) (hh : um_h σ a (.inr (3, [.int 0, .int 0, .int 0, .int 0, .null, .null]))) : Met l yX3_init wsX3_init ({ frames := 1, cells := 0, slots := 0, locals := 12 }) (va_Pc [.ref a, .int x1, .int x2, .int x3, .int x4, .ref v, va_rf o] (um_U D κ τ A σ)) (va_Qv (fun σ' : um_M => σ' = um_up σ a (.inr (3, [.int x1, .int x2, .int x3, .int x4, .ref v, va_rf o]))) (um_U D κ τ A) A) 0 0 A := by
  cases o with
  | none =>
    refine um_met (cc := cX3_init) (maxL := 7) (ret := none) (by decide) rfl rfl ?_
    intro pp ee s mm args below meth cd ls hx hb hr hts hown hlocks hml hnm hK hJ hU hl
    have hown : s.vm.findClass RX3 = some mm.cls := hown
    have htg : ∀ w ∈ lw_g, w.before args s = true := fun w h => hts w (List.mem_cons_of_mem _ h)
    have hl : lv_has ls 7 [(0, .ref a), (1, .int x1), (2, .int x2), (3, .int x3), (4, .int x4), (5, .ref v), (6, .null)] := hl
    refine lv_aload_n hx hb dX3_init_0 rfl (lv_at hl 0 rfl) ?_
    refine W.objInit hx hb hown (htg _ tg_403) (htg _ tg_25) (htg _ tg_26) rfl (by rw [hml]; exact hl.1) rfl dX3_init_1 (Nat.le_of_ble_eq_true rfl) (Nat.le_of_ble_eq_true rfl) ?_
    refine W.eq (g2 := F0 mm 4 ls []) rfl ?_
    refine lv_aload_n hx hb dX3_init_4 rfl (lv_at hl 0 rfl) ?_
    refine lv_iload_n hx hb dX3_init_5 rfl (lv_at hl 1 rfl) ?_
    refine um_putF (v := .int x1) (ty := .int) (fs' := [.int x1, .int 0, .int 0, .int 0, .null, .null]) hx hb htg inX3 tyX3 tyX3_ok nmX3 hown hK hU hh rfl 0 (by decide) (htg _ tg_404) rfl hnm rfl (by decide +kernel) rfl rfl rfl (Nat.le_of_ble_eq_true rfl) dX3_init_6 (fun H locs hU => ?_)
    refine lv_aload_n hx hb dX3_init_9 rfl (lv_at hl 0 rfl) ?_
    refine lv_iload_n hx hb dX3_init_10 rfl (lv_at hl 2 rfl) ?_
    refine um_putF (v := .int x2) (ty := .int) (fs' := [.int x1, .int x2, .int 0, .int 0, .null, .null]) hx hb htg inX3 tyX3 tyX3_ok nmX3 hown hK hU hh.self rfl 1 (by decide) (htg _ tg_406) rfl hnm rfl (by decide +kernel) rfl rfl rfl (Nat.le_of_ble_eq_true rfl) dX3_init_11 (fun H locs hU => ?_)
    rw [um_uu] at hU
    refine lv_aload_n hx hb dX3_init_14 rfl (lv_at hl 0 rfl) ?_
    refine lv_iload_n hx hb dX3_init_15 rfl (lv_at hl 3 rfl) ?_
    refine um_putF (v := .int x3) (ty := .int) (fs' := [.int x1, .int x2, .int x3, .int 0, .null, .null]) hx hb htg inX3 tyX3 tyX3_ok nmX3 hown hK hU hh.self rfl 2 (by decide) (htg _ tg_408) rfl hnm rfl (by decide +kernel) rfl rfl rfl (Nat.le_of_ble_eq_true rfl) dX3_init_16 (fun H locs hU => ?_)
    rw [um_uu] at hU
    refine lv_aload_n hx hb dX3_init_19 rfl (lv_at hl 0 rfl) ?_
    refine lv_iload hx hb dX3_init_20 (lv_at hl 4 rfl) ?_
    refine um_putF (v := .int x4) (ty := .int) (fs' := [.int x1, .int x2, .int x3, .int x4, .null, .null]) hx hb htg inX3 tyX3 tyX3_ok nmX3 hown hK hU hh.self rfl 3 (by decide) (htg _ tg_411) rfl hnm rfl (by decide +kernel) rfl rfl rfl (Nat.le_of_ble_eq_true rfl) dX3_init_22 (fun H locs hU => ?_)
    rw [um_uu] at hU
    refine lv_aload_n hx hb dX3_init_25 rfl (lv_at hl 0 rfl) ?_
    refine lv_aload hx hb dX3_init_26 (lv_at hl 5 rfl) ?_
    refine um_putF (v := .ref v) (ty := .array .int) (fs' := [.int x1, .int x2, .int x3, .int x4, .ref v, .null]) hx hb htg inX3 tyX3 tyX3_ok nmX3 hown hK hU hh.self rfl 4 (by decide) (htg _ tg_413) rfl hnm rfl (by decide +kernel) rfl rfl rfl (Nat.le_of_ble_eq_true rfl) dX3_init_28 (fun H locs hU => ?_)
    rw [um_uu] at hU
    refine lv_aload_n hx hb dX3_init_31 rfl (lv_at hl 0 rfl) ?_
    refine lv_aloadN hx hb dX3_init_32 (lv_at hl 6 rfl) ?_
    refine um_putF (v := .null) (ty := .object "ForestTablets$Measure") (fs' := [.int x1, .int x2, .int x3, .int x4, .ref v, .null]) hx hb htg inX3 tyX3 tyX3_ok nmX3 hown hK hU hh.self rfl 5 (by decide) (htg _ tg_414) rfl hnm rfl (by decide +kernel) rfl rfl rfl (Nat.le_of_ble_eq_true rfl) dX3_init_34 (fun H locs hU => ?_)
    rw [um_uu] at hU
    exact um_vret hx hb hr hlocks hK hJ hU dX3_init_37 rfl
  | some v9 =>
    refine um_met (cc := cX3_init) (maxL := 7) (ret := none) (by decide) rfl rfl ?_
    intro pp ee s mm args below meth cd ls hx hb hr hts hown hlocks hml hnm hK hJ hU hl
    have hown : s.vm.findClass RX3 = some mm.cls := hown
    have htg : ∀ w ∈ lw_g, w.before args s = true := fun w h => hts w (List.mem_cons_of_mem _ h)
    have hl : lv_has ls 7 [(0, .ref a), (1, .int x1), (2, .int x2), (3, .int x3), (4, .int x4), (5, .ref v), (6, .ref v9)] := hl
    refine lv_aload_n hx hb dX3_init_0 rfl (lv_at hl 0 rfl) ?_
    refine W.objInit hx hb hown (htg _ tg_403) (htg _ tg_25) (htg _ tg_26) rfl (by rw [hml]; exact hl.1) rfl dX3_init_1 (Nat.le_of_ble_eq_true rfl) (Nat.le_of_ble_eq_true rfl) ?_
    refine W.eq (g2 := F0 mm 4 ls []) rfl ?_
    refine lv_aload_n hx hb dX3_init_4 rfl (lv_at hl 0 rfl) ?_
    refine lv_iload_n hx hb dX3_init_5 rfl (lv_at hl 1 rfl) ?_
    refine um_putF (v := .int x1) (ty := .int) (fs' := [.int x1, .int 0, .int 0, .int 0, .null, .null]) hx hb htg inX3 tyX3 tyX3_ok nmX3 hown hK hU hh rfl 0 (by decide) (htg _ tg_404) rfl hnm rfl (by decide +kernel) rfl rfl rfl (Nat.le_of_ble_eq_true rfl) dX3_init_6 (fun H locs hU => ?_)
    refine lv_aload_n hx hb dX3_init_9 rfl (lv_at hl 0 rfl) ?_
    refine lv_iload_n hx hb dX3_init_10 rfl (lv_at hl 2 rfl) ?_
    refine um_putF (v := .int x2) (ty := .int) (fs' := [.int x1, .int x2, .int 0, .int 0, .null, .null]) hx hb htg inX3 tyX3 tyX3_ok nmX3 hown hK hU hh.self rfl 1 (by decide) (htg _ tg_406) rfl hnm rfl (by decide +kernel) rfl rfl rfl (Nat.le_of_ble_eq_true rfl) dX3_init_11 (fun H locs hU => ?_)
    rw [um_uu] at hU
    refine lv_aload_n hx hb dX3_init_14 rfl (lv_at hl 0 rfl) ?_
    refine lv_iload_n hx hb dX3_init_15 rfl (lv_at hl 3 rfl) ?_
    refine um_putF (v := .int x3) (ty := .int) (fs' := [.int x1, .int x2, .int x3, .int 0, .null, .null]) hx hb htg inX3 tyX3 tyX3_ok nmX3 hown hK hU hh.self rfl 2 (by decide) (htg _ tg_408) rfl hnm rfl (by decide +kernel) rfl rfl rfl (Nat.le_of_ble_eq_true rfl) dX3_init_16 (fun H locs hU => ?_)
    rw [um_uu] at hU
    refine lv_aload_n hx hb dX3_init_19 rfl (lv_at hl 0 rfl) ?_
    refine lv_iload hx hb dX3_init_20 (lv_at hl 4 rfl) ?_
    refine um_putF (v := .int x4) (ty := .int) (fs' := [.int x1, .int x2, .int x3, .int x4, .null, .null]) hx hb htg inX3 tyX3 tyX3_ok nmX3 hown hK hU hh.self rfl 3 (by decide) (htg _ tg_411) rfl hnm rfl (by decide +kernel) rfl rfl rfl (Nat.le_of_ble_eq_true rfl) dX3_init_22 (fun H locs hU => ?_)
    rw [um_uu] at hU
    refine lv_aload_n hx hb dX3_init_25 rfl (lv_at hl 0 rfl) ?_
    refine lv_aload hx hb dX3_init_26 (lv_at hl 5 rfl) ?_
    refine um_putF (v := .ref v) (ty := .array .int) (fs' := [.int x1, .int x2, .int x3, .int x4, .ref v, .null]) hx hb htg inX3 tyX3 tyX3_ok nmX3 hown hK hU hh.self rfl 4 (by decide) (htg _ tg_413) rfl hnm rfl (by decide +kernel) rfl rfl rfl (Nat.le_of_ble_eq_true rfl) dX3_init_28 (fun H locs hU => ?_)
    rw [um_uu] at hU
    refine lv_aload_n hx hb dX3_init_31 rfl (lv_at hl 0 rfl) ?_
    refine lv_aload hx hb dX3_init_32 (lv_at hl 6 rfl) ?_
    refine um_putF (v := .ref v9) (ty := .object "ForestTablets$Measure") (fs' := [.int x1, .int x2, .int x3, .int x4, .ref v, .ref v9]) hx hb htg inX3 tyX3 tyX3_ok nmX3 hown hK hU hh.self rfl 5 (by decide) (htg _ tg_414) rfl hnm rfl (by decide +kernel) rfl rfl rfl (Nat.le_of_ble_eq_true rfl) dX3_init_34 (fun H locs hU => ?_)
    rw [um_uu] at hU
    exact um_vret hx hb hr hlocks hK hJ hU dX3_init_37 rfl
set_option maxRecDepth 100000 in
set_option maxHeartbeats 4000000 in
theorem xl_addLend (l : Launch) (D : va_G) (κ : Nat → ClassId) (τ : Nat → Nat) (A : Nat → Prop) (σ : um_M) (xd la ma va : Nat → Nat) (q : tb_Q) (sc : xs_S) (h : xs_at κ σ xd la ma va q sc) (hq : tb_sm q) (q2 : tb_Q) (p t e : Nat) (hp : p < 6) (ht1 : 1 ≤ t) (hm : ∀ d, q 0 d ≤ 40) (hlt : ∀ k, xs_isL q k → 1 ≤ q 4 k ∧ q 4 k < 5) (hi : xs_ins q q2 0 e) (hk1 : q2 1 e = 0) (hk2 : q2 2 e = p) (hk4 : q2 4 e = t) (hk5 : q2 5 e = xs_nx q p) (hbk : xs_bk q t p (xs_nx q p) (q 0 t) = 0) : Met l yX2_addLend wsX2_addLend ({ frames := 2, cells := 1, slots := 5, locals := 36 }) (va_Pc [.ref (xd 14), .int (nI (p)), .int (nI (t)), .int (nI (e + 1))] (um_U D κ τ A σ)) (va_Qi (fun (r9 : Int32) (σ' : um_M) => r9 = nI (xs_nx q p) ∧ ∃ la', xs_at κ σ' xd la' ma va q2 sc) (um_U D κ τ A) A) 1 5 A := by
  refine um_met (cc := cX2_addLend) (maxL := 6) (ret := (some .int)) (by decide) rfl rfl ?_
  intro pp ee s mm args below meth cd ls hx hb hr hts hown hlocks hml hnm hK hJ hU hl
  have hown : s.vm.findClass RX2 = some mm.cls := hown
  have htg : ∀ w ∈ lw_g, w.before args s = true := fun w h => hts w (List.mem_cons_of_mem _ h)
  have hl : lv_has ls 6 [(0, .ref (xd 14)), (1, .int (nI (p))), (2, .int (nI (t))), (3, .int (nI (e + 1)))] := hl
  refine lv_aload_n hx hb dX2_addLend_0 rfl (lv_at hl 0 rfl) ?_
  refine um_get (v := .ref (xd 15)) hx hb htg inX2 hown hK hU h.c14 rfl 0 (by decide) (htg _ tg_60) rfl dX2_addLend_1 ?_
  refine lv_iload_n hx hb dX2_addLend_4 rfl (lv_at hl 1 rfl) ?_
  refine um_ald (C := RX1) (r := (xs_ll q p (q 0 0)).map la) hx hb hK hU 3 h.c15 rfl p rfl (by omega) (by decide) rfl dX2_addLend_5 ?_
  refine um_astoreQ (lv' := [(4, va_rf ((xs_ll q p (q 0 0)).map la)), (0, .ref (xd 14)), (1, .int (nI (p))), (2, .int (nI (t))), (3, .int (nI (e + 1)))]) hx hb dX2_addLend_6 hl (by decide) rfl (fun ls hl => ?_)
  cases ho : xs_ll q p (q 0 0) with
  | none =>
    rw [ho] at hl
    have hl : lv_has ls 6 [(4, .null), (0, .ref (xd 14)), (1, .int (nI (p))), (2, .int (nI (t))), (3, .int (nI (e + 1)))] := hl
    refine lv_aloadN hx hb dX2_addLend_8 (lv_at hl 0 rfl) ?_
    refine lv_ifnonnullN hx hb dX2_addLend_10 ?_
    refine lv_iconst (v := nI 1) hx hb dX2_addLend_13 (by decide +kernel) ?_
    refine lv_goto (tgt := 24) hx hb dX2_addLend_14 (by decide) ?_
    refine lv_istore (lv' := [(5, .int (nI (1))), (4, .null), (0, .ref (xd 14)), (1, .int (nI (p))), (2, .int (nI (t))), (3, .int (nI (e + 1)))]) hx hb dX2_addLend_24 hl (by decide) rfl (fun ls hl => ?_)
    refine lv_aload_n hx hb dX2_addLend_26 rfl (lv_at hl 2 rfl) ?_
    refine um_get (v := .ref (xd 15)) hx hb htg inX2 hown hK hU h.c14 rfl 0 (by decide) (htg _ tg_60) rfl dX2_addLend_27 ?_
    refine lv_iload_n hx hb dX2_addLend_30 rfl (lv_at hl 3 rfl) ?_
    have hn := xs_nx_n ho
    refine um_new (ci := 1) (fs := [.int 0, .int 0, .int 0, .null, .int 0]) hx hb htg inX1 tyX1 tyX1_ok hown (htg _ tg_58) (htg _ tg_322) (htg _ tg_15) hK hU rfl dfX1 (Nat.le_of_ble_eq_true rfl) (Nat.le_of_ble_eq_true rfl) dX2_addLend_31 (fun a9 H ha9 hU => ?_)
    refine lv_dup hx hb dX2_addLend_34 rfl ?_
    refine lv_iload hx hb dX2_addLend_35 (lv_at hl 0 rfl) ?_
    refine lv_iload_n hx hb dX2_addLend_37 rfl (lv_at hl 5 rfl) ?_
    refine lv_iload_n hx hb dX2_addLend_38 rfl (lv_at hl 4 rfl) ?_
    refine lv_aloadN hx hb dX2_addLend_39 (lv_at hl 1 rfl) ?_
    refine um_callv (va_runI (As := [.int (nI (1)), .int (nI (e + 1)), .int (nI t), .null]) (rest := [.ref a9, .int (nI p), .ref (xd 15)]) ⟨hx, hb, hml, hown, htg⟩ (xk_Lend l D κ τ A _ a9 (nI (1)) (nI (e + 1)) (nI t) none um_h.new) (cwI 4 htg (lw_cI tg_325) rfl rfl rfl (htg _ tg_15) (htg _ tg_323) (htg _ tg_324) rfl (by decide +kernel) ⟨Nat.le_of_ble_eq_true rfl, Nat.le_of_ble_eq_true rfl⟩) (um_preS hU hK hJ) rfl rfl hl.1 rfl (lv_room (Nat.le_of_ble_eq_true rfl)) dX2_addLend_41 ⟨Nat.le_of_ble_eq_true rfl, Nat.le_of_ble_eq_true rfl⟩) hU (fun σ2 H locs hs2 hU => ?_)
    subst hs2
    have hne : xd 15 ≠ a9 := fun z => ha9 (z ▸ h.c15.1)
    have h15 := (h.c15.nw ha9 (e := .inr (1, [.int 0, .int 0, .int 0, .null, .int 0]))).up hne (e := .inr (1, [.int (nI (1)), .int (nI (e + 1)), .int (nI t), va_rf none, .int 0]))
    refine um_ast (r := (RX1, TX1, 5)) hx hb hK hU 3 1 h15 rfl um_h.new.self rfl p rfl (by omega) (by decide) dX2_addLend_44 (fun H locs hU => ?_)
    have h := h.insL hm hlt hi hk1 hk2 hk4 (hk5.trans hn) ht1 (by rw [← hn]; exact hbk) (fun b x hb9 hx9 => ((hx9.nw ha9).up (um_ne9 ha9 hx9)).up hb9) h15.self (by rw [ho]; exact um_h.new.self.up hne.symm)
    generalize um_up _ (xd 15) _ = σ at h hU
    refine lv_iload hx hb dX2_addLend_45 (lv_at hl 0 rfl) ?_
    exact um_iret hx hb hr hlocks hK hJ hU dX2_addLend_47 ⟨congrArg nI (by exact hn.symm), (by exact ⟨_, h⟩)⟩
  | some k =>
    rw [ho] at hl
    have hl : lv_has ls 6 [(4, .ref (la k)), (0, .ref (xd 14)), (1, .int (nI (p))), (2, .int (nI (t))), (3, .int (nI (e + 1)))] := hl
    have hk3 := xs_ll_some ho
    have hL : xs_isL q k := ⟨by omega, hk3.2.1⟩
    refine lv_aload hx hb dX2_addLend_8 (lv_at hl 0 rfl) ?_
    refine lv_ifnonnull (tgt := 17) hx hb dX2_addLend_10 (by decide) ?_
    refine lv_aload hx hb dX2_addLend_17 (lv_at hl 0 rfl) ?_
    refine um_get (v := .int (nI (q 5 k))) hx hb htg inX1 hown hK hU (show um_h σ (la k) (.inr (1, _)) from h.2.2.1 k hL) rfl 0 (by decide) (htg _ tg_328) rfl dX2_addLend_19 ?_
    refine lv_iconst (v := nI 1) hx hb dX2_addLend_22 (by decide +kernel) ?_
    refine um_addN hx hb dX2_addLend_23 ?_
    refine lv_istore (lv' := [(5, .int (nI ((q 5 k) + 1))), (4, .ref (la k)), (0, .ref (xd 14)), (1, .int (nI (p))), (2, .int (nI (t))), (3, .int (nI (e + 1)))]) hx hb dX2_addLend_24 hl (by decide) rfl (fun ls hl => ?_)
    refine lv_aload_n hx hb dX2_addLend_26 rfl (lv_at hl 2 rfl) ?_
    refine um_get (v := .ref (xd 15)) hx hb htg inX2 hown hK hU h.c14 rfl 0 (by decide) (htg _ tg_60) rfl dX2_addLend_27 ?_
    refine lv_iload_n hx hb dX2_addLend_30 rfl (lv_at hl 3 rfl) ?_
    have hn := xs_nx_s ho
    refine um_new (ci := 1) (fs := [.int 0, .int 0, .int 0, .null, .int 0]) hx hb htg inX1 tyX1 tyX1_ok hown (htg _ tg_58) (htg _ tg_322) (htg _ tg_15) hK hU rfl dfX1 (Nat.le_of_ble_eq_true rfl) (Nat.le_of_ble_eq_true rfl) dX2_addLend_31 (fun a9 H ha9 hU => ?_)
    refine lv_dup hx hb dX2_addLend_34 rfl ?_
    refine lv_iload hx hb dX2_addLend_35 (lv_at hl 0 rfl) ?_
    refine lv_iload_n hx hb dX2_addLend_37 rfl (lv_at hl 5 rfl) ?_
    refine lv_iload_n hx hb dX2_addLend_38 rfl (lv_at hl 4 rfl) ?_
    refine lv_aload hx hb dX2_addLend_39 (lv_at hl 1 rfl) ?_
    refine um_callv (va_runI (As := [.int (nI ((q 5 k) + 1)), .int (nI (e + 1)), .int (nI t), .ref (la k)]) (rest := [.ref a9, .int (nI p), .ref (xd 15)]) ⟨hx, hb, hml, hown, htg⟩ (xk_Lend l D κ τ A _ a9 (nI ((q 5 k) + 1)) (nI (e + 1)) (nI t) (some (la k)) um_h.new) (cwI 4 htg (lw_cI tg_325) rfl rfl rfl (htg _ tg_15) (htg _ tg_323) (htg _ tg_324) rfl (by decide +kernel) ⟨Nat.le_of_ble_eq_true rfl, Nat.le_of_ble_eq_true rfl⟩) (um_preS hU hK hJ) rfl rfl hl.1 rfl (lv_room (Nat.le_of_ble_eq_true rfl)) dX2_addLend_41 ⟨Nat.le_of_ble_eq_true rfl, Nat.le_of_ble_eq_true rfl⟩) hU (fun σ2 H locs hs2 hU => ?_)
    subst hs2
    have hne : xd 15 ≠ a9 := fun z => ha9 (z ▸ h.c15.1)
    have h15 := (h.c15.nw ha9 (e := .inr (1, [.int 0, .int 0, .int 0, .null, .int 0]))).up hne (e := .inr (1, [.int (nI ((q 5 k) + 1)), .int (nI (e + 1)), .int (nI t), va_rf (some (la k)), .int 0]))
    refine um_ast (r := (RX1, TX1, 5)) hx hb hK hU 3 1 h15 rfl um_h.new.self rfl p rfl (by omega) (by decide) dX2_addLend_44 (fun H locs hU => ?_)
    have h := h.insL hm hlt hi hk1 hk2 hk4 (hk5.trans hn) ht1 (by rw [← hn]; exact hbk) (fun b x hb9 hx9 => ((hx9.nw ha9).up (um_ne9 ha9 hx9)).up hb9) h15.self (by rw [ho]; exact um_h.new.self.up hne.symm)
    generalize um_up _ (xd 15) _ = σ at h hU
    refine lv_iload hx hb dX2_addLend_45 (lv_at hl 0 rfl) ?_
    exact um_iret hx hb hr hlocks hK hJ hU dX2_addLend_47 ⟨congrArg nI (by exact hn.symm), (by exact ⟨_, h⟩)⟩

set_option maxRecDepth 100000 in
set_option maxHeartbeats 4000000 in
theorem xn_add (l : Launch) (D : va_G) (κ : Nat → ClassId) (τ : Nat → Nat) (A : Nat → Prop) (σ : um_M) (xd la ma va : Nat → Nat) (q : tb_Q) (sc : xs_S) (h : xs_at κ σ xd la ma va q sc) (q2 : tb_Q) (p f d e w n b : Nat) (hd : d < 5) (hm : ∀ d, q 0 d ≤ 40) (hi : xs_ins q q2 d e) (hk1 : q2 1 e = 2) (hk2 : q2 2 e = p) (hk3 : q2 3 e = f) (hk4 : q2 4 e = w) (hk5 : q2 5 e = n) (hsp : 12 * p + f < 72) (hv : um_h σ b (xs_vec κ q2 e)) (hvb : ∀ i, i < 29 → b ≠ xd i) : Met l yX4_add wsX4_add ({ frames := 2, cells := 1, slots := 6, locals := 38 }) (va_Pc [.ref (xd 16), .int (nI (12 * p + f)), .int (nI (d)), .int (nI (q 0 d + 1)), .int (nI (w)), .int (nI (n)), .ref (b)] (um_U D κ τ A σ)) (va_Qv (fun σ' : um_M => ∃ ma' va', xs_at κ σ' xd la ma' va' q2 sc) (um_U D κ τ A) A) 1 6 A := by
  refine um_met (cc := cX4_add) (maxL := 8) (ret := none) (by decide) rfl rfl ?_
  intro pp ee s mm args below meth cd ls hx hb hr hts hown hlocks hml hnm hK hJ hU hl
  have hown : s.vm.findClass RX4 = some mm.cls := hown
  have htg : ∀ w ∈ lw_g, w.before args s = true := fun w h => hts w (List.mem_cons_of_mem _ h)
  have hl : lv_has ls 8 [(0, .ref (xd 16)), (1, .int (nI (12 * p + f))), (2, .int (nI (d))), (3, .int (nI (q 0 d + 1))), (4, .int (nI (w))), (5, .int (nI (n))), (6, .ref (b))] := hl
  refine lv_iload_n hx hb dX4_add_0 rfl (lv_at hl 1 rfl) ?_
  refine lv_iconst (v := nI 5) hx hb dX4_add_1 (by decide +kernel) ?_
  refine um_mulN hx hb dX4_add_2 ?_
  refine lv_iload_n hx hb dX4_add_3 rfl (lv_at hl 2 rfl) ?_
  refine um_addN hx hb dX4_add_4 ?_
  refine lv_istore (lv' := [(7, .int (nI (((12 * p + f) * 5) + d))), (0, .ref (xd 16)), (1, .int (nI (12 * p + f))), (2, .int (nI (d))), (3, .int (nI (q 0 d + 1))), (4, .int (nI (w))), (5, .int (nI (n))), (6, .ref (b))]) hx hb dX4_add_5 hl (by decide) rfl (fun ls hl => ?_)
  refine lv_aload_n hx hb dX4_add_7 rfl (lv_at hl 1 rfl) ?_
  refine um_get (v := .ref (xd 17)) hx hb htg inX4 hown hK hU h.c16 rfl 0 (by decide) (htg _ tg_72) rfl dX4_add_8 ?_
  refine lv_iload hx hb dX4_add_11 (lv_at hl 0 rfl) ?_
  refine um_new (ci := 3) (fs := [.int 0, .int 0, .int 0, .int 0, .null, .null]) hx hb htg inX3 tyX3 tyX3_ok hown (htg _ tg_70) (htg _ tg_399) (htg _ tg_16) hK hU rfl dfX3 (Nat.le_of_ble_eq_true rfl) (Nat.le_of_ble_eq_true rfl) dX4_add_13 (fun a9 H ha9 hU => ?_)
  refine lv_dup hx hb dX4_add_16 rfl ?_
  refine lv_iload_n hx hb dX4_add_17 rfl (lv_at hl 3 rfl) ?_
  refine lv_iload_n hx hb dX4_add_18 rfl (lv_at hl 4 rfl) ?_
  refine lv_iload hx hb dX4_add_19 (lv_at hl 5 rfl) ?_
  refine lv_iload hx hb dX4_add_21 (lv_at hl 6 rfl) ?_
  refine lv_aload hx hb dX4_add_23 (lv_at hl 7 rfl) ?_
  refine lv_aload_n hx hb dX4_add_25 rfl (lv_at hl 1 rfl) ?_
  refine um_get (v := .ref (xd 17)) hx hb htg inX4 hown hK hU (h.c16.nw ha9) rfl 0 (by decide) (htg _ tg_72) rfl dX4_add_26 ?_
  refine lv_iload hx hb dX4_add_29 (lv_at hl 0 rfl) ?_
  refine um_ald (C := RX3) (r := (xs_lm q (12 * p + f) d (q 0 d)).map ma) hx hb hK hU 4 (h.c17.nw ha9) rfl ((12 * p + f) * 5 + d) rfl (by omega) (by decide) (by show (xs_lm q (((12 * p + f) * 5 + d) / 5) (((12 * p + f) * 5 + d) % 5) (q 0 (((12 * p + f) * 5 + d) % 5))).map ma = _; rw [show ((12 * p + f) * 5 + d) / 5 = 12 * p + f by omega, show ((12 * p + f) * 5 + d) % 5 = d by omega]) dX4_add_31 ?_
  refine um_callv (va_runI (As := [.int (nI d), .int (nI (q 0 d + 1)), .int (nI w), .int (nI n), .ref b, va_rf ((xs_lm q (12 * p + f) d (q 0 d)).map ma)]) (rest := [.ref a9, .int (nI ((12 * p + f) * 5 + d)), .ref (xd 17)]) ⟨hx, hb, hml, hown, htg⟩ (xk_Meas l D κ τ A _ a9 (nI d) (nI (q 0 d + 1)) (nI w) (nI n) b ((xs_lm q (12 * p + f) d (q 0 d)).map ma) um_h.new) (cwI 6 htg (lw_cI tg_402) rfl rfl rfl (htg _ tg_16) (htg _ tg_400) (htg _ tg_401) rfl (by decide +kernel) ⟨Nat.le_of_ble_eq_true rfl, Nat.le_of_ble_eq_true rfl⟩) (um_preS hU hK hJ) rfl rfl hl.1 rfl (lv_room (Nat.le_of_ble_eq_true rfl)) dX4_add_32 ⟨Nat.le_of_ble_eq_true rfl, Nat.le_of_ble_eq_true rfl⟩) hU (fun σ2 H locs hs2 hU => ?_)
  subst hs2
  have hne : xd 17 ≠ a9 := fun z => ha9 (z ▸ h.c17.1)
  have h17 := (h.c17.nw ha9 (e := .inr (3, [.int 0, .int 0, .int 0, .int 0, .null, .null]))).up hne (e := .inr (3, [.int (nI d), .int (nI (q 0 d + 1)), .int (nI w), .int (nI n), .ref b, va_rf ((xs_lm q (12 * p + f) d (q 0 d)).map ma)]))
  refine um_ast (r := (RX3, TX3, 6)) hx hb hK hU 4 3 h17 rfl um_h.new.self rfl ((12 * p + f) * 5 + d) rfl (by omega) (by decide) dX4_add_35 (fun H locs hU => ?_)
  have h := h.insM hm hi hk1 hk2 hk3 hk4 hk5 hsp (((hv.nw ha9).up (um_ne9 ha9 hv)).up (hvb 17 (by decide))) hvb (fun b x hb9 hx9 => ((hx9.nw ha9).up (um_ne9 ha9 hx9)).up hb9) h17.self (um_h.new.self.up hne.symm)
  generalize um_up _ (xd 17) _ = σ at h hU
  exact um_vret hx hb hr hlocks hK hJ hU dX4_add_36 (by exact ⟨_, _, h⟩)

set_option maxRecDepth 100000 in
set_option maxHeartbeats 4000000 in
theorem xf_write (l : Launch) (D : va_G) (κ : Nat → ClassId) (τ : Nat → Nat) (A : Nat → Prop) (σ : um_M) (xd la ma va : Nat → Nat) (q : tb_Q) (sc : xs_S) (h : xs_at κ σ xd la ma va q sc) (ok : tb_ok q) (d p f w n : Nat) (hd : d < 5) (hsp : 12 * p + f < 72) (h40 : q 0 d < 40) : Met l yX8_write wsX8_write ({ frames := 3, cells := 2, slots := 11, locals := 102 }) (va_Pc [.ref (xd 0), .int (nI (d)), .int (nI (12 * p + f)), .int (nI (w)), .int (nI (n))] (um_U D κ τ A σ)) (va_Qi (fun (r9 : Int32) (σ' : um_M) => r9 = nI (q 0 d + 1) ∧ ∃ ma' va', xs_at κ σ' xd la ma' va' (tb_ent q d 2 p f w n) sc) (um_U D κ τ A) A) 2 11 A := by
  refine um_met (cc := cX8_write) (maxL := 7) (ret := (some .int)) (by decide) rfl rfl ?_
  intro pp ee s mm args below meth cd ls hx hb hr hts hown hlocks hml hnm hK hJ hU hl
  have hown : s.vm.findClass RX8 = some mm.cls := hown
  have htg : ∀ w ∈ lw_g, w.before args s = true := fun w h => hts w (List.mem_cons_of_mem _ h)
  have hl : lv_has ls 7 [(0, .ref (xd 0)), (1, .int (nI (d))), (2, .int (nI (12 * p + f))), (3, .int (nI (w))), (4, .int (nI (n)))] := hl
  have hq := ok.sm
  refine lv_aload_n hx hb dX8_write_0 rfl (lv_at hl 0 rfl) ?_
  refine um_get (v := .ref (xd 1)) hx hb htg inX8 hown hK hU h.c0 rfl 0 (by decide) (htg _ tg_157) rfl dX8_write_1 ?_
  refine um_get (v := .ref (xd 2)) hx hb htg inX0 hown hK hU h.c1 rfl 0 (by decide) (htg _ tg_36) rfl dX8_write_4 ?_
  refine lv_iload_n hx hb dX8_write_7 rfl (lv_at hl 1 rfl) ?_
  refine xs_gld (b := 4) hx hb hK hU h.c2 d (by omega) dX8_write_8 ?_
  refine um_clone hx hb (by rw [hml]; exact hl.1.symm) hown (htg _ tg_388) (htg _ tg_389) (htg _ tg_390) (htg _ tg_391) (htg _ tg_392) hJ.2.2.2.2.2.2.2.1 hK hU (h.row (by omega)) (Nat.le_of_ble_eq_true rfl) (Nat.le_of_ble_eq_true rfl) (Nat.le_of_ble_eq_true rfl) (Nat.le_of_ble_eq_true rfl) dX8_write_9 (fun b9 H hU hR hap => ?_)
  refine um_cast hx hb hown (htg _ tg_394) hK hR (um_one_h _ _) dX8_write_12 ?_
  refine lv_astore (lv' := [(5, .ref (b9)), (0, .ref (xd 0)), (1, .int (nI (d))), (2, .int (nI (12 * p + f))), (3, .int (nI (w))), (4, .int (nI (n)))]) hx hb dX8_write_15 hl (by decide) rfl (fun ls hl => ?_)
  refine lv_aload_n hx hb dX8_write_17 rfl (lv_at hl 1 rfl) ?_
  refine um_get (v := .ref (xd 1)) hx hb htg inX8 hown hK hU h.c0 rfl 0 (by decide) (htg _ tg_157) rfl dX8_write_18 ?_
  refine lv_iload_n hx hb dX8_write_21 rfl (lv_at hl 2 rfl) ?_
  refine um_call2i (va_runV (As := [.int (nI (d))]) (rest := []) ⟨hx, hb, hml, hown, htg⟩ (xc_addEntry l D κ τ (um_Am A _) σ xd la ma va q sc h d (by omega)) (cwV 1 htg (lw_cV tg_307 tg_308 tg_309 tg_2 tg_310) rfl rfl rfl (by decide +kernel) ⟨Nat.le_of_ble_eq_true rfl, Nat.le_of_ble_eq_true rfl⟩) (um_preV2 hU hR hap hK hJ h.c1 rfl) rfl rfl hl.1 rfl (lv_room (Nat.le_of_ble_eq_true rfl)) dX8_write_22 ⟨Nat.le_of_ble_eq_true rfl, Nat.le_of_ble_eq_true rfl⟩) hU hR (fun r9 σ H locs h hU hR hap => ?_)
  obtain ⟨rfl, h⟩ := h
  have hvb : ∀ i, i < 29 → b9 ≠ xd i := fun i hi z => hap _ ((h.1 i hi).1) (by rw [← z]; exact List.mem_cons_self)
  have hv := um_h.jr hap (um_one_h b9 (xs_A (κ 0) 5 (fun j => nI (xs_row q 7 d j))))
  have hU := hU.join hR hap
  have h := h.jl (ρ := um_one b9 (xs_A (κ 0) 5 (fun j => nI (xs_row q 7 d j))))
  generalize um_jn _ _ = σ at h hU hv
  have h : xs_at κ σ xd la ma va (tb_cnt1 q d) sc := h
  rw [show q 7 (5 * d + d) + 1 = q 0 d + 1 from by rw [(ok.own d hd).1]]
  refine lv_istore (lv' := [(6, .int (nI (q 0 d + 1))), (5, .ref (b9)), (0, .ref (xd 0)), (1, .int (nI (d))), (2, .int (nI (12 * p + f))), (3, .int (nI (w))), (4, .int (nI (n)))]) hx hb dX8_write_25 hl (by decide) rfl (fun ls hl => ?_)
  refine lv_aload_n hx hb dX8_write_27 rfl (lv_at hl 2 rfl) ?_
  refine um_get (v := .ref (xd 16)) hx hb htg inX8 hown hK hU h.c0 rfl 2 (by decide) (htg _ tg_159) rfl dX8_write_28 ?_
  refine lv_iload_n hx hb dX8_write_31 rfl (lv_at hl 4 rfl) ?_
  refine lv_iload_n hx hb dX8_write_32 rfl (lv_at hl 3 rfl) ?_
  refine lv_iload hx hb dX8_write_33 (lv_at hl 0 rfl) ?_
  refine lv_iload_n hx hb dX8_write_35 rfl (lv_at hl 5 rfl) ?_
  refine lv_iload hx hb dX8_write_36 (lv_at hl 6 rfl) ?_
  refine lv_aload hx hb dX8_write_38 (lv_at hl 1 rfl) ?_
  refine um_callv (va_runV (As := [.int (nI (12 * p + f)), .int (nI (d)), .int (nI (q 0 d + 1)), .int (nI (w)), .int (nI (n)), .ref (b9)]) (rest := []) ⟨hx, hb, hml, hown, htg⟩ (xn_add l D κ τ A σ xd la ma va (tb_cnt1 q d) sc h (tb_ent q d 2 p f w n) p f d (40 * d + q 0 d) w n b9 hd (by intro d9; rw [tb_cnt1_n (by decide) (by decide)]; exact ok.m40 d9) (tb_ent_ins hd h40) (by rw [tb_ent_1, va_up_self]) (by rw [tb_ent_2, va_up_self]) (by rw [tb_ent_3, va_up_self]) (by rw [tb_ent_4, va_up_self]) (by rw [tb_ent_5, va_up_self]) hsp (by rw [xs_vec_ent]; exact hv) hvb) (cwV 6 htg (lw_cV tg_395 tg_396 tg_397 tg_4 tg_398) rfl rfl rfl (by decide +kernel) ⟨Nat.le_of_ble_eq_true rfl, Nat.le_of_ble_eq_true rfl⟩) (um_preV hU hK hJ h.c16 rfl) rfl rfl hl.1 rfl (lv_room (Nat.le_of_ble_eq_true rfl)) dX8_write_40 ⟨Nat.le_of_ble_eq_true rfl, Nat.le_of_ble_eq_true rfl⟩) hU (fun σ H locs h hU => ?_)
  obtain ⟨ma', va', h⟩ := h
  refine lv_iload hx hb dX8_write_43 (lv_at hl 0 rfl) ?_
  exact um_iret hx hb hr hlocks hK hJ hU dX8_write_45 ⟨congrArg nI (by rfl), (by exact ⟨_, _, h⟩)⟩
