set_option maxRecDepth 100000 in
set_option maxHeartbeats 4000000 in
theorem lw_loop {p : Program} {l : Launch} {e : Env} {R : Room} {s : State} {m : MethodId} {args : Array Value} {below : List Frame} {meth : Method} {c : Code} {Q : State → Prop} {D : va_G} {A : Nat → Prop} {κ : Nat → ClassId} {τ : Nat → Nat} {xd md : Nat → Nat} {o b Ls : Nat} {xs : Nat → Int32} (hx : p.tables.exec = Jvm.exec) (hb : c.code = cL_law) (hst : l.stackTraces = false) (hml : c.maxLocals = 8) (hown : s.vm.findClass RL = some m.cls) (htg : ∀ w ∈ lw_g, w.before args s = true) (hK : va_K D vwCl (um_T κ) s) (hJ : um_J τ A s s.heap) (hX : va_X b Ls xs s s.heap) (hbl : b < s.heap.size) (hbA : ¬ A b) (hLs : Ls ≤ 3072) (hfr : 11 ≤ R.frames) (hlo : 432 ≤ R.locals)
    (kend : ∀ (H1 : Heap) (locs1 : List Loc) (ls1 : Array Slot) (cells1 slots1 : Nat), va_S A s.heap H1 locs1 → cells1 ≤ R.cells → slots1 ≤ R.slots → W p l e R s m args below meth c H1 locs1 cells1 slots1 Q (F0 m 1287 ls1 [])) :
    ∀ (n i : Nat) (q : tb_Q) (H : Heap) (locs : List Loc) (ls : Array Slot) (cells slots : Nat), Ls < i + 6 * n → i ≤ Ls + 6 → tb_ok q → lw_W D κ A s xd md o q H locs → lv_has ls 8 [(0, .ref b), (1, .ref (xd 0)), (2, .ref (md 13)), (3, .ref o), (4, .int (nI i))] → cells + 5 * n ≤ R.cells → slots + 29 * n ≤ R.slots → W p l e R s m args below meth c H locs cells slots Q (F0 m 23 ls []) := by
  intro n
  induction n with
  | zero =>
    intro i q H locs ls cells slots hn hi9 ok h hl hc hs
    have hS : va_S A s.heap H locs := by
      obtain ⟨π, σ, la, ma, va, sc, v, th, hxo, hmd, hU, hM, hap⟩ := h
      exact hU.2.2.1
    refine lv_iload hx hb dL_law_23 (lv_at hl 4 rfl) ?_
    refine lv_aload_n hx hb dL_law_25 rfl (lv_at hl 0 rfl) ?_
    refine va_slen hx hb hX hbl hbA hS dL_law_26 ?_
    refine lv_bipush (v := nI 6) hx hb dL_law_27 (by decide +kernel) ?_
    refine lv_isub hx hb dL_law_29 ?_
    refine lv_icmp_gt (tgt := 1287) hx hb dL_law_30 (by decide) (fun _ => kend _ _ _ _ _ hS (by omega) (by omega)) (fun z => ?_)
    have hle : i + 6 ≤ Ls := by
      have z9 : ¬ Ls < i + 6 := fun w => z ((lw_6 (by omega) (by omega)).mpr w)
      omega
    exact absurd hn (by omega)
  | succ n ih =>
    intro i q H locs ls cells slots hn hi9 ok h hl hc hs
    have hS : va_S A s.heap H locs := by
      obtain ⟨π, σ, la, ma, va, sc, v, th, hxo, hmd, hU, hM, hap⟩ := h
      exact hU.2.2.1
    refine lv_iload hx hb dL_law_23 (lv_at hl 4 rfl) ?_
    refine lv_aload_n hx hb dL_law_25 rfl (lv_at hl 0 rfl) ?_
    refine va_slen hx hb hX hbl hbA hS dL_law_26 ?_
    refine lv_bipush (v := nI 6) hx hb dL_law_27 (by decide +kernel) ?_
    refine lv_isub hx hb dL_law_29 ?_
    refine lv_icmp_gt (tgt := 1287) hx hb dL_law_30 (by decide) (fun _ => kend _ _ _ _ _ hS (by omega) (by omega)) (fun z => ?_)
    have hle : i + 6 ≤ Ls := by
      have z9 : ¬ Ls < i + 6 := fun w => z ((lw_6 (by omega) (by omega)).mpr w)
      omega
    have step : ∀ (q9 : tb_Q) (H1 : Heap) (locs1 : List Loc) (ls1 : Array Slot), tb_ok q9 → lw_W D κ A s xd md o q9 H1 locs1 → lv_has ls1 8 [(0, .ref b), (1, .ref (xd 0)), (2, .ref (md 13)), (3, .ref o), (4, .int (nI i))] → W p l e R s m args below meth c H1 locs1 (cells + 5) (slots + 29) Q (F0 m 1281 ls1 []) := by
      intro q9 H1 locs1 ls1 ok9 h9 hl9
      refine lv_iinc (k := 4) (v := nI (i + 6)) (lv' := [(4, .int (nI (i + 6))), (0, .ref b), (1, .ref (xd 0)), (2, .ref (md 13)), (3, .ref o)]) hx hb dL_law_1281 hl9 rfl (nI_add _ _) (by decide) rfl (fun ls2 hl2 => ?_)
      refine lv_goto (tgt := 23) hx hb dL_law_1284 (by decide) ?_
      exact ih (i + 6) q9 H1 locs1 ls2 _ _ (by omega) (by omega) ok9 h9 (lv_sub hl2 [1, 2, 3, 4, 0] rfl) (by omega) (by omega)
    refine lv_aload_n hx hb dL_law_33 rfl (lv_at hl 0 rfl) ?_
    refine lv_iload hx hb dL_law_34 (lv_at hl 4 rfl) ?_
    refine lw_sld hx hb hX hbl hbA hS (j := i) (by omega) hLs dL_law_36 ?_
    refine lv_bipush (v := nI 31) hx hb dL_law_37 (by decide +kernel) ?_
    refine lv_iand hx hb dL_law_39 ?_
    obtain ⟨t9, ht9, e9⟩ := lw_mask (xs i)
    rw [e9]
    have hcs : t9 = 0 ∨ t9 = 1 ∨ t9 = 2 ∨ t9 = 3 ∨ t9 = 4 ∨ t9 = 5 ∨ t9 = 6 ∨ t9 = 7 ∨ t9 = 8 ∨ t9 = 9 ∨ t9 = 10 ∨ t9 = 11 ∨ t9 = 12 ∨ t9 = 13 ∨ t9 = 14 ∨ t9 = 15 ∨ t9 = 16 ∨ 17 ≤ t9 := by omega
    rcases hcs with rfl | rfl | rfl | rfl | rfl | rfl | rfl | rfl | rfl | rfl | rfl | rfl | rfl | rfl | rfl | rfl | rfl | hd9
    · refine lv_tableIn (off := 84) (tgt := 124) hx hb dL_law_40 (by decide +kernel) (by decide +kernel) (by decide +kernel) (by decide) ?_
      exact lc_species hx hb hst hml hown htg hK hJ hX hbl hbA hLs hfr hlo ok h hl hle (by omega) (by omega) (fun H1 locs1 ls1 h1 hl1 => step _ H1 locs1 ls1 (ok_species ok _ _ _ _) h1 hl1)
    · refine lv_tableIn (off := 156) (tgt := 196) hx hb dL_law_40 (by decide +kernel) (by decide +kernel) (by decide +kernel) (by decide) ?_
      exact lc_stand hx hb hst hml hown htg hK hJ hX hbl hbA hLs hfr hlo ok h hl hle (by omega) (by omega) (fun H1 locs1 ls1 h1 hl1 => step _ H1 locs1 ls1 (ok_stand ok _ _) h1 hl1)
    · refine lv_tableIn (off := 204) (tgt := 244) hx hb dL_law_40 (by decide +kernel) (by decide +kernel) (by decide +kernel) (by decide) ?_
      exact lc_lend hx hb hst hml hown htg hK hJ hX hbl hbA hLs hfr hlo ok h hl hle (by omega) (by omega) (fun H1 locs1 ls1 h1 hl1 => step _ H1 locs1 ls1 (ok_lend ok _ _) h1 hl1)
    · refine lv_tableIn (off := 272) (tgt := 312) hx hb dL_law_40 (by decide +kernel) (by decide +kernel) (by decide +kernel) (by decide) ?_
      exact lc_giveBack hx hb hst hml hown htg hK hJ hX hbl hbA hLs hfr hlo ok h hl hle (by omega) (by omega) (fun H1 locs1 ls1 h1 hl1 => step _ H1 locs1 ls1 (ok_giveBack ok _ _) h1 hl1)
    · refine lv_tableIn (off := 340) (tgt := 380) hx hb dL_law_40 (by decide +kernel) (by decide +kernel) (by decide +kernel) (by decide) ?_
      exact lc_enter hx hb hst hml hown htg hK hJ hX hbl hbA hLs hfr hlo ok h hl hle (by omega) (by omega) (fun H1 locs1 ls1 h1 hl1 => step _ H1 locs1 ls1 (ok_enter ok _ _ _ _ _) h1 hl1)
    · refine lv_tableIn (off := 444) (tgt := 484) hx hb dL_law_40 (by decide +kernel) (by decide +kernel) (by decide +kernel) (by decide) ?_
      exact lc_resolve hx hb hst hml hown htg hK hJ hX hbl hbA hLs hfr hlo ok h hl hle (by omega) (by omega) (fun H1 locs1 ls1 h1 hl1 => step _ H1 locs1 ls1 (ok_resolve ok _ _) h1 hl1)
    · refine lv_tableIn (off := 512) (tgt := 552) hx hb dL_law_40 (by decide +kernel) (by decide +kernel) (by decide +kernel) (by decide) ?_
      exact lc_meet hx hb hst hml hown htg hK hJ hX hbl hbA hLs hfr hlo ok h hl hle (by omega) (by omega) (fun H1 locs1 ls1 h1 hl1 => step _ H1 locs1 ls1 (ok_meet ok _ _) h1 hl1)
    · refine lv_tableIn (off := 560) (tgt := 600) hx hb dL_law_40 (by decide +kernel) (by decide +kernel) (by decide +kernel) (by decide) ?_
      exact lc_swap hx hb hst hml hown htg hK hJ hX hbl hbA hLs hfr hlo ok h hl hle (by omega) (by omega) (fun H1 locs1 ls1 h1 hl1 => step _ H1 locs1 ls1 (ok_swap ok) h1 hl1)
    · refine lv_tableIn (off := 611) (tgt := 651) hx hb dL_law_40 (by decide +kernel) (by decide +kernel) (by decide +kernel) (by decide) ?_
      exact lc_part hx hb hst hml hown htg hK hJ hX hbl hbA hLs hfr hlo ok h hl hle (by omega) (by omega) (fun H1 locs1 ls1 h1 hl1 => step _ H1 locs1 ls1 (ok_part ok) h1 hl1)
    · refine lv_tableIn (off := 635) (tgt := 675) hx hb dL_law_40 (by decide +kernel) (by decide +kernel) (by decide +kernel) (by decide) ?_
      exact lc_crash hx hb hst hml hown htg hK hJ hX hbl hbA hLs hfr hlo ok h hl hle (by omega) (by omega) (fun H1 locs1 ls1 h1 hl1 => step _ H1 locs1 ls1 (ok_crash ok _) h1 hl1)
    · refine lv_tableIn (off := 671) (tgt := 711) hx hb dL_law_40 (by decide +kernel) (by decide +kernel) (by decide +kernel) (by decide) ?_
      exact lc_known hx hb hst hml hown htg hK hJ hX hbl hbA hLs hfr hlo ok h hl hle (by omega) (by omega) (fun H1 locs1 ls1 h1 hl1 => step _ H1 locs1 ls1 ok h1 hl1)
    · refine lv_tableIn (off := 739) (tgt := 779) hx hb dL_law_40 (by decide +kernel) (by decide +kernel) (by decide +kernel) (by decide) ?_
      exact lc_holder hx hb hst hml hown htg hK hJ hX hbl hbA hLs hfr hlo ok h hl hle (by omega) (by omega) (fun H1 locs1 ls1 h1 hl1 => step _ H1 locs1 ls1 ok h1 hl1)
    · refine lv_tableIn (off := 819) (tgt := 859) hx hb dL_law_40 (by decide +kernel) (by decide +kernel) (by decide +kernel) (by decide) ?_
      exact lc_value hx hb hst hml hown htg hK hJ hX hbl hbA hLs hfr hlo ok h hl hle (by omega) (by omega) (fun H1 locs1 ls1 h1 hl1 => step _ H1 locs1 ls1 ok h1 hl1)
    · refine lv_tableIn (off := 911) (tgt := 951) hx hb dL_law_40 (by decide +kernel) (by decide +kernel) (by decide +kernel) (by decide) ?_
      exact lc_candidate hx hb hst hml hown htg hK hJ hX hbl hbA hLs hfr hlo ok h hl hle (by omega) (by omega) (fun H1 locs1 ls1 h1 hl1 => step _ H1 locs1 ls1 ok h1 hl1)
    · refine lv_tableIn (off := 1015) (tgt := 1055) hx hb dL_law_40 (by decide +kernel) (by decide +kernel) (by decide +kernel) (by decide) ?_
      exact lc_conflict hx hb hst hml hown htg hK hJ hX hbl hbA hLs hfr hlo ok h hl hle (by omega) (by omega) (fun H1 locs1 ls1 h1 hl1 => step _ H1 locs1 ls1 ok h1 hl1)
    · refine lv_tableIn (off := 1083) (tgt := 1123) hx hb dL_law_40 (by decide +kernel) (by decide +kernel) (by decide +kernel) (by decide) ?_
      exact lc_plot hx hb hst hml hown htg hK hJ hX hbl hbA hLs hfr hlo ok h hl hle (by omega) (by omega) (fun H1 locs1 ls1 h1 hl1 => step _ H1 locs1 ls1 ok h1 hl1)
    · refine lv_tableIn (off := 1162) (tgt := 1202) hx hb dL_law_40 (by decide +kernel) (by decide +kernel) (by decide +kernel) (by decide) ?_
      exact lc_total hx hb hst hml hown htg hK hJ hX hbl hbA hLs hfr hlo ok h hl hle (by omega) (by omega) (fun H1 locs1 ls1 h1 hl1 => step _ H1 locs1 ls1 ok h1 hl1)
    · refine lv_tableOut (tgt := 1281) hx hb dL_law_40 (Or.inr (by rw [nI_toInt (by omega)]; omega)) (by decide) ?_
      exact W.widen (by omega) (by omega) (step q H locs ls ok h hl)
