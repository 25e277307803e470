/-! Rows over the class's world. -/
section XA
variable {κ : Nat → ClassId} {σ : um_M} {xd la ma va : Nat → Nat} {q : tb_Q} {sc : xs_S}
theorem xs_at.c0 (h : xs_at κ σ xd la ma va q sc) : um_h σ (xd 0) (.inr (8, [.ref (xd 1), .ref (xd 14), .ref (xd 16), .ref (xd 21), .ref (xd 25), .ref (xd 26), .ref (xd 27), .ref (xd 28)])) := h.1 0 (by decide)
theorem xs_at.c1 (h : xs_at κ σ xd la ma va q sc) : um_h σ (xd 1) (.inr (0, [.ref (xd 2), .ref (xd 3), .int (tb_m1 (q 13 0)), .int (tb_m1 (q 13 1))])) := h.1 1 (by decide)
theorem xs_at.c2 (h : xs_at κ σ xd la ma va q sc) : um_h σ (xd 2) (xs_R (κ 2) 5 (xs_rows xd 4)) := h.1 2 (by decide)
theorem xs_at.c3 (h : xs_at κ σ xd la ma va q sc) : um_h σ (xd 3) (xs_R (κ 2) 5 (xs_rows xd 9)) := h.1 3 (by decide)
theorem xs_at.c14 (h : xs_at κ σ xd la ma va q sc) : um_h σ (xd 14) (.inr (2, [.ref (xd 15)])) := h.1 14 (by decide)
theorem xs_at.c15 (h : xs_at κ σ xd la ma va q sc) : um_h σ (xd 15) (xs_R (κ 3) 6 (fun p => (xs_ll q p (q 0 0)).map la)) := h.1 15 (by decide)
theorem xs_at.c16 (h : xs_at κ σ xd la ma va q sc) : um_h σ (xd 16) (.inr (4, [.ref (xd 17), .ref (xd 18), .ref (xd 19), .ref (xd 20), .int (sc.2.2.1 0), .int (sc.2.2.1 1)])) := h.1 16 (by decide)
theorem xs_at.c17 (h : xs_at κ σ xd la ma va q sc) : um_h σ (xd 17) (xs_R (κ 4) 360 (fun c => (xs_lm q (c / 5) (c % 5) (q 0 (c % 5))).map ma)) := h.1 17 (by decide)
theorem xs_at.c18 (h : xs_at κ σ xd la ma va q sc) : um_h σ (xd 18) (xs_R (κ 4) 5 (sc.1 0)) := h.1 18 (by decide)
theorem xs_at.c19 (h : xs_at κ σ xd la ma va q sc) : um_h σ (xd 19) (xs_R (κ 4) 5 (sc.1 1)) := h.1 19 (by decide)
theorem xs_at.c20 (h : xs_at κ σ xd la ma va q sc) : um_h σ (xd 20) (xs_R (κ 4) 5 (sc.1 2)) := h.1 20 (by decide)
theorem xs_at.c21 (h : xs_at κ σ xd la ma va q sc) : um_h σ (xd 21) (.inr (7, [.ref (xd 22), .ref (xd 23), .ref (xd 24)])) := h.1 21 (by decide)
theorem xs_at.c22 (h : xs_at κ σ xd la ma va q sc) : um_h σ (xd 22) (xs_A (κ 0) 4 (fun j => nI (q 9 j))) := h.1 22 (by decide)
theorem xs_at.c23 (h : xs_at κ σ xd la ma va q sc) : um_h σ (xd 23) (xs_A (κ 0) 4 (fun j => nI (q 10 j))) := h.1 23 (by decide)
theorem xs_at.c24 (h : xs_at κ σ xd la ma va q sc) : um_h σ (xd 24) (xs_A (κ 0) 4 (fun j => nI (q 11 j))) := h.1 24 (by decide)
theorem xs_at.c25 (h : xs_at κ σ xd la ma va q sc) : um_h σ (xd 25) (.inr (5, [.long (sc.2.1 0), .long (sc.2.1 1), .int (sc.2.2.1 2), .int (sc.2.2.1 3)])) := h.1 25 (by decide)
theorem xs_at.c26 (h : xs_at κ σ xd la ma va q sc) : um_h σ (xd 26) (.inr (6, [.long (sc.2.1 2), .long (sc.2.1 3), .int (sc.2.2.1 4), .int (sc.2.2.1 5)])) := h.1 26 (by decide)
theorem xs_at.c27 (h : xs_at κ σ xd la ma va q sc) : um_h σ (xd 27) (xs_A (κ 0) 6 (fun j => nI (q 12 j))) := h.1 27 (by decide)
theorem xs_at.c28 (h : xs_at κ σ xd la ma va q sc) : um_h σ (xd 28) (xs_A (κ 0) 3 sc.2.2.2) := h.1 28 (by decide)
/-- rows behind the sixth, the seventh and eighth apart, change in one cell -/
theorem xs_at.setMe {q' : tb_Q} (h : xs_at κ σ xd la ma va q sc) (hq : ∀ r, r ≠ 13 → q' r = q r) {e : va_E} (he : e = .inr (0, [.ref (xd 2), .ref (xd 3), .int (tb_m1 (q' 13 0)), .int (tb_m1 (q' 13 1))])) : xs_at κ (um_up σ (xd 1) e) xd la ma va q' sc := by
  have e7 : ∀ r d, r ≠ 13 → xs_row q' r d = xs_row q r d := by
    intro r d hr
    funext j
    unfold xs_row
    rw [hq r hr]
  have hll : ∀ p n, xs_ll q' p n = xs_ll q p n := by
    intro p n
    induction n with
    | zero => rfl
    | succ n ih => unfold xs_ll; rw [hq 1 (by decide), hq 2 (by decide), ih]
  have hlm : ∀ sp a n, xs_lm q' sp a n = xs_lm q sp a n := by
    intro sp a n
    induction n with
    | zero => rfl
    | succ n ih => unfold xs_lm; rw [hq 1 (by decide), hq 2 (by decide), hq 3 (by decide), ih]
  refine h.flat 1 (by decide) (fun r hr => hq r (by omega)) (fun i hi hn => ?_) he
  refine xs_29 (P := fun i => i ≠ 1 → xs_cell κ xd la ma q' sc i = xs_cell κ xd la ma q sc i) ?_ ?_ ?_ ?_ ?_ ?_ ?_ ?_ ?_ ?_ ?_ ?_ ?_ ?_ ?_ ?_ ?_ ?_ ?_ ?_ ?_ ?_ ?_ ?_ ?_ ?_ ?_ ?_ ?_ hi hn
  all_goals intro hn
  all_goals first | exact absurd rfl hn | simp only [xs_cell, e7 7 _ (by decide), e7 8 _ (by decide), hll, hlm, hq 0 (by decide), hq 9 (by decide), hq 10 (by decide), hq 11 (by decide), hq 12 (by decide)]
theorem xs_updKn {d j v : Nat} (hj : j < 5) (r : Nat) : upd (fun k => nI (xs_row q r d k)) j (nI v) = fun k => nI (xs_row (tb_set q r (5 * d + j) v) r d k) := by
  funext k
  unfold xs_row
  rw [tb_set_s]
  by_cases h : k = j
  · subst h
    rw [pk_us, if_pos hj, va_up_self]
  · rw [pk_un h]
    by_cases h5 : k < 5
    · rw [if_pos h5, if_pos h5, va_up_ne _ _ (by omega)]
    · rw [if_neg h5, if_neg h5]
end XA
theorem tb_keep_8 (q : tb_Q) (d i : Nat) : tb_keep q d 8 i = if 5 * d ≤ i ∧ i < 5 * d + 5 then q 7 i else q 8 i := by
  have key : ∀ n, tb_fo (tb_kpF d) q n 7 = q 7 ∧ tb_fo (tb_kpF d) q n 8 i = if 5 * d ≤ i ∧ i < 5 * d + n then q 7 i else q 8 i := by
    intro n
    induction n with
    | zero => exact ⟨rfl, by rw [if_neg (by omega)]; rfl⟩
    | succ n ih =>
      refine ⟨?_, ?_⟩
      · rw [tb_fo_s]
        unfold tb_kpF
        rw [tb_set_n _ _ _ (by decide)]
        exact ih.1
      · rw [tb_fo_s]
        unfold tb_kpF
        rw [tb_set_s, show tb_fo (fun a q => tb_set q 8 (5 * d + a) (q 7 (5 * d + a))) q n 7 = q 7 from ih.1]
        by_cases h : i = 5 * d + n
        · subst h
          rw [va_up_self, if_pos (by omega)]
        · rw [va_up_ne _ _ h, show tb_fo (fun a q => tb_set q 8 (5 * d + a) (q 7 (5 * d + a))) q n 8 i = _ from ih.2]
          by_cases h2 : 5 * d ≤ i ∧ i < 5 * d + n
          · rw [if_pos h2, if_pos (by omega)]
          · rw [if_neg h2, if_neg (by omega)]
  exact (key 5).2
/-- what device d has kept is known again -/
def tb_forg (q : tb_Q) (d : Nat) : tb_Q := va_up q 7 (fun i => if 5 * d ≤ i ∧ i < 5 * d + 5 then q 8 i else q 7 i)
theorem tb_forg_7 (q : tb_Q) (d i : Nat) : tb_forg q d 7 i = if 5 * d ≤ i ∧ i < 5 * d + 5 then q 8 i else q 7 i := by
  unfold tb_forg
  rw [va_up_self]
theorem tb_forg_n (q : tb_Q) {d r : Nat} (h : r ≠ 7) : tb_forg q d r = q r := va_up_ne _ _ h
theorem tb_m1_n1 {r : Nat} (h : r < 2147483648) : tb_m1 r = -1 ↔ r = 0 := by
  rw [← Int32.toInt_inj, tb_m1_i h, show (-1 : Int32).toInt = -1 from by decide +kernel]
  omega
section XB1
variable {p : Program} {l : Launch} {e : Env} {R : Room} {s : State} {m : MethodId} {args : Array Value} {below : List Frame} {meth : Method} {c : Code} {H : Heap} {locs : List Loc} {cells slots : Nat} {Q : State → Prop}
variable {cc : ByteArray} {pc tgt r : Nat} {ls : Array Slot} {rest : List Value} {off : Int}
theorem um_eqM1 (hx : p.tables.exec = Jvm.exec) (hb : c.code = cc) (hdg : decode cc pc = .ok (.if_icmp .eq off, 3)) (ht : (pc : Int) + off = (tgt : Int)) (h2 : r < 2147483648) (kt : r = 0 → W p l e R s m args below meth c H locs cells slots Q (F0 m tgt ls rest)) (kf : ¬ r = 0 → W p l e R s m args below meth c H locs cells slots Q (F0 m (pc + 3) ls rest)) : W p l e R s m args below meth c H locs cells slots Q (F0 m pc ls (.int (-1) :: .int (tb_m1 r) :: rest)) :=
  lv_icmp_eq hx hb hdg ht (fun z => kt ((tb_m1_n1 h2).mp z)) (fun z => kf (fun w => z ((tb_m1_n1 h2).mpr w)))
theorem um_neM1 (hx : p.tables.exec = Jvm.exec) (hb : c.code = cc) (hdg : decode cc pc = .ok (.if_icmp .ne off, 3)) (ht : (pc : Int) + off = (tgt : Int)) (h2 : r < 2147483648) (kt : ¬ r = 0 → W p l e R s m args below meth c H locs cells slots Q (F0 m tgt ls rest)) (kf : r = 0 → W p l e R s m args below meth c H locs cells slots Q (F0 m (pc + 3) ls rest)) : W p l e R s m args below meth c H locs cells slots Q (F0 m pc ls (.int (-1) :: .int (tb_m1 r) :: rest)) :=
  lv_icmp_ne hx hb hdg ht (fun z => kt (fun w => z ((tb_m1_n1 h2).mpr w))) (fun z => kf ((tb_m1_n1 h2).mp z))
end XB1
section XR
variable {p : Program} {l : Launch} {e : Env} {R : Room} {s : State} {m : MethodId} {args : Array Value} {below : List Frame} {meth : Method} {c : Code} {H : Heap} {locs : List Loc} {cells slots : Nat} {Q : State → Prop}
variable {cc : ByteArray} {pc : Nat} {ls : Array Slot} {rest : List Value} {D : va_G} {A : Nat → Prop} {σ : um_M} {κ : Nat → ClassId} {xd la ma va : Nat → Nat} {q : tb_Q} {sc : xs_S} {own : String}
/-- a row of the known, the kept counts -/
theorem xs_gld (hx : p.tables.exec = Jvm.exec) (hb : c.code = cc) (hK : va_K D vwCl (um_T κ) s) (hU : um_S D vwCl A s σ H locs) {b k : Nat} (hh : um_h σ (xd k) (xs_R (κ 2) 5 (xs_rows xd b))) (d : Nat) (hd : d < 5) (hdg : decode cc pc = .ok (.aaload, 1))
    (kk : W p l e R s m args below meth c H locs cells slots Q (F0 m (pc + 1) ls (.ref (xd (b + d)) :: rest))) : W p l e R s m args below meth c H locs cells slots Q (F0 m pc ls (.int (nI d) :: .ref (xd k) :: rest)) :=
  um_gld hx hb hK hU 2 hh rfl d rfl hd (by decide) (xs_rows_i hd) hdg kk
theorem xs_ildR (hx : p.tables.exec = Jvm.exec) (hb : c.code = cc) (hK : va_K D vwCl (um_T κ) s) (hU : um_S D vwCl A s σ H locs) {r d : Nat} {a : Nat} (hh : um_h σ a (xs_A (κ 0) 5 (fun j => nI (xs_row q r d j)))) (j : Nat) (hj : j < 5) (hdg : decode cc pc = .ok (.iaload, 1))
    (kk : W p l e R s m args below meth c H locs cells slots Q (F0 m (pc + 1) ls (.int (nI (q r (5 * d + j))) :: rest))) : W p l e R s m args below meth c H locs cells slots Q (F0 m pc ls (.int (nI j) :: .ref a :: rest)) :=
  um_ild hx hb hK hU 0 hh rfl j rfl hj (by decide) (congrArg nI (xs_row_i hj)) hdg kk
theorem xs_istKn (hx : p.tables.exec = Jvm.exec) (hb : c.code = cc) (hK : va_K D vwCl (um_T κ) s) (hU : um_S D vwCl A s σ H locs) (h : xs_at κ σ xd la ma va q sc) (d j v : Nat) (hd : d < 5) (hj : j < 5) (hdg : decode cc pc = .ok (.iastore, 1))
    (kk : ∀ (σ' : um_M) (H1 : Heap) (locs1 : List Loc), xs_at κ σ' xd la ma va (tb_set q 7 (5 * d + j) v) sc → um_S D vwCl A s σ' H1 locs1 → W p l e R s m args below meth c H1 locs1 cells slots Q (F0 m (pc + 1) ls rest)) : W p l e R s m args below meth c H locs cells slots Q (F0 m pc ls (.int (nI v) :: .int (nI j) :: .ref (xd (4 + d)) :: rest)) :=
  um_ist hx hb hK hU 0 (h.row hd) rfl j rfl hj (by decide) (xs_updKn hj 7) hdg (fun H1 locs1 hU1 => kk _ H1 locs1 (h.setKn hd (fun r hr => tb_set_n _ _ _ hr) (fun d' j' h1 h2 h3 => by rw [tb_set_s, va_up_ne _ _ (by omega)]) rfl) hU1)
theorem um_cpy {index : Nat} (hx : p.tables.exec = Jvm.exec) (hb : c.code = cc) (hml : c.maxLocals = ls.size) (hown : s.vm.findClass own = some m.cls) (hlink : (Cond.methodLink own index arraycopyName).before args s = true) (hnat : (Cond.native arraycopyName).before args s = true) (hstat : (Cond.static arraycopyName).before args s = true) (hini : (Cond.initialized "java/lang/System").before args s = true)
    (hK : va_K D vwCl (um_T κ) s) (hU : um_S D vwCl A s σ H locs) {a0 a1 : Nat} {f g : Nat → Int32} (h0 : um_h σ a0 (xs_A (κ 0) 5 f)) (h1 : um_h σ a1 (xs_A (κ 0) 5 g)) (hframes : 1 ≤ R.frames) (hlocals : (rest.map fun v => v.category).sum + (nativeFrameWords "java/lang/System" "arraycopy" 5 + 11) ≤ R.locals) (hdg : decode cc pc = .ok (.invokestatic index, 3))
    (kk : ∀ (H1 : Heap) (locs1 : List Loc), um_S D vwCl A s (um_up σ a1 (xs_A (κ 0) 5 (va_cpy f g 0 0 5))) H1 locs1 → W p l e R s m args below meth c H1 locs1 cells slots Q (F0 m (pc + 3) ls rest)) : W p l e R s m args below meth c H locs cells slots Q (F0 m pc ls (.int (nI 5) :: .int (nI 0) :: .ref a1 :: .int (nI 0) :: .ref a0 :: rest)) := by
  obtain ⟨q0, hq0⟩ := um_pl h0
  obtain ⟨q1, hq1⟩ := um_pl h1
  have e0 : (nI 0).toNatClampNeg = 0 := nI_clamp (by decide)
  have e5 : (nI 5).toNatClampNeg = 5 := nI_clamp (by decide)
  refine va_copyi (ty := .int) hx hb hml hown hlink hnat hstat hini hK hU.1 hU.2.1 hU.2.2.1 q0 q1 0 0 hq0 hq1 rfl rfl rfl (nI_pos (by decide)) (nI_pos (by decide)) (nI_pos (by decide)) (by rw [e0, e5]; decide) (by rw [e0, e5]; decide) (fun i hi => rfl) hframes hlocals hdg (fun H1 locs1 g1 g2 g3 => kk H1 locs1 ?_)
  rw [um_set hU.2.1 h1 hq1, e0, e5] at g1 g2
  exact ⟨g1, g2, g3, hU.2.2.2⟩
/-- a field of the crew -/
theorem xs_putMe {index k : Nat} (hx : p.tables.exec = Jvm.exec) (hb : c.code = cc) (hts : ∀ w ∈ lw_g, w.before args s = true) (hin : ∀ w ∈ u_ws RX0 TX0 4, w ∈ lw_g) (hown : s.vm.findClass own = some m.cls) (hK : va_K D vwCl (um_T κ) s) (hU : um_S D vwCl A s σ H locs) (h : xs_at κ σ xd la ma va q sc) (i v : Nat) (hi : i < 2) (hk : k = 2 + i) (hlink : (Cond.fieldLink own index (TX0 k).1 (TX0 k).2.1 (TX0 k).2.2.1).before args s = true) {x : Int32} (hv : x = tb_m1 v) (hdg : decode cc pc = .ok (.putfield index, 3))
    (kk : ∀ (σ' : um_M) (H1 : Heap) (locs1 : List Loc), xs_at κ σ' xd la ma va (tb_set q 13 i v) sc → um_S D vwCl A s σ' H1 locs1 → W p l e R s m args below meth c H1 locs1 cells slots Q (F0 m (pc + 3) ls rest)) : W p l e R s m args below meth c H locs cells slots Q (F0 m pc ls (.int x :: .ref (xd 1) :: rest)) := by
  subst hv
  have h2 : i = 0 ∨ i = 1 := by omega
  rcases h2 with rfl | rfl <;> subst hk
  · refine um_put (ty := .int) (T := TX0) (N := 4) (fs' := [.ref (xd 2), .ref (xd 3), .int (tb_m1 v), .int (tb_m1 (q 13 1))]) hx hb hts hin tyX0 tyX0_ok nmX0 hown hK hU h.c1 rfl 2 (by decide) hlink rfl (by decide +kernel) rfl rfl rfl (Nat.le_of_ble_eq_true rfl) hdg (fun H1 locs1 hU1 => kk _ H1 locs1 (h.setMe (fun r hr => tb_set_n _ _ _ hr) ?_) hU1)
    rw [tb_set_s, va_up_self, va_up_ne _ _ (by decide)]
  · refine um_put (ty := .int) (T := TX0) (N := 4) (fs' := [.ref (xd 2), .ref (xd 3), .int (tb_m1 (q 13 0)), .int (tb_m1 v)]) hx hb hts hin tyX0 tyX0_ok nmX0 hown hK hU h.c1 rfl 3 (by decide) hlink rfl (by decide +kernel) rfl rfl rfl (Nat.le_of_ble_eq_true rfl) hdg (fun H1 locs1 hU1 => kk _ H1 locs1 (h.setMe (fun r hr => tb_set_n _ _ _ hr) ?_) hU1)
    rw [tb_set_s, va_up_self, va_up_ne _ _ (by decide)]
theorem xs_keep (h : xs_at κ σ xd la ma va q sc) {d : Nat} (hd : d < 5) : xs_at κ (um_up σ (xd (9 + d)) (xs_A (κ 0) 5 (va_cpy (fun j => nI (xs_row q 7 d j)) (fun j => nI (xs_row q 8 d j)) 0 0 5))) xd la ma va (tb_keep q d) sc := by
  refine h.setKp hd (fun r hr => tb_keep_n hr) (fun d' j h1 h2 h3 => ?_) ?_
  · rw [tb_keep_8, if_neg (by omega)]
  · funext j
    by_cases hj : j < 5
    · rw [pk_cpy_in (Nat.zero_le _) (by omega), show 0 + (j - 0) = j by omega, xs_row_i hj, xs_row_i hj, tb_keep_8, if_pos (by omega)]
    · rw [pk_cpy_out (Or.inr (by omega))]
      unfold xs_row
      rw [if_neg hj, if_neg hj]
theorem xs_forg (h : xs_at κ σ xd la ma va q sc) {d : Nat} (hd : d < 5) : xs_at κ (um_up σ (xd (4 + d)) (xs_A (κ 0) 5 (va_cpy (fun j => nI (xs_row q 8 d j)) (fun j => nI (xs_row q 7 d j)) 0 0 5))) xd la ma va (tb_forg q d) sc := by
  refine h.setKn hd (fun r hr => tb_forg_n q hr) (fun d' j h1 h2 h3 => ?_) ?_
  · rw [tb_forg_7, if_neg (by omega)]
  · funext j
    by_cases hj : j < 5
    · rw [pk_cpy_in (Nat.zero_le _) (by omega), show 0 + (j - 0) = j by omega, xs_row_i hj, xs_row_i hj, tb_forg_7, if_pos (by omega)]
    · rw [pk_cpy_out (Or.inr (by omega))]
      unfold xs_row
      rw [if_neg hj, if_neg hj]
end XR
