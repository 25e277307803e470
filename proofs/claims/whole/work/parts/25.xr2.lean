/-! More rows: optional references, scratch fields, chains. -/
section OQ
variable {p : Program} {l : Launch} {e : Env} {R : Room} {s : State} {m : MethodId} {args : Array Value} {below : List Frame} {meth : Method} {c : Code} {H : Heap} {locs : List Loc} {cells slots : Nat} {Q : State → Prop}
variable {cc : ByteArray} {pc : Nat} {ls : Array Slot} {rest : List Value}
theorem um_astore_nQ (hx : p.tables.exec = Jvm.exec) (hb : c.code = cc) {k : Fin 4} {i nL : Nat} {r : Option Nat} {lv lv' : List (Nat × Value)} (hdg : decode cc pc = .ok (.astore_n k, 1)) (hi : (k : Nat) = i) (h : lv_has ls nL lv) (hn : i < nL) (hl : (i, va_rf r) :: lv.filter (fun q => !(q.1 == i) && !(q.1 + 1 == i && q.2.category == 2)) = lv')
    (kk : ∀ ls' : Array Slot, lv_has ls' nL lv' → W p l e R s m args below meth c H locs cells slots Q (F0 m (pc + 1) ls' rest)) : W p l e R s m args below meth c H locs cells slots Q (F0 m pc ls (va_rf r :: rest)) := by
  cases r with
  | none => exact lv_astore_nN hx hb hdg hi h hn hl kk
  | some a => exact lv_astore_n hx hb hdg hi h hn hl kk
theorem um_astoreQ (hx : p.tables.exec = Jvm.exec) (hb : c.code = cc) {i nL : Nat} {r : Option Nat} {lv lv' : List (Nat × Value)} (hdg : decode cc pc = .ok (.astore i, 2)) (h : lv_has ls nL lv) (hn : i < nL) (hl : (i, va_rf r) :: lv.filter (fun q => !(q.1 == i) && !(q.1 + 1 == i && q.2.category == 2)) = lv')
    (kk : ∀ ls' : Array Slot, lv_has ls' nL lv' → W p l e R s m args below meth c H locs cells slots Q (F0 m (pc + 2) ls' rest)) : W p l e R s m args below meth c H locs cells slots Q (F0 m pc ls (va_rf r :: rest)) := by
  cases r with
  | none => exact lv_astoreN hx hb hdg h hn hl kk
  | some a => exact lv_astore hx hb hdg h hn hl kk
end OQ
/-! scratch -/
def xs_sL (sc : xs_S) (i : Nat) (v : Int64) : xs_S := (sc.1, va_up sc.2.1 i v, sc.2.2.1, sc.2.2.2)
def xs_sI (sc : xs_S) (i : Nat) (v : Int32) : xs_S := (sc.1, sc.2.1, va_up sc.2.2.1 i v, sc.2.2.2)
def xs_sF (sc : xs_S) (f : Nat → Int32) : xs_S := (sc.1, sc.2.1, sc.2.2.1, f)
def xs_sR (sc : xs_S) (i j : Nat) (v : Option Nat) : xs_S := (va_up sc.1 i (va_up (sc.1 i) j v), sc.2.1, sc.2.2.1, sc.2.2.2)
theorem xs_at.scr {κ : Nat → ClassId} {σ : um_M} {xd la ma va : Nat → Nat} {q : tb_Q} {sc sc' : xs_S} (h : xs_at κ σ xd la ma va q sc) (k : Nat) (hk : k < 29) (hc : ∀ i, i < 29 → i ≠ k → xs_cell κ xd la ma q sc' i = xs_cell κ xd la ma q sc i) {e : va_E} (he : e = xs_cell κ xd la ma q sc' k) : xs_at κ (um_up σ (xd k) e) xd la ma va q sc' := h.flat k hk (fun _ _ => rfl) hc he
section XS
variable {p : Program} {l : Launch} {e : Env} {R : Room} {s : State} {m : MethodId} {args : Array Value} {below : List Frame} {meth : Method} {c : Code} {H : Heap} {locs : List Loc} {cells slots : Nat} {Q : State → Prop}
variable {cc : ByteArray} {pc index : Nat} {ls : Array Slot} {rest : List Value} {D : va_G} {A : Nat → Prop} {σ : um_M} {κ : Nat → ClassId} {xd la ma va : Nat → Nat} {q : tb_Q} {sc : xs_S} {own : String}
theorem xs_putL0 (hx : p.tables.exec = Jvm.exec) (hb : c.code = cc) (hts : ∀ w ∈ lw_g, w.before args s = true) (hown : s.vm.findClass own = some m.cls) (hK : va_K D vwCl (um_T κ) s) (hU : um_S D vwCl A s σ H locs) (h : xs_at κ σ xd la ma va q sc) (v : Int64) (hlink : (Cond.fieldLink own index (TX5 0).1 (TX5 0).2.1 (TX5 0).2.2.1).before args s = true) (hdg : decode cc pc = .ok (.putfield index, 3))
    (kk : ∀ (σ' : um_M) (H1 : Heap) (locs1 : List Loc), xs_at κ σ' xd la ma va q (xs_sL sc 0 v) → um_S D vwCl A s σ' H1 locs1 → W p l e R s m args below meth c H1 locs1 cells slots Q (F0 m (pc + 3) ls rest)) : W p l e R s m args below meth c H locs cells slots Q (F0 m pc ls (.long v :: .ref (xd 25) :: rest)) := by
  refine um_put (ty := .long) (T := TX5) (N := 4) (fs' := [.long v, .long (sc.2.1 1), .int (sc.2.2.1 2), .int (sc.2.2.1 3)]) hx hb hts inX5 tyX5 tyX5_ok nmX5 hown hK hU h.c25 rfl 0 (by decide) hlink rfl (by decide +kernel) rfl rfl rfl (Nat.le_of_ble_eq_true rfl) hdg (fun H1 locs1 hU1 => kk _ H1 locs1 (h.scr 25 (by decide) (fun i hi hn => ?_) ?_) hU1)
  · refine xs_29 (P := fun i => i ≠ 25 → xs_cell κ xd la ma q (xs_sL sc 0 v) i = xs_cell κ xd la ma q sc i) ?_ ?_ ?_ ?_ ?_ ?_ ?_ ?_ ?_ ?_ ?_ ?_ ?_ ?_ ?_ ?_ ?_ ?_ ?_ ?_ ?_ ?_ ?_ ?_ ?_ ?_ ?_ ?_ ?_ hi hn <;> intro hn <;> first | exact absurd rfl hn | rfl
  · rfl
theorem xs_putL1 (hx : p.tables.exec = Jvm.exec) (hb : c.code = cc) (hts : ∀ w ∈ lw_g, w.before args s = true) (hown : s.vm.findClass own = some m.cls) (hK : va_K D vwCl (um_T κ) s) (hU : um_S D vwCl A s σ H locs) (h : xs_at κ σ xd la ma va q sc) (v : Int64) (hlink : (Cond.fieldLink own index (TX5 1).1 (TX5 1).2.1 (TX5 1).2.2.1).before args s = true) (hdg : decode cc pc = .ok (.putfield index, 3))
    (kk : ∀ (σ' : um_M) (H1 : Heap) (locs1 : List Loc), xs_at κ σ' xd la ma va q (xs_sL sc 1 v) → um_S D vwCl A s σ' H1 locs1 → W p l e R s m args below meth c H1 locs1 cells slots Q (F0 m (pc + 3) ls rest)) : W p l e R s m args below meth c H locs cells slots Q (F0 m pc ls (.long v :: .ref (xd 25) :: rest)) := by
  refine um_put (ty := .long) (T := TX5) (N := 4) (fs' := [.long (sc.2.1 0), .long v, .int (sc.2.2.1 2), .int (sc.2.2.1 3)]) hx hb hts inX5 tyX5 tyX5_ok nmX5 hown hK hU h.c25 rfl 1 (by decide) hlink rfl (by decide +kernel) rfl rfl rfl (Nat.le_of_ble_eq_true rfl) hdg (fun H1 locs1 hU1 => kk _ H1 locs1 (h.scr 25 (by decide) (fun i hi hn => ?_) ?_) hU1)
  · refine xs_29 (P := fun i => i ≠ 25 → xs_cell κ xd la ma q (xs_sL sc 1 v) i = xs_cell κ xd la ma q sc i) ?_ ?_ ?_ ?_ ?_ ?_ ?_ ?_ ?_ ?_ ?_ ?_ ?_ ?_ ?_ ?_ ?_ ?_ ?_ ?_ ?_ ?_ ?_ ?_ ?_ ?_ ?_ ?_ ?_ hi hn <;> intro hn <;> first | exact absurd rfl hn | rfl
  · rfl
theorem xs_putI2 (hx : p.tables.exec = Jvm.exec) (hb : c.code = cc) (hts : ∀ w ∈ lw_g, w.before args s = true) (hown : s.vm.findClass own = some m.cls) (hK : va_K D vwCl (um_T κ) s) (hU : um_S D vwCl A s σ H locs) (h : xs_at κ σ xd la ma va q sc) (v : Int32) (hlink : (Cond.fieldLink own index (TX5 2).1 (TX5 2).2.1 (TX5 2).2.2.1).before args s = true) (hdg : decode cc pc = .ok (.putfield index, 3))
    (kk : ∀ (σ' : um_M) (H1 : Heap) (locs1 : List Loc), xs_at κ σ' xd la ma va q (xs_sI sc 2 v) → um_S D vwCl A s σ' H1 locs1 → W p l e R s m args below meth c H1 locs1 cells slots Q (F0 m (pc + 3) ls rest)) : W p l e R s m args below meth c H locs cells slots Q (F0 m pc ls (.int v :: .ref (xd 25) :: rest)) := by
  refine um_put (ty := .int) (T := TX5) (N := 4) (fs' := [.long (sc.2.1 0), .long (sc.2.1 1), .int v, .int (sc.2.2.1 3)]) hx hb hts inX5 tyX5 tyX5_ok nmX5 hown hK hU h.c25 rfl 2 (by decide) hlink rfl (by decide +kernel) rfl rfl rfl (Nat.le_of_ble_eq_true rfl) hdg (fun H1 locs1 hU1 => kk _ H1 locs1 (h.scr 25 (by decide) (fun i hi hn => ?_) ?_) hU1)
  · refine xs_29 (P := fun i => i ≠ 25 → xs_cell κ xd la ma q (xs_sI sc 2 v) i = xs_cell κ xd la ma q sc i) ?_ ?_ ?_ ?_ ?_ ?_ ?_ ?_ ?_ ?_ ?_ ?_ ?_ ?_ ?_ ?_ ?_ ?_ ?_ ?_ ?_ ?_ ?_ ?_ ?_ ?_ ?_ ?_ ?_ hi hn <;> intro hn <;> first | exact absurd rfl hn | rfl
  · rfl
theorem xs_putI3 (hx : p.tables.exec = Jvm.exec) (hb : c.code = cc) (hts : ∀ w ∈ lw_g, w.before args s = true) (hown : s.vm.findClass own = some m.cls) (hK : va_K D vwCl (um_T κ) s) (hU : um_S D vwCl A s σ H locs) (h : xs_at κ σ xd la ma va q sc) (v : Int32) (hlink : (Cond.fieldLink own index (TX5 3).1 (TX5 3).2.1 (TX5 3).2.2.1).before args s = true) (hdg : decode cc pc = .ok (.putfield index, 3))
    (kk : ∀ (σ' : um_M) (H1 : Heap) (locs1 : List Loc), xs_at κ σ' xd la ma va q (xs_sI sc 3 v) → um_S D vwCl A s σ' H1 locs1 → W p l e R s m args below meth c H1 locs1 cells slots Q (F0 m (pc + 3) ls rest)) : W p l e R s m args below meth c H locs cells slots Q (F0 m pc ls (.int v :: .ref (xd 25) :: rest)) := by
  refine um_put (ty := .int) (T := TX5) (N := 4) (fs' := [.long (sc.2.1 0), .long (sc.2.1 1), .int (sc.2.2.1 2), .int v]) hx hb hts inX5 tyX5 tyX5_ok nmX5 hown hK hU h.c25 rfl 3 (by decide) hlink rfl (by decide +kernel) rfl rfl rfl (Nat.le_of_ble_eq_true rfl) hdg (fun H1 locs1 hU1 => kk _ H1 locs1 (h.scr 25 (by decide) (fun i hi hn => ?_) ?_) hU1)
  · refine xs_29 (P := fun i => i ≠ 25 → xs_cell κ xd la ma q (xs_sI sc 3 v) i = xs_cell κ xd la ma q sc i) ?_ ?_ ?_ ?_ ?_ ?_ ?_ ?_ ?_ ?_ ?_ ?_ ?_ ?_ ?_ ?_ ?_ ?_ ?_ ?_ ?_ ?_ ?_ ?_ ?_ ?_ ?_ ?_ ?_ hi hn <;> intro hn <;> first | exact absurd rfl hn | rfl
  · rfl
theorem xs_putL2 (hx : p.tables.exec = Jvm.exec) (hb : c.code = cc) (hts : ∀ w ∈ lw_g, w.before args s = true) (hown : s.vm.findClass own = some m.cls) (hK : va_K D vwCl (um_T κ) s) (hU : um_S D vwCl A s σ H locs) (h : xs_at κ σ xd la ma va q sc) (v : Int64) (hlink : (Cond.fieldLink own index (TX6 0).1 (TX6 0).2.1 (TX6 0).2.2.1).before args s = true) (hdg : decode cc pc = .ok (.putfield index, 3))
    (kk : ∀ (σ' : um_M) (H1 : Heap) (locs1 : List Loc), xs_at κ σ' xd la ma va q (xs_sL sc 2 v) → um_S D vwCl A s σ' H1 locs1 → W p l e R s m args below meth c H1 locs1 cells slots Q (F0 m (pc + 3) ls rest)) : W p l e R s m args below meth c H locs cells slots Q (F0 m pc ls (.long v :: .ref (xd 26) :: rest)) := by
  refine um_put (ty := .long) (T := TX6) (N := 4) (fs' := [.long v, .long (sc.2.1 3), .int (sc.2.2.1 4), .int (sc.2.2.1 5)]) hx hb hts inX6 tyX6 tyX6_ok nmX6 hown hK hU h.c26 rfl 0 (by decide) hlink rfl (by decide +kernel) rfl rfl rfl (Nat.le_of_ble_eq_true rfl) hdg (fun H1 locs1 hU1 => kk _ H1 locs1 (h.scr 26 (by decide) (fun i hi hn => ?_) ?_) hU1)
  · refine xs_29 (P := fun i => i ≠ 26 → xs_cell κ xd la ma q (xs_sL sc 2 v) i = xs_cell κ xd la ma q sc i) ?_ ?_ ?_ ?_ ?_ ?_ ?_ ?_ ?_ ?_ ?_ ?_ ?_ ?_ ?_ ?_ ?_ ?_ ?_ ?_ ?_ ?_ ?_ ?_ ?_ ?_ ?_ ?_ ?_ hi hn <;> intro hn <;> first | exact absurd rfl hn | rfl
  · rfl
theorem xs_putL3 (hx : p.tables.exec = Jvm.exec) (hb : c.code = cc) (hts : ∀ w ∈ lw_g, w.before args s = true) (hown : s.vm.findClass own = some m.cls) (hK : va_K D vwCl (um_T κ) s) (hU : um_S D vwCl A s σ H locs) (h : xs_at κ σ xd la ma va q sc) (v : Int64) (hlink : (Cond.fieldLink own index (TX6 1).1 (TX6 1).2.1 (TX6 1).2.2.1).before args s = true) (hdg : decode cc pc = .ok (.putfield index, 3))
    (kk : ∀ (σ' : um_M) (H1 : Heap) (locs1 : List Loc), xs_at κ σ' xd la ma va q (xs_sL sc 3 v) → um_S D vwCl A s σ' H1 locs1 → W p l e R s m args below meth c H1 locs1 cells slots Q (F0 m (pc + 3) ls rest)) : W p l e R s m args below meth c H locs cells slots Q (F0 m pc ls (.long v :: .ref (xd 26) :: rest)) := by
  refine um_put (ty := .long) (T := TX6) (N := 4) (fs' := [.long (sc.2.1 2), .long v, .int (sc.2.2.1 4), .int (sc.2.2.1 5)]) hx hb hts inX6 tyX6 tyX6_ok nmX6 hown hK hU h.c26 rfl 1 (by decide) hlink rfl (by decide +kernel) rfl rfl rfl (Nat.le_of_ble_eq_true rfl) hdg (fun H1 locs1 hU1 => kk _ H1 locs1 (h.scr 26 (by decide) (fun i hi hn => ?_) ?_) hU1)
  · refine xs_29 (P := fun i => i ≠ 26 → xs_cell κ xd la ma q (xs_sL sc 3 v) i = xs_cell κ xd la ma q sc i) ?_ ?_ ?_ ?_ ?_ ?_ ?_ ?_ ?_ ?_ ?_ ?_ ?_ ?_ ?_ ?_ ?_ ?_ ?_ ?_ ?_ ?_ ?_ ?_ ?_ ?_ ?_ ?_ ?_ hi hn <;> intro hn <;> first | exact absurd rfl hn | rfl
  · rfl
theorem xs_putI4 (hx : p.tables.exec = Jvm.exec) (hb : c.code = cc) (hts : ∀ w ∈ lw_g, w.before args s = true) (hown : s.vm.findClass own = some m.cls) (hK : va_K D vwCl (um_T κ) s) (hU : um_S D vwCl A s σ H locs) (h : xs_at κ σ xd la ma va q sc) (v : Int32) (hlink : (Cond.fieldLink own index (TX6 2).1 (TX6 2).2.1 (TX6 2).2.2.1).before args s = true) (hdg : decode cc pc = .ok (.putfield index, 3))
    (kk : ∀ (σ' : um_M) (H1 : Heap) (locs1 : List Loc), xs_at κ σ' xd la ma va q (xs_sI sc 4 v) → um_S D vwCl A s σ' H1 locs1 → W p l e R s m args below meth c H1 locs1 cells slots Q (F0 m (pc + 3) ls rest)) : W p l e R s m args below meth c H locs cells slots Q (F0 m pc ls (.int v :: .ref (xd 26) :: rest)) := by
  refine um_put (ty := .int) (T := TX6) (N := 4) (fs' := [.long (sc.2.1 2), .long (sc.2.1 3), .int v, .int (sc.2.2.1 5)]) hx hb hts inX6 tyX6 tyX6_ok nmX6 hown hK hU h.c26 rfl 2 (by decide) hlink rfl (by decide +kernel) rfl rfl rfl (Nat.le_of_ble_eq_true rfl) hdg (fun H1 locs1 hU1 => kk _ H1 locs1 (h.scr 26 (by decide) (fun i hi hn => ?_) ?_) hU1)
  · refine xs_29 (P := fun i => i ≠ 26 → xs_cell κ xd la ma q (xs_sI sc 4 v) i = xs_cell κ xd la ma q sc i) ?_ ?_ ?_ ?_ ?_ ?_ ?_ ?_ ?_ ?_ ?_ ?_ ?_ ?_ ?_ ?_ ?_ ?_ ?_ ?_ ?_ ?_ ?_ ?_ ?_ ?_ ?_ ?_ ?_ hi hn <;> intro hn <;> first | exact absurd rfl hn | rfl
  · rfl
theorem xs_putI5 (hx : p.tables.exec = Jvm.exec) (hb : c.code = cc) (hts : ∀ w ∈ lw_g, w.before args s = true) (hown : s.vm.findClass own = some m.cls) (hK : va_K D vwCl (um_T κ) s) (hU : um_S D vwCl A s σ H locs) (h : xs_at κ σ xd la ma va q sc) (v : Int32) (hlink : (Cond.fieldLink own index (TX6 3).1 (TX6 3).2.1 (TX6 3).2.2.1).before args s = true) (hdg : decode cc pc = .ok (.putfield index, 3))
    (kk : ∀ (σ' : um_M) (H1 : Heap) (locs1 : List Loc), xs_at κ σ' xd la ma va q (xs_sI sc 5 v) → um_S D vwCl A s σ' H1 locs1 → W p l e R s m args below meth c H1 locs1 cells slots Q (F0 m (pc + 3) ls rest)) : W p l e R s m args below meth c H locs cells slots Q (F0 m pc ls (.int v :: .ref (xd 26) :: rest)) := by
  refine um_put (ty := .int) (T := TX6) (N := 4) (fs' := [.long (sc.2.1 2), .long (sc.2.1 3), .int (sc.2.2.1 4), .int v]) hx hb hts inX6 tyX6 tyX6_ok nmX6 hown hK hU h.c26 rfl 3 (by decide) hlink rfl (by decide +kernel) rfl rfl rfl (Nat.le_of_ble_eq_true rfl) hdg (fun H1 locs1 hU1 => kk _ H1 locs1 (h.scr 26 (by decide) (fun i hi hn => ?_) ?_) hU1)
  · refine xs_29 (P := fun i => i ≠ 26 → xs_cell κ xd la ma q (xs_sI sc 5 v) i = xs_cell κ xd la ma q sc i) ?_ ?_ ?_ ?_ ?_ ?_ ?_ ?_ ?_ ?_ ?_ ?_ ?_ ?_ ?_ ?_ ?_ ?_ ?_ ?_ ?_ ?_ ?_ ?_ ?_ ?_ ?_ ?_ ?_ hi hn <;> intro hn <;> first | exact absurd rfl hn | rfl
  · rfl
theorem xs_putI0 (hx : p.tables.exec = Jvm.exec) (hb : c.code = cc) (hts : ∀ w ∈ lw_g, w.before args s = true) (hown : s.vm.findClass own = some m.cls) (hK : va_K D vwCl (um_T κ) s) (hU : um_S D vwCl A s σ H locs) (h : xs_at κ σ xd la ma va q sc) (v : Int32) (hlink : (Cond.fieldLink own index (TX4 4).1 (TX4 4).2.1 (TX4 4).2.2.1).before args s = true) (hdg : decode cc pc = .ok (.putfield index, 3))
    (kk : ∀ (σ' : um_M) (H1 : Heap) (locs1 : List Loc), xs_at κ σ' xd la ma va q (xs_sI sc 0 v) → um_S D vwCl A s σ' H1 locs1 → W p l e R s m args below meth c H1 locs1 cells slots Q (F0 m (pc + 3) ls rest)) : W p l e R s m args below meth c H locs cells slots Q (F0 m pc ls (.int v :: .ref (xd 16) :: rest)) := by
  refine um_put (ty := .int) (T := TX4) (N := 6) (fs' := [.ref (xd 17), .ref (xd 18), .ref (xd 19), .ref (xd 20), .int v, .int (sc.2.2.1 1)]) hx hb hts inX4 tyX4 tyX4_ok nmX4 hown hK hU h.c16 rfl 4 (by decide) hlink rfl (by decide +kernel) rfl rfl rfl (Nat.le_of_ble_eq_true rfl) hdg (fun H1 locs1 hU1 => kk _ H1 locs1 (h.scr 16 (by decide) (fun i hi hn => ?_) ?_) hU1)
  · refine xs_29 (P := fun i => i ≠ 16 → xs_cell κ xd la ma q (xs_sI sc 0 v) i = xs_cell κ xd la ma q sc i) ?_ ?_ ?_ ?_ ?_ ?_ ?_ ?_ ?_ ?_ ?_ ?_ ?_ ?_ ?_ ?_ ?_ ?_ ?_ ?_ ?_ ?_ ?_ ?_ ?_ ?_ ?_ ?_ ?_ hi hn <;> intro hn <;> first | exact absurd rfl hn | rfl
  · rfl
theorem xs_putI1 (hx : p.tables.exec = Jvm.exec) (hb : c.code = cc) (hts : ∀ w ∈ lw_g, w.before args s = true) (hown : s.vm.findClass own = some m.cls) (hK : va_K D vwCl (um_T κ) s) (hU : um_S D vwCl A s σ H locs) (h : xs_at κ σ xd la ma va q sc) (v : Int32) (hlink : (Cond.fieldLink own index (TX4 5).1 (TX4 5).2.1 (TX4 5).2.2.1).before args s = true) (hdg : decode cc pc = .ok (.putfield index, 3))
    (kk : ∀ (σ' : um_M) (H1 : Heap) (locs1 : List Loc), xs_at κ σ' xd la ma va q (xs_sI sc 1 v) → um_S D vwCl A s σ' H1 locs1 → W p l e R s m args below meth c H1 locs1 cells slots Q (F0 m (pc + 3) ls rest)) : W p l e R s m args below meth c H locs cells slots Q (F0 m pc ls (.int v :: .ref (xd 16) :: rest)) := by
  refine um_put (ty := .int) (T := TX4) (N := 6) (fs' := [.ref (xd 17), .ref (xd 18), .ref (xd 19), .ref (xd 20), .int (sc.2.2.1 0), .int v]) hx hb hts inX4 tyX4 tyX4_ok nmX4 hown hK hU h.c16 rfl 5 (by decide) hlink rfl (by decide +kernel) rfl rfl rfl (Nat.le_of_ble_eq_true rfl) hdg (fun H1 locs1 hU1 => kk _ H1 locs1 (h.scr 16 (by decide) (fun i hi hn => ?_) ?_) hU1)
  · refine xs_29 (P := fun i => i ≠ 16 → xs_cell κ xd la ma q (xs_sI sc 1 v) i = xs_cell κ xd la ma q sc i) ?_ ?_ ?_ ?_ ?_ ?_ ?_ ?_ ?_ ?_ ?_ ?_ ?_ ?_ ?_ ?_ ?_ ?_ ?_ ?_ ?_ ?_ ?_ ?_ ?_ ?_ ?_ ?_ ?_ hi hn <;> intro hn <;> first | exact absurd rfl hn | rfl
  · rfl
end XS
theorem xs_ll_some {q : tb_Q} {p n k : Nat} (h : xs_ll q p n = some k) : k < n ∧ q 1 k = 0 ∧ q 2 k = p := by
  induction n with
  | zero => cases h
  | succ n ih =>
    unfold xs_ll at h
    split at h
    · rename_i hc
      cases h
      exact ⟨Nat.lt_succ_self _, hc⟩
    · have := ih h
      exact ⟨by omega, this.2⟩
theorem xs_ll_none {q : tb_Q} {p n m : Nat} (h : xs_ll q p n = none) (hm : m ≤ n) : xs_ll q p m = none := by
  induction n with
  | zero => rw [show m = 0 by omega]; rfl
  | succ n ih =>
    by_cases e : m = n + 1
    · rw [e]; exact h
    · unfold xs_ll at h
      split at h
      · cases h
      · exact ih h (by omega)
theorem xs_ll_mid {q : tb_Q} {p n k m : Nat} (h : xs_ll q p n = some k) (h1 : k < m) (h2 : m ≤ n) : xs_ll q p m = some k := by
  induction n with
  | zero => cases h
  | succ n ih =>
    by_cases e : m = n + 1
    · rw [e]; exact h
    · unfold xs_ll at h
      split at h
      · cases h; omega
      · exact ih h (by omega)
theorem xs_lm_some {q : tb_Q} {sp a n e : Nat} (h : xs_lm q sp a n = some e) : 40 * a ≤ e ∧ e < 40 * a + n ∧ q 1 e = 2 ∧ 12 * q 2 e + q 3 e = sp := by
  induction n with
  | zero => cases h
  | succ n ih =>
    unfold xs_lm at h
    split at h
    · rename_i hc
      cases h
      exact ⟨by omega, by omega, hc⟩
    · have := ih h
      exact ⟨this.1, by omega, this.2.2⟩
theorem xs_lm_none {q : tb_Q} {sp a n m : Nat} (h : xs_lm q sp a n = none) (hm : m ≤ n) : xs_lm q sp a m = none := by
  induction n with
  | zero => rw [show m = 0 by omega]; rfl
  | succ n ih =>
    by_cases e : m = n + 1
    · rw [e]; exact h
    · unfold xs_lm at h
      split at h
      · cases h
      · exact ih h (by omega)
theorem xs_lm_mid {q : tb_Q} {sp a n e m : Nat} (h : xs_lm q sp a n = some e) (h1 : e < 40 * a + m) (h2 : m ≤ n) : xs_lm q sp a m = some e := by
  induction n with
  | zero => cases h
  | succ n ih =>
    by_cases e1 : m = n + 1
    · rw [e1]; exact h
    · unfold xs_lm at h
      split at h
      · cases h; omega
      · exact ih h (by omega)
theorem xs_bk_le (q : tb_Q) (t p m : Nat) : ∀ n, xs_bk q t p m n ≤ n
  | 0 => Nat.le_refl _
  | n + 1 => by
    unfold xs_bk
    split
    · exact Nat.le_refl _
    · exact Nat.le_succ_of_le (xs_bk_le q t p m n)
theorem xs_bk_lt {q : tb_Q} (hq : tb_sm q) (t p m d : Nat) : xs_bk q t p m (q 0 d) < 2147483648 := Nat.lt_of_le_of_lt (Nat.le_trans (xs_bk_le q t p m _) (hq 0 d)) (by decide)
/-- what the lends say: of the number, of the holder (one more; 0 nobody) -/
def xs_no (q : tb_Q) (d p : Nat) : Nat := match xs_ll q p (q 7 (5 * d + 0)) with
  | none => 0
  | some k => q 5 k
def xs_ho (q : tb_Q) (d p : Nat) : Nat := match xs_ll q p (q 7 (5 * d + 0)) with
  | none => 0
  | some k => if ¬ xs_bk q (q 4 k) (q 2 k) (q 5 k) (q 0 (q 4 k)) = 0 ∧ ¬ q 7 (5 * d + q 4 k) < xs_bk q (q 4 k) (q 2 k) (q 5 k) (q 0 (q 4 k)) then 0 else q 4 k + 1
theorem tb_bl_eq {x : Int32} {n : Nat} (h0 : 0 < n) (hn : n < 2147483648) : tb_in x (nI 0) (nI (n - 1)) = (!decide (x < 0) && !decide (nI n ≤ x)) := by
  unfold tb_in
  have e1 : (nI (n - 1) < x) = (nI n ≤ x) := by
    apply propext
    rw [Int32.lt_iff_toInt_lt, Int32.le_iff_toInt_le, nI_toInt (by omega), nI_toInt hn]
    omega
  simp only [e1]
  rfl
theorem tb_vl_eq {f : Nat} {v : Int32} (hf : f < 3) (a b : Int32) (ha : um_least f = .int a) (hb : um_great f = .int b) : tb_isVx (nI f) v = (!decide (v < a) && !decide (b < v)) := by
  have h3 : f = 0 ∨ f = 1 ∨ f = 2 := by omega
  rcases h3 with rfl | rfl | rfl <;> cases ha <;> cases hb <;> rfl
