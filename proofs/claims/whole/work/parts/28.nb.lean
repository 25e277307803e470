/-! The notebook's page, of the picture: lo: the newest known value of each author; what of it is unseen; the list. -/
def xs_lo (q : tb_Q) (d sp i : Nat) : Option Nat := xs_lm q sp i (q 7 (5 * d + i))
def xs_kaP (q : tb_Q) (lo : Nat → Option Nat) (e i : Nat) : Bool := match lo i with
  | none => false
  | some f => !decide (f = e) && !decide (q 6 (5 * f + e / 40) < e % 40 + 1)
def xs_kaF (q : tb_Q) (lo : Nat → Option Nat) (e i : Nat) (b : Bool) : Bool := b || xs_kaP q lo e i
def xs_ka (q : tb_Q) (lo : Nat → Option Nat) (e : Nat) : Bool := tb_fo (xs_kaF q lo e) false 5
def xs_un (q : tb_Q) (lo : Nat → Option Nat) (i : Nat) : Option Nat := match lo i with
  | none => none
  | some e => if xs_ka q lo e = true then none else some e
def xs_tpF (q : tb_Q) (un : Nat → Option Nat) (i t : Nat) : Nat := match un i with
  | none => t
  | some e => if q 5 e ≤ t then t else q 5 e
def xs_tp (q : tb_Q) (un : Nat → Option Nat) : Nat := tb_fo (xs_tpF q un) 0 5
def xs_lsF (q : tb_Q) (un : Nat → Option Nat) (top : Nat) (b : Bool) (i : Nat) (l : List Nat) : List Nat := match un i with
  | none => l
  | some e => if (decide (q 5 e = top) == b) = true then l ++ [e] else l
def xs_ls (q : tb_Q) (un : Nat → Option Nat) (top : Nat) (b : Bool) (n : Nat) : List Nat := tb_fo (xs_lsF q un top b) [] n
/-- the first i places of a row of the scratch are f's -/
def xs_fill (sc : xs_S) (r : Nat) (f : Nat → Option Nat) (i : Nat) : xs_S := (va_up sc.1 r (fun j => if j < i then f j else sc.1 r j), sc.2.1, sc.2.2.1, sc.2.2.2)
theorem xs_fill_s (sc : xs_S) (r : Nat) (f : Nat → Option Nat) (i : Nat) : xs_sR (xs_fill sc r f i) r i (f i) = xs_fill sc r f (i + 1) := by
  unfold xs_sR xs_fill
  simp only [va_up_self]
  congr 1
  funext k
  by_cases h : k = r
  · subst h
    rw [va_up_self, va_up_self]
    funext j
    by_cases h2 : j = i
    · subst h2
      rw [va_up_self, if_pos (by omega)]
    · rw [va_up_ne _ _ h2]
      by_cases h3 : j < i
      · rw [if_pos h3, if_pos (by omega)]
      · rw [if_neg h3, if_neg (by omega)]
  · rw [va_up_ne _ _ h, va_up_ne _ _ h, va_up_ne _ _ h]
theorem xs_fill_0 (sc : xs_S) (r : Nat) (f : Nat → Option Nat) : xs_fill sc r f 0 = sc := by
  unfold xs_fill
  have : (va_up sc.1 r fun j => if j < 0 then f j else sc.1 r j) = sc.1 := by
    funext k
    by_cases h : k = r
    · subst h
      rw [va_up_self]
      funext j
      rw [if_neg (by omega)]
    · rw [va_up_ne _ _ h]
  rw [this]
theorem xs_fill_at (sc : xs_S) (r : Nat) (f : Nat → Option Nat) {i j : Nat} (h : j < i) : (xs_fill sc r f i).1 r j = f j := by
  unfold xs_fill
  simp only [va_up_self]
  rw [if_pos h]
theorem xs_fill_n (sc : xs_S) {r r' : Nat} (f : Nat → Option Nat) (i : Nat) (h : r' ≠ r) : (xs_fill sc r f i).1 r' = sc.1 r' := by
  unfold xs_fill
  simp only
  rw [va_up_ne _ _ h]
/-- the list goes on at place n, the size with it -/
def xs_app (sc : xs_S) (ma : Nat → Nat) (n : Nat) (l : List Nat) : xs_S := (va_up sc.1 2 (fun j => if n ≤ j ∧ j < n + l.length then (l[j - n]?).map ma else sc.1 2 j), sc.2.1, va_up sc.2.2.1 1 (nI (n + l.length)), sc.2.2.2)
theorem xs_app_s (sc : xs_S) (ma : Nat → Nat) (n : Nat) (l : List Nat) (e : Nat) : xs_sI (xs_sR (xs_app sc ma n l) 2 (n + l.length) (some (ma e))) 1 (nI (n + l.length + 1)) = xs_app sc ma n (l ++ [e]) := by
  unfold xs_sI xs_sR xs_app
  simp only [va_up_self, List.length_append, List.length_cons, List.length_nil]
  congr 1
  · funext k
    by_cases h : k = 2
    · subst h
      rw [va_up_self, va_up_self]
      funext j
      by_cases h2 : j = n + l.length
      · subst h2
        rw [va_up_self, if_pos (by omega), show n + l.length - n = l.length by omega]
        simp
      · rw [va_up_ne _ _ h2]
        by_cases h3 : n ≤ j ∧ j < n + l.length
        · rw [if_pos h3, if_pos (by omega), List.getElem?_append_left (by omega)]
        · rw [if_neg h3, if_neg (by omega)]
    · rw [va_up_ne _ _ h, va_up_ne _ _ h, va_up_ne _ _ h]
  · congr 1
    congr 1
    funext k
    by_cases h : k = 1
    · subst h
      rw [va_up_self, va_up_self]
      exact congrArg nI (by omega)
    · rw [va_up_ne _ _ h, va_up_ne _ _ h, va_up_ne _ _ h]
theorem xs_app_0 (sc : xs_S) (ma : Nat → Nat) (n : Nat) (h : sc.2.2.1 1 = nI n) : xs_app sc ma n [] = sc := by
  unfold xs_app
  have e1 : (va_up sc.1 2 fun j => if n ≤ j ∧ j < n + ([] : List Nat).length then (([] : List Nat)[j - n]?).map ma else sc.1 2 j) = sc.1 := by
    funext k
    by_cases h : k = 2
    · subst h
      rw [va_up_self]
      funext j
      rw [if_neg (by rw [List.length_nil]; omega)]
    · rw [va_up_ne _ _ h]
  have e2 : va_up sc.2.2.1 1 (nI (n + ([] : List Nat).length)) = sc.2.2.1 := by
    funext k
    by_cases h2 : k = 1
    · subst h2
      rw [va_up_self]
      exact h.symm
    · rw [va_up_ne _ _ h2]
  rw [e1, e2]
theorem xs_app_z (sc : xs_S) (ma : Nat → Nat) (n : Nat) (l : List Nat) : (xs_app sc ma n l).2.2.1 1 = nI (n + l.length) := by
  show va_up sc.2.2.1 1 (nI (n + l.length)) 1 = _
  exact va_up_self _ _ _
theorem xs_ls_len (q : tb_Q) (un : Nat → Option Nat) (top : Nat) (b : Bool) : ∀ n, (xs_ls q un top b n).length ≤ n
  | 0 => Nat.le_refl _
  | n + 1 => by
    have h := xs_ls_len q un top b n
    show (xs_lsF q un top b n (xs_ls q un top b n)).length ≤ n + 1
    unfold xs_lsF
    split
    · omega
    · split
      · simp; omega
      · omega
/-- an author is told by where its measure lies -/
theorem xs_at.maI {κ : Nat → ClassId} {σ : um_M} {xd la ma va : Nat → Nat} {q : tb_Q} {sc : xs_S} (h : xs_at κ σ xd la ma va q sc) {e f : Nat} (he : xs_isM q e) (hf : xs_isM q f) (hm : ma f = ma e) : f = e := by
  have h1 := (h.2.2.2 e he).1
  have h2 := (h.2.2.2 f hf).1
  rw [hm] at h2
  have h3 := h2.inj h1
  unfold xs_meas at h3
  simp only [Sum.inr.injEq, Prod.mk.injEq, List.cons.injEq, Value.int.injEq] at h3
  have a1 := he.1
  have a2 := hf.1
  have g1 := (nI_eq (a := f / 40) (b := e / 40) (by omega) (by omega)).mp h3.2.1
  have g2 := (nI_eq (a := f % 40 + 1) (b := e % 40 + 1) (by omega) (by omega)).mp h3.2.2.1
  omega
theorem xs_lo_M {q : tb_Q} {d sp i e : Nat} (hm : ∀ d, q 0 d ≤ 40) (hk : ∀ d a, d < 5 → a < 5 → q 7 (5 * d + a) ≤ q 0 a) (hd : d < 5) (hi : i < 5) (h : xs_lo q d sp i = some e) : xs_isM q e ∧ e / 40 = i ∧ 12 * q 2 e + q 3 e = sp := by
  obtain ⟨h1, h2, h3, h4⟩ := xs_lm_some h
  have h5 := hk d i hd hi
  have h6 := hm i
  have e1 : e / 40 = i := by omega
  have e2 : e % 40 < q 0 i := by omega
  exact ⟨⟨by omega, by rw [e1]; exact e2, h3⟩, e1, h4⟩
section NB
variable {p : Program} {l : Launch} {e : Env} {R : Room} {s : State} {m : MethodId} {args : Array Value} {below : List Frame} {meth : Method} {c : Code} {H : Heap} {locs : List Loc} {cells slots : Nat} {Q : State → Prop}
variable {cc : ByteArray} {pc tgt : Nat} {ls : Array Slot} {rest : List Value} {off : Int} {D : va_G} {A : Nat → Prop} {σ : um_M} {κ : Nat → ClassId} {xd la ma va : Nat → Nat} {q : tb_Q} {sc : xs_S}
theorem um_ne1B {b : Bool} (hx : p.tables.exec = Jvm.exec) (hb : c.code = cc) (hdg : decode cc pc = .ok (.if_icmp .ne off, 3)) (ht : (pc : Int) + off = (tgt : Int)) (kt : b = false → W p l e R s m args below meth c H locs cells slots Q (F0 m tgt ls rest)) (kf : b = true → W p l e R s m args below meth c H locs cells slots Q (F0 m (pc + 3) ls rest)) : W p l e R s m args below meth c H locs cells slots Q (F0 m pc ls (.int (um_b b) :: .int (nI 1) :: rest)) := by
  cases b with
  | true => exact lv_icmp_ne hx hb hdg ht (fun z => absurd rfl z) (fun _ => kf rfl)
  | false => exact lv_icmp_ne hx hb hdg ht (fun _ => kt rfl) (fun z => absurd z (by decide +kernel))
theorem um_ne0B {b : Bool} (hx : p.tables.exec = Jvm.exec) (hb : c.code = cc) (hdg : decode cc pc = .ok (.if_icmp .ne off, 3)) (ht : (pc : Int) + off = (tgt : Int)) (kt : b = true → W p l e R s m args below meth c H locs cells slots Q (F0 m tgt ls rest)) (kf : b = false → W p l e R s m args below meth c H locs cells slots Q (F0 m (pc + 3) ls rest)) : W p l e R s m args below meth c H locs cells slots Q (F0 m pc ls (.int (um_b b) :: .int (nI 0) :: rest)) := by
  cases b with
  | true => exact lv_icmp_ne hx hb hdg ht (fun _ => kt rfl) (fun z => absurd z (by decide +kernel))
  | false => exact lv_icmp_ne hx hb hdg ht (fun z => absurd rfl z) (fun _ => kf rfl)
theorem xs_scR (h : xs_at κ σ xd la ma va q sc) (r j : Nat) (v : Option Nat) (hr : r < 3) : xs_at κ (um_up σ (xd (18 + r)) (xs_R (κ 4) 5 (va_up (sc.1 r) j v))) xd la ma va q (xs_sR sc r j v) := by
  have h3 : r = 0 ∨ r = 1 ∨ r = 2 := by omega
  rcases h3 with rfl | rfl | rfl
  · refine h.scr 18 (by decide) (fun i hi hn => ?_) rfl
    refine xs_29 (P := fun i => i ≠ 18 → xs_cell κ xd la ma q (xs_sR sc 0 j v) i = xs_cell κ xd la ma q sc i) ?_ ?_ ?_ ?_ ?_ ?_ ?_ ?_ ?_ ?_ ?_ ?_ ?_ ?_ ?_ ?_ ?_ ?_ ?_ ?_ ?_ ?_ ?_ ?_ ?_ ?_ ?_ ?_ ?_ hi hn <;> intro hn <;> first | exact absurd rfl hn | rfl
  · refine h.scr 19 (by decide) (fun i hi hn => ?_) rfl
    refine xs_29 (P := fun i => i ≠ 19 → xs_cell κ xd la ma q (xs_sR sc 1 j v) i = xs_cell κ xd la ma q sc i) ?_ ?_ ?_ ?_ ?_ ?_ ?_ ?_ ?_ ?_ ?_ ?_ ?_ ?_ ?_ ?_ ?_ ?_ ?_ ?_ ?_ ?_ ?_ ?_ ?_ ?_ ?_ ?_ ?_ hi hn <;> intro hn <;> first | exact absurd rfl hn | rfl
  · refine h.scr 20 (by decide) (fun i hi hn => ?_) rfl
    refine xs_29 (P := fun i => i ≠ 20 → xs_cell κ xd la ma q (xs_sR sc 2 j v) i = xs_cell κ xd la ma q sc i) ?_ ?_ ?_ ?_ ?_ ?_ ?_ ?_ ?_ ?_ ?_ ?_ ?_ ?_ ?_ ?_ ?_ ?_ ?_ ?_ ?_ ?_ ?_ ?_ ?_ ?_ ?_ ?_ ?_ hi hn <;> intro hn <;> first | exact absurd rfl hn | rfl
theorem xs_c18r (h : xs_at κ σ xd la ma va q sc) (r : Nat) (hr : r < 3) : um_h σ (xd (18 + r)) (xs_R (κ 4) 5 (sc.1 r)) := by
  have h3 : r = 0 ∨ r = 1 ∨ r = 2 := by omega
  rcases h3 with rfl | rfl | rfl
  · exact h.c18
  · exact h.c19
  · exact h.c20
/-- an optional measure into a row of the scratch -/
theorem xs_astQ (hx : p.tables.exec = Jvm.exec) (hb : c.code = cc) (hK : va_K D vwCl (um_T κ) s) (hU : um_S D vwCl A s σ H locs) (h : xs_at κ σ xd la ma va q sc) (r j : Nat) (o : Option Nat) (hr : r < 3) (hj : j < 5) (ho : ∀ e, o = some e → xs_isM q e) (hdg : decode cc pc = .ok (.aastore, 1))
    (kk : ∀ (σ' : um_M) (H1 : Heap) (locs1 : List Loc), xs_at κ σ' xd la ma va q (xs_sR sc r j (o.map ma)) → um_S D vwCl A s σ' H1 locs1 → W p l e R s m args below meth c H1 locs1 cells slots Q (F0 m (pc + 1) ls rest)) : W p l e R s m args below meth c H locs cells slots Q (F0 m pc ls (va_rf (o.map ma) :: .int (nI j) :: .ref (xd (18 + r)) :: rest)) := by
  cases o with
  | none => exact um_astN (C := RX3) hx hb hK hU 4 (xs_c18r h r hr) rfl j rfl hj (by decide) hdg (fun H1 locs1 hU1 => kk _ H1 locs1 (xs_scR h r j none hr) hU1)
  | some e9 => exact um_ast (r := (RX3, TX3, 6)) hx hb hK hU 4 3 (xs_c18r h r hr) rfl (h.2.2.2 e9 (ho e9 rfl)).1 rfl j rfl hj (by decide) hdg (fun H1 locs1 hU1 => kk _ H1 locs1 (xs_scR h r j (some (ma e9)) hr) hU1)
end NB
