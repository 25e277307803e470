/-! Worlds as finite maps (a list of addresses, and what lies at each): rows of the kit said in these words. -/
abbrev um_M : Type := List Nat × (Nat → va_E)
def um_h (σ : um_M) (a : Nat) (e : va_E) : Prop := a ∈ σ.1 ∧ σ.2 a = e
def um_up (σ : um_M) (a : Nat) (e : va_E) : um_M := (σ.1, va_up σ.2 a e)
def um_nw (σ : um_M) (a : Nat) (e : va_E) : um_M := (σ.1 ++ [a], va_up σ.2 a e)
theorem um_pl {σ : um_M} {a : Nat} {e : va_E} (h : um_h σ a e) : ∃ k : Nat, (va_pl σ.1 σ.2)[k]? = some (a, e) := by
  obtain ⟨k, hk⟩ := va_pl_get (X := []) (f := σ.2) h.1
  refine ⟨k, ?_⟩
  rw [← h.2]
  exact hk
theorem um_set {A : Nat → Prop} {σ : um_M} {a k : Nat} {e0 e : va_E} (hD : va_D A (va_pl σ.1 σ.2)) (h : um_h σ a e0) (hk : (va_pl σ.1 σ.2)[k]? = some (a, e0)) : (va_pl σ.1 σ.2).set k (a, e) = va_pl (um_up σ a e).1 (um_up σ a e).2 := by
  have h1 : ([] ++ va_pl σ.1 σ.2)[k]? = some (a, σ.2 a) := by rw [h.2]; exact hk
  exact va_pl_set (X := []) hD h.1 h1
theorem um_ni {A : Nat → Prop} {σ : um_M} {q : Nat} {e : va_E} (hD : va_D A (va_pl σ.1 σ.2 ++ [(q, e)])) : q ∉ σ.1 := by
  intro hq
  obtain ⟨k, hk⟩ := va_pl_get (X := []) (f := σ.2) hq
  have hk' : (va_pl σ.1 σ.2)[k]? = some (q, σ.2 q) := hk
  have hl := (List.getElem?_eq_some_iff.mp hk').1
  have h1 : (va_pl σ.1 σ.2 ++ [(q, e)])[k]? = some (q, σ.2 q) := by rw [List.getElem?_append_left hl]; exact hk'
  have h2 : (va_pl σ.1 σ.2 ++ [(q, e)])[(va_pl σ.1 σ.2).length]? = some (q, e) := by simp
  have h3 := hD.1 k _ _ _ h1 h2 rfl
  omega
theorem um_push {σ : um_M} {q : Nat} {e : va_E} (h : q ∉ σ.1) : va_pl σ.1 σ.2 ++ [(q, e)] = va_pl (um_nw σ q e).1 (um_nw σ q e).2 := va_pl_push h
theorem um_h.mem {σ : um_M} {a : Nat} {e : va_E} (h : um_h σ a e) : a ∈ σ.1 := h.1
theorem um_h.self {σ : um_M} {a : Nat} {e e0 : va_E} (h : um_h σ a e0) : um_h (um_up σ a e) a e := ⟨h.1, va_up_self _ _ _⟩
theorem um_h.up {σ : um_M} {a b : Nat} {e e' : va_E} (h : um_h σ b e') (hn : b ≠ a) : um_h (um_up σ a e) b e' := ⟨h.1, by show va_up σ.2 a e b = e'; rw [va_up_ne _ _ hn]; exact h.2⟩
theorem um_h.nw {σ : um_M} {q b : Nat} {e e' : va_E} (h : um_h σ b e') (hq : q ∉ σ.1) : um_h (um_nw σ q e) b e' := ⟨List.mem_append_left _ h.1, by
  have hn : b ≠ q := fun z => hq (by rw [← z]; exact h.1)
  show va_up σ.2 q e b = e'
  rw [va_up_ne _ _ hn]
  exact h.2⟩
theorem um_h.new {σ : um_M} {q : Nat} {e : va_E} : um_h (um_nw σ q e) q e := ⟨List.mem_append_right _ List.mem_cons_self, va_up_self _ _ _⟩
theorem um_h.inj {σ : um_M} {a : Nat} {e e' : va_E} (h : um_h σ a e) (h' : um_h σ a e') : e = e' := h.2.symm.trans h'.2
theorem um_h.ne {σ : um_M} {a b : Nat} {e e' : va_E} (h : um_h σ a e) (h' : um_h σ b e') (hn : e ≠ e') : a ≠ b := fun z => by
  subst z
  exact hn (h.inj h')
/-- what holds of a world inside a method's body -/
def um_S (D : va_G) (cl : List vw_C) (A : Nat → Prop) (s : State) (σ : um_M) (H : Heap) (locs : List Loc) : Prop := va_P D cl (va_pl σ.1 σ.2) H ∧ va_D A (va_pl σ.1 σ.2) ∧ va_S A s.heap H locs ∧ ∀ q : Nat, s.heap.size ≤ q → A q
/-- a boolean on the stack -/
def um_b (b : Bool) : Int32 := match b with
  | true => 1
  | false => 0
theorem um_b_nar (b : Bool) : narrow .boolean (.int (um_b b)) = .int (um_b b) := by cases b <;> decide +kernel
theorem um_b_0 {b : Bool} : um_b b = 0 ↔ b = false := by cases b <;> simp [um_b]
theorem um_b_n0 {b : Bool} : ¬ um_b b = 0 ↔ b = true := by cases b <;> simp [um_b]
section UM
variable {p : Program} {l : Launch} {e : Env} {R : Room} {s : State} {m : MethodId} {args : Array Value} {below : List Frame} {meth : Method} {c : Code} {H : Heap} {locs : List Loc} {cells slots : Nat} {Q : State → Prop}
variable {cc : ByteArray} {pc : Nat} {ls : Array Slot} {rest : List Value} {D : va_G} {cl : List vw_C} {A : Nat → Prop} {a : Nat} {tys : List (ClassId × FieldType)} {σ : um_M} {own : String} {Ts : List Cond}
theorem um_get (hx : p.tables.exec = Jvm.exec) (hb : c.code = cc) {C : String} {T : u_T} {N ci index : Nat} (hts : ∀ w ∈ Ts, w.before args s = true) (hin : ∀ w ∈ u_ws C T N, w ∈ Ts) (hown : s.vm.findClass own = some m.cls) (hK : va_K D cl tys s) (hU : um_S D cl A s σ H locs) {fs : List Value} (hh : um_h σ a (.inr (ci, fs))) (hc : cl[ci]? = some (C, T, N)) (k : Nat) (hk : k < N) (hlink : (Cond.fieldLink own index (T k).1 (T k).2.1 (T k).2.2.1).before args s = true) {v : Value} (hv : fs[k]? = some v) (hdg : decode cc pc = .ok (.getfield index, 3))
    (kk : W p l e R s m args below meth c H locs cells slots Q (F0 m (pc + 3) ls (v :: rest))) : W p l e R s m args below meth c H locs cells slots Q (F0 m pc ls (.ref a :: rest)) := by
  obtain ⟨q0, hq⟩ := um_pl hh
  exact va_get hx hb hts hin hown hK hU.1 q0 hq hc k hk hlink (fun _ h => h) hv hdg kk
theorem um_put (hx : p.tables.exec = Jvm.exec) (hb : c.code = cc) {C : String} {T : u_T} {N ci index : Nat} (hts : ∀ w ∈ Ts, w.before args s = true) (hin : ∀ w ∈ u_ws C T N, w ∈ Ts) (ty0 : Nat → FieldType) (hty : ∀ k, k < N → parseFieldDescriptor (T k).2.2.1 = some (ty0 k)) (hnm : ∀ a, a < N → ∀ b, b < N → a ≠ b → (T a).2.1 ≠ (T b).2.1) (hown : s.vm.findClass own = some m.cls) (hK : va_K D cl tys s) (hU : um_S D cl A s σ H locs) {fs : List Value} (hh : um_h σ a (.inr (ci, fs))) (hc : cl[ci]? = some (C, T, N)) (k : Nat) (hk : k < N) (hlink : (Cond.fieldLink own index (T k).1 (T k).2.1 (T k).2.2.1).before args s = true) (hfin : (T k).2.2.2 = false) {ty : FieldType} {v : Value} (hd : parseFieldDescriptor (T k).2.2.1 = some ty) (hn : narrow ty v = v) (hfit : fits ty v = true) {fs' : List Value} (hs : fs.set k v = fs') (hl : k < fs.length)
    (hdg : decode cc pc = .ok (.putfield index, 3)) (kk : ∀ (H1 : Heap) (locs1 : List Loc), um_S D cl A s (um_up σ a (.inr (ci, fs'))) H1 locs1 → W p l e R s m args below meth c H1 locs1 cells slots Q (F0 m (pc + 3) ls rest)) : W p l e R s m args below meth c H locs cells slots Q (F0 m pc ls (v :: .ref a :: rest)) := by
  obtain ⟨q0, hq⟩ := um_pl hh
  subst hs
  refine va_put hx hb hts hin ty0 hty hnm hown hK hU.1 hU.2.1 hU.2.2.1 q0 hq hc k hk hlink (fun _ h => h) hfin hd hn hfit hl hdg (fun H1 locs1 h1 h2 h3 => kk H1 locs1 ?_)
  rw [um_set hU.2.1 hh hq] at h1 h2
  exact ⟨h1, h2, h3, hU.2.2.2⟩
theorem um_putF (hx : p.tables.exec = Jvm.exec) (hb : c.code = cc) {C : String} {T : u_T} {N ci index : Nat} (hts : ∀ w ∈ Ts, w.before args s = true) (hin : ∀ w ∈ u_ws C T N, w ∈ Ts) (ty0 : Nat → FieldType) (hty : ∀ k, k < N → parseFieldDescriptor (T k).2.2.1 = some (ty0 k)) (hnm : ∀ a, a < N → ∀ b, b < N → a ≠ b → (T a).2.1 ≠ (T b).2.1) (hown : s.vm.findClass own = some m.cls) (hK : va_K D cl tys s) (hU : um_S D cl A s σ H locs) {fs : List Value} (hh : um_h σ a (.inr (ci, fs))) (hc : cl[ci]? = some (C, T, N)) (k : Nat) (hk : k < N) (hlink : (Cond.fieldLink own index (T k).1 (T k).2.1 (T k).2.2.1).before args s = true) (hfin : (T k).2.2.2 = true) (hin0 : meth.name = "<init>") (hoC : (T k).1 = own) {ty : FieldType} {v : Value} (hd : parseFieldDescriptor (T k).2.2.1 = some ty) (hn : narrow ty v = v) (hfit : fits ty v = true) {fs' : List Value} (hs : fs.set k v = fs') (hl : k < fs.length)
    (hdg : decode cc pc = .ok (.putfield index, 3)) (kk : ∀ (H1 : Heap) (locs1 : List Loc), um_S D cl A s (um_up σ a (.inr (ci, fs'))) H1 locs1 → W p l e R s m args below meth c H1 locs1 cells slots Q (F0 m (pc + 3) ls rest)) : W p l e R s m args below meth c H locs cells slots Q (F0 m pc ls (v :: .ref a :: rest)) := by
  obtain ⟨q0, hq⟩ := um_pl hh
  subst hs
  refine va_putF hx hb hts hin ty0 hty hnm hown hK hU.1 hU.2.1 hU.2.2.1 q0 hq hc k hk hlink (fun _ h => h) hfin hin0 hoC hd hn hfit hl hdg (fun H1 locs1 h1 h2 h3 => kk H1 locs1 ?_)
  rw [um_set hU.2.1 hh hq] at h1 h2
  exact ⟨h1, h2, h3, hU.2.2.2⟩
theorem um_ild (hx : p.tables.exec = Jvm.exec) (hb : c.code = cc) (hK : va_K D cl tys s) (hU : um_S D cl A s σ H locs) (t0 : Nat) {cA : ClassId} {n : Nat} {f : Nat → Int32} (hh : um_h σ a (.inl (cA, n, .inl f))) (ht : tys[t0]? = some (cA, .int)) {i : Int32} (j : Nat) (hi : i = nI j) (hj : j < n) (hn : n < 2147483648) {v : Int32} (hv : f j = v) (hdg : decode cc pc = .ok (.iaload, 1))
    (kk : W p l e R s m args below meth c H locs cells slots Q (F0 m (pc + 1) ls (.int v :: rest))) : W p l e R s m args below meth c H locs cells slots Q (F0 m pc ls (.int i :: .ref a :: rest)) := by
  obtain ⟨q0, hq⟩ := um_pl hh
  subst hi
  subst hv
  refine va_iald hx hb hK hU.1 q0 t0 hq ht (vp_in_nI hj hn) hdg ?_
  rw [nI_clamp (Nat.lt_trans hj hn)]
  exact kk
theorem um_ist (hx : p.tables.exec = Jvm.exec) (hb : c.code = cc) (hK : va_K D cl tys s) (hU : um_S D cl A s σ H locs) (t0 : Nat) {cA : ClassId} {n : Nat} {f : Nat → Int32} (hh : um_h σ a (.inl (cA, n, .inl f))) (ht : tys[t0]? = some (cA, .int)) {i x : Int32} (j : Nat) (hi : i = nI j) (hj : j < n) (hn : n < 2147483648) {f' : Nat → Int32} (hf : upd f j x = f') (hdg : decode cc pc = .ok (.iastore, 1))
    (kk : ∀ (H1 : Heap) (locs1 : List Loc), um_S D cl A s (um_up σ a (.inl (cA, n, .inl f'))) H1 locs1 → W p l e R s m args below meth c H1 locs1 cells slots Q (F0 m (pc + 1) ls rest)) : W p l e R s m args below meth c H locs cells slots Q (F0 m pc ls (.int x :: .int i :: .ref a :: rest)) := by
  obtain ⟨q0, hq⟩ := um_pl hh
  subst hi
  subst hf
  refine va_iast hx hb hK hU.1 hU.2.1 hU.2.2.1 q0 t0 hq ht (vp_in_nI hj hn) hdg (fun H1 locs1 h1 h2 h3 => kk H1 locs1 ?_)
  rw [um_set hU.2.1 hh hq, nI_clamp (Nat.lt_trans hj hn)] at h1 h2
  exact ⟨h1, h2, h3, hU.2.2.2⟩
theorem um_lld (hx : p.tables.exec = Jvm.exec) (hb : c.code = cc) (hK : va_K D cl tys s) (hU : um_S D cl A s σ H locs) (t0 : Nat) {cA : ClassId} {n : Nat} {f : Nat → Int64} (hh : um_h σ a (.inl (cA, n, .inr (.inl f)))) (ht : tys[t0]? = some (cA, .long)) {i : Int32} (j : Nat) (hi : i = nI j) (hj : j < n) (hn : n < 2147483648) {v : Int64} (hv : f j = v) (hdg : decode cc pc = .ok (.laload, 1))
    (kk : W p l e R s m args below meth c H locs cells slots Q (F0 m (pc + 1) ls (.long v :: rest))) : W p l e R s m args below meth c H locs cells slots Q (F0 m pc ls (.int i :: .ref a :: rest)) := by
  obtain ⟨q0, hq⟩ := um_pl hh
  subst hi
  subst hv
  refine va_lald hx hb hK hU.1 q0 t0 hq ht (vp_in_nI hj hn) hdg ?_
  rw [nI_clamp (Nat.lt_trans hj hn)]
  exact kk
theorem um_lst (hx : p.tables.exec = Jvm.exec) (hb : c.code = cc) (hK : va_K D cl tys s) (hU : um_S D cl A s σ H locs) (t0 : Nat) {cA : ClassId} {n : Nat} {f : Nat → Int64} (hh : um_h σ a (.inl (cA, n, .inr (.inl f)))) (ht : tys[t0]? = some (cA, .long)) {i : Int32} {x : Int64} (j : Nat) (hi : i = nI j) (hj : j < n) (hn : n < 2147483648) {f' : Nat → Int64} (hf : vp_updL f j x = f') (hdg : decode cc pc = .ok (.lastore, 1))
    (kk : ∀ (H1 : Heap) (locs1 : List Loc), um_S D cl A s (um_up σ a (.inl (cA, n, .inr (.inl f')))) H1 locs1 → W p l e R s m args below meth c H1 locs1 cells slots Q (F0 m (pc + 1) ls rest)) : W p l e R s m args below meth c H locs cells slots Q (F0 m pc ls (.long x :: .int i :: .ref a :: rest)) := by
  obtain ⟨q0, hq⟩ := um_pl hh
  subst hi
  subst hf
  refine va_last hx hb hK hU.1 hU.2.1 hU.2.2.1 q0 t0 hq ht (vp_in_nI hj hn) hdg (fun H1 locs1 h1 h2 h3 => kk H1 locs1 ?_)
  rw [um_set hU.2.1 hh hq, nI_clamp (Nat.lt_trans hj hn)] at h1 h2
  exact ⟨h1, h2, h3, hU.2.2.2⟩
/-- a reference out of an array of objects -/
theorem um_ald (hx : p.tables.exec = Jvm.exec) (hb : c.code = cc) (hK : va_K D cl tys s) (hU : um_S D cl A s σ H locs) (t0 : Nat) {cA : ClassId} {C : String} {n : Nat} {f : Nat → Option Nat} (hh : um_h σ a (.inl (cA, n, .inr (.inr (.inr (.inr f)))))) (ht : tys[t0]? = some (cA, .object C)) {i : Int32} (j : Nat) (hi : i = nI j) (hj : j < n) (hn : n < 2147483648) {r : Option Nat} (hv : f j = r) (hdg : decode cc pc = .ok (.aaload, 1))
    (kk : W p l e R s m args below meth c H locs cells slots Q (F0 m (pc + 1) ls (va_rf r :: rest))) : W p l e R s m args below meth c H locs cells slots Q (F0 m pc ls (.int i :: .ref a :: rest)) := by
  obtain ⟨q0, hq⟩ := um_pl hh
  subst hi
  subst hv
  refine va_aldq hx hb hK hU.1 q0 t0 hq ht (vp_in_nI hj hn) hdg ?_
  rw [nI_clamp (Nat.lt_trans hj hn)]
  exact kk
/-- a row out of an array of arrays -/
theorem um_gld (hx : p.tables.exec = Jvm.exec) (hb : c.code = cc) (hK : va_K D cl tys s) (hU : um_S D cl A s σ H locs) (t0 : Nat) {cA : ClassId} {ty : FieldType} {n : Nat} {f : Nat → Option Nat} (hh : um_h σ a (.inl (cA, n, .inr (.inr (.inr (.inr f)))))) (ht : tys[t0]? = some (cA, .array ty)) {i : Int32} (j : Nat) (hi : i = nI j) (hj : j < n) (hn : n < 2147483648) {r : Nat} (hv : f j = some r) (hdg : decode cc pc = .ok (.aaload, 1))
    (kk : W p l e R s m args below meth c H locs cells slots Q (F0 m (pc + 1) ls (.ref r :: rest))) : W p l e R s m args below meth c H locs cells slots Q (F0 m pc ls (.int i :: .ref a :: rest)) := by
  obtain ⟨q0, hq⟩ := um_pl hh
  subst hi
  have h1 : H[a]? = some (vp_cell cA (n, .inr (.inr (.inr (.inr f))))) := hU.1 q0 _ hq
  refine W.aald (v := .ref r) (ty := .array ty) hx hb h1 ((hK.2 t0 _ ht).1 n (fun j => va_rf (f j))) rfl (fun q => by cases q) (by show ¬ (nI j < 0 ∨ (arrV _ _ _).slots.size ≤ _); rw [arrV_size]; exact vp_in_nI hj hn) (by show (arrV _ _ _).slots[_]? = _; rw [nI_clamp (Nat.lt_trans hj hn), arrV_read _ _ hj, hv]; rfl) rfl rfl hdg kk
theorem um_ast (hx : p.tables.exec = Jvm.exec) (hb : c.code = cc) (hK : va_K D cl tys s) (hU : um_S D cl A s σ H locs) (t0 ci : Nat) {cA : ClassId} {r : vw_C} {n v : Nat} {vs : List Value} {f : Nat → Option Nat} (hh : um_h σ a (.inl (cA, n, .inr (.inr (.inr (.inr f)))))) (ht : tys[t0]? = some (cA, .object r.1)) (hv : um_h σ v (.inr (ci, vs))) (hc : cl[ci]? = some r) {i : Int32} (j : Nat) (hi : i = nI j) (hj : j < n) (hn : n < 2147483648) (hdg : decode cc pc = .ok (.aastore, 1))
    (kk : ∀ (H1 : Heap) (locs1 : List Loc), um_S D cl A s (um_up σ a (.inl (cA, n, .inr (.inr (.inr (.inr (va_up f j (some v)))))))) H1 locs1 → W p l e R s m args below meth c H1 locs1 cells slots Q (F0 m (pc + 1) ls rest)) : W p l e R s m args below meth c H locs cells slots Q (F0 m pc ls (.ref v :: .int i :: .ref a :: rest)) := by
  obtain ⟨q0, hq⟩ := um_pl hh
  obtain ⟨q1, hq1⟩ := um_pl hv
  subst hi
  refine va_astq hx hb hK hU.1 hU.2.1 hU.2.2.1 q0 t0 q1 ci hq ht hq1 hc (vp_in_nI hj hn) hdg (fun H1 locs1 h1 h2 h3 => kk H1 locs1 ?_)
  rw [um_set hU.2.1 hh hq, nI_clamp (Nat.lt_trans hj hn)] at h1 h2
  exact ⟨h1, h2, h3, hU.2.2.2⟩
theorem um_astN (hx : p.tables.exec = Jvm.exec) (hb : c.code = cc) (hK : va_K D cl tys s) (hU : um_S D cl A s σ H locs) (t0 : Nat) {cA : ClassId} {C : String} {n : Nat} {f : Nat → Option Nat} (hh : um_h σ a (.inl (cA, n, .inr (.inr (.inr (.inr f)))))) (ht : tys[t0]? = some (cA, .object C)) {i : Int32} (j : Nat) (hi : i = nI j) (hj : j < n) (hn : n < 2147483648) (hdg : decode cc pc = .ok (.aastore, 1))
    (kk : ∀ (H1 : Heap) (locs1 : List Loc), um_S D cl A s (um_up σ a (.inl (cA, n, .inr (.inr (.inr (.inr (va_up f j none))))))) H1 locs1 → W p l e R s m args below meth c H1 locs1 cells slots Q (F0 m (pc + 1) ls rest)) : W p l e R s m args below meth c H locs cells slots Q (F0 m pc ls (.null :: .int i :: .ref a :: rest)) := by
  obtain ⟨q0, hq⟩ := um_pl hh
  subst hi
  refine va_astqN hx hb hK hU.1 hU.2.1 hU.2.2.1 q0 t0 hq ht (vp_in_nI hj hn) hdg (fun H1 locs1 h1 h2 h3 => kk H1 locs1 ?_)
  rw [um_set hU.2.1 hh hq, nI_clamp (Nat.lt_trans hj hn)] at h1 h2
  exact ⟨h1, h2, h3, hU.2.2.2⟩
theorem um_new {c0 : Code} (hx : p.tables.exec = Jvm.exec) (hb : c0.code = cc) {C : String} {T : u_T} {N ci index : Nat} (hts : ∀ w ∈ Ts, w.before args s = true) (hin : ∀ w ∈ u_ws C T N, w ∈ Ts) (ty : Nat → FieldType) (hty : ∀ k, k < N → parseFieldDescriptor (T k).2.2.1 = some (ty k)) (hown : s.vm.findClass own = some m.cls) (hcl : (Cond.classLink own index C).before args s = true) (hinst : (Cond.instantiable C N).before args s = true) (hini : (Cond.initialized C).before args s = true)
    (hK : va_K D cl tys s) (hU : um_S D cl A s σ H locs) (hc : cl[ci]? = some (C, T, N)) {fs : List Value} (hfs : ∀ j, j < N → defaultValue (ty j) = vp_V fs j) (hcells : cells + 1 ≤ R.cells) (hslots : slots + N ≤ R.slots) (hdg : decode cc pc = .ok (.new index, 3))
    (kk : ∀ (q : Nat) (H1 : Heap), q ∉ σ.1 → um_S D cl A s (um_nw σ q (.inr (ci, fs))) H1 locs →
      W p l e R s m args below meth c0 H1 locs (cells + 1) (slots + N) Q (F0 m (pc + 3) ls (.ref q :: rest))) : W p l e R s m args below meth c0 H locs cells slots Q (F0 m pc ls rest) := by
  refine va_new hx hb hts hin ty hty hown hcl hinst hini hK hU.1 hU.2.1 hU.2.2.1 hU.2.2.2 hc hfs hcells hslots hdg (fun q H1 h1 h2 h3 => ?_)
  have hq := um_ni h2
  rw [um_push hq] at h1 h2
  exact kk q H1 hq ⟨h1, h2, h3, hU.2.2.2⟩
theorem um_newa (hx : p.tables.exec = Jvm.exec) (hb : c.code = cc) {atype : ArrayType} (harr : (Cond.arrayClass (newarray.typeOf atype)).before args s = true) {ty : FieldType} (hty : newarray.typeOf atype = ty) (hK : va_K D cl tys s) (hU : um_S D cl A s σ H locs) (t0 : Nat) {cB : ClassId} (ht : tys[t0]? = some (cB, ty)) (hob : ∀ cA : ClassId, va_RA s cA ty → cA = cB)
    {n : Int32} {N' : Nat} {a0 : vp_A} (ha : ∀ cA : ClassId, vp_cell cA a0 = arrV cA N' (fun _ => defaultValue ty)) (hn : ¬ n < 0) (hN : n.toNatClampNeg = N') (hbytes : N' * componentBytes ty ≤ 536870912) (hcells : cells + 1 ≤ R.cells) (hslots : slots + N' ≤ R.slots) (hdg : decode cc pc = .ok (.newarray atype, 2))
    (kk : ∀ (q : Nat) (H1 : Heap), q ∉ σ.1 → um_S D cl A s (um_nw σ q (.inl (cB, a0))) H1 locs →
      W p l e R s m args below meth c H1 locs (cells + 1) (slots + N') Q (F0 m (pc + 2) ls (.ref q :: rest))) : W p l e R s m args below meth c H locs cells slots Q (F0 m pc ls (.int n :: rest)) := by
  refine va_newa hx hb harr hty hK hU.1 hU.2.1 hU.2.2.1 hU.2.2.2 ha hn hN hbytes hcells hslots hdg (fun q cA H1 hK1 h1 h2 h3 => ?_)
  have e1 : cA = cB := hob cA (hK1.2 tys.length (cA, ty) (by simp)).2
  subst e1
  have hq := um_ni h2
  rw [um_push hq] at h1 h2
  exact kk q H1 hq ⟨h1, h2, h3, hU.2.2.2⟩
theorem um_newq (hx : p.tables.exec = Jvm.exec) (hb : c.code = cc) {C : String} {index : Nat} (hown : s.vm.findClass own = some m.cls) (hclink : (Cond.classLink own index C).before args s = true) (hover : va_AO C s) (hK : va_K D cl tys s) (hU : um_S D cl A s σ H locs) (t0 : Nat) {cB : ClassId} (ht : tys[t0]? = some (cB, .object C))
    {n : Int32} {N' : Nat} (hn : ¬ n < 0) (hN : n.toNatClampNeg = N') (hbytes : N' * 4 ≤ 536870912) (hcells : cells + 1 ≤ R.cells) (hslots : slots + N' ≤ R.slots) (hdg : decode cc pc = .ok (.anewarray index, 3))
    (kk : ∀ (q : Nat) (H1 : Heap), q ∉ σ.1 → um_S D cl A s (um_nw σ q (.inl (cB, N', .inr (.inr (.inr (.inr (fun _ => none))))))) H1 locs →
      W p l e R s m args below meth c H1 locs (cells + 1) (slots + N') Q (F0 m (pc + 3) ls (.ref q :: rest))) : W p l e R s m args below meth c H locs cells slots Q (F0 m pc ls (.int n :: rest)) := by
  refine va_newq hx hb hown hclink hover hK hU.1 hU.2.1 hU.2.2.1 hU.2.2.2 hn hN hbytes hcells hslots hdg (fun q cA H1 hK1 h1 h2 h3 => ?_)
  obtain ⟨-, -, -, -, -, g1⟩ := (hK1.2 tys.length (cA, .object C) (by simp)).2
  obtain ⟨-, -, -, -, -, g2⟩ := (hK.2 t0 _ ht).2
  have e1 : cA = cB := Option.some.inj (g1.symm.trans g2)
  subst e1
  have hq := um_ni h2
  rw [um_push hq] at h1 h2
  exact kk q H1 hq ⟨h1, h2, h3, hU.2.2.2⟩
end UM
