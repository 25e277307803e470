/-! Facts of a world as a list (for constructors): each row hides the world. -/
def um_hs (σ : um_M) (l : List (Nat × va_E)) : Prop := (∀ (k : Nat) (x : Nat × va_E), l[k]? = some x → um_h σ x.1 x.2) ∧ ∀ (i j : Nat) (x y : Nat × va_E), l[i]? = some x → l[j]? = some y → x.1 = y.1 → i = j
theorem um_hs.at {σ : um_M} {l : List (Nat × va_E)} (h : um_hs σ l) (k : Nat) {a : Nat} {e : va_E} (hk : l[k]? = some (a, e)) : um_h σ a e := h.1 k _ hk
theorem um_hs.new {σ : um_M} {l : List (Nat × va_E)} {q : Nat} {e : va_E} (h : um_hs σ l) (hq : q ∉ σ.1) : um_hs (um_nw σ q e) (l ++ [(q, e)]) := by
  have key : ∀ (k : Nat) (x : Nat × va_E), (l ++ [(q, e)])[k]? = some x → (k < l.length ∧ l[k]? = some x) ∨ (k = l.length ∧ x = (q, e)) := by
    intro k x hk
    by_cases hl : k < l.length
    · rw [List.getElem?_append_left hl] at hk
      exact Or.inl ⟨hl, hk⟩
    · rw [List.getElem?_append_right (by omega)] at hk
      have h1 : k - l.length < 1 := (List.getElem?_eq_some_iff.mp hk).1
      rw [show k - l.length = 0 by omega] at hk
      exact Or.inr ⟨by omega, (Option.some.inj hk).symm⟩
  refine ⟨fun k x hk => ?_, fun i j x y hx hy hxy => ?_⟩
  · rcases key k x hk with ⟨-, h1⟩ | ⟨-, h1⟩
    · exact (h.1 k x h1).nw hq
    · subst h1
      exact um_h.new
  · rcases key i x hx with ⟨-, h1⟩ | ⟨e1, h1⟩ <;> rcases key j y hy with ⟨-, h2⟩ | ⟨e2, h2⟩
    · exact h.2 i j x y h1 h2 hxy
    · subst h2
      exact absurd ((h.1 i x h1).1) (by rw [hxy]; exact hq)
    · subst h1
      exact absurd ((h.1 j y h2).1) (by rw [← hxy]; exact hq)
    · omega
theorem um_hs.set {σ : um_M} {l : List (Nat × va_E)} {k a : Nat} {e0 e : va_E} (h : um_hs σ l) (hk : l[k]? = some (a, e0)) : um_hs (um_up σ a e) (l.set k (a, e)) := by
  have hl := (List.getElem?_eq_some_iff.mp hk).1
  have key : ∀ (j : Nat) (x : Nat × va_E), (l.set k (a, e))[j]? = some x → (j = k ∧ x = (a, e)) ∨ (j ≠ k ∧ l[j]? = some x) := by
    intro j x hj
    by_cases e1 : j = k
    · subst e1
      rw [List.getElem?_set_self hl] at hj
      exact Or.inl ⟨rfl, (Option.some.inj hj).symm⟩
    · rw [List.getElem?_set_ne (Ne.symm e1)] at hj
      exact Or.inr ⟨e1, hj⟩
  refine ⟨fun j x hj => ?_, fun i j x y hx hy hxy => ?_⟩
  · rcases key j x hj with ⟨-, rfl⟩ | ⟨h1, h2⟩
    · exact (h.1 k _ hk).self
    · exact (h.1 j x h2).up (fun z => h1 (h.2 j k x _ h2 hk z))
  · rcases key i x hx with ⟨h1, h2⟩ | ⟨h1, h2⟩ <;> rcases key j y hy with ⟨h3, h4⟩ | ⟨h3, h4⟩
    · omega
    · subst h2
      exact absurd (h.2 j k y _ h4 hk hxy.symm) h3
    · subst h4
      exact absurd (h.2 i k x _ h2 hk hxy) h1
    · exact h.2 i j x y h2 h4 hxy
theorem um_hs.sub {σ : um_M} {l l' : List (Nat × va_E)} (h : um_hs σ l) (is : List Nat) (hn : va_nd is = true) (hs : is.map (fun i => l[i]?) = l'.map some) : um_hs σ l' := by
  have key : ∀ (k : Nat) (x : Nat × va_E), l'[k]? = some x → ∃ i, is[k]? = some i ∧ l[i]? = some x := by
    intro k x hk
    have h1 : (is.map (fun i => l[i]?))[k]? = some (some x) := by rw [hs, List.getElem?_map, hk]; rfl
    rw [List.getElem?_map] at h1
    cases hi : is[k]? with
    | none => rw [hi] at h1; cases h1
    | some i => rw [hi] at h1; exact ⟨i, rfl, Option.some.inj h1⟩
  refine ⟨fun k x hk => ?_, fun i j x y hx hy hxy => ?_⟩
  · obtain ⟨i, -, h2⟩ := key k x hk
    exact h.1 i x h2
  · obtain ⟨i1, h1, h2⟩ := key i x hx
    obtain ⟨j1, h3, h4⟩ := key j y hy
    have e1 := h.2 i1 j1 x y h2 h4 hxy
    subst e1
    exact va_nd_inj is hn i j i1 h1 h3
section UH
variable {p : Program} {l : Launch} {e : Env} {R : Room} {s : State} {m : MethodId} {args : Array Value} {below : List Frame} {meth : Method} {c : Code} {H : Heap} {locs : List Loc} {cells slots : Nat} {Q : State → Prop}
variable {cc : ByteArray} {pc : Nat} {ls : Array Slot} {rest : List Value} {D : va_G} {A : Nat → Prop} {a : Nat} {κ : Nat → ClassId} {σ : um_M} {own : String} {Ts : List Cond} {L : List (Nat × va_E)}
theorem uh_int {n : Int32} {N' : Nat} (hx : p.tables.exec = Jvm.exec) (hb : c.code = cc) (harr : (Cond.arrayClass .int).before args s = true) (hK : va_K D vwCl (um_T κ) s) (hU : um_S D vwCl A s σ H locs) (hs : um_hs σ L) (hn : n = nI N') (hN : N' ≤ 1000) (hcells : cells + 1 ≤ R.cells) (hslots : slots + N' ≤ R.slots) (hdg : decode cc pc = .ok (.newarray .int, 2))
    (kk : ∀ (q : Nat) (σ' : um_M) (H1 : Heap), um_hs σ' (L ++ [(q, .inl (κ 0, N', .inl (fun _ => 0)))]) → um_S D vwCl A s σ' H1 locs → W p l e R s m args below meth c H1 locs (cells + 1) (slots + N') Q (F0 m (pc + 2) ls (.ref q :: rest))) : W p l e R s m args below meth c H locs cells slots Q (F0 m pc ls (.int n :: rest)) := by
  subst hn
  refine um_newa (atype := .int) (ty := .int) (cB := κ 0) (N' := N') (a0 := (N', .inl (fun _ => 0))) hx hb harr rfl hK hU 0 rfl ?_ (fun cA => rfl) (nI_pos (by omega)) (nI_clamp (by omega)) ?_ hcells hslots hdg (fun q H1 hq hU1 => kk q _ H1 (hs.new hq) hU1)
  · intro cA h1
    have h2 := (hK.2 0 _ (show (um_T κ)[0]? = some (κ 0, .int) from rfl)).2
    exact Option.some.inj (h1.symm.trans h2)
  · have e4 : componentBytes .int = 4 := rfl
    rw [e4]
    omega
theorem uh_putF {C : String} {T : u_T} {N ci index : Nat} (hx : p.tables.exec = Jvm.exec) (hb : c.code = cc) (hts : ∀ w ∈ Ts, w.before args s = true) (hin : ∀ w ∈ u_ws C T N, w ∈ Ts) (ty0 : Nat → FieldType) (hty : ∀ k, k < N → parseFieldDescriptor (T k).2.2.1 = some (ty0 k)) (hnm : ∀ a, a < N → ∀ b, b < N → a ≠ b → (T a).2.1 ≠ (T b).2.1) (hown : s.vm.findClass own = some m.cls) (hK : va_K D vwCl (um_T κ) s) (hU : um_S D vwCl A s σ H locs) (hs : um_hs σ L) (k0 : Nat) {fs : List Value} (hh : L[k0]? = some (a, .inr (ci, fs))) (hc : vwCl[ci]? = some (C, T, N)) (k : Nat) (hk : k < N) (hlink : (Cond.fieldLink own index (T k).1 (T k).2.1 (T k).2.2.1).before args s = true) (hfin : (T k).2.2.2 = true) (hin0 : meth.name = "<init>") (hoC : (T k).1 = own) {ty : FieldType} {v : Value} (hd : parseFieldDescriptor (T k).2.2.1 = some ty) (hn : narrow ty v = v) (hfit : fits ty v = true) {fs' : List Value} (hset : fs.set k v = fs') (hl : k < fs.length)
    (hdg : decode cc pc = .ok (.putfield index, 3)) (kk : ∀ (σ' : um_M) (H1 : Heap) (locs1 : List Loc), um_hs σ' (L.set k0 (a, .inr (ci, fs'))) → um_S D vwCl A s σ' H1 locs1 → W p l e R s m args below meth c H1 locs1 cells slots Q (F0 m (pc + 3) ls rest)) : W p l e R s m args below meth c H locs cells slots Q (F0 m pc ls (v :: .ref a :: rest)) :=
  um_putF hx hb hts hin ty0 hty hnm hown hK hU (hs.at k0 hh) hc k hk hlink hfin hin0 hoC hd hn hfit hset hl hdg (fun H1 locs1 hU1 => kk _ H1 locs1 (hs.set hh) hU1)
theorem uh_put {C : String} {T : u_T} {N ci index : Nat} (hx : p.tables.exec = Jvm.exec) (hb : c.code = cc) (hts : ∀ w ∈ Ts, w.before args s = true) (hin : ∀ w ∈ u_ws C T N, w ∈ Ts) (ty0 : Nat → FieldType) (hty : ∀ k, k < N → parseFieldDescriptor (T k).2.2.1 = some (ty0 k)) (hnm : ∀ a, a < N → ∀ b, b < N → a ≠ b → (T a).2.1 ≠ (T b).2.1) (hown : s.vm.findClass own = some m.cls) (hK : va_K D vwCl (um_T κ) s) (hU : um_S D vwCl A s σ H locs) (hs : um_hs σ L) (k0 : Nat) {fs : List Value} (hh : L[k0]? = some (a, .inr (ci, fs))) (hc : vwCl[ci]? = some (C, T, N)) (k : Nat) (hk : k < N) (hlink : (Cond.fieldLink own index (T k).1 (T k).2.1 (T k).2.2.1).before args s = true) (hfin : (T k).2.2.2 = false) {ty : FieldType} {v : Value} (hd : parseFieldDescriptor (T k).2.2.1 = some ty) (hn : narrow ty v = v) (hfit : fits ty v = true) {fs' : List Value} (hset : fs.set k v = fs') (hl : k < fs.length)
    (hdg : decode cc pc = .ok (.putfield index, 3)) (kk : ∀ (σ' : um_M) (H1 : Heap) (locs1 : List Loc), um_hs σ' (L.set k0 (a, .inr (ci, fs'))) → um_S D vwCl A s σ' H1 locs1 → W p l e R s m args below meth c H1 locs1 cells slots Q (F0 m (pc + 3) ls rest)) : W p l e R s m args below meth c H locs cells slots Q (F0 m pc ls (v :: .ref a :: rest)) :=
  um_put hx hb hts hin ty0 hty hnm hown hK hU (hs.at k0 hh) hc k hk hlink hfin hd hn hfit hset hl hdg (fun H1 locs1 hU1 => kk _ H1 locs1 (hs.set hh) hU1)
theorem uh_ist (hx : p.tables.exec = Jvm.exec) (hb : c.code = cc) (hK : va_K D vwCl (um_T κ) s) (hU : um_S D vwCl A s σ H locs) (hs : um_hs σ L) (k0 : Nat) {n : Nat} {f : Nat → Int32} (hh : L[k0]? = some (a, .inl (κ 0, n, .inl f))) {i x : Int32} (j : Nat) (hi : i = nI j) (hj : j < n) (hn : n < 2147483648) (hdg : decode cc pc = .ok (.iastore, 1))
    (kk : ∀ (σ' : um_M) (H1 : Heap) (locs1 : List Loc), um_hs σ' (L.set k0 (a, .inl (κ 0, n, .inl (upd f j x)))) → um_S D vwCl A s σ' H1 locs1 → W p l e R s m args below meth c H1 locs1 cells slots Q (F0 m (pc + 1) ls rest)) : W p l e R s m args below meth c H locs cells slots Q (F0 m pc ls (.int x :: .int i :: .ref a :: rest)) :=
  um_ist hx hb hK hU 0 (hs.at k0 hh) rfl j hi hj hn rfl hdg (fun H1 locs1 hU1 => kk _ H1 locs1 (hs.set hh) hU1)
end UH
