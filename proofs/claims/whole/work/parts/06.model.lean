def md_ci : Nat := 9
/-! The reference's object and arrays, as a picture. -/
def md_len (i : Nat) : Nat := ([5, 200, 200, 200, 200, 200, 1000, 25, 25, 4, 4, 4, 6] : List Nat).getD i 0
theorem md_len_lt : ∀ r, r < 13 → md_len r < 2147483648 := by decide +kernel
def md_obj (md : Nat → Nat) (q : tb_Q) (th : Nat) : List Value := [.int (nI th), .ref (md 0), .ref (md 1), .ref (md 2), .ref (md 3), .ref (md 4), .ref (md 5), .ref (md 6), .ref (md 7), .ref (md 8), .int (tb_m1 (q 13 0)), .int (tb_m1 (q 13 1)), .ref (md 9), .ref (md 10), .ref (md 11), .ref (md 12)]
def md_at (κ : Nat → ClassId) (σ : um_M) (md : Nat → Nat) (q : tb_Q) (th : Nat) : Prop := (∀ i, i < 13 → um_h σ (md i) (.inl (κ 0, md_len i, .inl (fun j => nI (q i j))))) ∧ um_h σ (md 13) (.inr (md_ci, md_obj md q th)) ∧ ∀ i j, i < 13 → j < 13 → md i = md j → i = j
theorem md_at.arr {κ : Nat → ClassId} {σ : um_M} {md : Nat → Nat} {q : tb_Q} {th : Nat} (h : md_at κ σ md q th) (i : Nat) (hi : i < 13) {n : Nat} (hn : md_len i = n) : um_h σ (md i) (.inl (κ 0, n, .inl (fun j => nI (q i j)))) := by subst hn; exact h.1 i hi
theorem md_at.obj {κ : Nat → ClassId} {σ : um_M} {md : Nat → Nat} {q : tb_Q} {th : Nat} (h : md_at κ σ md q th) : um_h σ (md 13) (.inr (md_ci, md_obj md q th)) := h.2.1
theorem md_at.set {κ : Nat → ClassId} {σ : um_M} {md : Nat → Nat} {q : tb_Q} {th : Nat} (h : md_at κ σ md q th) (r j v : Nat) (hr : r < 13) {n : Nat} (hn : md_len r = n) : md_at κ (um_up σ (md r) (.inl (κ 0, n, .inl (fun k => nI (va_up (q r) j v k))))) md (tb_set q r j v) th := by
  subst hn
  refine ⟨fun i hi => ?_, ?_, h.2.2⟩
  · by_cases e : i = r
    · subst e
      rw [tb_set_s]
      exact (h.1 i hi).self
    · rw [tb_set_n _ _ _ e]
      exact (h.1 i hi).up (fun z => e (h.2.2 i r hi hr z))
  · have e13 : md_obj md (tb_set q r j v) th = md_obj md q th := by
      unfold md_obj
      rw [tb_set_n _ _ _ (show (13 : Nat) ≠ r by omega)]
    rw [e13]
    exact h.2.1.up (h.2.1.ne (h.1 r hr) (by intro z; cases z))
theorem md_at.put {κ : Nat → ClassId} {σ : um_M} {md : Nat → Nat} {q q' : tb_Q} {th th' : Nat} (h : md_at κ σ md q th) (hq : ∀ i, i < 13 → q' i = q i) : md_at κ (um_up σ (md 13) (.inr (md_ci, md_obj md q' th'))) md q' th' := by
  refine ⟨fun i hi => ?_, h.2.1.self, h.2.2⟩
  rw [hq i hi]
  exact (h.1 i hi).up ((h.1 i hi).ne h.2.1 (by intro z; cases z))
theorem md_at.thr {κ : Nat → ClassId} {σ : um_M} {md : Nat → Nat} {q : tb_Q} {th : Nat} (h : md_at κ σ md q th) (th' : Nat) : md_at κ (um_up σ (md 13) (.inr (md_ci, md_obj md q th'))) md q th' := h.put (fun _ _ => rfl)
section MDR
variable {p : Program} {l : Launch} {e : Env} {R : Room} {s : State} {m : MethodId} {args : Array Value} {below : List Frame} {meth : Method} {c : Code} {H : Heap} {locs : List Loc} {cells slots : Nat} {Q : State → Prop}
variable {cc : ByteArray} {pc : Nat} {ls : Array Slot} {rest : List Value} {D : va_G} {A : Nat → Prop} {σ : um_M} {κ : Nat → ClassId} {md : Nat → Nat} {q : tb_Q} {th : Nat}
theorem md_ild (hx : p.tables.exec = Jvm.exec) (hb : c.code = cc) (hK : va_K D vwCl (um_T κ) s) (hU : um_S D vwCl A s σ H locs) (h : md_at κ σ md q th) (r j : Nat) (hr : r < 13) (hj : j < md_len r) (hdg : decode cc pc = .ok (.iaload, 1))
    (kk : W p l e R s m args below meth c H locs cells slots Q (F0 m (pc + 1) ls (.int (nI (q r j)) :: rest))) : W p l e R s m args below meth c H locs cells slots Q (F0 m pc ls (.int (nI j) :: .ref (md r) :: rest)) :=
  um_ild hx hb hK hU 0 (h.1 r hr) rfl j rfl hj (md_len_lt r hr) rfl hdg kk
theorem md_ist (hx : p.tables.exec = Jvm.exec) (hb : c.code = cc) (hK : va_K D vwCl (um_T κ) s) (hU : um_S D vwCl A s σ H locs) (h : md_at κ σ md q th) (r j v : Nat) (hr : r < 13) (hj : j < md_len r) (hdg : decode cc pc = .ok (.iastore, 1))
    (kk : ∀ (σ' : um_M) (H1 : Heap) (locs1 : List Loc), md_at κ σ' md (tb_set q r j v) th → um_S D vwCl A s σ' H1 locs1 → W p l e R s m args below meth c H1 locs1 cells slots Q (F0 m (pc + 1) ls rest)) : W p l e R s m args below meth c H locs cells slots Q (F0 m pc ls (.int (nI v) :: .int (nI j) :: .ref (md r) :: rest)) :=
  um_ist hx hb hK hU 0 (h.1 r hr) rfl j rfl hj (md_len_lt r hr) tb_nI hdg (fun H1 locs1 hU1 => kk _ H1 locs1 (h.set r j v hr rfl) hU1)
end MDR
