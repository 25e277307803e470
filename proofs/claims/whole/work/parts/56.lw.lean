/-! The law's helpers: a call of the class that may throw, caught; the class's world and the law's own cell side by side. -/
section LW
variable {p : Program} {l : Launch} {e : Env} {R : Room} {s : State} {m : MethodId} {args : Array Value} {below : List Frame} {meth : Method} {c : Code} {H : Heap} {locs : List Loc} {cells slots : Nat} {Q : State → Prop}
variable {cc : ByteArray} {pc : Nat} {ls : Array Slot} {rest st0 : List Value} {D : va_G} {A : Nat → Prop} {σ ρ : um_M} {κ : Nat → ClassId} {τ : Nat → Nat} {mc ms : Nat} {a : Array Value} {px : um_M → Prop} {XE : String → Prop}
theorem um_metW {y : MethodName} {ws ws' : List Cond} {rm : Room} {av : List Value} {Qc : Array Value → State → Outcome → State → Prop} {free : Addr → Prop} {maxL : Nat} {ret : Option FieldType} {hh : List (Nat × Nat × Nat × Nat)} (hy : plainName y.cls = true) (hw : ws = Cond.codeWith y cc maxL ret hh :: ws') (hlen : Nat.ble (lg_sl av).length maxL = true)
    (body : ∀ (p : Program) (e : Env) (s : State) (m : MethodId) (args : Array Value) (below : List Frame) (meth : Method) (c : Code) (ls : Array Slot), p.tables.exec = Jvm.exec → c.code = cc → meth.sig.returnType = ret → (∀ w ∈ ws, w.before args s = true) → s.vm.findClass y.cls = some m.cls → meth.locks = false → c.maxLocals = maxL → c.exceptionTable.toList = tableOf hh → va_K D vwCl (um_T κ) s → um_J τ A s s.heap → um_S D vwCl A s σ s.heap [] → lv_has ls maxL (lv_args 0 av) →
      W p l e rm s m args below meth c s.heap [] 0 0 (MQ below Qc args s mc ms free) (F0 m 0 ls [])) : Met l y ws rm (va_Pc av (um_U D κ τ A σ)) Qc mc ms free := by
  refine va_MetW (cc := cc) (maxL := maxL) (ret := ret) (hh := hh) hy hw ?_
  intro p e s m args below meth c s₁ B hml hv
  obtain ⟨rfl, hP, hD, hK, hA, hJ⟩ := hv
  have hl := lv_entry av (n := maxL) (Nat.le_of_ble_eq_true hlen)
  have hts := atoms_spec (ws := ws) B.pre
  have htab := vx_table (x := y) B (hts _ (by rw [hw]; exact List.mem_cons_self))
  rw [lg_entry_eq]
  generalize (lg_sl av ++ List.replicate (maxL - (lg_sl av).length) Slot.unset).toArray = ls at hl ⊢
  exact body p e s m av.toArray below meth c ls B.exec B.bytes B.returns hts (findClass_of_methodNamed B.named) B.notSynchronized hml htab hK hJ ⟨hP, hD, va_S.rf, hA⟩ hl
theorem um_S.unjoin (hd : um_ap σ ρ) (h : um_S D vwCl A s (um_jn σ ρ) H locs) : um_S D vwCl A s σ H locs ∧ um_S D vwCl A s ρ H locs := by
  obtain ⟨hP, hD, hS, hA⟩ := h
  rw [um_jn_pl hd] at hP hD
  have e1 : ∀ (k : Nat) (y : Nat × va_E), (va_pl σ.1 σ.2)[k]? = some y → (va_pl σ.1 σ.2 ++ va_pl ρ.1 ρ.2)[k]? = some y := fun k y h => by
    rw [List.getElem?_append_left (List.getElem?_eq_some_iff.mp h).1]
    exact h
  have e2 : ∀ (k : Nat) (y : Nat × va_E), (va_pl ρ.1 ρ.2)[k]? = some y → (va_pl σ.1 σ.2 ++ va_pl ρ.1 ρ.2)[(va_pl σ.1 σ.2).length + k]? = some y := fun k y h => by
    rw [List.getElem?_append_right (by omega), Nat.add_sub_cancel_left]
    exact h
  refine ⟨⟨fun k y h => hP k y (e1 k y h), ⟨fun i j y z hy hz hyz => hD.1 i j y z (e1 i y hy) (e1 j z hz) hyz, fun k y h => hD.2 k y (e1 k y h)⟩, hS, hA⟩, ⟨fun k y h => hP _ y (e2 k y h), ⟨fun i j y z hy hz hyz => ?_, fun k y h => hD.2 _ y (e2 k y h)⟩, hS, hA⟩⟩
  have := hD.1 _ _ y z (e2 i y hy) (e2 j z hz) hyz
  omega
theorem um_xcall2v {post : um_M → Prop} (hr : vx_Run p l e R s m args below meth c H locs cells slots mc ms (F0 m pc ls st0) rest (va_Qv post (um_U D κ τ (um_Am A ρ)) (um_Am A ρ) a) (um_XC D κ τ (um_Am A ρ) px XE) (um_Am A ρ)) (hU : um_S D vwCl A s σ H locs) (hR : um_S D vwCl A s ρ H locs)
    (kx : ∀ (E : String) (ce : Cell) (q9 : Addr) (σ' : um_M) (H1 : Heap) (locs1 : List Loc), px σ' → XE E → um_S D vwCl A s σ' H1 locs1 → um_S D vwCl A s ρ H1 locs1 → um_ap σ' ρ → H1[q9]? = some ce → ce.vm = .none → s.vm.findClass E = some ce.cls → vx_W p l e R s m args below meth c H1 locs1 (cells + mc) (slots + ms) Q (F0 m pc ls rest) q9)
    (kk : ∀ (σ' : um_M) (H1 : Heap) (locs1 : List Loc), post σ' → um_S D vwCl A s σ' H1 locs1 → um_S D vwCl A s ρ H1 locs1 → um_ap σ' ρ → W p l e R s m args below meth c H1 locs1 (cells + mc) (slots + ms) Q (F0 m (pc + 3) ls rest)) : W p l e R s m args below meth c H locs cells slots Q (F0 m pc ls st0) :=
  vx_callv hr hU.2.2.1 (fun _ _ h => h.1) (fun _ h => h.1) (fun _ _ h => h.1)
    (fun E ce q9 u t H1 locs1 ht hvm hp hB hz hk hS1 hce hcv hcl => by
      obtain ⟨h1, h2, h3⟩ := um_back2 hU hR ht hB.2 hk hS1
      exact kx E ce q9 u H1 locs1 hp hB.1 h1 h2 h3 hce hcv hcl)
    (fun u t H1 locs1 ht hvm hp hB hz hk hS1 => by
      obtain ⟨h1, h2, h3⟩ := um_back2 hU hR ht hB hk hS1
      exact kk u H1 locs1 hp h1 h2 h3)
theorem um_xcall2i {post : Int32 → um_M → Prop} (hr : vx_Run p l e R s m args below meth c H locs cells slots mc ms (F0 m pc ls st0) rest (va_Qi post (um_U D κ τ (um_Am A ρ)) (um_Am A ρ) a) (um_XC D κ τ (um_Am A ρ) px XE) (um_Am A ρ)) (hU : um_S D vwCl A s σ H locs) (hR : um_S D vwCl A s ρ H locs)
    (kx : ∀ (E : String) (ce : Cell) (q9 : Addr) (σ' : um_M) (H1 : Heap) (locs1 : List Loc), px σ' → XE E → um_S D vwCl A s σ' H1 locs1 → um_S D vwCl A s ρ H1 locs1 → um_ap σ' ρ → H1[q9]? = some ce → ce.vm = .none → s.vm.findClass E = some ce.cls → vx_W p l e R s m args below meth c H1 locs1 (cells + mc) (slots + ms) Q (F0 m pc ls rest) q9)
    (kk : ∀ (r : Int32) (σ' : um_M) (H1 : Heap) (locs1 : List Loc), post r σ' → um_S D vwCl A s σ' H1 locs1 → um_S D vwCl A s ρ H1 locs1 → um_ap σ' ρ → W p l e R s m args below meth c H1 locs1 (cells + mc) (slots + ms) Q (F0 m (pc + 3) ls (.int r :: rest))) : W p l e R s m args below meth c H locs cells slots Q (F0 m pc ls st0) :=
  vx_calli hr hU.2.2.1 (fun _ _ h => h.1) (fun _ h => h.1) (fun _ _ h => h.1)
    (fun E ce q9 u t H1 locs1 ht hvm hp hB hz hk hS1 hce hcv hcl => by
      obtain ⟨h1, h2, h3⟩ := um_back2 hU hR ht hB.2 hk hS1
      exact kx E ce q9 u H1 locs1 hp hB.1 h1 h2 h3 hce hcv hcl)
    (fun r u t H1 locs1 ht hvm hp hB hz hk hS1 => by
      obtain ⟨h1, h2, h3⟩ := um_back2 hU hR ht hB hk hS1
      exact kk r u H1 locs1 hp h1 h2 h3)
theorem um_xcall2l {post : Int64 → um_M → Prop} (hr : vx_Run p l e R s m args below meth c H locs cells slots mc ms (F0 m pc ls st0) rest (va_Ql post (um_U D κ τ (um_Am A ρ)) (um_Am A ρ) a) (um_XC D κ τ (um_Am A ρ) px XE) (um_Am A ρ)) (hU : um_S D vwCl A s σ H locs) (hR : um_S D vwCl A s ρ H locs)
    (kx : ∀ (E : String) (ce : Cell) (q9 : Addr) (σ' : um_M) (H1 : Heap) (locs1 : List Loc), px σ' → XE E → um_S D vwCl A s σ' H1 locs1 → um_S D vwCl A s ρ H1 locs1 → um_ap σ' ρ → H1[q9]? = some ce → ce.vm = .none → s.vm.findClass E = some ce.cls → vx_W p l e R s m args below meth c H1 locs1 (cells + mc) (slots + ms) Q (F0 m pc ls rest) q9)
    (kk : ∀ (r : Int64) (σ' : um_M) (H1 : Heap) (locs1 : List Loc), post r σ' → um_S D vwCl A s σ' H1 locs1 → um_S D vwCl A s ρ H1 locs1 → um_ap σ' ρ → W p l e R s m args below meth c H1 locs1 (cells + mc) (slots + ms) Q (F0 m (pc + 3) ls (.long r :: rest))) : W p l e R s m args below meth c H locs cells slots Q (F0 m pc ls st0) :=
  vx_calll hr hU.2.2.1 (fun _ _ h => h.1) (fun _ h => h.1) (fun _ _ h => h.1)
    (fun E ce q9 u t H1 locs1 ht hvm hp hB hz hk hS1 hce hcv hcl => by
      obtain ⟨h1, h2, h3⟩ := um_back2 hU hR ht hB.2 hk hS1
      exact kx E ce q9 u H1 locs1 hp hB.1 h1 h2 h3 hce hcv hcl)
    (fun r u t H1 locs1 ht hvm hp hB hz hk hS1 => by
      obtain ⟨h1, h2, h3⟩ := um_back2 hU hR ht hB hk hS1
      exact kk r u H1 locs1 hp h1 h2 h3)
/-- the law's own cell -/
abbrev xo_c (κ : Nat → ClassId) (f : Nat → Int64) : va_E := .inl (κ 1, 1, .inr (.inl f))
/-- the class's world beside the law's own cell at o, which holds v -/
def xo_at (κ : Nat → ClassId) (π : um_M) (xd la ma va : Nat → Nat) (q : tb_Q) (sc : xs_S) (o : Nat) (v : Int64) : Prop := ∃ (σ : um_M) (f : Nat → Int64), π = um_jn σ (um_one o (xo_c κ f)) ∧ um_ap σ (um_one o (xo_c κ f)) ∧ xs_at κ σ xd la ma va q sc ∧ f 0 = v
theorem xo_mk {xd la ma va : Nat → Nat} {q : tb_Q} {sc : xs_S} {o : Nat} {f : Nat → Int64} (hd : um_ap σ (um_one o (xo_c κ f))) (h : xs_at κ σ xd la ma va q sc) : xo_at κ (um_jn σ (um_one o (xo_c κ f))) xd la ma va q sc o (f 0) := ⟨σ, f, rfl, hd, h, rfl⟩
/-- a number into the law's own cell -/
theorem xo_last {o : Nat} {f : Nat → Int64} {x : Int64} (hx : p.tables.exec = Jvm.exec) (hb : c.code = cc) (hK : va_K D vwCl (um_T κ) s) (hU : um_S D vwCl A s σ H locs) (hR : um_S D vwCl A s (um_one o (xo_c κ f)) H locs) (hd : um_ap σ (um_one o (xo_c κ f))) (hdg : decode cc pc = .ok (.lastore, 1))
    (kk : ∀ (g : Nat → Int64) (H1 : Heap) (locs1 : List Loc), g 0 = x → um_S D vwCl A s (um_jn σ (um_one o (xo_c κ g))) H1 locs1 → um_ap σ (um_one o (xo_c κ g)) → W p l e R s m args below meth c H1 locs1 cells slots Q (F0 m (pc + 1) ls rest)) : W p l e R s m args below meth c H locs cells slots Q (F0 m pc ls (.long x :: .int (nI 0) :: .ref o :: rest)) := by
  have hJ := hU.join hR hd
  have hh : um_h (um_jn σ (um_one o (xo_c κ f))) o (xo_c κ f) := um_h.jr hd (um_one_h _ _)
  obtain ⟨q0, hq⟩ := um_pl hh
  refine va_last hx hb hK hJ.1 hJ.2.1 hJ.2.2.1 q0 1 hq rfl (vp_in_nI (by decide) (by decide)) hdg (fun H1 locs1 h1 h2 h3 => ?_)
  rw [um_set hJ.2.1 hh hq, nI_clamp (by decide)] at h1 h2
  have e1 : va_pl (um_up (um_jn σ (um_one o (xo_c κ f))) o (xo_c κ (vp_updL f 0 x))).1 (um_up (um_jn σ (um_one o (xo_c κ f))) o (xo_c κ (vp_updL f 0 x))).2 = va_pl (um_jn σ (um_one o (xo_c κ (vp_updL f 0 x)))).1 (um_jn σ (um_one o (xo_c κ (vp_updL f 0 x)))).2 := by
    refine List.map_congr_left (fun b hb9 => ?_)
    have hb9 : b ∈ σ.1 ++ [o] := hb9
    show (b, va_up (um_jn σ (um_one o (xo_c κ f))).2 o (xo_c κ (vp_updL f 0 x)) b) = (b, if b ∈ σ.1 then σ.2 b else xo_c κ (vp_updL f 0 x))
    by_cases hm : b ∈ σ.1
    · have hne : b ≠ o := fun z => hd b hm (by rw [z]; exact List.mem_cons_self)
      rw [va_up_ne _ _ hne, if_pos hm]
      show (b, if b ∈ σ.1 then σ.2 b else _) = _
      rw [if_pos hm]
    · have hbo : b = o := by
        rcases List.mem_append.mp hb9 with h | h
        · exact absurd h hm
        · exact List.mem_singleton.mp h
      rw [if_neg hm, hbo, va_up_self]
  rw [e1] at h1 h2
  exact kk (vp_updL f 0 x) H1 locs1 (by simp [vp_updL]) ⟨h1, h2, h3, hU.2.2.2⟩ hd
end LW
/-! Rows for the law's own body. -/
theorem lw_mask (x : Int32) : ∃ t : Nat, t < 32 ∧ x &&& nI 31 = nI t := by
  refine ⟨x.toBitVec.toNat % 32, by omega, ?_⟩
  apply Int32.toBitVec_inj.mp
  apply BitVec.eq_of_toNat_eq
  rw [Int32.toBitVec_and, BitVec.toNat_and]
  show x.toBitVec.toNat &&& 31 = (BitVec.ofNat 32 (x.toBitVec.toNat % 32)).toNat
  rw [BitVec.toNat_ofNat, show (31 : Nat) = 2 ^ 5 - 1 from rfl, Nat.and_two_pow_sub_one_eq_mod]
  omega
theorem lw_6 {i L : Nat} (hi : i < 2147483648) (hL : L < 2147483648) : nI L - nI 6 < nI i ↔ L < i + 6 := by
  have h6 : (nI L - nI 6).toInt = (L : Int) - 6 := by
    rw [Int32.toInt_sub, nI_toInt hL, nI_toInt (by decide)]
    show Int.bmod ((L : Int) - 6) (2 ^ 32) = _
    rw [Int.bmod_eq_of_le] <;> omega
  rw [Int32.lt_iff_toInt_lt, h6, nI_toInt hi]
  omega
section LWB
variable {p : Program} {l : Launch} {e : Env} {R : Room} {s : State} {m : MethodId} {args : Array Value} {below : List Frame} {meth : Method} {c : Code} {H : Heap} {locs : List Loc} {cells slots : Nat} {Q : State → Prop}
variable {cc : ByteArray} {pc : Nat} {ls : Array Slot} {rest st0 : List Value} {D : va_G} {A : Nat → Prop} {π : um_M} {κ : Nat → ClassId}
theorem xo_lald {xd la ma va : Nat → Nat} {q : tb_Q} {sc : xs_S} {o : Nat} {v : Int64} (hx : p.tables.exec = Jvm.exec) (hb : c.code = cc) (hK : va_K D vwCl (um_T κ) s) (hU : um_S D vwCl A s π H locs) (h : xo_at κ π xd la ma va q sc o v) (hdg : decode cc pc = .ok (.laload, 1))
    (kk : W p l e R s m args below meth c H locs cells slots Q (F0 m (pc + 1) ls (.long v :: rest))) : W p l e R s m args below meth c H locs cells slots Q (F0 m pc ls (.int (nI 0) :: .ref o :: rest)) := by
  obtain ⟨σ, f, rfl, hd, -, rfl⟩ := h
  have hh : um_h (um_jn σ (um_one o (xo_c κ f))) o (xo_c κ f) := um_h.jr hd (um_one_h _ _)
  obtain ⟨q0, hq⟩ := um_pl hh
  refine va_lald hx hb hK hU.1 q0 1 hq rfl (vp_in_nI (by decide) (by decide)) hdg ?_
  rw [nI_clamp (by decide)]
  exact kk
theorem lw_sld {b L j : Nat} {xs : Nat → Int32} (hx : p.tables.exec = Jvm.exec) (hb : c.code = cc) (hX : va_X b L xs s s.heap) (hbl : b < s.heap.size) (hbA : ¬ A b) (hS : va_S A s.heap H locs) (hj : j < L) (hL : L ≤ 3072) (hdg : decode cc pc = .ok (.iaload, 1))
    (kk : W p l e R s m args below meth c H locs cells slots Q (F0 m (pc + 1) ls (.int (xs j) :: rest))) : W p l e R s m args below meth c H locs cells slots Q (F0 m pc ls (.int (nI j) :: .ref b :: rest)) := by
  refine va_sld hx hb hX hbl hbA hS (vp_in_nI hj (by omega)) hdg ?_
  rw [nI_clamp (by omega)]
  exact kk
end LWB
/-- between two calls of the law: the class's world with the law's own cell, the reference's world, one picture -/
def lw_W (D : va_G) (κ : Nat → ClassId) (A : Nat → Prop) (s : State) (xd md : Nat → Nat) (o : Nat) (q : tb_Q) (H : Heap) (locs : List Loc) : Prop :=
  ∃ (π σ : um_M) (la ma va : Nat → Nat) (sc : xs_S) (v : Int64) (th : Nat), xo_at κ π xd la ma va q sc o v ∧ md_at κ σ md q th ∧ um_S D vwCl A s π H locs ∧ um_S D vwCl A s σ H locs ∧ um_ap π σ
