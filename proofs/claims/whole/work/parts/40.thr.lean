/-! Calls that may throw, in this claim's words. -/
abbrev nIAE : String := "java/lang/IllegalArgumentException"
abbrev nISE : String := "java/lang/IllegalStateException"
abbrev nNSE : String := "java/util/NoSuchElementException"
abbrev nSup : List String := ["java/lang/RuntimeException", "java/lang/Exception"]
/-- how a call ends that throws: the exception's class, the world -/
abbrev um_XC (D : va_G) (κ : Nat → ClassId) (τ : Nat → Nat) (A : Nat → Prop) (px : um_M → Prop) (XE : String → Prop) : String → State → State → Prop := vx_X px (fun E u t => XE E ∧ um_U D κ τ A u t) A
section XT
variable {p : Program} {l : Launch} {e : Env} {R : Room} {s : State} {m : MethodId} {args : Array Value} {below : List Frame} {meth : Method} {c : Code} {H : Heap} {locs : List Loc} {cells slots : Nat} {Q : State → Prop}
variable {cc : ByteArray} {pc : Nat} {ls : Array Slot} {rest st0 : List Value} {D : va_G} {A : Nat → Prop} {σ ρ : um_M} {κ : Nat → ClassId} {τ : Nat → Nat} {mc ms : Nat} {a : Array Value} {px : um_M → Prop} {XE : String → Prop} {Qc : Array Value → State → Outcome → State → Prop}
theorem um_metX {y : MethodName} {ws ws' : List Cond} {rm : Room} {av : List Value} {XC : String → State → State → Prop} {free : Addr → Prop} {maxL : Nat} {ret : Option FieldType} (hy : plainName y.cls = true) (hw : ws = Cond.code y cc maxL ret :: ws') (hlen : Nat.ble (lg_sl av).length maxL = true)
    (body : ∀ (p : Program) (e : Env) (s : State) (m : MethodId) (args : Array Value) (below : List Frame) (meth : Method) (c : Code) (ls : Array Slot), p.tables.exec = Jvm.exec → c.code = cc → meth.sig.returnType = ret → (∀ w ∈ ws, w.before args s = true) → s.vm.findClass y.cls = some m.cls → meth.locks = false → c.maxLocals = maxL → (∀ x ∈ c.exceptionTable.toList, False) → va_K D vwCl (um_T κ) s → um_J τ A s s.heap → um_S D vwCl A s σ s.heap [] → lv_has ls maxL (lv_args 0 av) →
      W p l e rm s m args below meth c s.heap [] 0 0 (vx_MQ below Qc XC args s mc ms free) (F0 m 0 ls [])) : vx_Met l y ws rm (va_Pc av (um_U D κ τ A σ)) Qc XC mc ms free := by
  refine vx_ofW (cc := cc) (maxL := maxL) (ret := ret) hy hw ?_
  intro p e s m args below meth c s₁ B hml htab hv
  obtain ⟨rfl, hP, hD, hK, hA, hJ⟩ := hv
  have hl := lv_entry av (n := maxL) (Nat.le_of_ble_eq_true hlen)
  rw [lg_entry_eq]
  generalize (lg_sl av ++ List.replicate (maxL - (lg_sl av).length) Slot.unset).toArray = ls at hl ⊢
  exact body p e s m av.toArray below meth c ls B.exec B.bytes B.returns (atoms_spec (ws := ws) B.pre) (findClass_of_methodNamed B.named) B.notSynchronized hml htab hK hJ ⟨hP, hD, va_S.rf, hA⟩ hl
theorem um_xcallv {post : um_M → Prop} (hr : vx_Run p l e R s m args below meth c H locs cells slots mc ms (F0 m pc ls st0) rest (va_Qv post (um_U D κ τ A) A a) (um_XC D κ τ A px XE) A) (hU : um_S D vwCl A s σ H locs)
    (kx : ∀ (E : String) (ce : Cell) (q9 : Addr) (σ' : um_M) (H1 : Heap) (locs1 : List Loc), px σ' → XE E → um_S D vwCl A s σ' H1 locs1 → H1[q9]? = some ce → ce.vm = .none → s.vm.findClass E = some ce.cls → vx_W p l e R s m args below meth c H1 locs1 (cells + mc) (slots + ms) Q (F0 m pc ls rest) q9)
    (kk : ∀ (σ' : um_M) (H1 : Heap) (locs1 : List Loc), post σ' → um_S D vwCl A s σ' H1 locs1 → W p l e R s m args below meth c H1 locs1 (cells + mc) (slots + ms) Q (F0 m (pc + 3) ls rest)) : W p l e R s m args below meth c H locs cells slots Q (F0 m pc ls st0) :=
  vx_callv hr hU.2.2.1 (fun _ _ h => h) (fun _ h => h) (fun _ _ h => h)
    (fun E ce q9 u t H1 locs1 ht hvm hp hB hz hk hS1 hce hcv hcl => kx E ce q9 u H1 locs1 hp hB.1 ⟨by rw [← ht]; exact hB.2.1, hB.2.2.1, hS1, hU.2.2.2⟩ hce hcv hcl)
    (fun u t H1 locs1 ht hvm hp hB hz hk hS1 => kk u H1 locs1 hp ⟨by rw [← ht]; exact hB.1, hB.2.1, hS1, hU.2.2.2⟩)
theorem um_xout {E : String} {ce : Cell} {q : Addr} (htab : ∀ x ∈ c.exceptionTable.toList, False) (hlocks : meth.locks = false) (hcell : H[q]? = some ce) (hv : ce.vm = .none) (hcl : s.vm.findClass E = some ce.cls) (hK : va_K D vwCl (um_T κ) s) (hJ : um_J τ A s s.heap) (hU : um_S D vwCl A s σ H locs) (hp : px σ) (hE : XE E) (hc : cells ≤ mc) (hs : slots ≤ ms) :
    vx_W p l e R s m args below meth c H locs cells slots (vx_MQ below Qc (um_XC D κ τ A px XE) args s mc ms A) (F0 m pc ls rest) q :=
  vx_out (fun x hx => (htab x hx).elim) hlocks hcell hv hcl (fun t ht hW => ⟨σ, hp, ⟨hE, um_atU hU hK hJ ht hW⟩, hU.2.2.1.F ht⟩) hU.2.2.1.2.2 hc hs
theorem um_thr {own cls : String} {ik ic : Nat} (hx : p.tables.exec = Jvm.exec) (hb : c.code = cc) (hst : l.stackTraces = false) (hown : s.vm.findClass own = some m.cls) (hcls : Bundle.fit cls = true) (hk : (Cond.classLink own ik cls).before args s = true) (hini : (Cond.initialized cls).before args s = true)
    (hat : ∀ w ∈ vx_at0 own ic cls nSup, w.before args s = true) (hgood : ∀ w ∈ Cond.classLink own ik cls :: Cond.initialized cls :: vx_at0 own ic cls nSup, vx_ot w = true) (htab : ∀ x ∈ c.exceptionTable.toList, False) (hlocks : meth.locks = false) (hK : va_K D vwCl (um_T κ) s) (hJ : um_J τ A s s.heap) (hU : um_S D vwCl A s σ H locs) (hsize : ls.size = c.maxLocals)
    (d0 : decode cc pc = .ok (.new ik, 3)) (d3 : decode cc (pc + 3) = .ok (.dup, 1)) (d4 : decode cc (pc + 4) = .ok (.invokespecial ic, 3)) (d7 : decode cc (pc + 7) = .ok (.athrow, 1))
    (hRf : 5 < R.frames) (hRl : (rest.map fun v => v.category).sum + 81 ≤ R.locals) (hRc : cells + 1 ≤ R.cells) (hRs : slots + 6 ≤ R.slots) (hp : px σ) (hE : XE cls) (hc : cells + 1 ≤ mc) (hs : slots + 6 ≤ ms) :
    W p l e R s m args below meth c H locs cells slots (vx_MQ below Qc (um_XC D κ τ A px XE) args s mc ms A) (F0 m pc ls rest) := by
  refine vx_throw0 (names := nSup) hx hb hst hown hcls (by decide +kernel) hk hini hat hgood hJ.2.2.1 hJ.2.2.2.1 hU.2.2.1 hsize d0 d3 d4 d7 (fun x hx => (htab x hx).elim) hRf hRl hRc hRs hlocks (fun t hW hz hq => ?_) hU.2.2.1.2.2 hc hs
  have h1 := um_atU hU hK hJ (t := { t with heap := H }) rfl hW
  refine ⟨σ, hp, ⟨hE, hU.1.kept (fun k q h => hq q.1 ((hU.1 k q h).lt)), hU.2.1, h1.2.2.1, fun q h => hU.2.2.2 q (by have := hU.2.2.1.1; omega), ?_⟩, ?_⟩
  · exact um_J.moved hW (hJ.kept (Nat.le_trans hU.2.2.1.1 hz) (fun q h1 h2 => by rw [hq q (Nat.lt_of_lt_of_le h1 hU.2.2.1.1)]; exact hU.2.2.1.2.1 q h1 h2))
  · exact ⟨Nat.le_trans hU.2.2.1.1 hz, fun q h1 h2 => by rw [hq q (Nat.lt_of_lt_of_le h1 hU.2.2.1.1)]; exact hU.2.2.1.2.1 q h1 h2⟩
end XT
def at_B (cls : String) : List Cond := [Cond.castable cls cls, .declares (Bundle.init0 "java/lang/RuntimeException"), .declares (Bundle.init0 "java/lang/Exception"), .declares (Bundle.init0 Bundle.tN)]
theorem at_IAE1 : ∀ w ∈ (vx_at0 "ForestTablets" 208 nIAE nSup).filter goodWord, w ∈ tables_1 := by decide +kernel
theorem at_IAE2 : ∀ w ∈ (vx_at0 "ForestTablets" 208 nIAE nSup).filter (fun w => !goodWord w), w ∈ at_B nIAE := by decide +kernel
theorem at_ISE1 : ∀ w ∈ (vx_at0 "ForestTablets" 211 nISE nSup).filter goodWord, w ∈ tables_1 := by decide +kernel
theorem at_ISE2 : ∀ w ∈ (vx_at0 "ForestTablets" 211 nISE nSup).filter (fun w => !goodWord w), w ∈ at_B nISE := by decide +kernel
theorem at_NSE1 : ∀ w ∈ (vx_at0 "ForestTablets" 134 nNSE nSup).filter goodWord, w ∈ tables_1 := by decide +kernel
theorem at_NSE2 : ∀ w ∈ (vx_at0 "ForestTablets" 134 nNSE nSup).filter (fun w => !goodWord w), w ∈ at_B nNSE := by decide +kernel
theorem at_of {own cls : String} {ic : Nat} {args : Array Value} {s : State} (htg : ∀ w ∈ lw_g, w.before args s = true) (h1 : ∀ w ∈ (vx_at0 own ic cls nSup).filter goodWord, w ∈ tables_1) (h2 : ∀ w ∈ (vx_at0 own ic cls nSup).filter (fun w => !goodWord w), w ∈ at_B cls) (h3 : va_Nw (.castable cls cls) s) (h4 : um_X s) : ∀ w ∈ vx_at0 own ic cls nSup, w.before args s = true :=
  vx_hat (fun w hw => htg w (lw_gi (h1 w hw) (List.mem_filter.mp hw).2)) h2 (vx_c (va_Nw.use rfl h3) (vx_c (va_Nw.use rfl h4.2.2.2.2.2.2.2.2.1) (vx_c (va_Nw.use rfl h4.2.2.2.2.2.2.2.2.2.1) (vx_c (va_Nw.use rfl h4.2.2.2.2.2.2.2.2.2.2.1) vx_n))))
