/-! What every contract of this claim is said over: classes and array classes, static rows that nobody writes, a world as a finite map, one set A of addresses that may change. -/
def um_T (κ : Nat → ClassId) : List (ClassId × FieldType) := [(κ 0, .int), (κ 1, .long), (κ 2, .array .int), (κ 3, .object "ForestTablets$Lend"), (κ 4, .object "ForestTablets$Measure")]
def um_least (j : Nat) : Value := match j with
  | 0 => .int 0
  | _ => .int 10
def um_great (j : Nat) : Value := match j with
  | 0 => .int 3
  | 1 => .int 2000
  | _ => .int 600
def um_X (U : State) : Prop := va_Nw (.castable "java/lang/IllegalArgumentException" "java/lang/IllegalArgumentException") U ∧ va_Nw (.castable "java/lang/IllegalStateException" "java/lang/IllegalStateException") U ∧ va_Nw (.castable "java/util/NoSuchElementException" "java/util/NoSuchElementException") U ∧ va_Nw (.castable "[I" "java/lang/Cloneable") U ∧
  va_Nc "java/lang/IllegalStateException" "java/lang/IllegalArgumentException" U ∧ va_Nc "java/lang/IllegalArgumentException" "java/util/NoSuchElementException" U ∧ va_Nc "java/lang/IllegalStateException" "java/util/NoSuchElementException" U ∧ va_Nc "java/util/NoSuchElementException" "java/lang/IllegalArgumentException" U ∧
  va_Nw (.declares (Bundle.init0 "java/lang/RuntimeException")) U ∧ va_Nw (.declares (Bundle.init0 "java/lang/Exception")) U ∧ va_Nw (.declares (Bundle.init0 Bundle.tN)) U ∧ va_AO "ForestTablets$Lend" U ∧ va_AO "ForestTablets$Measure" U ∧ va_AOA .int U
theorem um_cm {C T : String} {u U : State} (hvm : u.vm.Alike U.vm) (h : va_Nw (.castable C T) u) : va_Nw (.castable C T) U := va_tabs rfl (rfl : (u.setVm U.vm).vm = U.vm) (by rw [Cond.castable_setVm hvm]; exact h)
theorem um_AOm {u U : State} (hvm : u.vm.Alike U.vm) (h : va_AOA .int u) : va_AOA .int U := by
  unfold va_AOA Cond.before Cond.holds at h ⊢
  simp only [Cond.value] at h ⊢
  cases hc : u.vm.findClass (FieldType.array .int).toString with
  | none => simp [hc] at h
  | some comp =>
    have f1 : U.vm.findClass (FieldType.array .int).toString = some comp := by rw [hvm.findClass]; exact hc
    rw [f1, Option.bind_some]
    rw [hc, Option.bind_some] at h
    simp only [beq_iff_eq, Option.bind_eq_some_iff, Option.map_eq_some_iff] at h
    obtain ⟨c, hi0, k, hk, hb⟩ := h
    obtain ⟨k', hk', he⟩ := hvm.2.2 _ _ hk
    have hi : (U.vm.classes.findIdx? fun (x : Class) => match x.kind with | .array component _ => component == comp | _ => false) = some c := by
      have e1 := va_idx_bare U.vm comp
      have e2 := va_idx_bare u.vm comp
      have hbe : U.vm.bare = u.vm.bare := by first | exact hvm.bare_eq | exact hvm.bare_eq.symm
      rw [hbe] at e1
      exact e1.symm.trans (e2.trans hi0)
    have hkind : k'.kind = k.kind := by rw [he]
    refine (congrArg (fun o : Option Nat => (o.bind (fun c => (U.vm.classes[c]?).map fun (k : Class) => match k.kind with | .array _ ty => decide (ty = FieldType.array .int) && decide (U.vm.findClass ("[" ++ (FieldType.array .int).toString) = some c) | _ => false) == some true)) hi).trans ?_
    rw [show (U.vm.findClass ("[" ++ (FieldType.array .int).toString)) = u.vm.findClass ("[" ++ (FieldType.array .int).toString) from hvm.findClass _ _]
    simp only [Option.bind_some, hk', Option.map_some, hkind]
    exact beq_iff_eq.mpr (congrArg some hb)
theorem um_dm {x : MethodName} {u U : State} (hvm : u.vm.Alike U.vm) (h : va_Nw (.declares x) u) : va_Nw (.declares x) U := va_tabs rfl (rfl : (u.setVm U.vm).vm = U.vm) (by rw [Cond.declares_setVm hvm]; exact h)
theorem um_X.moved {u U : State} (hvm : u.vm.Alike U.vm) (h : um_X u) : um_X U := ⟨um_cm hvm h.1, um_cm hvm h.2.1, um_cm hvm h.2.2.1, um_cm hvm h.2.2.2.1, h.2.2.2.2.1.moved hvm, h.2.2.2.2.2.1.moved hvm, h.2.2.2.2.2.2.1.moved hvm, h.2.2.2.2.2.2.2.1.moved hvm, um_dm hvm h.2.2.2.2.2.2.2.2.1, um_dm hvm h.2.2.2.2.2.2.2.2.2.1, um_dm hvm h.2.2.2.2.2.2.2.2.2.2.1, h.2.2.2.2.2.2.2.2.2.2.2.1.moved hvm, h.2.2.2.2.2.2.2.2.2.2.2.2.1.moved hvm, um_AOm hvm h.2.2.2.2.2.2.2.2.2.2.2.2.2⟩
def um_J (τ : Nat → Nat) (A : Nat → Prop) (U : State) (H : Heap) : Prop :=
  (va_Z "ForestTablets" "LEAST_VALUE" "[I" (.ref (τ 0)) A U H ∧ va_T .int (τ 0) 3 um_least A U H) ∧ (va_Z "ForestTablets" "GREATEST_VALUE" "[I" (.ref (τ 1)) A U H ∧ va_T .int (τ 1) 3 um_great A U H) ∧
  vx_Zq Bundle.tN "UNASSIGNED_STACK" Bundle.steD A U H ∧ vx_Zq Bundle.tN "SUPPRESSED_SENTINEL" Bundle.listD A U H ∧ um_X U
theorem um_J.moved {τ : Nat → Nat} {A : Nat → Prop} {u U : State} {H : Heap} (hvm : u.vm.Alike U.vm) (h : um_J τ A u H) : um_J τ A U H :=
  ⟨⟨va_Z.moved hvm h.1.1, va_T.moved hvm h.1.2⟩, ⟨va_Z.moved hvm h.2.1.1, va_T.moved hvm h.2.1.2⟩, vx_Zq.moved hvm h.2.2.1, vx_Zq.moved hvm h.2.2.2.1, h.2.2.2.2.moved hvm⟩
theorem um_J.kept {τ : Nat → Nat} {A : Nat → Prop} {U : State} {H H1 : Heap} (h : um_J τ A U H) (hz : H.size ≤ H1.size) (hq : ∀ a : Nat, a < H.size → ¬ A a → H1[a]? = H[a]?) : um_J τ A U H1 :=
  ⟨⟨h.1.1.kept hq, h.1.2.kept hq⟩, ⟨h.2.1.1.kept hq, h.2.1.2.kept hq⟩, h.2.2.1.kept hq, h.2.2.2.1.kept hq, h.2.2.2.2⟩
def um_U (D : va_G) (κ : Nat → ClassId) (τ : Nat → Nat) (A : Nat → Prop) (σ : um_M) (U : State) : Prop := va_P D vwCl (va_pl σ.1 σ.2) U.heap ∧ va_D A (va_pl σ.1 σ.2) ∧ va_K D vwCl (um_T κ) U ∧ (∀ q : Nat, U.heap.size ≤ q → A q) ∧ um_J τ A U U.heap
section UC
variable {p : Program} {l : Launch} {e : Env} {R : Room} {s : State} {m : MethodId} {args : Array Value} {below : List Frame} {meth : Method} {c : Code} {H : Heap} {locs : List Loc} {cells slots : Nat} {Q : State → Prop}
variable {cc : ByteArray} {pc : Nat} {ls : Array Slot} {rest st0 : List Value} {D : va_G} {A : Nat → Prop} {σ : um_M} {κ : Nat → ClassId} {τ : Nat → Nat} {mc ms : Nat} {a : Array Value}
theorem um_atU {t : State} (hU : um_S D vwCl A s σ H locs) (hK : va_K D vwCl (um_T κ) s) (hJ : um_J τ A s s.heap) (ht : t.heap = H) (hW : s.vm.Alike t.vm) : um_U D κ τ A σ t :=
  ⟨by rw [ht]; exact hU.1, hU.2.1, va_K.moved hW hK, fun q hq => hU.2.2.2 q (by rw [ht] at hq; exact Nat.le_trans hU.2.2.1.1 hq), um_J.moved hW (by rw [ht]; exact hJ.kept hU.2.2.1.1 hU.2.2.1.2.1)⟩
theorem um_blind {As : List Value} : FrameBlind (va_Pc As (um_U D κ τ A σ)) := fun a U g mk q => by
  obtain ⟨q0, q1, q2, q3, q4, q5⟩ := q
  exact ⟨q0, q1, q2, va_K.moved (u := U) (U := U.calling g mk a) (Vm.Alike.refl U.vm) q3, q4, um_J.moved (u := U) (U := U.calling g mk a) (Vm.Alike.refl U.vm) q5⟩
theorem um_preS {As : List Value} (hU : um_S D vwCl A s σ H locs) (hK : va_K D vwCl (um_T κ) s) (hJ : um_J τ A s s.heap) : PreS s H (va_Pc As (um_U D κ τ A σ)) As :=
  ⟨um_blind, fun U hH hW => ⟨rfl, um_atU hU hK hJ hH hW.alike⟩⟩
theorem um_preV {As : List Value} {b ci : Nat} {q : vw_C} {fs : List Value} (hU : um_S D vwCl A s σ H locs) (hK : va_K D vwCl (um_T κ) s) (hJ : um_J τ A s s.heap) (hh : um_h σ b (.inr (ci, fs))) (hc : vwCl[ci]? = some q) : PreV s H q.1 b (va_Pc (.ref b :: As) (um_U D κ τ A σ)) As := by
  obtain ⟨k, hk⟩ := um_pl hh
  exact ⟨um_blind, va_recv hK hU.1 hc hk, fun U hH hW => ⟨rfl, um_atU hU hK hJ hH hW.alike⟩⟩
theorem um_calli {post : Int32 → um_M → Prop} (hr : va_Run p l e R s m args below meth c H locs cells slots mc ms (F0 m pc ls st0) rest (va_Qi post (um_U D κ τ A) A a) A) (hU : um_S D vwCl A s σ H locs)
    (kk : ∀ (r : Int32) (σ' : um_M) (H1 : Heap) (locs1 : List Loc), post r σ' → um_S D vwCl A s σ' H1 locs1 → W p l e R s m args below meth c H1 locs1 (cells + mc) (slots + ms) Q (F0 m (pc + 3) ls (.int r :: rest))) : W p l e R s m args below meth c H locs cells slots Q (F0 m pc ls st0) :=
  va_calli hr hU.2.2.1 (fun _ _ h => h) (fun _ h => h) (fun r u t H1 locs1 ht hvm hp hB hz hk hS1 => kk r u H1 locs1 hp ⟨by rw [← ht]; exact hB.1, hB.2.1, hS1, hU.2.2.2⟩)
theorem um_calll {post : Int64 → um_M → Prop} (hr : va_Run p l e R s m args below meth c H locs cells slots mc ms (F0 m pc ls st0) rest (va_Ql post (um_U D κ τ A) A a) A) (hU : um_S D vwCl A s σ H locs)
    (kk : ∀ (r : Int64) (σ' : um_M) (H1 : Heap) (locs1 : List Loc), post r σ' → um_S D vwCl A s σ' H1 locs1 → W p l e R s m args below meth c H1 locs1 (cells + mc) (slots + ms) Q (F0 m (pc + 3) ls (.long r :: rest))) : W p l e R s m args below meth c H locs cells slots Q (F0 m pc ls st0) :=
  va_calll hr hU.2.2.1 (fun _ _ h => h) (fun _ h => h) (fun r u t H1 locs1 ht hvm hp hB hz hk hS1 => kk r u H1 locs1 hp ⟨by rw [← ht]; exact hB.1, hB.2.1, hS1, hU.2.2.2⟩)
theorem um_callv {post : um_M → Prop} (hr : va_Run p l e R s m args below meth c H locs cells slots mc ms (F0 m pc ls st0) rest (va_Qv post (um_U D κ τ A) A a) A) (hU : um_S D vwCl A s σ H locs)
    (kk : ∀ (σ' : um_M) (H1 : Heap) (locs1 : List Loc), post σ' → um_S D vwCl A s σ' H1 locs1 → W p l e R s m args below meth c H1 locs1 (cells + mc) (slots + ms) Q (F0 m (pc + 3) ls rest)) : W p l e R s m args below meth c H locs cells slots Q (F0 m pc ls st0) :=
  va_callv hr hU.2.2.1 (fun _ _ h => h) (fun _ h => h) (fun u t H1 locs1 ht hvm hp hB hz hk hS1 => kk u H1 locs1 hp ⟨by rw [← ht]; exact hB.1, hB.2.1, hS1, hU.2.2.2⟩)
theorem um_callq {post : Option Nat → um_M → Prop} (hr : va_Run p l e R s m args below meth c H locs cells slots mc ms (F0 m pc ls st0) rest (va_Qq post (um_U D κ τ A) A a) A) (hU : um_S D vwCl A s σ H locs)
    (kk : ∀ (r : Option Nat) (σ' : um_M) (H1 : Heap) (locs1 : List Loc), post r σ' → um_S D vwCl A s σ' H1 locs1 → W p l e R s m args below meth c H1 locs1 (cells + mc) (slots + ms) Q (F0 m (pc + 3) ls (va_rf r :: rest))) : W p l e R s m args below meth c H locs cells slots Q (F0 m pc ls st0) :=
  va_callq hr hU.2.2.1 (fun _ _ h => h) (fun _ h => h) (fun r u t H1 locs1 ht hvm hp hB hz hk hS1 => kk r u H1 locs1 hp ⟨by rw [← ht]; exact hB.1, hB.2.1, hS1, hU.2.2.2⟩)
theorem um_iret {post : Int32 → um_M → Prop} {v : Int32} (hx : p.tables.exec = Jvm.exec) (hb : c.code = cc) (hr : meth.sig.returnType = some .int) (hlocks : meth.locks = false) (hK : va_K D vwCl (um_T κ) s) (hJ : um_J τ A s s.heap) (hU : um_S D vwCl A s σ H locs) (hdg : decode cc pc = .ok (.ireturn, 1)) (hp : post v σ) : W p l e R s m args below meth c H locs cells slots (MQ below (va_Qi post (um_U D κ τ A) A) args s cells slots A) (F0 m pc ls [.int v]) :=
  W.iret hx hb hr (fun t ht hW => ⟨⟨v, σ, rfl, hp, um_atU hU hK hJ ht hW.alike⟩, hU.2.2.1.F ht⟩) hU.2.2.1.2.2 hdg hlocks
theorem um_zret {post : Int32 → um_M → Prop} {v : Int32} (hx : p.tables.exec = Jvm.exec) (hb : c.code = cc) (hr : meth.sig.returnType = some .boolean) (hlocks : meth.locks = false) (hK : va_K D vwCl (um_T κ) s) (hJ : um_J τ A s s.heap) (hU : um_S D vwCl A s σ H locs) (hdg : decode cc pc = .ok (.ireturn, 1)) (b : Bool) (hv : v = um_b b) (hp : post (um_b b) σ) : W p l e R s m args below meth c H locs cells slots (MQ below (va_Qi post (um_U D κ τ A) A) args s cells slots A) (F0 m pc ls [.int v]) := by
  subst hv
  exact W.zret hx hb hr (um_b_nar b) (fun t ht hW => ⟨⟨um_b b, σ, rfl, hp, um_atU hU hK hJ ht hW.alike⟩, hU.2.2.1.F ht⟩) hU.2.2.1.2.2 hdg hlocks
theorem um_lret {post : Int64 → um_M → Prop} {v : Int64} (hx : p.tables.exec = Jvm.exec) (hb : c.code = cc) (hr : meth.sig.returnType = some .long) (hlocks : meth.locks = false) (hK : va_K D vwCl (um_T κ) s) (hJ : um_J τ A s s.heap) (hU : um_S D vwCl A s σ H locs) (hdg : decode cc pc = .ok (.lreturn, 1)) (hp : post v σ) : W p l e R s m args below meth c H locs cells slots (MQ below (va_Ql post (um_U D κ τ A) A) args s cells slots A) (F0 m pc ls [.long v]) :=
  W.lret hx hb hr (fun t ht hW => ⟨⟨v, σ, rfl, hp, um_atU hU hK hJ ht hW.alike⟩, hU.2.2.1.F ht⟩) hU.2.2.1.2.2 hdg hlocks
theorem um_vret {post : um_M → Prop} (hx : p.tables.exec = Jvm.exec) (hb : c.code = cc) (hr : meth.sig.returnType = none) (hlocks : meth.locks = false) (hK : va_K D vwCl (um_T κ) s) (hJ : um_J τ A s s.heap) (hU : um_S D vwCl A s σ H locs) (hdg : decode cc pc = .ok (.return_, 1)) (hp : post σ) : W p l e R s m args below meth c H locs cells slots (MQ below (va_Qv post (um_U D κ τ A) A) args s cells slots A) (F0 m pc ls []) :=
  W.vret hx hb hr (fun t ht hW => ⟨⟨σ, rfl, hp, um_atU hU hK hJ ht hW.alike⟩, hU.2.2.1.F ht⟩) hU.2.2.1.2.2 hdg hlocks
theorem um_aret {post : Option Nat → um_M → Prop} {r : Option Nat} {rt : FieldType} (hx : p.tables.exec = Jvm.exec) (hb : c.code = cc) (hr : meth.sig.returnType = some rt) (hrt : (∃ n, rt = .object n) ∨ ∃ t, rt = .array t) (hlocks : meth.locks = false) (hK : va_K D vwCl (um_T κ) s) (hJ : um_J τ A s s.heap) (hU : um_S D vwCl A s σ H locs) (hdg : decode cc pc = .ok (.areturn, 1)) (hp : post r σ) : W p l e R s m args below meth c H locs cells slots (MQ below (va_Qq post (um_U D κ τ A) A) args s cells slots A) (F0 m pc ls [va_rf r]) :=
  W.aret (v := va_rf r) hx hb hr hrt (va_rf_or r) (fun t ht hW => ⟨⟨r, σ, rfl, hp, um_atU hU hK hJ ht hW.alike⟩, hU.2.2.1.F ht⟩) hU.2.2.1.2.2 hdg hlocks
/-- a call that only answers -/
theorem um_callP {X : Int32} (hr : va_Run p l e R s m args below meth c H locs cells slots mc ms (F0 m pc ls st0) rest (va_Qi (fun r σ' => r = X ∧ σ' = σ) (um_U D κ τ A) A a) A) (hU : um_S D vwCl A s σ H locs)
    (kk : ∀ (H1 : Heap) (locs1 : List Loc), um_S D vwCl A s σ H1 locs1 → W p l e R s m args below meth c H1 locs1 (cells + mc) (slots + ms) Q (F0 m (pc + 3) ls (.int X :: rest))) : W p l e R s m args below meth c H locs cells slots Q (F0 m pc ls st0) :=
  um_calli hr hU (fun r σ' H1 locs1 hp hU1 => by obtain ⟨h1, h2⟩ := hp; subst h1; subst h2; exact kk H1 locs1 hU1)
theorem um_callPl {X : Int64} (hr : va_Run p l e R s m args below meth c H locs cells slots mc ms (F0 m pc ls st0) rest (va_Ql (fun r σ' => r = X ∧ σ' = σ) (um_U D κ τ A) A a) A) (hU : um_S D vwCl A s σ H locs)
    (kk : ∀ (H1 : Heap) (locs1 : List Loc), um_S D vwCl A s σ H1 locs1 → W p l e R s m args below meth c H1 locs1 (cells + mc) (slots + ms) Q (F0 m (pc + 3) ls (.long X :: rest))) : W p l e R s m args below meth c H locs cells slots Q (F0 m pc ls st0) :=
  um_calll hr hU (fun r σ' H1 locs1 hp hU1 => by obtain ⟨h1, h2⟩ := hp; subst h1; subst h2; exact kk H1 locs1 hU1)
theorem um_met {y : MethodName} {ws ws' : List Cond} {rm : Room} {av : List Value} {Qc : Array Value → State → Outcome → State → Prop} {free : Addr → Prop} {maxL : Nat} {ret : Option FieldType} (hy : plainName y.cls = true) (hw : ws = Cond.code y cc maxL ret :: ws') (hlen : Nat.ble (lg_sl av).length maxL = true)
    (body : ∀ (p : Program) (e : Env) (s : State) (m : MethodId) (args : Array Value) (below : List Frame) (meth : Method) (c : Code) (ls : Array Slot), p.tables.exec = Jvm.exec → c.code = cc → meth.sig.returnType = ret → (∀ w ∈ ws, w.before args s = true) → s.vm.findClass y.cls = some m.cls → meth.locks = false → c.maxLocals = maxL → meth.name = y.name → va_K D vwCl (um_T κ) s → um_J τ A s s.heap → um_S D vwCl A s σ s.heap [] → lv_has ls maxL (lv_args 0 av) →
      W p l e rm s m args below meth c s.heap [] 0 0 (MQ below Qc args s mc ms free) (F0 m 0 ls [])) : Met l y ws rm (va_Pc av (um_U D κ τ A σ)) Qc mc ms free := by
  refine Met.ofW (cc := cc) (maxL := maxL) (ret := ret) hy hw ?_
  intro p e s m args below meth c s₁ B hml hv
  obtain ⟨rfl, hP, hD, hK, hA, hJ⟩ := hv
  have hl := lv_entry av (n := maxL) (Nat.le_of_ble_eq_true hlen)
  rw [lg_entry_eq]
  generalize (lg_sl av ++ List.replicate (maxL - (lg_sl av).length) Slot.unset).toArray = ls at hl ⊢
  exact body p e s m av.toArray below meth c ls B.exec B.bytes B.returns (atoms_spec (ws := ws) B.pre) (findClass_of_methodNamed B.named) B.notSynchronized hml (name_of_methodNamed B.named B.method).1 hK hJ ⟨hP, hD, va_S.rf, hA⟩ hl
theorem um_addN {x y : Nat} (hx : p.tables.exec = Jvm.exec) (hb : c.code = cc) (hdg : decode cc pc = .ok (.iadd, 1)) (k : W p l e R s m args below meth c H locs cells slots Q (F0 m (pc + 1) ls (.int (nI (x + y)) :: rest))) : W p l e R s m args below meth c H locs cells slots Q (F0 m pc ls (.int (nI y) :: .int (nI x) :: rest)) :=
  lv_iadd hx hb hdg (by rw [nI_add]; exact k)
theorem um_mulN {x y : Nat} (hx : p.tables.exec = Jvm.exec) (hb : c.code = cc) (hdg : decode cc pc = .ok (.imul, 1)) (k : W p l e R s m args below meth c H locs cells slots Q (F0 m (pc + 1) ls (.int (nI (x * y)) :: rest))) : W p l e R s m args below meth c H locs cells slots Q (F0 m pc ls (.int (nI y) :: .int (nI x) :: rest)) :=
  lv_imul hx hb hdg (by rw [pk_mul]; exact k)
theorem um_divN {x y : Nat} (hx : p.tables.exec = Jvm.exec) (hb : c.code = cc) (hdg : decode cc pc = .ok (.idiv, 1)) (h1 : x < 2147483648) (h2 : 0 < y) (h3 : y < 2147483648) (k : W p l e R s m args below meth c H locs cells slots Q (F0 m (pc + 1) ls (.int (nI (x / y)) :: rest))) : W p l e R s m args below meth c H locs cells slots Q (F0 m pc ls (.int (nI y) :: .int (nI x) :: rest)) :=
  lv_idiv hx hb hdg (nI_ne0 h2 h3) (by rw [pk_div h1 h2 h3]; exact k)
theorem um_remN {x y : Nat} (hx : p.tables.exec = Jvm.exec) (hb : c.code = cc) (hdg : decode cc pc = .ok (.irem, 1)) (h1 : x < 2147483648) (h2 : 0 < y) (h3 : y < 2147483648) (k : W p l e R s m args below meth c H locs cells slots Q (F0 m (pc + 1) ls (.int (nI (x % y)) :: rest))) : W p l e R s m args below meth c H locs cells slots Q (F0 m pc ls (.int (nI y) :: .int (nI x) :: rest)) :=
  lv_irem hx hb hdg (nI_ne0 h2 h3) (by rw [pk_rem h1 h2 h3]; exact k)
theorem um_ltN {x y tgt : Nat} {off : Int} (hx : p.tables.exec = Jvm.exec) (hb : c.code = cc) (hdg : decode cc pc = .ok (.if_icmp .lt off, 3)) (ht : (pc : Int) + off = (tgt : Int)) (h1 : x < 2147483648) (h2 : y < 2147483648) (kt : x < y → W p l e R s m args below meth c H locs cells slots Q (F0 m tgt ls rest)) (kf : ¬ x < y → W p l e R s m args below meth c H locs cells slots Q (F0 m (pc + 3) ls rest)) : W p l e R s m args below meth c H locs cells slots Q (F0 m pc ls (.int (nI y) :: .int (nI x) :: rest)) :=
  lv_icmp_lt hx hb hdg ht (fun z => kt ((nI_ltI h1 h2).mp z)) (fun z => kf (fun w => z ((nI_ltI h1 h2).mpr w)))
theorem um_geN {x y tgt : Nat} {off : Int} (hx : p.tables.exec = Jvm.exec) (hb : c.code = cc) (hdg : decode cc pc = .ok (.if_icmp .ge off, 3)) (ht : (pc : Int) + off = (tgt : Int)) (h1 : x < 2147483648) (h2 : y < 2147483648) (kt : y ≤ x → W p l e R s m args below meth c H locs cells slots Q (F0 m tgt ls rest)) (kf : ¬ y ≤ x → W p l e R s m args below meth c H locs cells slots Q (F0 m (pc + 3) ls rest)) : W p l e R s m args below meth c H locs cells slots Q (F0 m pc ls (.int (nI y) :: .int (nI x) :: rest)) :=
  lv_icmp_ge hx hb hdg ht (fun z => kt ((nI_leI h2 h1).mp z)) (fun z => kf (fun w => z ((nI_leI h2 h1).mpr w)))
theorem um_gtN {x y tgt : Nat} {off : Int} (hx : p.tables.exec = Jvm.exec) (hb : c.code = cc) (hdg : decode cc pc = .ok (.if_icmp .gt off, 3)) (ht : (pc : Int) + off = (tgt : Int)) (h1 : x < 2147483648) (h2 : y < 2147483648) (kt : y < x → W p l e R s m args below meth c H locs cells slots Q (F0 m tgt ls rest)) (kf : ¬ y < x → W p l e R s m args below meth c H locs cells slots Q (F0 m (pc + 3) ls rest)) : W p l e R s m args below meth c H locs cells slots Q (F0 m pc ls (.int (nI y) :: .int (nI x) :: rest)) :=
  lv_icmp_gt hx hb hdg ht (fun z => kt ((nI_ltI h2 h1).mp z)) (fun z => kf (fun w => z ((nI_ltI h2 h1).mpr w)))
theorem um_leN {x y tgt : Nat} {off : Int} (hx : p.tables.exec = Jvm.exec) (hb : c.code = cc) (hdg : decode cc pc = .ok (.if_icmp .le off, 3)) (ht : (pc : Int) + off = (tgt : Int)) (h1 : x < 2147483648) (h2 : y < 2147483648) (kt : x ≤ y → W p l e R s m args below meth c H locs cells slots Q (F0 m tgt ls rest)) (kf : ¬ x ≤ y → W p l e R s m args below meth c H locs cells slots Q (F0 m (pc + 3) ls rest)) : W p l e R s m args below meth c H locs cells slots Q (F0 m pc ls (.int (nI y) :: .int (nI x) :: rest)) :=
  lv_icmp_le hx hb hdg ht (fun z => kt ((nI_leI h1 h2).mp z)) (fun z => kf (fun w => z ((nI_leI h1 h2).mpr w)))
theorem um_eqN {x y tgt : Nat} {off : Int} (hx : p.tables.exec = Jvm.exec) (hb : c.code = cc) (hdg : decode cc pc = .ok (.if_icmp .eq off, 3)) (ht : (pc : Int) + off = (tgt : Int)) (h1 : x < 2147483648) (h2 : y < 2147483648) (kt : x = y → W p l e R s m args below meth c H locs cells slots Q (F0 m tgt ls rest)) (kf : ¬ x = y → W p l e R s m args below meth c H locs cells slots Q (F0 m (pc + 3) ls rest)) : W p l e R s m args below meth c H locs cells slots Q (F0 m pc ls (.int (nI y) :: .int (nI x) :: rest)) :=
  lv_icmp_eq hx hb hdg ht (fun z => kt ((nI_eq h1 h2).mp z)) (fun z => kf (fun w => z ((nI_eq h1 h2).mpr w)))
theorem um_neN {x y tgt : Nat} {off : Int} (hx : p.tables.exec = Jvm.exec) (hb : c.code = cc) (hdg : decode cc pc = .ok (.if_icmp .ne off, 3)) (ht : (pc : Int) + off = (tgt : Int)) (h1 : x < 2147483648) (h2 : y < 2147483648) (kt : ¬ x = y → W p l e R s m args below meth c H locs cells slots Q (F0 m tgt ls rest)) (kf : x = y → W p l e R s m args below meth c H locs cells slots Q (F0 m (pc + 3) ls rest)) : W p l e R s m args below meth c H locs cells slots Q (F0 m pc ls (.int (nI y) :: .int (nI x) :: rest)) :=
  lv_icmp_ne hx hb hdg ht (fun z => kt (fun w => z ((nI_eq h1 h2).mpr w))) (fun z => kf ((nI_eq h1 h2).mp z))
theorem um_eq0N {x tgt : Nat} {off : Int} (hx : p.tables.exec = Jvm.exec) (hb : c.code = cc) (hdg : decode cc pc = .ok (.ifCond .eq off, 3)) (ht : (pc : Int) + off = (tgt : Int)) (h1 : x < 2147483648) (kt : x = 0 → W p l e R s m args below meth c H locs cells slots Q (F0 m tgt ls rest)) (kf : ¬ x = 0 → W p l e R s m args below meth c H locs cells slots Q (F0 m (pc + 3) ls rest)) : W p l e R s m args below meth c H locs cells slots Q (F0 m pc ls (.int (nI x) :: rest)) :=
  lv_if_eq hx hb hdg ht (fun z => kt ((nI_eq h1 (by decide)).mp z)) (fun z => kf (fun w => z ((nI_eq h1 (by decide)).mpr w)))
theorem um_ne0N {x tgt : Nat} {off : Int} (hx : p.tables.exec = Jvm.exec) (hb : c.code = cc) (hdg : decode cc pc = .ok (.ifCond .ne off, 3)) (ht : (pc : Int) + off = (tgt : Int)) (h1 : x < 2147483648) (kt : ¬ x = 0 → W p l e R s m args below meth c H locs cells slots Q (F0 m tgt ls rest)) (kf : x = 0 → W p l e R s m args below meth c H locs cells slots Q (F0 m (pc + 3) ls rest)) : W p l e R s m args below meth c H locs cells slots Q (F0 m pc ls (.int (nI x) :: rest)) :=
  lv_if_ne hx hb hdg ht (fun z => kt (fun w => z ((nI_eq h1 (by decide)).mpr w))) (fun z => kf ((nI_eq h1 (by decide)).mp z))
theorem um_eqB {b : Bool} {tgt : Nat} {off : Int} (hx : p.tables.exec = Jvm.exec) (hb : c.code = cc) (hdg : decode cc pc = .ok (.ifCond .eq off, 3)) (ht : (pc : Int) + off = (tgt : Int)) (kt : b = false → W p l e R s m args below meth c H locs cells slots Q (F0 m tgt ls rest)) (kf : b = true → W p l e R s m args below meth c H locs cells slots Q (F0 m (pc + 3) ls rest)) : W p l e R s m args below meth c H locs cells slots Q (F0 m pc ls (.int (um_b b) :: rest)) :=
  lv_if_eq hx hb hdg ht (fun z => kt (um_b_0.mp z)) (fun z => kf (um_b_n0.mp z))
theorem um_neB {b : Bool} {tgt : Nat} {off : Int} (hx : p.tables.exec = Jvm.exec) (hb : c.code = cc) (hdg : decode cc pc = .ok (.ifCond .ne off, 3)) (ht : (pc : Int) + off = (tgt : Int)) (kt : b = true → W p l e R s m args below meth c H locs cells slots Q (F0 m tgt ls rest)) (kf : b = false → W p l e R s m args below meth c H locs cells slots Q (F0 m (pc + 3) ls rest)) : W p l e R s m args below meth c H locs cells slots Q (F0 m pc ls (.int (um_b b) :: rest)) :=
  lv_if_ne hx hb hdg ht (fun z => kt (um_b_n0.mp z)) (fun z => kf (um_b_0.mp z))
end UC
