/-! Rows for the class's constructors: facts of two worlds joined, nest mates' links, arrays of objects, an array of arrays. -/
theorem um_one_hs (q : Nat) (x : va_E) : um_hs (um_one q x) [(q, x)] := by
  have key : ∀ (k : Nat) (y : Nat × va_E), ([(q, x)] : List (Nat × va_E))[k]? = some y → k = 0 ∧ y = (q, x) := fun k y h => by
    have hk : k < 1 := (List.getElem?_eq_some_iff.mp h).1
    have h0 : k = 0 := by omega
    subst h0
    exact ⟨rfl, (Option.some.inj h).symm⟩
  refine ⟨fun k y h => ?_, fun i j y z hy hz _ => ?_⟩
  · rw [(key k y h).2]
    exact um_one_h q x
  · rw [(key i y hy).1, (key j z hz).1]
theorem um_hs.join {σ ρ : um_M} {L K : List (Nat × va_E)} (h : um_hs σ L) (h2 : um_hs ρ K) (hd : um_ap σ ρ) : um_hs (um_jn σ ρ) (L ++ K) := by
  have key : ∀ (k : Nat) (y : Nat × va_E), (L ++ K)[k]? = some y → (k < L.length ∧ L[k]? = some y) ∨ (L.length ≤ k ∧ K[k - L.length]? = some y) := fun k y hk => by
    by_cases hl : k < L.length
    · rw [List.getElem?_append_left hl] at hk
      exact Or.inl ⟨hl, hk⟩
    · rw [List.getElem?_append_right (by omega)] at hk
      exact Or.inr ⟨by omega, hk⟩
  refine ⟨fun k y hk => ?_, fun i j y z hy hz hyz => ?_⟩
  · rcases key k y hk with ⟨-, h1⟩ | ⟨-, h1⟩
    · exact (h.1 k y h1).jl
    · exact um_h.jr hd (h2.1 _ y h1)
  · rcases key i y hy with ⟨a1, h1⟩ | ⟨a1, h1⟩ <;> rcases key j z hz with ⟨b1, h3⟩ | ⟨b1, h3⟩
    · exact h.2 i j y z h1 h3 hyz
    · exact absurd (h2.1 _ z h3).1 (hyz ▸ hd _ (h.1 _ y h1).1)
    · exact absurd (h2.1 _ y h1).1 (hyz ▸ hd _ (h.1 _ z h3).1)
    · have := h2.2 _ _ y z h1 h3 hyz
      omega
section UN
variable {p : Program} {l : Launch} {e : Env} {R : Room} {s : State} {m : MethodId} {args : Array Value} {below : List Frame} {meth : Method} {c : Code} {H : Heap} {locs : List Loc} {cells slots : Nat} {Q : State → Prop}
variable {cc : ByteArray} {pc : Nat} {ls : Array Slot} {rest : List Value} {D : va_G} {A : Nat → Prop} {a mc ms : Nat} {κ : Nat → ClassId} {τ : Nat → Nat} {σ : um_M} {own : String} {Ts : List Cond} {L : List (Nat × va_E)}
/-- a contract that also needs X of the state -/
theorem um_metN {X : State → Prop} {y : MethodName} {ws ws' : List Cond} {rm : Room} {av : List Value} {Qc : Array Value → State → Outcome → State → Prop} {free : Addr → Prop} {maxL : Nat} {ret : Option FieldType} (hy : plainName y.cls = true) (hw : ws = Cond.code y cc maxL ret :: ws') (hlen : Nat.ble (lg_sl av).length maxL = true)
    (body : ∀ (p : Program) (e : Env) (s : State) (m : MethodId) (args : Array Value) (below : List Frame) (meth : Method) (c : Code) (ls : Array Slot), p.tables.exec = Jvm.exec → c.code = cc → meth.sig.returnType = ret → (∀ w ∈ ws, w.before args s = true) → s.vm.findClass y.cls = some m.cls → meth.locks = false → c.maxLocals = maxL → meth.name = y.name → va_K D vwCl (um_T κ) s → um_J τ A s s.heap → um_S D vwCl A s σ s.heap [] → X s → lv_has ls maxL (lv_args 0 av) →
      W p l e rm s m args below meth c s.heap [] 0 0 (MQ below Qc args s mc ms free) (F0 m 0 ls [])) : Met l y ws rm (fun a U => va_Pc av (um_U D κ τ A σ) a U ∧ X U) Qc mc ms free := by
  refine Met.ofW (cc := cc) (maxL := maxL) (ret := ret) hy hw ?_
  intro p e s m args below meth c s₁ B hml hv
  obtain ⟨⟨rfl, hP, hD, hK, hA, hJ⟩, hX⟩ := hv
  have hl := lv_entry av (n := maxL) (Nat.le_of_ble_eq_true hlen)
  rw [lg_entry_eq]
  generalize (lg_sl av ++ List.replicate (maxL - (lg_sl av).length) Slot.unset).toArray = ls at hl ⊢
  exact body p e s m av.toArray below meth c ls B.exec B.bytes B.returns (atoms_spec (ws := ws) B.pre) (findClass_of_methodNamed B.named) B.notSynchronized hml (name_of_methodNamed B.named B.method).1 hK hJ ⟨hP, hD, va_S.rf, hA⟩ hX hl
/-- a new object of the class, apart from the rest -/
theorem uh_obj {C : String} {T : u_T} {N ci index : Nat} (hx : p.tables.exec = Jvm.exec) (hb : c.code = cc) (hts : ∀ w ∈ Ts, w.before args s = true) (hin : ∀ w ∈ u_ws C T N, w ∈ Ts) (ty : Nat → FieldType) (hty : ∀ k, k < N → parseFieldDescriptor (T k).2.2.1 = some (ty k)) (hown : s.vm.findClass own = some m.cls) (hcl : (Cond.classLink own index C).before args s = true) (hinst : (Cond.instantiable C N).before args s = true) (hini : (Cond.initialized C).before args s = true)
    (hK : va_K D vwCl (um_T κ) s) (hU : um_S D vwCl A s σ H locs) (hc : vwCl[ci]? = some (C, T, N)) {fs : List Value} (hfs : ∀ j, j < N → defaultValue (ty j) = vp_V fs j) (hcells : cells + 1 ≤ R.cells) (hslots : slots + N ≤ R.slots) (hdg : decode cc pc = .ok (.new index, 3))
    (kk : ∀ (q : Nat) (H1 : Heap), um_S D vwCl A s σ H1 locs → um_S D vwCl A s (um_one q (.inr (ci, fs))) H1 locs → um_ap (um_one q (.inr (ci, fs))) σ →
      W p l e R s m args below meth c H1 locs (cells + 1) (slots + N) Q (F0 m (pc + 3) ls (.ref q :: rest))) : W p l e R s m args below meth c H locs cells slots Q (F0 m pc ls rest) :=
  um_new hx hb hts hin ty hty hown hcl hinst hini hK hU hc hfs hcells hslots hdg (fun q H1 hq hU1 => by
    obtain ⟨g1, g2, g3⟩ := um_S.split hq hU1
    exact kk q H1 g1 g2 (fun b hb9 z => g3 b z hb9))
theorem uh_newq {C : String} {index t0 : Nat} (hx : p.tables.exec = Jvm.exec) (hb : c.code = cc) (hown : s.vm.findClass own = some m.cls) (hclink : (Cond.classLink own index C).before args s = true) (hover : va_AO C s) (hK : va_K D vwCl (um_T κ) s) (hU : um_S D vwCl A s σ H locs) (hs : um_hs σ L) {cB : ClassId} (ht : (um_T κ)[t0]? = some (cB, .object C)) {n : Int32} {N' : Nat} (hn : n = nI N') (hN : N' ≤ 1000) (hcells : cells + 1 ≤ R.cells) (hslots : slots + N' ≤ R.slots) (hdg : decode cc pc = .ok (.anewarray index, 3))
    (kk : ∀ (q : Nat) (σ' : um_M) (H1 : Heap), um_hs σ' (L ++ [(q, xs_R cB N' (fun _ => none))]) → um_S D vwCl A s σ' H1 locs → W p l e R s m args below meth c H1 locs (cells + 1) (slots + N') Q (F0 m (pc + 3) ls (.ref q :: rest))) : W p l e R s m args below meth c H locs cells slots Q (F0 m pc ls (.int n :: rest)) := by
  subst hn
  exact um_newq hx hb hown hclink hover hK hU t0 ht (nI_pos (by omega)) (nI_clamp (by omega)) (by omega) hcells hslots hdg (fun q H1 hq hU1 => kk q _ H1 (hs.new hq) hU1)
theorem uh_get {C : String} {T : u_T} {N ci index : Nat} (hx : p.tables.exec = Jvm.exec) (hb : c.code = cc) (hts : ∀ w ∈ Ts, w.before args s = true) (hin : ∀ w ∈ u_ws C T N, w ∈ Ts) (hown : s.vm.findClass own = some m.cls) (hK : va_K D vwCl (um_T κ) s) (hU : um_S D vwCl A s σ H locs) (hs : um_hs σ L) (k0 : Nat) {fs : List Value} (hh : L[k0]? = some (a, .inr (ci, fs))) (hc : vwCl[ci]? = some (C, T, N)) (k : Nat) (hk : k < N) (hlink : (Cond.fieldLink own index (T k).1 (T k).2.1 (T k).2.2.1).before args s = true) {v : Value} (hv : fs[k]? = some v) (hdg : decode cc pc = .ok (.getfield index, 3))
    (kk : W p l e R s m args below meth c H locs cells slots Q (F0 m (pc + 3) ls (v :: rest))) : W p l e R s m args below meth c H locs cells slots Q (F0 m pc ls (.ref a :: rest)) :=
  um_get (v := v) hx hb hts hin hown hK hU (hs.at k0 hh) hc k hk hlink hv hdg kk
/-- five rows of five -/
theorem uh_mna {index : Nat} {n k : Int32} (hx : p.tables.exec = Jvm.exec) (hb : c.code = cc) (hown : s.vm.findClass own = some m.cls) (hclink : (Cond.classLink own index ("[" ++ (FieldType.array .int).toString)).before args s = true) (hover : va_AOA .int s) (harr : (Cond.arrayClass .int).before args s = true) (hK : va_K D vwCl (um_T κ) s) (hU : um_S D vwCl A s σ H locs) (hs : um_hs σ L) (hn : n = nI 5) (hk : k = nI 5) (hcells : cells + (1 + 5) ≤ R.cells) (hslots : slots + (5 + 5 * 5) ≤ R.slots) (hdg : decode cc pc = .ok (.multianewarray index 2, 4))
    (kk : ∀ (q : Nat) (r : Nat → Nat) (σ' : um_M) (H1 : Heap), um_hs σ' (L ++ [(q, xs_R (κ 2) 5 (fun i => if i < 5 then some (r i) else none)), (r 0, xs_A (κ 0) 5 (fun _ => 0)), (r 1, xs_A (κ 0) 5 (fun _ => 0)), (r 2, xs_A (κ 0) 5 (fun _ => 0)), (r 3, xs_A (κ 0) 5 (fun _ => 0)), (r 4, xs_A (κ 0) 5 (fun _ => 0))]) → um_S D vwCl A s σ' H1 locs → W p l e R s m args below meth c H1 locs (cells + 1 + 5) (slots + 5 + 5 * 5) Q (F0 m (pc + 4) ls (.ref q :: rest))) : W p l e R s m args below meth c H locs cells slots Q (F0 m pc ls (.int k :: .int n :: rest)) := by
  subst hn
  subst hk
  have hcy : s.vm.findClass (FieldType.array .int).toString = some (κ 0) := (hK.2 0 _ (show (um_T κ)[0]? = some (κ 0, .int) from rfl)).2
  refine va_mna (X := []) (L := σ.1) (f := σ.2) (ty := .int) (cy := κ 0) (N' := 5) (K' := 5) (z := (5, .inl (fun _ => 0))) hx hb hown hclink hover harr hcy hK hU.1 hU.2.1 hU.2.2.1 hU.2.2.2 (by decide) (by decide) rfl rfl (by decide) (by decide) (by decide) rfl rfl hcells hslots (fun c => ?_) hdg (fun q r cA H1 hinj hfr hK1 hP1 hD1 hS1 => ?_)
  · exact (arrV_new c 5 (Value.int 0))
  · have g1 : s.vm.findClass ("[" ++ (FieldType.array .int).toString) = some cA := (hK1.2 5 (cA, .array .int) rfl).2
    have g2 : s.vm.findClass ("[" ++ (FieldType.array .int).toString) = some (κ 2) := (hK.2 2 _ (show (um_T κ)[2]? = some (κ 2, .array .int) from rfl)).2
    have e1 : cA = κ 2 := Option.some.inj (g1.symm.trans g2)
    subst e1
    have hq : q ∉ σ.1 ++ (List.range 5).map r := fun z => by
      obtain ⟨j, hj⟩ := va_pl_get (X := []) (f := vr_up σ.2 ((List.range 5).map r) (.inl (κ 0, 5, .inl (fun _ => 0)))) z
      have := hD1.1 0 (j + 1) _ _ rfl (show _ from hj) rfl
      omega
    have hq1 : q ∉ σ.1 := fun z => hq (List.mem_append_left _ z)
    have hrm : ∀ i, i < 5 → r i ∈ (List.range 5).map r := fun i hi => List.mem_map.mpr ⟨i, List.mem_range.mpr hi, rfl⟩
    have hqr : ∀ i, i < 5 → q ≠ r i := fun i hi z => hq (List.mem_append_right _ (z ▸ hrm i hi))
    have hL : ∀ b, b ∈ σ.1 → b ∉ (List.range 5).map r := fun b hb9 z => by
      obtain ⟨i, hi, rfl⟩ := List.mem_map.mp z
      exact hfr i (List.mem_range.mp hi) hb9
    obtain ⟨σ', hσ⟩ : ∃ σ' : um_M, σ' = (q :: (σ.1 ++ (List.range 5).map r), va_up (vr_up σ.2 ((List.range 5).map r) (.inl (κ 0, 5, .inl (fun _ => 0)))) q (xs_R (κ 2) 5 (fun i => if i < 5 then some (r i) else none))) := ⟨_, rfl⟩
    have hpl : va_pl σ'.1 σ'.2 = ([] ++ [(q, xs_R (κ 2) 5 (fun i => if i < 5 then some (r i) else none))]) ++ va_pl (σ.1 ++ (List.range 5).map r) (vr_up σ.2 ((List.range 5).map r) (.inl (κ 0, 5, .inl (fun _ => 0)))) := by
      rw [hσ]
      show (q, va_up (vr_up σ.2 ((List.range 5).map r) (.inl (κ 0, 5, .inl (fun _ => 0)))) q (xs_R (κ 2) 5 (fun i => if i < 5 then some (r i) else none)) q) :: (σ.1 ++ (List.range 5).map r).map (fun a => (a, va_up (vr_up σ.2 ((List.range 5).map r) (.inl (κ 0, 5, .inl (fun _ => 0)))) q (xs_R (κ 2) 5 (fun i => if i < 5 then some (r i) else none)) a)) = (q, (xs_R (κ 2) 5 (fun i => if i < 5 then some (r i) else none))) :: (σ.1 ++ (List.range 5).map r).map (fun a => (a, (vr_up σ.2 ((List.range 5).map r) (.inl (κ 0, 5, .inl (fun _ => 0)))) a))
      rw [va_up_self]
      refine congrArg (List.cons _) (List.map_congr_left (fun b hb9 => ?_))
      have hne : b ≠ q := fun z => hq (z ▸ hb9)
      rw [va_up_ne _ _ hne]
    rw [← hpl] at hP1 hD1
    refine kk q r σ' H1 ?_ ⟨hP1, hD1, hS1, hU.2.2.2⟩
    have hold : ∀ b x, um_h σ b x → um_h σ' b x := fun b x hb9 => by
      rw [hσ]
      refine ⟨List.mem_cons_of_mem _ (List.mem_append_left _ hb9.1), ?_⟩
      have hne : b ≠ q := fun z => hq1 (z ▸ hb9.1)
      show va_up (vr_up σ.2 ((List.range 5).map r) (.inl (κ 0, 5, .inl (fun _ => 0)))) q (xs_R (κ 2) 5 (fun i => if i < 5 then some (r i) else none)) b = x
      rw [va_up_ne _ _ hne, vr_up_ne (hL b hb9.1)]
      exact hb9.2
    have hqh : um_h σ' q (xs_R (κ 2) 5 (fun i => if i < 5 then some (r i) else none)) := by
      rw [hσ]
      exact ⟨List.mem_cons_self, va_up_self _ _ _⟩
    have hrh : ∀ i, i < 5 → um_h σ' (r i) (xs_A (κ 0) 5 (fun _ => 0)) := fun i hi => by
      rw [hσ]
      refine ⟨List.mem_cons_of_mem _ (List.mem_append_right _ (hrm i hi)), ?_⟩
      show va_up (vr_up σ.2 ((List.range 5).map r) (.inl (κ 0, 5, .inl (fun _ => 0)))) q (xs_R (κ 2) 5 (fun i => if i < 5 then some (r i) else none)) (r i) = _
      rw [va_up_ne _ _ (Ne.symm (hqr i hi)), vr_up_in (hrm i hi)]
    have hnew : um_hs σ' [(q, xs_R (κ 2) 5 (fun i => if i < 5 then some (r i) else none)), (r 0, xs_A (κ 0) 5 (fun _ => 0)), (r 1, xs_A (κ 0) 5 (fun _ => 0)), (r 2, xs_A (κ 0) 5 (fun _ => 0)), (r 3, xs_A (κ 0) 5 (fun _ => 0)), (r 4, xs_A (κ 0) 5 (fun _ => 0))] := by
      have key : ∀ (k : Nat) (y : Nat × va_E), ([(q, xs_R (κ 2) 5 (fun i => if i < 5 then some (r i) else none)), (r 0, xs_A (κ 0) 5 (fun _ => 0)), (r 1, xs_A (κ 0) 5 (fun _ => 0)), (r 2, xs_A (κ 0) 5 (fun _ => 0)), (r 3, xs_A (κ 0) 5 (fun _ => 0)), (r 4, xs_A (κ 0) 5 (fun _ => 0))] : List (Nat × va_E))[k]? = some y → (k = 0 ∧ y = (q, xs_R (κ 2) 5 (fun i => if i < 5 then some (r i) else none))) ∨ ∃ i, i < 5 ∧ k = i + 1 ∧ y = (r i, xs_A (κ 0) 5 (fun _ => 0)) := fun k y h => by
        have hk : k < 6 := (List.getElem?_eq_some_iff.mp h).1
        have h6 : k = 0 ∨ k = 1 ∨ k = 2 ∨ k = 3 ∨ k = 4 ∨ k = 5 := by omega
        rcases h6 with rfl | rfl | rfl | rfl | rfl | rfl
        · exact Or.inl ⟨rfl, (Option.some.inj h).symm⟩
        · exact Or.inr ⟨0, by decide, rfl, (Option.some.inj h).symm⟩
        · exact Or.inr ⟨1, by decide, rfl, (Option.some.inj h).symm⟩
        · exact Or.inr ⟨2, by decide, rfl, (Option.some.inj h).symm⟩
        · exact Or.inr ⟨3, by decide, rfl, (Option.some.inj h).symm⟩
        · exact Or.inr ⟨4, by decide, rfl, (Option.some.inj h).symm⟩
      refine ⟨fun k y h => ?_, fun i j y z hy hz hyz => ?_⟩
      · rcases key k y h with ⟨-, rfl⟩ | ⟨i, hi, -, rfl⟩
        · exact hqh
        · exact hrh i hi
      · rcases key i y hy with ⟨h1, rfl⟩ | ⟨i', hi', h1, rfl⟩ <;> rcases key j z hz with ⟨h2, rfl⟩ | ⟨j', hj', h2, rfl⟩
        · omega
        · exact absurd hyz (hqr j' hj')
        · exact absurd hyz.symm (hqr i' hi')
        · have := hinj i' j' hi' hj' hyz
          omega
    have hdis : ∀ (i j : Nat) (y z : Nat × va_E), L[i]? = some y → ([(q, xs_R (κ 2) 5 (fun i => if i < 5 then some (r i) else none)), (r 0, xs_A (κ 0) 5 (fun _ => 0)), (r 1, xs_A (κ 0) 5 (fun _ => 0)), (r 2, xs_A (κ 0) 5 (fun _ => 0)), (r 3, xs_A (κ 0) 5 (fun _ => 0)), (r 4, xs_A (κ 0) 5 (fun _ => 0))] : List (Nat × va_E))[j]? = some z → y.1 ≠ z.1 := fun i j y z hy hz hyz => by
      have hy1 := (hs.1 i y hy).1
      have hk : j < 6 := (List.getElem?_eq_some_iff.mp hz).1
      have h6 : j = 0 ∨ j = 1 ∨ j = 2 ∨ j = 3 ∨ j = 4 ∨ j = 5 := by omega
      rw [hyz] at hy1
      rcases h6 with rfl | rfl | rfl | rfl | rfl | rfl <;> cases Option.some.inj hz
      · exact hq1 hy1
      · exact hfr 0 (by decide) hy1
      · exact hfr 1 (by decide) hy1
      · exact hfr 2 (by decide) hy1
      · exact hfr 3 (by decide) hy1
      · exact hfr 4 (by decide) hy1
    refine ⟨fun k y hk => ?_, fun i j y z hy hz hyz => ?_⟩
    · by_cases hl : k < L.length
      · rw [List.getElem?_append_left hl] at hk
        exact hold _ _ (hs.1 k y hk)
      · rw [List.getElem?_append_right (by omega)] at hk
        exact hnew.1 _ y hk
    · by_cases h1 : i < L.length
      · rw [List.getElem?_append_left h1] at hy
        by_cases h2 : j < L.length
        · rw [List.getElem?_append_left h2] at hz
          exact hs.2 i j y z hy hz hyz
        · rw [List.getElem?_append_right (by omega)] at hz
          exact absurd hyz (hdis _ _ y z hy hz)
      · rw [List.getElem?_append_right (by omega)] at hy
        by_cases h2 : j < L.length
        · rw [List.getElem?_append_left h2] at hz
          exact absurd hyz.symm (hdis _ _ z y hz hy)
        · rw [List.getElem?_append_right (by omega)] at hz
          have := hnew.2 _ _ y z hy hz hyz
          omega
end UN
