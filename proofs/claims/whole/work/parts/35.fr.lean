/-! Two worlds side by side: a call that has one of them leaves the other as it was. -/
theorem um_pl_mem {σ : um_M} {k : Nat} {x : Nat × va_E} (h : (va_pl σ.1 σ.2)[k]? = some x) : x.1 ∈ σ.1 ∧ x.2 = σ.2 x.1 := by
  unfold va_pl at h
  rw [List.getElem?_map] at h
  cases hk : σ.1[k]? with
  | none => rw [hk] at h; cases h
  | some a =>
    rw [hk] at h
    cases h
    exact ⟨List.mem_of_getElem? hk, rfl⟩
def um_Am (A : Nat → Prop) (ρ : um_M) (a : Nat) : Prop := A a ∧ a ∉ ρ.1
theorem um_J.narrow {τ : Nat → Nat} {A B : Nat → Prop} {U : State} {H : Heap} (h : um_J τ A U H) (hAB : ∀ q, B q → A q) : um_J τ B U H := ⟨⟨h.1.1.narrow hAB, h.1.2.narrow hAB⟩, ⟨h.2.1.1.narrow hAB, h.2.1.2.narrow hAB⟩, h.2.2.1.narrow hAB, h.2.2.2.1.narrow hAB, h.2.2.2.2⟩
def um_ap (σ ρ : um_M) : Prop := ∀ a, a ∈ σ.1 → a ∉ ρ.1
section FR
variable {p : Program} {l : Launch} {e : Env} {R : Room} {s : State} {m : MethodId} {args : Array Value} {below : List Frame} {meth : Method} {c : Code} {H : Heap} {locs : List Loc} {cells slots : Nat} {Q : State → Prop}
variable {cc : ByteArray} {pc : Nat} {ls : Array Slot} {rest st0 : List Value} {D : va_G} {A : Nat → Prop} {σ ρ : um_M} {κ : Nat → ClassId} {τ : Nat → Nat} {mc ms : Nat} {a : Array Value}
theorem um_S.lt (hU : um_S D vwCl A s σ H locs) {b : Nat} (hb : b ∈ σ.1) : b < H.size := va_pl_lt (X := []) hU.1 hb
theorem um_atU2 {t : State} (hU : um_S D vwCl A s σ H locs) (hR : um_S D vwCl A s ρ H locs) (hd : um_ap σ ρ) (hK : va_K D vwCl (um_T κ) s) (hJ : um_J τ A s s.heap) (ht : t.heap = H) (hW : s.vm.Alike t.vm) : um_U D κ τ (um_Am A ρ) σ t := by
  have h1 := um_atU hU hK hJ ht hW
  refine ⟨h1.1, ⟨hU.2.1.1, fun k q hk => ⟨hU.2.1.2 k q hk, hd _ (um_pl_mem hk).1⟩⟩, h1.2.2.1, fun q hq => ⟨h1.2.2.2.1 q hq, fun z => ?_⟩, h1.2.2.2.2.narrow (fun q hq => hq.1)⟩
  have := hR.lt z
  rw [ht] at hq
  omega
theorem um_preS2 {As : List Value} (hU : um_S D vwCl A s σ H locs) (hR : um_S D vwCl A s ρ H locs) (hd : um_ap σ ρ) (hK : va_K D vwCl (um_T κ) s) (hJ : um_J τ A s s.heap) : PreS s H (va_Pc As (um_U D κ τ (um_Am A ρ) σ)) As :=
  ⟨um_blind, fun U hH hW => ⟨rfl, um_atU2 hU hR hd hK hJ hH hW.alike⟩⟩
theorem um_preV2 {As : List Value} {b ci : Nat} {q : vw_C} {fs : List Value} (hU : um_S D vwCl A s σ H locs) (hR : um_S D vwCl A s ρ H locs) (hd : um_ap σ ρ) (hK : va_K D vwCl (um_T κ) s) (hJ : um_J τ A s s.heap) (hh : um_h σ b (.inr (ci, fs))) (hc : vwCl[ci]? = some q) : PreV s H q.1 b (va_Pc (.ref b :: As) (um_U D κ τ (um_Am A ρ) σ)) As := by
  obtain ⟨k, hk⟩ := um_pl hh
  exact ⟨um_blind, va_recv hK hU.1 hc hk, fun U hH hW => ⟨rfl, um_atU2 hU hR hd hK hJ hH hW.alike⟩⟩
/-- what came back beside what was left -/
theorem um_back2 {σ' : um_M} {t : State} {H1 : Heap} {locs1 : List Loc} (hU : um_S D vwCl A s σ H locs) (hR : um_S D vwCl A s ρ H locs) (ht : t.heap = H1) (hB : um_U D κ τ (um_Am A ρ) σ' t) (hk : ∀ q : Nat, q < H.size → ¬ um_Am A ρ q → H1[q]? = H[q]?) (hS1 : va_S A s.heap H1 locs1) : um_S D vwCl A s σ' H1 locs1 ∧ um_S D vwCl A s ρ H1 locs1 ∧ um_ap σ' ρ := by
  refine ⟨⟨by rw [← ht]; exact hB.1, ⟨hB.2.1.1, fun k q h => (hB.2.1.2 k q h).1⟩, hS1, hU.2.2.2⟩, ⟨hR.1.kept (fun k q h => hk q.1 ((hR.1 k q h).lt) (fun z => z.2 (um_pl_mem h).1)), hR.2.1, hS1, hU.2.2.2⟩, fun b hb => ?_⟩
  obtain ⟨k, hk2⟩ := va_pl_get (X := []) (f := σ'.2) hb
  exact (hB.2.1.2 k _ hk2).2
theorem um_call2v {post : um_M → Prop} (hr : va_Run p l e R s m args below meth c H locs cells slots mc ms (F0 m pc ls st0) rest (va_Qv post (um_U D κ τ (um_Am A ρ)) (um_Am A ρ) a) (um_Am A ρ)) (hU : um_S D vwCl A s σ H locs) (hR : um_S D vwCl A s ρ H locs)
    (kk : ∀ (σ' : um_M) (H1 : Heap) (locs1 : List Loc), post σ' → um_S D vwCl A s σ' H1 locs1 → um_S D vwCl A s ρ H1 locs1 → um_ap σ' ρ → W p l e R s m args below meth c H1 locs1 (cells + mc) (slots + ms) Q (F0 m (pc + 3) ls rest)) : W p l e R s m args below meth c H locs cells slots Q (F0 m pc ls st0) :=
  va_callv hr hU.2.2.1 (fun _ _ h => h.1) (fun _ h => h.1) (fun u t H1 locs1 ht hvm hp hB hz hk hS1 => by
    obtain ⟨h1, h2, h3⟩ := um_back2 hU hR ht hB hk hS1
    exact kk u H1 locs1 hp h1 h2 h3)
theorem um_call2i {post : Int32 → um_M → Prop} (hr : va_Run p l e R s m args below meth c H locs cells slots mc ms (F0 m pc ls st0) rest (va_Qi post (um_U D κ τ (um_Am A ρ)) (um_Am A ρ) a) (um_Am A ρ)) (hU : um_S D vwCl A s σ H locs) (hR : um_S D vwCl A s ρ H locs)
    (kk : ∀ (r : Int32) (σ' : um_M) (H1 : Heap) (locs1 : List Loc), post r σ' → um_S D vwCl A s σ' H1 locs1 → um_S D vwCl A s ρ H1 locs1 → um_ap σ' ρ → W p l e R s m args below meth c H1 locs1 (cells + mc) (slots + ms) Q (F0 m (pc + 3) ls (.int r :: rest))) : W p l e R s m args below meth c H locs cells slots Q (F0 m pc ls st0) :=
  va_calli hr hU.2.2.1 (fun _ _ h => h.1) (fun _ h => h.1) (fun r u t H1 locs1 ht hvm hp hB hz hk hS1 => by
    obtain ⟨h1, h2, h3⟩ := um_back2 hU hR ht hB hk hS1
    exact kk r u H1 locs1 hp h1 h2 h3)
theorem um_call2l {post : Int64 → um_M → Prop} (hr : va_Run p l e R s m args below meth c H locs cells slots mc ms (F0 m pc ls st0) rest (va_Ql post (um_U D κ τ (um_Am A ρ)) (um_Am A ρ) a) (um_Am A ρ)) (hU : um_S D vwCl A s σ H locs) (hR : um_S D vwCl A s ρ H locs)
    (kk : ∀ (r : Int64) (σ' : um_M) (H1 : Heap) (locs1 : List Loc), post r σ' → um_S D vwCl A s σ' H1 locs1 → um_S D vwCl A s ρ H1 locs1 → um_ap σ' ρ → W p l e R s m args below meth c H1 locs1 (cells + mc) (slots + ms) Q (F0 m (pc + 3) ls (.long r :: rest))) : W p l e R s m args below meth c H locs cells slots Q (F0 m pc ls st0) :=
  va_calll hr hU.2.2.1 (fun _ _ h => h.1) (fun _ h => h.1) (fun r u t H1 locs1 ht hvm hp hB hz hk hS1 => by
    obtain ⟨h1, h2, h3⟩ := um_back2 hU hR ht hB hk hS1
    exact kk r u H1 locs1 hp h1 h2 h3)
/-- one cell apart -/
def um_one (q : Nat) (x : va_E) : um_M := ([q], fun _ => x)
theorem um_one_h (q : Nat) (x : va_E) : um_h (um_one q x) q x := ⟨List.mem_cons_self, rfl⟩
theorem um_S.split {q : Nat} {x : va_E} (hq : q ∉ σ.1) (hU : um_S D vwCl A s (um_nw σ q x) H locs) : um_S D vwCl A s σ H locs ∧ um_S D vwCl A s (um_one q x) H locs ∧ um_ap σ (um_one q x) := by
  obtain ⟨hP, hD, hS, hA⟩ := hU
  rw [← um_push hq] at hP hD
  have e1 : ∀ (k : Nat) (y : Nat × va_E), (va_pl σ.1 σ.2)[k]? = some y → (va_pl σ.1 σ.2 ++ [(q, x)])[k]? = some y := fun k y h => by
    rw [List.getElem?_append_left (List.getElem?_eq_some_iff.mp h).1]
    exact h
  have e2 : (va_pl σ.1 σ.2 ++ [(q, x)])[(va_pl σ.1 σ.2).length]? = some (q, x) := by simp
  have e3 : ∀ (k : Nat) (y : Nat × va_E), (va_pl (um_one q x).1 (um_one q x).2)[k]? = some y → k = 0 ∧ y = (q, x) := fun k y h => by
    have hk : k < 1 := (List.getElem?_eq_some_iff.mp h).1
    have h0 : k = 0 := by omega
    subst h0
    exact ⟨rfl, (Option.some.inj h).symm⟩
  refine ⟨⟨fun k y h => hP k y (e1 k y h), ⟨fun i j y z hy hz hyz => hD.1 i j y z (e1 i y hy) (e1 j z hz) hyz, fun k y h => hD.2 k y (e1 k y h)⟩, hS, hA⟩, ⟨fun k y h => ?_, ⟨fun i j y z hy hz hyz => ?_, fun k y h => ?_⟩, hS, hA⟩, fun b hb z => ?_⟩
  · rw [(e3 k y h).2]
    exact hP _ _ e2
  · rw [(e3 i y hy).1, (e3 j z hz).1]
  · rw [(e3 k y h).2]
    exact hD.2 _ _ e2
  · have : b = q := by simpa [um_one] using z
    exact hq (this ▸ hb)
def um_jn (σ ρ : um_M) : um_M := (σ.1 ++ ρ.1, fun a => if a ∈ σ.1 then σ.2 a else ρ.2 a)
theorem um_jn_pl (hd : um_ap σ ρ) : va_pl (um_jn σ ρ).1 (um_jn σ ρ).2 = va_pl σ.1 σ.2 ++ va_pl ρ.1 ρ.2 := by
  unfold va_pl um_jn
  rw [List.map_append]
  congr 1
  · apply List.map_congr_left
    intro b hb
    simp only [if_pos hb]
  · apply List.map_congr_left
    intro b hb
    simp only [if_neg (fun z => hd b z hb)]
theorem um_S.join (hU : um_S D vwCl A s σ H locs) (hR : um_S D vwCl A s ρ H locs) (hd : um_ap σ ρ) : um_S D vwCl A s (um_jn σ ρ) H locs := by
  refine ⟨by rw [um_jn_pl hd]; exact hU.1.app hR.1, by rw [um_jn_pl hd]; exact hU.2.1.app hR.2.1 (fun i j y z hy hz w => hd _ (um_pl_mem hy).1 (w ▸ (um_pl_mem hz).1)), hU.2.2.1, hU.2.2.2⟩
theorem um_h.jl {b : Nat} {x : va_E} (h : um_h σ b x) : um_h (um_jn σ ρ) b x := ⟨List.mem_append_left _ h.1, by show (if b ∈ σ.1 then σ.2 b else ρ.2 b) = x; rw [if_pos h.1]; exact h.2⟩
theorem um_h.jr (hd : um_ap σ ρ) {b : Nat} {x : va_E} (h : um_h ρ b x) : um_h (um_jn σ ρ) b x := ⟨List.mem_append_right _ h.1, by show (if b ∈ σ.1 then σ.2 b else ρ.2 b) = x; rw [if_neg (fun z => hd b z h.1)]; exact h.2⟩
theorem um_uu {b : Nat} {x y : va_E} : um_up (um_up σ b x) b y = um_up σ b y := by
  unfold um_up
  congr 1
  funext k
  by_cases h : k = b
  · subst h
    rw [va_up_self, va_up_self]
  · rw [va_up_ne _ _ h, va_up_ne _ _ h]
    exact va_up_ne _ _ h
/-- a clone of a row of five -/
theorem um_clone {index b : Nat} {f : Nat → Int32} {own : String} (hx : p.tables.exec = Jvm.exec) (hb : c.code = cc) (hml : c.maxLocals = ls.size) (hown : s.vm.findClass own = some m.cls)
    (hlink : (Cond.methodLink own index ⟨"[I", "clone", "()Ljava/lang/Object;"⟩).before args s = true) (hsame : (Cond.sameMethod "[I" "java/lang/Object" "clone" "()Ljava/lang/Object;").before args s = true)
    (hnat : (Cond.native ⟨"java/lang/Object", "clone", "()Ljava/lang/Object;"⟩).before args s = true) (hinst : (Cond.instanceMethod ⟨"java/lang/Object", "clone", "()Ljava/lang/Object;"⟩).before args s = true)
    (hsel : (Cond.selects "[I" ⟨"[I", "clone", "()Ljava/lang/Object;"⟩ ⟨"java/lang/Object", "clone", "()Ljava/lang/Object;"⟩).before args s = true) (hcl : va_Nw (.castable "[I" "java/lang/Cloneable") s)
    (hK : va_K D vwCl (um_T κ) s) (hU : um_S D vwCl A s σ H locs) (hh : um_h σ b (xs_A (κ 0) 5 f)) (hframes : 1 ≤ R.frames) (hlocals : (rest.map fun v => v.category).sum + 14 ≤ R.locals) (hcells : cells + 1 ≤ R.cells) (hslots : slots + 5 ≤ R.slots) (hdg : decode cc pc = .ok (.invokevirtual index, 3))
    (kk : ∀ (q : Nat) (H1 : Heap), um_S D vwCl A s σ H1 locs → um_S D vwCl A s (um_one q (xs_A (κ 0) 5 f)) H1 locs → um_ap σ (um_one q (xs_A (κ 0) 5 f)) →
      W p l e R s m args below meth c H1 locs (cells + 1) (slots + 5) Q (F0 m (pc + 3) ls (.ref q :: rest))) : W p l e R s m args below meth c H locs cells slots Q (F0 m pc ls (.ref b :: rest)) := by
  obtain ⟨q0, hq⟩ := um_pl hh
  have hnm : s.vm.findClass "[I" = some (κ 0) := (hK.2 0 _ (show (um_T κ)[0]? = some (κ 0, .int) from rfl)).2
  refine va_clone (ty := .int) (x := (5, .inl f)) hx hb hml hown hlink hsame hnat hinst hsel hcl hK hU.1 hU.2.1 hU.2.2.1 hU.2.2.2 q0 0 hq rfl hnm (fun i v hv => ?_) hframes hlocals hcells hslots hdg (fun q H1 _ h1 h2 h3 => ?_)
  · have hl := (Array.getElem?_eq_some_iff.mp hv)
    obtain ⟨h1, h2⟩ := hl
    have : ∃ x : Int32, v = .int x := by
      rw [← h2]
      simp [vp_cell, arrV]
    obtain ⟨x, rfl⟩ := this
    rfl
  · have hni := um_ni h2
    rw [um_push hni] at h1 h2
    obtain ⟨g1, g2, g3⟩ := um_S.split hni (show um_S D vwCl A s (um_nw σ q (xs_A (κ 0) 5 f)) H1 locs from ⟨h1, h2, h3, hU.2.2.2⟩)
    exact kk q H1 g1 g2 g3
theorem um_cast {index b : Nat} {f : Nat → Int32} {own : String} (hx : p.tables.exec = Jvm.exec) (hb : c.code = cc) (hown : s.vm.findClass own = some m.cls) (hlink : (Cond.classLink own index "[I").before args s = true) (hK : va_K D vwCl (um_T κ) s) (hU : um_S D vwCl A s σ H locs) (hh : um_h σ b (xs_A (κ 0) 5 f)) (hdg : decode cc pc = .ok (.checkcast index, 3))
    (kk : W p l e R s m args below meth c H locs cells slots Q (F0 m (pc + 3) ls (.ref b :: rest))) : W p l e R s m args below meth c H locs cells slots Q (F0 m pc ls (.ref b :: rest)) := by
  obtain ⟨q0, hq⟩ := um_pl hh
  exact va_castA hx hb hown hlink hU.1 q0 hq ((hK.2 0 _ (show (um_T κ)[0]? = some (κ 0, .int) from rfl)).2) hdg kk
end FR
