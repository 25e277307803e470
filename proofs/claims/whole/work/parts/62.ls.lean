/-! What the law's start gives: classes, array classes, static rows, words. -/
theorem um_AOA_spec {s : State} (h : va_AOA .int s) : ∃ (c : ClassId) (k : Class) (comp : ClassId), s.vm.findClass ("[" ++ (FieldType.array .int).toString) = some c ∧ s.vm.classes[c]? = some k ∧ k.kind = .array comp (.array .int) := by
  unfold va_AOA Cond.before Cond.holds at h
  simp only [Cond.value] at h
  cases hc : s.vm.findClass (FieldType.array .int).toString with
  | none => simp [hc] at h
  | some comp =>
    rw [hc, Option.bind_some] at h
    simp only [beq_iff_eq, Option.bind_eq_some_iff, Option.map_eq_some_iff] at h
    obtain ⟨c, hi0, k, hk, hb⟩ := h
    cases hkind : k.kind with
    | array comp' ty =>
      rw [hkind] at hb
      simp only [Bool.and_eq_true, decide_eq_true_eq] at hb
      exact ⟨c, k, comp', hb.2, hk, by rw [hkind, hb.1]⟩
    | _ => rw [hkind] at hb; cases hb
theorem lw_ArrI {s : State} {args : Array Value} {ty : FieldType} (h : (Cond.arrayClass ty).before args s = true) (hne : ∀ n, ty ≠ .object n) : ∃ c : ClassId, ArrOfT s c ty ∧ s.vm.findClass ("[" ++ ty.toString) = some c := by
  obtain ⟨c, k, comp, h1, h2, h3⟩ := Cond.arrayClass_spec h
  exact ⟨c, fun n z => ⟨(fun k h => by cases h), k, h2, comp, h3⟩, h1⟩
theorem lw_ArrO {s : State} {C : String} (h : va_AO C s) : ∃ c : ClassId, ArrOfT s c (.object C) ∧ va_RA s c (.object C) := by
  obtain ⟨comp, c, k, h1, -, h2, h3, h4⟩ := Cond.arrayOver_spec h
  exact ⟨c, fun n z => ⟨(fun k h => by cases h), k, h2, comp, h3⟩, k, comp, h2, h3, h1, h4⟩
theorem lw_ArrA {s : State} (h : va_AOA .int s) : ∃ c : ClassId, ArrOfT s c (.array .int) ∧ s.vm.findClass ("[" ++ (FieldType.array .int).toString) = some c := by
  obtain ⟨c, k, comp, h1, h2, h3⟩ := um_AOA_spec h
  exact ⟨c, fun n z => ⟨(fun k h => by cases h), k, h2, comp, h3⟩, h1⟩
theorem lw_J {s : State} {b : Nat} (hts : ∀ w ∈ lw_tbl, w.before #[Value.ref b] s = true) (hgv : (Jvm.Cond.and given_1 narrow_1).before #[Value.ref b] s = true) : ∃ τ : Nat → Nat, um_J τ (fun q => s.heap.size ≤ q) s s.heap := by
  have hs := flat_of_before _ hgv
  have hA : ∀ a : Nat, a < s.heap.size → ¬ (s.heap.size ≤ a) := fun a h z => by omega
  have tb : ∀ {w : Cond}, w ∈ tables_1 → w.before #[Value.ref b] s = true := fun h => hts _ (List.mem_append_right _ h)
  obtain ⟨t0, e0, T0⟩ := va_Tof (tm := .static "ForestTablets" "LEAST_VALUE" "[I") (ty := .int) (N := 3) (f := um_least) (A := fun q => s.heap.size ≤ q) (by decide) (hs _ (by decide +kernel)) (va_eqt (hs _ (by decide +kernel))) (fun j hj => by
    have h3 : j = 0 ∨ j = 1 ∨ j = 2 := by omega
    rcases h3 with rfl | rfl | rfl
    · exact va_eqt (hs _ (by decide +kernel))
    · exact va_eqt (hs _ (by decide +kernel))
    · exact va_eqt (hs _ (by decide +kernel))) hA
  obtain ⟨t1, e1, T1⟩ := va_Tof (tm := .static "ForestTablets" "GREATEST_VALUE" "[I") (ty := .int) (N := 3) (f := um_great) (A := fun q => s.heap.size ≤ q) (by decide) (hs _ (by decide +kernel)) (va_eqt (hs _ (by decide +kernel))) (fun j hj => by
    have h3 : j = 0 ∨ j = 1 ∨ j = 2 := by omega
    rcases h3 with rfl | rfl | rfl
    · exact va_eqt (hs _ (by decide +kernel))
    · exact va_eqt (hs _ (by decide +kernel))
    · exact va_eqt (hs _ (by decide +kernel))) hA
  have hini : (Cond.initialized "ForestTablets").before #[Value.ref b] s = true := tb (by decide +kernel)
  have hinT : (Cond.initialized Bundle.tN).before #[Value.ref b] s = true := tb (by decide +kernel)
  refine ⟨fun k => if k = 0 then t0 else t1, ⟨va_Zof (tb (by decide +kernel)) hini e0 hA, T0⟩, ⟨va_Zof (tb (by decide +kernel)) hini e1 hA, T1⟩, vx_Zqof (tb (by decide +kernel)) hinT (hs _ (by decide +kernel)) hA, vx_Zqof (tb (by decide +kernel)) hinT (hs _ (by decide +kernel)) hA, ?_⟩
  exact ⟨va_Nw.of rfl (tb (by decide +kernel)), va_Nw.of rfl (tb (by decide +kernel)), va_Nw.of rfl (tb (by decide +kernel)), va_Nw.of rfl (tb (by decide +kernel)), va_Nc.of (hs _ (by decide +kernel)), va_Nc.of (hs _ (by decide +kernel)), va_Nc.of (hs _ (by decide +kernel)), va_Nc.of (hs _ (by decide +kernel)), va_Nw.of rfl (tb (by decide +kernel)), va_Nw.of rfl (tb (by decide +kernel)), va_Nw.of rfl (tb (by decide +kernel)), va_AO.of (tb (by decide +kernel)), va_AO.of (tb (by decide +kernel)), va_AOA.of (tb (by decide +kernel))⟩
section LWS
variable {p : Program} {l : Launch} {e : Env} {R : Room} {s : State} {m : MethodId} {args : Array Value} {below : List Frame} {meth : Method} {c : Code} {H : Heap} {locs : List Loc} {cells slots : Nat} {Q : State → Prop}
variable {cc : ByteArray} {pc : Nat} {ls : Array Slot} {rest : List Value} {D : va_G} {A : Nat → Prop} {σ : um_M} {κ : Nat → ClassId} {τ : Nat → Nat}
theorem um_preN {As : List Value} (hU : um_S D vwCl A s σ H locs) (hK : va_K D vwCl (um_T κ) s) (hJ : um_J τ A s s.heap) (hN : um_Nx s) : PreS s H (fun a U => va_Pc As (um_U D κ τ A σ) a U ∧ um_Nx U) As :=
  ⟨fun a U g mk q => ⟨um_blind a U g mk q.1, um_Nx.same rfl q.2⟩, fun U hH hW => ⟨⟨rfl, um_atU hU hK hJ hH hW.alike⟩, um_Nx.warm hW hN⟩⟩
/-- the law's own cell is made -/
theorem xo_new (hx : p.tables.exec = Jvm.exec) (hb : c.code = cc) (harr : (Cond.arrayClass .long).before args s = true) (hK : va_K D vwCl (um_T κ) s) (hU : um_S D vwCl A s σ H locs) (hcells : cells + 1 ≤ R.cells) (hslots : slots + 1 ≤ R.slots) (hdg : decode cc pc = .ok (.newarray .long, 2))
    (kk : ∀ (q : Nat) (H1 : Heap), um_S D vwCl A s σ H1 locs → um_S D vwCl A s (um_one q (xo_c κ (fun _ => 0))) H1 locs → um_ap σ (um_one q (xo_c κ (fun _ => 0))) → W p l e R s m args below meth c H1 locs (cells + 1) (slots + 1) Q (F0 m (pc + 2) ls (.ref q :: rest))) : W p l e R s m args below meth c H locs cells slots Q (F0 m pc ls (.int (nI 1) :: rest)) := by
  refine um_newa (atype := .long) (ty := .long) (cB := κ 1) (N' := 1) (a0 := (1, .inr (.inl (fun _ => 0)))) hx hb harr rfl hK hU 1 rfl ?_ (fun cA => rfl) (nI_pos (by decide)) (nI_clamp (by decide)) (by decide) hcells hslots hdg (fun q H1 hq hU1 => ?_)
  · intro cA h1
    have h2 := (hK.2 1 _ (show (um_T κ)[1]? = some (κ 1, .long) from rfl)).2
    exact Option.some.inj (h1.symm.trans h2)
  · obtain ⟨g1, g2, g3⟩ := um_S.split hq hU1
    exact kk q H1 g1 g2 g3
end LWS
theorem lw_K {s : State} {args : Array Value} (htg : ∀ w ∈ lw_g, w.before args s = true) (h3 : va_AO "ForestTablets$Lend" s) (h4 : va_AO "ForestTablets$Measure" s) (h2 : va_AOA .int s) : ∃ (D : va_G) (κ : Nat → ClassId), va_K D vwCl (um_T κ) s := by
  obtain ⟨c0, i0, k0⟩ := u_known htg inX0 (htg _ tg_28)
  obtain ⟨c1, i1, k1⟩ := u_known htg inX1 (htg _ tg_322)
  obtain ⟨c2, i2, k2⟩ := u_known htg inX2 (htg _ tg_53)
  obtain ⟨c3, i3, k3⟩ := u_known htg inX3 (htg _ tg_399)
  obtain ⟨c4, i4, k4⟩ := u_known htg inX4 (htg _ tg_65)
  obtain ⟨c5, i5, k5⟩ := u_known htg inX5 (htg _ tg_111)
  obtain ⟨c6, i6, k6⟩ := u_known htg inX6 (htg _ tg_136)
  obtain ⟨c7, i7, k7⟩ := u_known htg inX7 (htg _ tg_92)
  obtain ⟨c8, i8, k8⟩ := u_known htg inX8 (htg _ tg_20)
  obtain ⟨c9, i9, k9⟩ := u_known htg inX9 (htg _ tg_633)
  obtain ⟨a0, b0, e0⟩ := lw_ArrI (htg _ tg_51) (fun _ h => by cases h)
  obtain ⟨a1, b1, e1⟩ := lw_ArrI (htg _ tg_841) (fun _ h => by cases h)
  obtain ⟨a2, b2, e2⟩ := lw_ArrA h2
  obtain ⟨a3, b3, e3⟩ := lw_ArrO h3
  obtain ⟨a4, b4, e4⟩ := lw_ArrO h4
  refine ⟨(fun c => match c with | 0 => c0 | 1 => c1 | 2 => c2 | 3 => c3 | 4 => c4 | 5 => c5 | 6 => c6 | 7 => c7 | 8 => c8 | _ => c9, fun c => match c with | 0 => i0 | 1 => i1 | 2 => i2 | 3 => i3 | 4 => i4 | 5 => i5 | 6 => i6 | 7 => i7 | 8 => i8 | _ => i9), fun k => match k with | 0 => a0 | 1 => a1 | 2 => a2 | 3 => a3 | _ => a4, fun c q hq => ?_, fun k q hk => ?_⟩
  · have hc : c < 10 := (List.getElem?_eq_some_iff.mp hq).1
    have h9 : c = 0 ∨ c = 1 ∨ c = 2 ∨ c = 3 ∨ c = 4 ∨ c = 5 ∨ c = 6 ∨ c = 7 ∨ c = 8 ∨ c = 9 := by omega
    rcases h9 with rfl | rfl | rfl | rfl | rfl | rfl | rfl | rfl | rfl | rfl <;> cases Option.some.inj hq
    · exact k0
    · exact k1
    · exact k2
    · exact k3
    · exact k4
    · exact k5
    · exact k6
    · exact k7
    · exact k8
    · exact k9
  · have hc : k < 5 := (List.getElem?_eq_some_iff.mp hk).1
    have h9 : k = 0 ∨ k = 1 ∨ k = 2 ∨ k = 3 ∨ k = 4 := by omega
    rcases h9 with rfl | rfl | rfl | rfl | rfl <;> cases Option.some.inj hk
    · exact ⟨b0, e0⟩
    · exact ⟨b1, e1⟩
    · exact ⟨b2, e2⟩
    · exact ⟨b3, e3⟩
    · exact ⟨b4, e4⟩
theorem dfX8 : ∀ j, j < 8 → defaultValue (tyX8 j) = vp_V [.null, .null, .null, .null, .null, .null, .null, .null] j := fun j hj => by
  have h : j = 0 ∨ j = 1 ∨ j = 2 ∨ j = 3 ∨ j = 4 ∨ j = 5 ∨ j = 6 ∨ j = 7 := by omega
  rcases h with rfl | rfl | rfl | rfl | rfl | rfl | rfl | rfl <;> rfl
theorem dfX9 : ∀ j, j < 16 → defaultValue (tyX9 j) = vp_V [.int 0, .null, .null, .null, .null, .null, .null, .null, .null, .null, .int 0, .int 0, .null, .null, .null, .null] j := fun j hj => by
  have h : j = 0 ∨ j = 1 ∨ j = 2 ∨ j = 3 ∨ j = 4 ∨ j = 5 ∨ j = 6 ∨ j = 7 ∨ j = 8 ∨ j = 9 ∨ j = 10 ∨ j = 11 ∨ j = 12 ∨ j = 13 ∨ j = 14 ∨ j = 15 := by omega
  rcases h with rfl | rfl | rfl | rfl | rfl | rfl | rfl | rfl | rfl | rfl | rfl | rfl | rfl | rfl | rfl | rfl <;> rfl
