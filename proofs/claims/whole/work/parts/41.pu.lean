/-! What the class's reckonings owe the reference's, of one picture; rows for the public calls. -/
def xs_pure (q : tb_Q) : Prop :=
  (∀ d p, d < 5 → p < 6 → xs_ho q d p = tb_holds q d p) ∧ (∀ d p, d < 5 → p < 6 → xs_no q d p = tb_lent q d p) ∧ (∀ d, d < 5 → xs_shA q d) ∧ (∀ d, d < 5 → xs_cfA q d) ∧
  (∀ d p f j, d < 5 → p < 6 → f < 12 → j < 2147483648 → xs_code (xs_C q d (12 * p + f)) (xs_D q d (12 * p + f)) j = tb_cand q d p f (nI j)) ∧ (∀ k, k < 72 → xs_gr q 0 k = tb_top q 0 (k / 12) (k % 12)) ∧
  (∀ p, p < 6 → xs_nx q p = tb_lent q 0 p + 1) ∧ ∀ t p, t < 5 → p < 6 → xs_bk q t p (xs_nx q p) (q 0 t) = 0
theorem xs_pure.ho {q : tb_Q} (h : xs_pure q) {d p : Nat} (hd : d < 5) (hp : p < 6) : xs_ho q d p = tb_holds q d p := h.1 d p hd hp
theorem xs_pure.no {q : tb_Q} (h : xs_pure q) {d p : Nat} (hd : d < 5) (hp : p < 6) : xs_no q d p = tb_lent q d p := h.2.1 d p hd hp
theorem xs_pure.sh {q : tb_Q} (h : xs_pure q) {d : Nat} (hd : d < 5) : xs_shA q d := h.2.2.1 d hd
theorem xs_pure.cf {q : tb_Q} (h : xs_pure q) {d : Nat} (hd : d < 5) : xs_cfA q d := h.2.2.2.1 d hd
theorem xs_pure.cd {q : tb_Q} (h : xs_pure q) {d p f j : Nat} (hd : d < 5) (hp : p < 6) (hf : f < 12) (hj : j < 2147483648) : xs_code (xs_C q d (12 * p + f)) (xs_D q d (12 * p + f)) j = tb_cand q d p f (nI j) := h.2.2.2.2.1 d p f j hd hp hf hj
theorem xs_pure.gr {q : tb_Q} (h : xs_pure q) {k : Nat} (hk : k < 72) : xs_gr q 0 k = tb_top q 0 (k / 12) (k % 12) := h.2.2.2.2.2.1 k hk
theorem xs_pure.nx {q : tb_Q} (h : xs_pure q) {p : Nat} (hp : p < 6) : xs_nx q p = tb_lent q 0 p + 1 := h.2.2.2.2.2.2.1 p hp
theorem xs_pure.bk {q : tb_Q} (h : xs_pure q) {t p : Nat} (ht : t < 5) (hp : p < 6) : xs_bk q t p (xs_nx q p) (q 0 t) = 0 := h.2.2.2.2.2.2.2 t p ht hp
theorem xs_pure.rkf {q : tb_Q} (h : xs_pure q) {d p : Nat} (hd : d < 5) (hp : p < 6) : xs_rkf q d p = tb_rkf q d p := by
  unfold xs_rkf tb_rkf
  rw [h.ho hd hp, h.no hd hp]
theorem xs_room {q : tb_Q} (ok : tb_ok q) {d : Nat} (hd : d < 5) : (!decide (40 ≤ q 7 (5 * d + d))) = !decide (q 0 d = 40) := by
  rw [(ok.own d hd).1]
  have h := ok.m40 d
  have : (40 ≤ q 0 d) = (q 0 d = 40) := propext ⟨fun z => by omega, fun z => by omega⟩
  simp only [this]
theorem tb_posN {x : Int32} (h : ¬ x < 0) : ∃ j : Nat, j < 2147483648 ∧ x = nI j := by
  rw [Int32.lt_iff_toInt_lt, Int32.toInt_zero] at h
  have h2 : x.toInt < 2147483648 := Int32.toInt_lt x
  refine ⟨x.toInt.toNat, by omega, ?_⟩
  rw [← Int32.toInt_inj, nI_toInt (by omega)]
  omega
theorem xs_cnt1_ll (q : tb_Q) (d p n : Nat) : xs_ll (tb_cnt1 q d) p n = xs_ll q p n := xs_ll_c (fun j _ => ⟨congrFun (tb_cnt1_n (by decide) (by decide)) j, congrFun (tb_cnt1_n (by decide) (by decide)) j⟩)
theorem xs_cnt1_bk (q : tb_Q) (d t p m n : Nat) : xs_bk (tb_cnt1 q d) t p m n = xs_bk q t p m n := xs_bk_c (fun j _ => ⟨congrFun (tb_cnt1_n (by decide) (by decide)) _, congrFun (tb_cnt1_n (by decide) (by decide)) _, congrFun (tb_cnt1_n (by decide) (by decide)) _⟩)
theorem xs_cnt1_L {q : tb_Q} {d k : Nat} : xs_isL (tb_cnt1 q d) k ↔ xs_isL q k := by
  unfold xs_isL
  rw [tb_cnt1_n (r := 0) (by decide) (by decide), tb_cnt1_n (r := 1) (by decide) (by decide)]
theorem xs_cnt1_nx (q : tb_Q) (d p : Nat) : xs_nx (tb_cnt1 q d) p = xs_nx q p := by
  unfold xs_nx
  rw [xs_cnt1_ll, tb_cnt1_n (r := 0) (by decide) (by decide), tb_cnt1_n (r := 5) (by decide) (by decide)]
theorem xs_cnt1_sm {q : tb_Q} (ok : tb_ok q) {d : Nat} (hd : d < 5) : tb_sm (tb_cnt1 q d) := by
  intro r i
  have hv : ∀ i, va_up (q 7) (5 * d + d) (q 7 (5 * d + d) + 1) i ≤ 2000 := by
    intro i
    by_cases h : i = 5 * d + d
    · subst h
      rw [va_up_self, (ok.own d hd).1]
      have := ok.m40 d
      omega
    · rw [va_up_ne _ _ h]
      exact ok.sm 7 i
  by_cases h7 : r = 7
  · subst h7
    rw [tb_cnt1_7]
    exact hv i
  · by_cases h8 : r = 8
    · subst h8
      rw [tb_cnt1_8]
      split
      · exact hv i
      · exact ok.sm 8 i
    · rw [tb_cnt1_n h7 h8]
      exact ok.sm r i
theorem xs_cnt1_m {q : tb_Q} (ok : tb_ok q) (d : Nat) : ∀ d', tb_cnt1 q d 0 d' ≤ 40 := by
  intro d'
  rw [tb_cnt1_n (by decide) (by decide)]
  exact ok.m40 d'
theorem xs_ho_n {q : tb_Q} {d p : Nat} (h : xs_ll q p (q 7 (5 * d + 0)) = none) : xs_ho q d p = 0 := by
  unfold xs_ho
  rw [h]
theorem xs_ho_k {q : tb_Q} {d p k : Nat} (h : xs_ll q p (q 7 (5 * d + 0)) = some k) (h2 : d + 1 = xs_ho q d p) : q 4 k = d := by
  unfold xs_ho at h2
  rw [h] at h2
  simp only at h2
  split at h2
  · omega
  · omega
theorem xs_no_k {q : tb_Q} {d p k : Nat} (h : xs_ll q p (q 7 (5 * d + 0)) = some k) : xs_no q d p = q 5 k := by
  unfold xs_no
  rw [h]
/-- the plot is given back -/
theorem xs_at.giveB {κ : Nat → ClassId} {σ σ' : um_M} {xd la ma va : Nat → Nat} {q : tb_Q} {sc : xs_S} {t p k : Nat} (h : xs_at κ σ xd la ma va (tb_cnt1 q t) sc) (ok : tb_ok q) (pu : xs_pure q) (ht : t < 5) (hp : p < 6) (h40 : q 0 t < 40) (ho : xs_ll q p (q 7 (5 * t + 0)) = some k) (h2 : t + 1 = tb_holds q t p)
    (hf : ∀ b x, b ≠ la k → um_h σ b x → um_h σ' b x) (hL : um_h σ' (la k) (.inr (1, [.int (nI (q 5 k)), .int (nI (k + 1)), .int (nI (q 4 k)), va_rf ((xs_ll q (q 2 k) k).map la), .int (nI (q 0 t + 1))]))) : xs_at κ σ' xd la ma va (tb_ent q t 1 p 0 (tb_lent q t p) 0) sc := by
  have h3 := xs_ll_some ho
  have hkn := ok.kn t 0 ht (by decide)
  have hk : xs_isL q k := ⟨by have := h3.1; omega, h3.2.1⟩
  have r0 : tb_cnt1 q t 0 = q 0 := tb_cnt1_n (by decide) (by decide)
  have r2 : tb_cnt1 q t 2 = q 2 := tb_cnt1_n (by decide) (by decide)
  have r4 : tb_cnt1 q t 4 = q 4 := tb_cnt1_n (by decide) (by decide)
  have r5 : tb_cnt1 q t 5 = q 5 := tb_cnt1_n (by decide) (by decide)
  refine h.insB (xs_cnt1_m ok t) (tb_ent_ins ht h40) (k := k) (by rw [tb_ent_1, va_up_self]) (xs_cnt1_L.mpr hk) (by rw [tb_ent_2, va_up_self, r2]; exact h3.2.2.symm) (by rw [tb_ent_4, va_up_self, r5, ← pu.no ht hp]; exact xs_no_k ho) (by rw [r4]; exact xs_ho_k ho (by rw [pu.ho ht hp]; exact h2)) ?_ (fun j hj hn => h.laI (xs_cnt1_m ok t) hj (xs_cnt1_L.mpr hk) hn) hf ?_
  · intro j hj e2 e5
    rw [r2] at e2
    rw [r5] at e5
    have hj := xs_cnt1_L.mp hj
    by_cases hlt : j < k
    · have := ok.li j k hj hk hlt e2
      omega
    · by_cases hgt : k < j
      · have := ok.li k j hk hj hgt e2.symm
        omega
      · omega
  · rw [r5, r4, r2, r0, xs_cnt1_ll]
    exact hL
theorem xs_at.set9 {κ : Nat → ClassId} {σ : um_M} {xd la ma va : Nat → Nat} {q q' : tb_Q} {sc : xs_S} (h : xs_at κ σ xd la ma va q sc) (hq : ∀ r, r ≠ 9 → q' r = q r) {e : va_E} (he : e = xs_A (κ 0) 4 (fun j => nI (q' 9 j))) : xs_at κ (um_up σ (xd 22) e) xd la ma va q' sc := by
  have e7 : ∀ r d, r ≠ 9 → xs_row q' r d = xs_row q r d := by
    intro r d hr
    funext j
    unfold xs_row
    rw [hq r hr]
  have hll : ∀ p n, xs_ll q' p n = xs_ll q p n := fun p n => xs_ll_c (fun j _ => ⟨congrFun (hq 1 (by decide)) j, congrFun (hq 2 (by decide)) j⟩)
  have hlm : ∀ sp a n, xs_lm q' sp a n = xs_lm q sp a n := fun sp a n => xs_lm_c (fun j _ => ⟨congrFun (hq 1 (by decide)) _, congrFun (hq 2 (by decide)) _, congrFun (hq 3 (by decide)) _⟩)
  refine h.flat 22 (by decide) (fun r hr => hq r (by omega)) (fun i hi hn => ?_) he
  refine xs_29 (P := fun i => i ≠ 22 → xs_cell κ xd la ma q' sc i = xs_cell κ xd la ma q sc i) ?_ ?_ ?_ ?_ ?_ ?_ ?_ ?_ ?_ ?_ ?_ ?_ ?_ ?_ ?_ ?_ ?_ ?_ ?_ ?_ ?_ ?_ ?_ ?_ ?_ ?_ ?_ ?_ ?_ hi hn
  all_goals intro hn
  all_goals first | exact absurd rfl hn | simp only [xs_cell, e7 7 _ (by decide), e7 8 _ (by decide), hll, hlm, hq 0 (by decide), hq 13 (by decide), hq 10 (by decide), hq 11 (by decide), hq 12 (by decide)]
theorem xs_at.set10 {κ : Nat → ClassId} {σ : um_M} {xd la ma va : Nat → Nat} {q q' : tb_Q} {sc : xs_S} (h : xs_at κ σ xd la ma va q sc) (hq : ∀ r, r ≠ 10 → q' r = q r) {e : va_E} (he : e = xs_A (κ 0) 4 (fun j => nI (q' 10 j))) : xs_at κ (um_up σ (xd 23) e) xd la ma va q' sc := by
  have e7 : ∀ r d, r ≠ 10 → xs_row q' r d = xs_row q r d := by
    intro r d hr
    funext j
    unfold xs_row
    rw [hq r hr]
  have hll : ∀ p n, xs_ll q' p n = xs_ll q p n := fun p n => xs_ll_c (fun j _ => ⟨congrFun (hq 1 (by decide)) j, congrFun (hq 2 (by decide)) j⟩)
  have hlm : ∀ sp a n, xs_lm q' sp a n = xs_lm q sp a n := fun sp a n => xs_lm_c (fun j _ => ⟨congrFun (hq 1 (by decide)) _, congrFun (hq 2 (by decide)) _, congrFun (hq 3 (by decide)) _⟩)
  refine h.flat 23 (by decide) (fun r hr => hq r (by omega)) (fun i hi hn => ?_) he
  refine xs_29 (P := fun i => i ≠ 23 → xs_cell κ xd la ma q' sc i = xs_cell κ xd la ma q sc i) ?_ ?_ ?_ ?_ ?_ ?_ ?_ ?_ ?_ ?_ ?_ ?_ ?_ ?_ ?_ ?_ ?_ ?_ ?_ ?_ ?_ ?_ ?_ ?_ ?_ ?_ ?_ ?_ ?_ hi hn
  all_goals intro hn
  all_goals first | exact absurd rfl hn | simp only [xs_cell, e7 7 _ (by decide), e7 8 _ (by decide), hll, hlm, hq 0 (by decide), hq 13 (by decide), hq 9 (by decide), hq 11 (by decide), hq 12 (by decide)]
theorem xs_at.set11 {κ : Nat → ClassId} {σ : um_M} {xd la ma va : Nat → Nat} {q q' : tb_Q} {sc : xs_S} (h : xs_at κ σ xd la ma va q sc) (hq : ∀ r, r ≠ 11 → q' r = q r) {e : va_E} (he : e = xs_A (κ 0) 4 (fun j => nI (q' 11 j))) : xs_at κ (um_up σ (xd 24) e) xd la ma va q' sc := by
  have e7 : ∀ r d, r ≠ 11 → xs_row q' r d = xs_row q r d := by
    intro r d hr
    funext j
    unfold xs_row
    rw [hq r hr]
  have hll : ∀ p n, xs_ll q' p n = xs_ll q p n := fun p n => xs_ll_c (fun j _ => ⟨congrFun (hq 1 (by decide)) j, congrFun (hq 2 (by decide)) j⟩)
  have hlm : ∀ sp a n, xs_lm q' sp a n = xs_lm q sp a n := fun sp a n => xs_lm_c (fun j _ => ⟨congrFun (hq 1 (by decide)) _, congrFun (hq 2 (by decide)) _, congrFun (hq 3 (by decide)) _⟩)
  refine h.flat 24 (by decide) (fun r hr => hq r (by omega)) (fun i hi hn => ?_) he
  refine xs_29 (P := fun i => i ≠ 24 → xs_cell κ xd la ma q' sc i = xs_cell κ xd la ma q sc i) ?_ ?_ ?_ ?_ ?_ ?_ ?_ ?_ ?_ ?_ ?_ ?_ ?_ ?_ ?_ ?_ ?_ ?_ ?_ ?_ ?_ ?_ ?_ ?_ ?_ ?_ ?_ ?_ ?_ hi hn
  all_goals intro hn
  all_goals first | exact absurd rfl hn | simp only [xs_cell, e7 7 _ (by decide), e7 8 _ (by decide), hll, hlm, hq 0 (by decide), hq 13 (by decide), hq 9 (by decide), hq 10 (by decide), hq 12 (by decide)]
theorem xs_at.set12 {κ : Nat → ClassId} {σ : um_M} {xd la ma va : Nat → Nat} {q q' : tb_Q} {sc : xs_S} (h : xs_at κ σ xd la ma va q sc) (hq : ∀ r, r ≠ 12 → q' r = q r) {e : va_E} (he : e = xs_A (κ 0) 6 (fun j => nI (q' 12 j))) : xs_at κ (um_up σ (xd 27) e) xd la ma va q' sc := by
  have e7 : ∀ r d, r ≠ 12 → xs_row q' r d = xs_row q r d := by
    intro r d hr
    funext j
    unfold xs_row
    rw [hq r hr]
  have hll : ∀ p n, xs_ll q' p n = xs_ll q p n := fun p n => xs_ll_c (fun j _ => ⟨congrFun (hq 1 (by decide)) j, congrFun (hq 2 (by decide)) j⟩)
  have hlm : ∀ sp a n, xs_lm q' sp a n = xs_lm q sp a n := fun sp a n => xs_lm_c (fun j _ => ⟨congrFun (hq 1 (by decide)) _, congrFun (hq 2 (by decide)) _, congrFun (hq 3 (by decide)) _⟩)
  refine h.flat 27 (by decide) (fun r hr => hq r (by omega)) (fun i hi hn => ?_) he
  refine xs_29 (P := fun i => i ≠ 27 → xs_cell κ xd la ma q' sc i = xs_cell κ xd la ma q sc i) ?_ ?_ ?_ ?_ ?_ ?_ ?_ ?_ ?_ ?_ ?_ ?_ ?_ ?_ ?_ ?_ ?_ ?_ ?_ ?_ ?_ ?_ ?_ ?_ ?_ ?_ ?_ ?_ ?_ hi hn
  all_goals intro hn
  all_goals first | exact absurd rfl hn | simp only [xs_cell, e7 7 _ (by decide), e7 8 _ (by decide), hll, hlm, hq 0 (by decide), hq 13 (by decide), hq 9 (by decide), hq 10 (by decide), hq 11 (by decide)]
section PR
variable {p : Program} {l : Launch} {e : Env} {R : Room} {s : State} {m : MethodId} {args : Array Value} {below : List Frame} {meth : Method} {c : Code} {H : Heap} {locs : List Loc} {cells slots : Nat} {Q : State → Prop}
variable {cc : ByteArray} {pc tgt : Nat} {ls : Array Slot} {rest : List Value} {off : Int} {D : va_G} {A : Nat → Prop} {σ : um_M} {κ : Nat → ClassId} {xd la ma va : Nat → Nat} {q : tb_Q} {sc : xs_S}
theorem xs_ist9 (hx : p.tables.exec = Jvm.exec) (hb : c.code = cc) (hK : va_K D vwCl (um_T κ) s) (hU : um_S D vwCl A s σ H locs) (h : xs_at κ σ xd la ma va q sc) (j v : Nat) (hj : j < 4) (hdg : decode cc pc = .ok (.iastore, 1))
    (kk : ∀ (σ' : um_M) (H1 : Heap) (locs1 : List Loc), xs_at κ σ' xd la ma va (tb_set q 9 j v) sc → um_S D vwCl A s σ' H1 locs1 → W p l e R s m args below meth c H1 locs1 cells slots Q (F0 m (pc + 1) ls rest)) : W p l e R s m args below meth c H locs cells slots Q (F0 m pc ls (.int (nI v) :: .int (nI j) :: .ref (xd 22) :: rest)) :=
  um_ist hx hb hK hU 0 h.c22 rfl j rfl hj (by decide) tb_nI hdg (fun H1 locs1 hU1 => kk _ H1 locs1 (h.set9 (fun r hr => tb_set_n _ _ _ hr) (by rw [tb_set_s])) hU1)
theorem xs_ist10 (hx : p.tables.exec = Jvm.exec) (hb : c.code = cc) (hK : va_K D vwCl (um_T κ) s) (hU : um_S D vwCl A s σ H locs) (h : xs_at κ σ xd la ma va q sc) (j v : Nat) (hj : j < 4) (hdg : decode cc pc = .ok (.iastore, 1))
    (kk : ∀ (σ' : um_M) (H1 : Heap) (locs1 : List Loc), xs_at κ σ' xd la ma va (tb_set q 10 j v) sc → um_S D vwCl A s σ' H1 locs1 → W p l e R s m args below meth c H1 locs1 cells slots Q (F0 m (pc + 1) ls rest)) : W p l e R s m args below meth c H locs cells slots Q (F0 m pc ls (.int (nI v) :: .int (nI j) :: .ref (xd 23) :: rest)) :=
  um_ist hx hb hK hU 0 h.c23 rfl j rfl hj (by decide) tb_nI hdg (fun H1 locs1 hU1 => kk _ H1 locs1 (h.set10 (fun r hr => tb_set_n _ _ _ hr) (by rw [tb_set_s])) hU1)
theorem xs_ist11 (hx : p.tables.exec = Jvm.exec) (hb : c.code = cc) (hK : va_K D vwCl (um_T κ) s) (hU : um_S D vwCl A s σ H locs) (h : xs_at κ σ xd la ma va q sc) (j v : Nat) (hj : j < 4) (hdg : decode cc pc = .ok (.iastore, 1))
    (kk : ∀ (σ' : um_M) (H1 : Heap) (locs1 : List Loc), xs_at κ σ' xd la ma va (tb_set q 11 j v) sc → um_S D vwCl A s σ' H1 locs1 → W p l e R s m args below meth c H1 locs1 cells slots Q (F0 m (pc + 1) ls rest)) : W p l e R s m args below meth c H locs cells slots Q (F0 m pc ls (.int (nI v) :: .int (nI j) :: .ref (xd 24) :: rest)) :=
  um_ist hx hb hK hU 0 h.c24 rfl j rfl hj (by decide) tb_nI hdg (fun H1 locs1 hU1 => kk _ H1 locs1 (h.set11 (fun r hr => tb_set_n _ _ _ hr) (by rw [tb_set_s])) hU1)
theorem xs_ist12 (hx : p.tables.exec = Jvm.exec) (hb : c.code = cc) (hK : va_K D vwCl (um_T κ) s) (hU : um_S D vwCl A s σ H locs) (h : xs_at κ σ xd la ma va q sc) (j v : Nat) (hj : j < 6) (hdg : decode cc pc = .ok (.iastore, 1))
    (kk : ∀ (σ' : um_M) (H1 : Heap) (locs1 : List Loc), xs_at κ σ' xd la ma va (tb_set q 12 j v) sc → um_S D vwCl A s σ' H1 locs1 → W p l e R s m args below meth c H1 locs1 cells slots Q (F0 m (pc + 1) ls rest)) : W p l e R s m args below meth c H locs cells slots Q (F0 m pc ls (.int (nI v) :: .int (nI j) :: .ref (xd 27) :: rest)) :=
  um_ist hx hb hK hU 0 h.c27 rfl j rfl hj (by decide) tb_nI hdg (fun H1 locs1 hU1 => kk _ H1 locs1 (h.set12 (fun r hr => tb_set_n _ _ _ hr) (by rw [tb_set_s])) hU1)
theorem um_putB {index a n : Nat} {own : String} {v0 v1 v2 v3 v4 : Value} (hx : p.tables.exec = Jvm.exec) (hb : c.code = cc) (hts : ∀ w ∈ lw_g, w.before args s = true) (hown : s.vm.findClass own = some m.cls) (hK : va_K D vwCl (um_T κ) s) (hU : um_S D vwCl A s σ H locs) (hh : um_h σ a (.inr (1, [v0, v1, v2, v3, v4]))) (hlink : (Cond.fieldLink own index (TX1 4).1 (TX1 4).2.1 (TX1 4).2.2.1).before args s = true) (hdg : decode cc pc = .ok (.putfield index, 3))
    (kk : ∀ (H1 : Heap) (locs1 : List Loc), um_S D vwCl A s (um_up σ a (.inr (1, [v0, v1, v2, v3, .int (nI n)]))) H1 locs1 → W p l e R s m args below meth c H1 locs1 cells slots Q (F0 m (pc + 3) ls rest)) : W p l e R s m args below meth c H locs cells slots Q (F0 m pc ls (.int (nI n) :: .ref a :: rest)) :=
  um_put (v := .int (nI n)) (ty := .int) (T := TX1) (N := 5) (fs' := [v0, v1, v2, v3, .int (nI n)]) hx hb hts inX1 tyX1 tyX1_ok nmX1 hown hK hU hh rfl 4 (by decide) hlink rfl (by decide +kernel) rfl rfl rfl (Nat.le_of_ble_eq_true rfl) hdg kk
end PR
