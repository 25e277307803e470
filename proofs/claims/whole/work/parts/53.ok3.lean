/-! Each call keeps the picture's promises. -/
theorem tb_inC {x : Int32} {a n : Nat} (ha : a < 2147483648) (hn : n < 2147483648) (h : tb_in x (nI a) (nI n) = true) : a ≤ x.toNatClampNeg ∧ x.toNatClampNeg ≤ n ∧ x = nI x.toNatClampNeg := by
  obtain ⟨j, h1, h2, rfl⟩ := tb_inN ha hn h
  rw [nI_clamp (by omega)]
  exact ⟨h1, h2, rfl⟩
theorem tb_nb {b : Bool} (h : ¬ (!b) = true) : b = true := by
  cases b
  · exact absurd rfl h
  · rfl
theorem tb_isVc {f : Nat} {v : Int32} (hf : f < 3) (h : tb_isVx (nI f) v = true) : v.toNatClampNeg ≤ 2000 ∧ (f = 0 → v.toNatClampNeg < 4) := by
  unfold tb_isVx at h
  by_cases h0 : f = 0
  · subst h0
    rw [if_pos (show nI 0 = 0 from rfl)] at h
    have := tb_inC (by decide) (by decide) h
    exact ⟨by omega, fun _ => by omega⟩
  · rw [if_neg (fun z => h0 (by rw [tb_nI0 (by omega)] at z; exact z))] at h
    split at h
    · have := tb_inC (by decide) (by decide) h
      exact ⟨by omega, fun z => absurd z h0⟩
    · have := tb_inC (by decide) (by decide) h
      exact ⟨by omega, fun z => absurd z h0⟩
theorem ok_species {q : tb_Q} (ok : tb_ok q) (x0 x1 x2 x3 : Int32) : tb_ok (tbQ_species q x0 x1 x2 x3) := by
  unfold tbQ_species
  split
  · exact ok
  · rename_i h
    have h := tb_nb h
    simp only [Bool.and_eq_true, Bool.not_eq_true', decide_eq_false_iff_not, decide_eq_true_eq] at h
    obtain ⟨⟨⟨⟨-, h1⟩, h2⟩, h3⟩, h4⟩ := h
    have a1 := tb_inC (by decide) (by decide) h1
    have h32 : x3.toInt ≤ 1000 := by
      rw [Int32.le_iff_toInt_le, nI_toInt (by decide)] at h4
      exact h4
    have h30 : x2.toInt ≤ x3.toInt := by
      rw [Int32.lt_iff_toInt_lt] at h3
      omega
    have c3 : x3.toNatClampNeg ≤ 2000 := by
      show x3.toInt.toNat ≤ 2000
      omega
    have c2 : x2.toNatClampNeg ≤ 2000 := by
      show x2.toInt.toNat ≤ 2000
      omega
    refine ok.cong (fun r hr => ?_) (tb_sm_set (tb_sm_set (tb_sm_set ok.sm _ _ (by omega)) _ _ c2) _ _ c3) ?_
    · rw [tb_set_n _ _ _ (by omega), tb_set_n _ _ _ (by omega), tb_set_n _ _ _ (by omega)]
    · unfold tb_me
      rw [tb_set_n _ _ _ (by decide), tb_set_n _ _ _ (by decide), tb_set_n _ _ _ (by decide)]
      exact ok.me
theorem ok_stand {q : tb_Q} (ok : tb_ok q) (x0 x1 : Int32) : tb_ok (tbQ_stand q x0 x1) := by
  unfold tbQ_stand
  split
  · exact ok
  · rename_i h
    have h := tb_nb h
    rw [Bool.and_eq_true] at h
    have a1 := tb_inC (by decide) (by decide) h.2
    refine ok.cong (fun r hr => tb_set_n _ _ _ (by omega)) (tb_sm_set ok.sm _ _ (by omega)) ?_
    unfold tb_me
    rw [tb_set_n _ _ _ (by decide)]
    exact ok.me
theorem ok_lend {q : tb_Q} (ok : tb_ok q) (x0 x1 : Int32) : tb_ok (tbQ_lend q x0 x1) := by
  unfold tbQ_lend
  split
  · exact ok
  · rename_i h
    split
    · exact ok
    · rename_i h2
      have h := tb_nb h
      rw [Bool.and_eq_true] at h
      have a0 := tb_inC (by decide) (by decide) h.1
      have a1 := tb_inC (by decide) (by decide) h.2
      unfold tb_ldC at h2
      simp only [Bool.or_eq_true, Bool.not_eq_true', decide_eq_false_iff_not, decide_eq_true_eq, not_or] at h2
      have h40 := ok.m40 0
      have hl := tb_lent_rk ok (p := x0.toNatClampNeg) (show 0 < 5 by decide)
      refine ok.ent (by decide) (by omega) (by decide) (by omega) (by decide) (by omega) (by rw [if_pos rfl]; omega) (fun z => by cases z) (fun _ _ => ⟨by omega, by omega, by omega⟩) (fun _ _ j hj h3 => ?_) (fun z => by cases z) (fun z => by cases z)
      have := tb_lent_ge ok (d := 0) (by decide) (by rw [(ok.own 0 (by decide)).1]; exact hj.1) hj.2 h3
      omega
theorem ok_giveBack {q : tb_Q} (ok : tb_ok q) (x0 x1 : Int32) : tb_ok (tbQ_giveBack q x0 x1) := by
  unfold tbQ_giveBack
  split
  · exact ok
  · rename_i h
    split
    · exact ok
    · rename_i h2
      have h := tb_nb h
      rw [Bool.and_eq_true] at h
      have a0 := tb_inC (by decide) (by decide) h.1
      have a1 := tb_inC (by decide) (by decide) h.2
      unfold tb_gbC at h2
      simp only [Bool.or_eq_true, Bool.not_eq_true', decide_eq_false_iff_not, decide_eq_true_eq, not_or, Decidable.not_not] at h2
      obtain ⟨h2, h3⟩ := h2
      have h40 := ok.m40 x0.toNatClampNeg
      have h00 := ok.m40 0
      have ht : x0.toNatClampNeg < 5 := by omega
      have hl := tb_lent_rk ok (p := x1.toNatClampNeg) ht
      exact ok.ent ht (by omega) (by decide) (by omega) (by decide) (by omega) (Nat.zero_le _) (fun z => by cases z) (fun z => by cases z) (fun z => by cases z) (fun _ => tb_holds_k ok ht h2) (fun _ => tb_holds_b ok ht h2)
theorem tb_rkf_le {q : tb_Q} (ok : tb_ok q) {d : Nat} (p : Nat) (hd : d < 5) : tb_rkf q d p ≤ q 0 0 := by
  unfold tb_rkf
  split
  · exact tb_lent_rk ok hd
  · exact Nat.zero_le _
theorem ok_enter {q : tb_Q} (ok : tb_ok q) (x0 x1 x2 x3 x4 : Int32) : tb_ok (tbQ_enter q x0 x1 x2 x3 x4) := by
  unfold tbQ_enter
  split
  · exact ok
  · rename_i h
    split
    · exact ok
    · rename_i h2
      have h := tb_nb h
      unfold tb_fd at h
      simp only [Bool.and_eq_true] at h
      obtain ⟨⟨h0, ⟨h1, h12⟩, h13⟩, h4⟩ := h
      have a0 := tb_inC (by decide) (by decide) h0
      have a1 := tb_inC (by decide) (by decide) h1
      have a2 := tb_inC (by decide) (by decide) h12
      have a3 := tb_inC (by decide) (by decide) h13
      rw [a3.2.2] at h4
      have a4 := tb_isVc (by omega) h4
      have h40 := ok.m40 x0.toNatClampNeg
      have hd : x0.toNatClampNeg < 5 := by omega
      have hr := tb_rkf_le ok x1.toNatClampNeg hd
      exact ok.ent hd (by omega) (by decide) (by omega) (by omega) a4.1 (by omega) (fun _ z => a4.2 (by omega)) (fun z => by cases z) (fun z => by cases z) (fun z => by cases z) (fun z => by cases z)
theorem tb_top_le {q : tb_Q} (ok : tb_ok q) (d p f : Nat) : tb_top q d p f ≤ q 0 0 := tb_foN_le (Nat.zero_le _) (fun k n hn => by
  unfold tb_rsF
  split
  · exact ok.rk _
  · exact hn) 200
theorem ok_resolve {q : tb_Q} (ok : tb_ok q) (x0 x1 : Int32) : tb_ok (tbQ_resolve q x0 x1) := by
  unfold tbQ_resolve
  split
  · exact ok
  · rename_i h
    split
    · exact ok
    · rename_i h2
      split
      · exact ok
      · rename_i h3
        have hk := tb_inc_le q 0 x0 72
        have a4 := tb_isVc (f := (tb_inc q 0 x0 72 - 1) % 3) (v := x1) (by omega) (by simpa using h2)
        have h40 := ok.m40 0
        have hr := tb_top_le ok 0 ((tb_inc q 0 x0 72 - 1) / 12) ((tb_inc q 0 x0 72 - 1) % 12)
        exact ok.ent (by decide) (by omega) (by decide) (by omega) (by omega) a4.1 (by rw [if_pos rfl]; omega) (fun _ z => a4.2 (by omega)) (fun z => by cases z) (fun z => by cases z) (fun z => by cases z) (fun z => by cases z)
theorem ok_meet {q : tb_Q} (ok : tb_ok q) (x0 x1 : Int32) : tb_ok (tbQ_meet q x0 x1) := by
  unfold tbQ_meet
  split
  · exact ok
  · rename_i h
    split
    · rename_i h2
      have h := tb_nb h
      simp only [Bool.and_eq_true, Bool.not_eq_true', decide_eq_false_iff_not] at h
      obtain ⟨⟨h0, h1⟩, h3⟩ := h
      have a0 := tb_inC (by decide) (by decide) h0
      have a1 := tb_inC (by decide) (by decide) h1
      have hne : x0.toNatClampNeg ≠ x1.toNatClampNeg := fun z => h3 (by rw [a0.2.2, a1.2.2, z])
      refine ok.cong (fun r hr => by rw [tb_set_n _ _ _ (by omega), tb_set_n _ _ _ (by omega)]) (tb_sm_set (tb_sm_set ok.sm _ _ (by omega)) _ _ (by omega)) ?_
      unfold tb_me
      rw [tb_set_s, va_up_self, va_up_ne _ _ (by decide), tb_set_s, va_up_self]
      omega
    · exact ok
theorem ok_swap {q : tb_Q} (ok : tb_ok q) : tb_ok (tbQ_swap q) := by
  unfold tbQ_swap
  obtain ⟨m0, m1, m2, m3⟩ := ok.me
  split
  · exact ok
  · have : q 13 1 ≠ 0 := fun z => by have := m2.mpr z; omega
    split
    · exact ok.cary (by omega) (by omega)
    · exact ok.cary (by omega) (by omega)
theorem ok_part {q : tb_Q} (ok : tb_ok q) : tb_ok (tbQ_part q) := by
  unfold tbQ_part
  split
  · exact ok
  · exact ((ok.keep _).keep _).ends
theorem ok_crash {q : tb_Q} (ok : tb_ok q) (x0 : Int32) : tb_ok (tbQ_crash q x0) := by
  unfold tbQ_crash
  split
  · rename_i h
    have a0 := tb_inC (by decide) (by decide) h
    have hd : x0.toNatClampNeg < 5 := by omega
    by_cases c : x0.toNatClampNeg + 1 = q 13 0 ∨ x0.toNatClampNeg + 1 = q 13 1
    · rw [tb_crash_1 ok hd c]
      exact (((ok.forg _).keep _).keep _).ends
    · rw [tb_crash_0 ok hd (fun z => c (Or.inl z)) (fun z => c (Or.inr z))]
      exact ok.forg _
  · exact ok
theorem tb_ok_init : tb_ok md_q0 := by
  have hL : ∀ k, ¬ xs_isL md_q0 k := fun k h => absurd h.1 (Nat.not_lt_zero _)
  have hM : ∀ k, ¬ xs_isM md_q0 k := fun k h => absurd h.2.1 (Nat.not_lt_zero _)
  have hB : ∀ k, ¬ xs_isB md_q0 k := fun k h => absurd h.2.1 (Nat.not_lt_zero _)
  refine ⟨fun r i => ?_, fun _ => Nat.zero_le _, fun _ _ _ _ => Nat.zero_le _, fun _ _ _ _ => Nat.zero_le _, fun _ _ => ⟨rfl, rfl⟩, fun e h => ?_, fun _ => Nat.zero_le _, fun k h => absurd h (hL k), fun k _ h => absurd h (hL k), fun k h => absurd h (hB k), fun k _ h => absurd h (hB k), fun k h => absurd h (hM k), fun k h => absurd h (hM k), fun k _ h => absurd h (hM k), fun k _ _ h => absurd h (hM k), Nat.zero_le _, Nat.zero_le _, Iff.rfl, fun _ => rfl⟩
  · unfold md_q0
    split
    · split <;> decide
    · split <;> decide
    · split <;> decide
    · decide
  · change 0 = 2 at h
    cases h
