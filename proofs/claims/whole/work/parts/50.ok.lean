/-! What keeps the picture's promises: calls that change no entry. -/
theorem tb_sm_set {q : tb_Q} (h : tb_sm q) (r j : Nat) {v : Nat} (hv : v ≤ 2000) : tb_sm (tb_set q r j v) := by
  intro r' i
  by_cases hr : r' = r
  · subst hr
    rw [tb_set_s]
    by_cases hi : i = j
    · subst hi
      rw [va_up_self]
      exact hv
    · rw [va_up_ne _ _ hi]
      exact h _ _
  · rw [tb_set_n _ _ _ hr]
    exact h _ _
def tb_me (q : tb_Q) : Prop := q 13 0 ≤ 5 ∧ q 13 1 ≤ 5 ∧ (q 13 0 = 0 ↔ q 13 1 = 0) ∧ (q 13 0 = q 13 1 → q 13 0 = 0)
/-- rows 7, 8 and what lies behind them may change -/
theorem tb_ok.kk {q q' : tb_Q} (ok : tb_ok q) (hr : ∀ r, r ≤ 6 → q' r = q r) (sm : tb_sm q') (h8 : ∀ d a, d < 5 → a < 5 → q 8 (5 * d + a) ≤ q' 8 (5 * d + a)) (h78 : ∀ d a, d < 5 → a < 5 → q' 8 (5 * d + a) ≤ q' 7 (5 * d + a)) (h70 : ∀ d a, d < 5 → a < 5 → q' 7 (5 * d + a) ≤ q 0 a) (me : tb_me q') : tb_ok q' := by
  have e0 := hr 0 (by decide)
  have e1 := hr 1 (by decide)
  have e2 := hr 2 (by decide)
  have e3 := hr 3 (by decide)
  have e4 := hr 4 (by decide)
  have e5 := hr 5 (by decide)
  have e6 := hr 6 (by decide)
  have hL : ∀ k, xs_isL q' k ↔ xs_isL q k := fun k => by unfold xs_isL; rw [e0, e1]
  have hM : ∀ k, xs_isM q' k ↔ xs_isM q k := fun k => by unfold xs_isM; rw [e0, e1]
  have hB : ∀ k, xs_isB q' k ↔ xs_isB q k := fun k => by unfold xs_isB; rw [e0, e1]
  refine ⟨sm, ?_, ?_, h78, ?_, ?_, ?_, ?_, ?_, ?_, ?_, ?_, ?_, ?_, ?_, me⟩
  · rw [e0]; exact ok.m40
  · rw [e0]; exact h70
  · intro d hd
    have a1 := h70 d d hd hd
    have a2 := h78 d d hd hd
    have a3 := h8 d d hd hd
    have a4 := (ok.own d hd).2
    rw [e0]
    omega
  · unfold tb_sp; rw [e1, e3, e4]; exact ok.sp
  · rw [e0, e5]; exact ok.rk
  · intro k hk; rw [e4, e2, e5]; exact ok.lt k ((hL k).mp hk)
  · intro k j hk hj; rw [e2, e5]; exact ok.li k j ((hL k).mp hk) ((hL j).mp hj)
  · intro e he
    obtain ⟨k, h1, h2⟩ := ok.bl e ((hB e).mp he)
    refine ⟨k, (hL k).mpr h1, ?_⟩
    rw [e2, e5, e4]
    exact h2
  · intro e f he hf; rw [e2, e4]; exact ok.bu e f ((hB e).mp he) ((hB f).mp hf)
  · intro e he; rw [e2, e3]; exact ok.ms e ((hM e).mp he)
  · intro e he; rw [e6]; exact ok.vo e ((hM e).mp he)
  · intro e a he ha
    have he := (hM e).mp he
    rw [e6]
    exact Nat.le_trans (ok.vk e a he ha) (h8 _ a (by have := he.1; omega) ha)
  · intro e f a he hf; rw [e6]; exact ok.vm e f a ((hM e).mp he) ((hM f).mp hf)
theorem tb_ok.cong {q q' : tb_Q} (ok : tb_ok q) (hr : ∀ r, r ≤ 8 → q' r = q r) (sm : tb_sm q') (me : tb_me q') : tb_ok q' :=
  ok.kk (fun r h => hr r (by omega)) sm (fun d a _ _ => by rw [hr 8 (by decide)]; exact Nat.le_refl _) (fun d a hd ha => by rw [hr 8 (by decide), hr 7 (by decide)]; exact ok.kp d a hd ha) (fun d a hd ha => by rw [hr 7 (by decide)]; exact ok.kn d a hd ha) me
theorem tb_sm_keep {q : tb_Q} (h : tb_sm q) (d : Nat) : tb_sm (tb_keep q d) := by
  intro r i
  by_cases hr : r = 8
  · subst hr
    rw [tb_keep_8]
    split <;> exact h _ _
  · rw [tb_keep_n hr]
    exact h _ _
theorem tb_ok.keep {q : tb_Q} (ok : tb_ok q) (d : Nat) : tb_ok (tb_keep q d) := by
  refine ok.kk (fun r h => tb_keep_n (by omega)) (tb_sm_keep ok.sm d) (fun d' a hd ha => ?_) (fun d' a hd ha => ?_) (fun d' a hd ha => ?_) ?_
  · rw [tb_keep_8]
    split
    · exact ok.kp d' a hd ha
    · exact Nat.le_refl _
  · rw [tb_keep_8, tb_keep_n (by decide)]
    split
    · exact Nat.le_refl _
    · exact ok.kp d' a hd ha
  · rw [tb_keep_n (by decide)]
    exact ok.kn d' a hd ha
  · unfold tb_me
    rw [tb_keep_n (by decide)]
    exact ok.me
theorem tb_ok.forg {q : tb_Q} (ok : tb_ok q) (d : Nat) : tb_ok (tb_forg q d) := by
  refine ok.kk (fun r h => tb_forg_n q (by omega)) (fun r i => ?_) (fun d' a hd ha => ?_) (fun d' a hd ha => ?_) (fun d' a hd ha => ?_) ?_
  · by_cases h7 : r = 7
    · subst h7
      rw [tb_forg_7]
      split <;> exact ok.sm _ _
    · rw [tb_forg_n q h7]
      exact ok.sm _ _
  · rw [tb_forg_n q (by decide)]
    exact Nat.le_refl _
  · rw [tb_forg_n q (by decide), tb_forg_7]
    split
    · exact Nat.le_refl _
    · exact ok.kp d' a hd ha
  · rw [tb_forg_7]
    split
    · exact Nat.le_trans (ok.kp d' a hd ha) (ok.kn d' a hd ha)
    · exact ok.kn d' a hd ha
  · unfold tb_me
    rw [tb_forg_n q (by decide)]
    exact ok.me
theorem tb_ends_13 (q : tb_Q) : tb_ends q 13 0 = 0 ∧ tb_ends q 13 1 = 0 := by
  unfold tb_ends
  rw [tb_set_s, tb_set_s]
  exact ⟨by rw [va_up_ne _ _ (by decide), va_up_self], va_up_self _ _ _⟩
theorem tb_ok.ends {q : tb_Q} (ok : tb_ok q) : tb_ok (tb_ends q) :=
  ok.cong (fun r h => tb_ends_n (by omega)) (tb_sm_set (tb_sm_set ok.sm _ _ (by decide)) _ _ (by decide)) (by
    obtain ⟨h0, h1⟩ := tb_ends_13 q
    unfold tb_me
    rw [h0, h1]
    exact ⟨by decide, by decide, Iff.rfl, fun _ => rfl⟩)
theorem tb_carF_sound {q : tb_Q} {fr to : Nat} : ∀ n, ¬ tb_carF q fr to n = 0 → tb_carF q fr to n ≤ n ∧ q 7 (5 * to + (tb_carF q fr to n - 1)) < q 7 (5 * fr + (tb_carF q fr to n - 1))
  | 0 => fun h => absurd rfl h
  | n + 1 => fun h => by
    by_cases h0 : tb_carF q fr to n = 0
    · by_cases hc : q 7 (5 * fr + n) ≤ q 7 (5 * to + n)
      · exact absurd (by show (if tb_carF q fr to n = 0 then (if _ then 0 else n + 1) else _) = 0; rw [if_pos h0, if_pos hc]) h
      · have e : tb_carF q fr to (n + 1) = n + 1 := by
          show (if tb_carF q fr to n = 0 then (if _ then 0 else n + 1) else _) = _
          rw [if_pos h0, if_neg hc]
        rw [e]
        exact ⟨Nat.le_refl _, by rw [Nat.add_sub_cancel]; omega⟩
    · have e : tb_carF q fr to (n + 1) = tb_carF q fr to n := by
        show (if tb_carF q fr to n = 0 then _ else tb_carF q fr to n) = _
        rw [if_neg h0]
      obtain ⟨h1, h2⟩ := tb_carF_sound n h0
      rw [e]
      exact ⟨by omega, h2⟩
theorem tb_ok.cary {q : tb_Q} (ok : tb_ok q) {fr to : Nat} (hf : fr < 5) (ht : to < 5) : tb_ok (tb_cary q fr to) := by
  unfold tb_cary
  by_cases h : tb_car q fr to = 0
  · rw [if_pos h]; exact ok
  · rw [if_neg h]
    obtain ⟨h1, h2⟩ := tb_carF_sound 5 h
    change tb_car q fr to ≤ 5 at h1
    change q 7 (5 * to + (tb_car q fr to - 1)) < q 7 (5 * fr + (tb_car q fr to - 1)) at h2
    have h3 := ok.kn fr (tb_car q fr to - 1) hf (by omega)
    have h4 := ok.m40 (tb_car q fr to - 1)
    refine ok.kk (fun r hr => tb_set_n _ _ _ (by omega)) (tb_sm_set ok.sm _ _ (by omega)) (fun d a hd ha => ?_) (fun d a hd ha => ?_) (fun d a hd ha => ?_) ?_
    · rw [tb_set_n _ _ _ (by decide)]
      exact Nat.le_refl _
    · rw [tb_set_n _ _ _ (by decide), tb_set_s]
      by_cases hj : 5 * d + a = 5 * to + (tb_car q fr to - 1)
      · rw [hj, va_up_self, ← hj]
        have := ok.kp d a hd ha
        rw [hj] at this ⊢
        omega
      · rw [va_up_ne _ _ hj]
        exact ok.kp d a hd ha
    · rw [tb_set_s]
      by_cases hj : 5 * d + a = 5 * to + (tb_car q fr to - 1)
      · have ea : a = tb_car q fr to - 1 := by omega
        rw [hj, va_up_self, ea]
        omega
      · rw [va_up_ne _ _ hj]
        exact ok.kn d a hd ha
    · unfold tb_me
      rw [tb_set_n _ _ _ (by decide)]
      exact ok.me
