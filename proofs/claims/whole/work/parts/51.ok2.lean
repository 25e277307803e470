/-! A new entry keeps the picture's promises. -/
theorem xs_ins.B {q q2 : tb_Q} {d e : Nat} (hi : xs_ins q q2 d e) {j : Nat} (h : xs_isB q2 j) : (xs_isB q j ∧ j ≠ e) ∨ (j = e ∧ q2 1 e = 1) := by
  by_cases hj : j = e
  · exact Or.inr ⟨hj, hj ▸ h.2.2⟩
  · refine Or.inl ⟨⟨h.1, ?_, ?_⟩, hj⟩
    · have h2 := h.2.1
      by_cases hd : j / 40 = d
      · rw [hd, hi.2.2.2.1] at h2
        rw [hd]
        have := hi.1
        omega
      · rw [hi.2.2.2.2.1 _ hd] at h2
        exact h2
    · rw [← hi.r (by decide) (by decide) hj]
      exact h.2.2
theorem xs_cnt1_M {q : tb_Q} {d k : Nat} : xs_isM (tb_cnt1 q d) k ↔ xs_isM q k := by
  unfold xs_isM
  rw [tb_cnt1_n (r := 0) (by decide) (by decide), tb_cnt1_n (r := 1) (by decide) (by decide)]
theorem xs_cnt1_B {q : tb_Q} {d k : Nat} : xs_isB (tb_cnt1 q d) k ↔ xs_isB q k := by
  unfold xs_isB
  rw [tb_cnt1_n (r := 0) (by decide) (by decide), tb_cnt1_n (r := 1) (by decide) (by decide)]
theorem tb_ok.ent {q : tb_Q} (ok : tb_ok q) {d k p f v r : Nat} (hd : d < 5) (h40 : q 0 d < 40) (hk : k ≤ 2) (hp : p < 6) (hf : f < 12) (hv : v ≤ 2000) (hr : r ≤ q 0 0 + (if d = 0 then 1 else 0))
    (hsp : k = 2 → f % 3 = 0 → v < 4) (hlt : k = 0 → d = 0 → 1 ≤ v ∧ v < 5 ∧ 1 ≤ r) (hli : k = 0 → d = 0 → ∀ j, xs_isL q j → q 2 j = p → q 5 j < r)
    (hbl : k = 1 → ∃ j, xs_isL q j ∧ q 2 j = p ∧ q 5 j = v ∧ q 4 j = d) (hbu : k = 1 → ∀ g, xs_isB q g → g / 40 = d → q 2 g = p → q 4 g = v → False) : tb_ok (tb_ent q d k p f v r) := by
  have hi := tb_ent_ins (q := q) (k := k) (p := p) (f := f) (v := v) (r := r) hd h40
  obtain ⟨e, he⟩ : ∃ e, e = 40 * d + q 0 d := ⟨_, rfl⟩
  have r0 := tb_ent_row0 q d k p f v r
  have r1 := tb_ent_1 q d k p f v r
  have r2 := tb_ent_2 q d k p f v r
  have r3 := tb_ent_3 q d k p f v r
  have r4 := tb_ent_4 q d k p f v r
  have r5 := tb_ent_5 q d k p f v r
  have r6 := tb_ent_6 q d k p f v r
  have r7 := tb_ent_7 q d k p f v r
  have r8 := tb_ent_8 q d k p f v r
  have r9 : ∀ s, 9 ≤ s → tb_ent q d k p f v r s = q s := fun s h => tb_ent_9 h
  have rv := tb_ent_v q d k p f v r
  rw [← he] at hi r1 r2 r3 r4 r5 r6 rv
  generalize tb_ent q d k p f v r = Q at *
  have s1 : Q 1 e = k := by rw [r1, va_up_self]
  have s2 : Q 2 e = p := by rw [r2, va_up_self]
  have s3 : Q 3 e = f := by rw [r3, va_up_self]
  have s4 : Q 4 e = v := by rw [r4, va_up_self]
  have s5 : Q 5 e = r := by rw [r5, va_up_self]
  have n1 : ∀ j, j ≠ e → Q 1 j = q 1 j := fun j h => by rw [r1, va_up_ne _ _ h]
  have n2 : ∀ j, j ≠ e → Q 2 j = q 2 j := fun j h => by rw [r2, va_up_ne _ _ h]
  have n3 : ∀ j, j ≠ e → Q 3 j = q 3 j := fun j h => by rw [r3, va_up_ne _ _ h]
  have n4 : ∀ j, j ≠ e → Q 4 j = q 4 j := fun j h => by rw [r4, va_up_ne _ _ h]
  have n5 : ∀ j, j ≠ e → Q 5 j = q 5 j := fun j h => by rw [r5, va_up_ne _ _ h]
  have n6 : ∀ j a, a < 5 → j ≠ e → Q 6 (5 * j + a) = q 6 (5 * j + a) := fun j a ha h => by rw [r6, if_neg (by omega)]
  have hL : ∀ j, xs_isL Q j → (xs_isL q j ∧ j ≠ e) ∨ (d = 0 ∧ j = e ∧ k = 0) := fun j h => by
    rcases hi.L (xs_cnt1_m ok d) h with ⟨h1, h2⟩ | ⟨h1, h2, h3⟩
    · exact Or.inl ⟨xs_cnt1_L.mp h1, h2⟩
    · exact Or.inr ⟨h1, h2, by rw [← s1]; exact h3⟩
  have hM : ∀ j, xs_isM Q j → (xs_isM q j ∧ j ≠ e) ∨ (j = e ∧ k = 2) := fun j h => by
    rcases hi.M h with ⟨h1, h2⟩ | ⟨h2, h3⟩
    · exact Or.inl ⟨xs_cnt1_M.mp h1, h2⟩
    · exact Or.inr ⟨h2, by rw [← s1]; exact h3⟩
  have hB : ∀ j, xs_isB Q j → (xs_isB q j ∧ j ≠ e) ∨ (j = e ∧ k = 1) := fun j h => by
    rcases hi.B h with ⟨h1, h2⟩ | ⟨h2, h3⟩
    · exact Or.inl ⟨xs_cnt1_B.mp h1, h2⟩
    · exact Or.inr ⟨h2, by rw [← s1]; exact h3⟩
  have g0 : ∀ a, q 0 a ≤ Q 0 a := fun a => by
    rw [r0]
    by_cases h : a = d
    · subst h; rw [va_up_self]; omega
    · rw [va_up_ne _ _ h]; exact Nat.le_refl _
  have hL0 : ∀ j, xs_isL q j → xs_isL Q j ∧ j ≠ e := fun j h => by
    have hne : j ≠ e := by
      have := h.1
      have := ok.m40 0
      by_cases hd0 : d = 0
      · subst hd0; omega
      · omega
    exact ⟨⟨Nat.lt_of_lt_of_le h.1 (g0 0), by rw [n1 j hne]; exact h.2⟩, hne⟩
  have ed : e / 40 = d := by omega
  have em : e % 40 = q 0 d := by omega
  have g7 : ∀ i, q 7 i ≤ Q 7 i := fun i => by
    rw [r7]
    by_cases h : i = 5 * d + d
    · subst h; rw [va_up_self]; omega
    · rw [va_up_ne _ _ h]; exact Nat.le_refl _
  have own := (ok.own d hd).1
  have s7 : Q 7 (5 * d + d) = q 0 d + 1 := by rw [r7, va_up_self, own]
  have n7 : ∀ i, i ≠ 5 * d + d → Q 7 i = q 7 i := fun i h => by rw [r7, va_up_ne _ _ h]
  have r8' : ∀ i, Q 8 i = if 5 * d ≤ i ∧ i < 5 * d + 5 then Q 7 i else q 8 i := fun i => by rw [r8, r7]
  have k8 : ∀ d' a, d' < 5 → a < 5 → q 8 (5 * d' + a) ≤ Q 8 (5 * d' + a) := fun d' a h1 h2 => by
    rw [r8']
    split
    · exact Nat.le_trans (ok.kp d' a h1 h2) (g7 _)
    · exact Nat.le_refl _
  have k0 : ∀ d' a, d' < 5 → a < 5 → Q 7 (5 * d' + a) ≤ Q 0 a := fun d' a h1 h2 => by
    by_cases h : 5 * d' + a = 5 * d + d
    · have e1 : a = d := by omega
      rw [h, s7, e1, r0, va_up_self]
      exact Nat.le_refl _
    · rw [n7 _ h]
      exact Nat.le_trans (ok.kn d' a h1 h2) (g0 a)
  have k87 : ∀ d' a, d' < 5 → a < 5 → Q 8 (5 * d' + a) ≤ Q 7 (5 * d' + a) := fun d' a h1 h2 => by
    rw [r8']
    split
    · exact Nat.le_refl _
    · exact Nat.le_trans (ok.kp d' a h1 h2) (g7 _)
  have s8 : Q 8 (5 * d + d) = q 0 d + 1 := by rw [r8', if_pos (by omega), s7]
  have s0 : Q 0 d = q 0 d + 1 := by rw [r0, va_up_self]
  have n0 : ∀ a, a ≠ d → Q 0 a = q 0 a := fun a h => by rw [r0, va_up_ne _ _ h]
  refine ⟨?_, ?_, k0, k87, ?_, ?_, ?_, ?_, ?_, ?_, ?_, ?_, ?_, ?_, ?_, ?_⟩
  · intro s i
    have h00 := ok.m40 0
    have hs : s = 0 ∨ s = 1 ∨ s = 2 ∨ s = 3 ∨ s = 4 ∨ s = 5 ∨ s = 6 ∨ s = 7 ∨ s = 8 ∨ 9 ≤ s := by omega
    rcases hs with rfl | rfl | rfl | rfl | rfl | rfl | rfl | rfl | rfl | hs
    · by_cases h : i = d
      · subst h; rw [s0]; omega
      · rw [n0 i h]; exact ok.sm _ _
    · by_cases h : i = e
      · subst h; rw [s1]; omega
      · rw [n1 i h]; exact ok.sm _ _
    · by_cases h : i = e
      · subst h; rw [s2]; omega
      · rw [n2 i h]; exact ok.sm _ _
    · by_cases h : i = e
      · subst h; rw [s3]; omega
      · rw [n3 i h]; exact ok.sm _ _
    · by_cases h : i = e
      · subst h; rw [s4]; omega
      · rw [n4 i h]; exact ok.sm _ _
    · by_cases h : i = e
      · subst h; rw [s5]; split at hr <;> omega
      · rw [n5 i h]; exact ok.sm _ _
    · rw [r6]
      split <;> exact ok.sm _ _
    · by_cases h : i = 5 * d + d
      · subst h; rw [s7]; omega
      · rw [n7 i h]; exact ok.sm _ _
    · rw [r8']
      split
      · by_cases h : i = 5 * d + d
        · subst h; rw [s7]; omega
        · rw [n7 i h]; exact ok.sm _ _
      · exact ok.sm _ _
    · rw [r9 s hs]; exact ok.sm _ _
  · intro a
    by_cases h : a = d
    · subst h; rw [s0]; omega
    · rw [n0 a h]; exact ok.m40 a
  · intro d' hd'
    by_cases h : d' = d
    · subst h; rw [s7, s8, s0]; exact ⟨rfl, rfl⟩
    · rw [n7 _ (by omega), n0 _ h, r8', if_neg (by omega)]
      exact ok.own d' hd'
  · intro j h1 h3
    by_cases h : j = e
    · subst h
      rw [s1] at h1
      rw [s3] at h3
      rw [s4]
      exact hsp h1 h3
    · rw [n1 j h] at h1
      rw [n3 j h] at h3
      rw [n4 j h]
      exact ok.sp j h1 h3
  · intro j
    by_cases h : j = e
    · subst h
      rw [s5]
      by_cases h0 : d = 0
      · subst h0; rw [s0]; rw [if_pos rfl] at hr; exact hr
      · rw [n0 0 (fun z => h0 z.symm)]; rw [if_neg h0] at hr; exact hr
    · rw [n5 j h]
      exact Nat.le_trans (ok.rk j) (g0 0)
  · intro j hj
    rcases hL j hj with ⟨h1, h2⟩ | ⟨h1, h2, h3⟩
    · rw [n4 j h2, n2 j h2, n5 j h2]; exact ok.lt j h1
    · subst h2
      rw [s4, s2, s5]
      obtain ⟨z1, z2, z3⟩ := hlt h3 h1
      exact ⟨z1, z2, hp, z3⟩
  · intro j i hj hi2 hlt2 h2
    rcases hL j hj with ⟨a1, a2⟩ | ⟨a1, a2, a3⟩
    · rcases hL i hi2 with ⟨b1, b2⟩ | ⟨b1, b2, b3⟩
      · rw [n2 j a2, n2 i b2] at h2
        rw [n5 j a2, n5 i b2]
        exact ok.li j i a1 b1 hlt2 h2
      · subst b2
        rw [n2 j a2, s2] at h2
        rw [n5 j a2, s5]
        exact hli b3 b1 j a1 h2
    · subst a2
      have := hi2.1
      subst a1
      rw [s0] at this
      omega
  · intro j hj
    rcases hB j hj with ⟨a1, a2⟩ | ⟨a1, a2⟩
    · obtain ⟨i, b1, b2, b3, b4⟩ := ok.bl j a1
      obtain ⟨c1, c2⟩ := hL0 i b1
      refine ⟨i, c1, ?_, ?_, ?_⟩
      · rw [n2 i c2, n2 j a2]; exact b2
      · rw [n5 i c2, n4 j a2]; exact b3
      · rw [n4 i c2]; exact b4
    · subst a1
      obtain ⟨i, b1, b2, b3, b4⟩ := hbl a2
      obtain ⟨c1, c2⟩ := hL0 i b1
      refine ⟨i, c1, ?_, ?_, ?_⟩
      · rw [n2 i c2, s2]; exact b2
      · rw [n5 i c2, s4]; exact b3
      · rw [n4 i c2, ed]; exact b4
  · intro j i hj hi2 h1 h2 h4
    rcases hB j hj with ⟨a1, a2⟩ | ⟨a1, a2⟩
    · rcases hB i hi2 with ⟨b1, b2⟩ | ⟨b1, b2⟩
      · rw [n2 j a2, n2 i b2] at h2
        rw [n4 j a2, n4 i b2] at h4
        exact ok.bu j i a1 b1 h1 h2 h4
      · subst b1
        rw [n2 j a2, s2] at h2
        rw [n4 j a2, s4] at h4
        exact (hbu b2 j a1 (by rw [h1]; exact ed) h2 h4).elim
    · rcases hB i hi2 with ⟨b1, b2⟩ | ⟨b1, b2⟩
      · subst a1
        rw [n2 i b2, s2] at h2
        rw [n4 i b2, s4] at h4
        exact (hbu a2 i b1 (by rw [← h1]; exact ed) h2.symm h4.symm).elim
      · rw [a1, b1]
  · intro j hj
    rcases hM j hj with ⟨a1, a2⟩ | ⟨a1, a2⟩
    · rw [n2 j a2, n3 j a2]; exact ok.ms j a1
    · subst a1; rw [s2, s3]; exact ⟨hp, hf⟩
  · intro j hj
    rcases hM j hj with ⟨a1, a2⟩ | ⟨a1, a2⟩
    · rw [n6 j _ (by have := a1.1; omega) a2]; exact ok.vo j a1
    · subst a1; rw [ed, em, rv d hd, own]
  · intro j a hj ha
    rcases hM j hj with ⟨a1, a2⟩ | ⟨a1, a2⟩
    · rw [n6 j a ha a2]
      exact Nat.le_trans (ok.vk j a a1 ha) (k8 _ a (by have := a1.1; omega) ha)
    · subst a1
      rw [ed, rv a ha, r8', if_pos (by omega)]
      exact g7 _
  · intro j i a hj hi2 h1 h2 ha
    rcases hM j hj with ⟨a1, a2⟩ | ⟨a1, a2⟩
    · rcases hM i hi2 with ⟨b1, b2⟩ | ⟨b1, b2⟩
      · rw [n6 j a ha a2, n6 i a ha b2]
        exact ok.vm j i a a1 b1 h1 h2 ha
      · subst b1
        rw [n6 j a ha a2, rv a ha]
        have := ok.vk j a a1 ha
        rw [h1, ed] at this
        exact Nat.le_trans this (ok.kp d a hd ha)
    · subst a1
      rcases hM i hi2 with ⟨b1, b2⟩ | ⟨b1, b2⟩
      · have := b1.2.1
        rw [← h1, ed] at this
        omega
      · omega
  · rw [r9 13 (by decide)]
    exact ok.me
