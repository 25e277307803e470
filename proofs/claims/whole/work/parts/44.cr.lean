/-! A crash, of the picture. -/
theorem tb_cr_fo (M : tb_Q) (d : Nat) : ∀ n, (∀ r, r ≠ 7 → tb_fo (tb_crF d) M n r = M r) ∧ ∀ i, tb_fo (tb_crF d) M n 7 i = if 5 * d ≤ i ∧ i < 5 * d + n then (if i - 5 * d = d then M 0 d else M 8 i) else M 7 i
  | 0 => ⟨fun _ _ => rfl, fun i => by rw [if_neg (by omega)]; rfl⟩
  | n + 1 => by
    obtain ⟨h1, h2⟩ := tb_cr_fo M d n
    refine ⟨fun r hr => ?_, fun i => ?_⟩
    · rw [tb_fo_s]
      unfold tb_crF
      rw [tb_set_n _ _ _ hr]
      exact h1 r hr
    · rw [tb_fo_s]
      show tb_set (tb_fo (tb_crF d) M n) 7 (5 * d + n) (if n = d then tb_fo (tb_crF d) M n 0 n else tb_fo (tb_crF d) M n 8 (5 * d + n)) 7 i = _
      rw [tb_set_s, h1 0 (by decide), h1 8 (by decide)]
      by_cases h : i = 5 * d + n
      · subst h
        rw [va_up_self, if_pos (show 5 * d ≤ 5 * d + n ∧ 5 * d + n < 5 * d + (n + 1) by omega), show 5 * d + n - 5 * d = n by omega]
        by_cases hn : n = d
        · rw [if_pos hn, if_pos hn, hn]
        · rw [if_neg hn, if_neg hn]
      · rw [va_up_ne _ _ h, h2 i]
        by_cases h3 : 5 * d ≤ i ∧ i < 5 * d + n
        · rw [if_pos h3, if_pos (show 5 * d ≤ i ∧ i < 5 * d + (n + 1) by omega)]
        · rw [if_neg h3, if_neg (by omega)]
theorem tb_ends_n {q : tb_Q} {r : Nat} (h : r ≠ 13) : tb_ends q r = q r := by
  unfold tb_ends
  rw [tb_set_n _ _ _ h, tb_set_n _ _ _ h]
/-- rows 7 of a crash: what was kept is known -/
theorem tb_cr_7 {q M : tb_Q} {d : Nat} (ok : tb_ok q) (hd : d < 5) (h0 : M 0 = q 0) (h7 : M 7 = q 7) (h8 : ∀ i, 5 * d ≤ i → i < 5 * d + 5 → M 8 i = q 8 i) : tb_fo (tb_crF d) M 5 7 = tb_forg q d 7 := by
  funext i
  rw [(tb_cr_fo M d 5).2 i, tb_forg_7, h0, h7]
  by_cases h : 5 * d ≤ i ∧ i < 5 * d + 5
  · rw [if_pos h, if_pos h]
    by_cases e : i - 5 * d = d
    · rw [if_pos e, ← (ok.own d hd).2]
      congr 1
      omega
    · rw [if_neg e, h8 i h.1 h.2]
  · rw [if_neg h, if_neg h]
theorem tb_crash_0 {q : tb_Q} {d : Nat} (ok : tb_ok q) (hd : d < 5) (c0 : ¬ d + 1 = q 13 0) (c1 : ¬ d + 1 = q 13 1) : tb_cr q d = tb_forg q d := by
  unfold tb_cr tb_crM
  rw [if_neg c0, if_neg c1]
  funext r
  by_cases h : r = 7
  · subst h
    exact tb_cr_7 ok hd rfl rfl (fun _ _ _ => rfl)
  · rw [(tb_cr_fo q d 5).1 r h, tb_forg_n q h]
theorem tb_kk_8 {q : tb_Q} {d a b : Nat} (hab : (a = d ∧ b ≠ d) ∨ (b = d ∧ a ≠ d)) {o : Nat} (ho : o = if a = d then b else a) (i : Nat) : tb_keep (tb_keep (tb_forg q d) a) b 8 i = tb_keep q o 8 i := by
  subst ho
  rw [tb_keep_8, tb_keep_n (by decide), tb_keep_8, tb_keep_8, tb_forg_7, tb_forg_n q (by decide)]
  rcases hab with ⟨rfl, hb⟩ | ⟨rfl, ha⟩
  · rw [if_pos rfl]
    by_cases h1 : 5 * b ≤ i ∧ i < 5 * b + 5
    · rw [if_pos h1, if_pos h1, if_neg (by omega)]
    · rw [if_neg h1, if_neg h1]
      by_cases h2 : 5 * a ≤ i ∧ i < 5 * a + 5
      · rw [if_pos h2, if_pos h2]
      · rw [if_neg h2]
  · rw [if_neg ha]
    by_cases h1 : 5 * a ≤ i ∧ i < 5 * a + 5
    · rw [if_pos h1, if_neg (by omega), if_pos h1, if_neg (by omega)]
    · by_cases h2 : 5 * b ≤ i ∧ i < 5 * b + 5
      · rw [if_pos h2, if_pos h2, if_neg h1]
      · rw [if_neg h2, if_neg h1, if_neg h1]
theorem tb_crash_1 {q : tb_Q} {d : Nat} (ok : tb_ok q) (hd : d < 5) (c : d + 1 = q 13 0 ∨ d + 1 = q 13 1) : tb_cr q d = tb_ends (tb_keep (tb_keep (tb_forg q d) (tb_forg q d 13 0 - 1)) (tb_forg q d 13 1 - 1)) := by
  have e13 : tb_forg q d 13 = q 13 := tb_forg_n q (by decide)
  rw [e13]
  obtain ⟨m0, m1, m2, m3⟩ := ok.me
  have hn : q 13 0 ≠ q 13 1 := fun z => by have := m3 z; omega
  have hz0 : q 13 0 ≠ 0 := fun z => by have := m2.mp z; omega
  have hz1 : q 13 1 ≠ 0 := fun z => by have := m2.mpr z; omega
  obtain ⟨o, ho⟩ : ∃ o, o = if q 13 0 - 1 = d then q 13 1 - 1 else q 13 0 - 1 := ⟨_, rfl⟩
  have hM : tb_crM q d = tb_ends (tb_keep q o) := by
    unfold tb_crM
    by_cases h0 : d + 1 = q 13 0
    · rw [if_pos h0, ho, if_pos (by omega)]
    · rw [if_neg h0, if_pos (by omega), ho, if_neg (by omega)]
  have hod : o ≠ d := by
    rw [ho]
    split <;> omega
  unfold tb_cr
  rw [hM]
  funext r
  by_cases h7 : r = 7
  · subst h7
    rw [tb_ends_n (by decide), tb_keep_n (by decide), tb_keep_n (by decide)]
    refine tb_cr_7 ok hd (by rw [tb_ends_n (by decide), tb_keep_n (by decide)]) (by rw [tb_ends_n (by decide), tb_keep_n (by decide)]) (fun i h1 h2 => ?_)
    rw [tb_ends_n (by decide), tb_keep_8, if_neg (by omega)]
  · rw [(tb_cr_fo _ d 5).1 r h7]
    by_cases h13 : r = 13
    · subst h13
      unfold tb_ends
      rw [tb_set_s, tb_set_s, tb_set_s, tb_set_s, tb_keep_n (by decide), tb_keep_n (by decide), tb_keep_n (by decide), e13]
    · rw [tb_ends_n h13, tb_ends_n h13]
      by_cases h8 : r = 8
      · subst h8
        funext i
        exact (tb_kk_8 (by omega) ho i).symm
      · rw [tb_keep_n h8, tb_keep_n h8, tb_keep_n h8, tb_forg_n q h7]
