/-! A call that throws leaves the picture as it was. -/
theorem tbN_species {q : tb_Q} {x0 x1 x2 x3 : Int32} (h : ¬ tbT_species x0 x1 x2 x3 = 0) : tbQ_species q x0 x1 x2 x3 = q := by
  unfold tbT_species at h
  unfold tbQ_species
  split
  · rfl
  · rename_i h1
    exact absurd (if_neg h1) h
theorem tbN_stand {q : tb_Q} {x0 x1 : Int32} (h : ¬ tbT_stand x0 x1 = 0) : tbQ_stand q x0 x1 = q := by
  unfold tbT_stand at h
  unfold tbQ_stand
  split
  · rfl
  · rename_i h1
    exact absurd (if_neg h1) h
theorem tbN_lend {q : tb_Q} {x0 x1 : Int32} (h : ¬ tbT_lend q x0 x1 = 0) : tbQ_lend q x0 x1 = q := by
  unfold tbT_lend at h
  unfold tbQ_lend
  split
  · rfl
  · rename_i h1
    rw [if_neg h1] at h
    split
    · rfl
    · rename_i h2
      exact absurd (if_neg h2) h
theorem tbN_giveBack {q : tb_Q} {x0 x1 : Int32} (h : ¬ tbT_giveBack q x0 x1 = 0) : tbQ_giveBack q x0 x1 = q := by
  unfold tbT_giveBack at h
  unfold tbQ_giveBack
  split
  · rfl
  · rename_i h1
    rw [if_neg h1] at h
    split
    · rfl
    · rename_i h2
      exact absurd (if_neg h2) h
theorem tbN_enter {q : tb_Q} {x0 x1 x2 x3 x4 : Int32} (h : ¬ tbT_enter q x0 x1 x2 x3 x4 = 0) : tbQ_enter q x0 x1 x2 x3 x4 = q := by
  unfold tbT_enter at h
  unfold tbQ_enter
  split
  · rfl
  · rename_i h1
    rw [if_neg h1] at h
    split
    · rfl
    · rename_i h2
      exact absurd (if_neg h2) h
theorem tbN_resolve {q : tb_Q} {x0 x1 : Int32} (h : ¬ tbT_resolve q x0 x1 = 0) : tbQ_resolve q x0 x1 = q := by
  unfold tbT_resolve at h
  unfold tbQ_resolve
  split
  · rfl
  · rename_i h1
    rw [if_neg h1] at h
    split
    · rfl
    · rename_i h2
      rw [if_neg h2] at h
      split
      · rfl
      · rename_i h3
        exact absurd (if_neg h3) h
theorem tbN_meet {q : tb_Q} {x0 x1 : Int32} (h : ¬ tbT_meet q x0 x1 = 0) : tbQ_meet q x0 x1 = q := by
  unfold tbT_meet at h
  unfold tbQ_meet
  split
  · rfl
  · rename_i h1
    rw [if_neg h1] at h
    split
    · rename_i h2
      exact absurd (if_pos h2) h
    · rfl
theorem tbN_swap {q : tb_Q} (h : ¬ tbT_swap q = 0) : tbQ_swap q = q := by
  unfold tbT_swap at h
  unfold tbQ_swap
  split
  · rfl
  · rename_i h1
    exact absurd (if_neg h1) h
theorem tbN_part {q : tb_Q} (h : ¬ tbT_part q = 0) : tbQ_part q = q := by
  unfold tbT_part at h
  unfold tbQ_part
  split
  · rfl
  · rename_i h1
    exact absurd (if_neg h1) h
theorem tbN_crash {q : tb_Q} {x0 : Int32} (h : ¬ tbT_crash x0 = 0) : tbQ_crash q x0 = q := by
  unfold tbT_crash at h
  unfold tbQ_crash
  split
  · rename_i h1
    exact absurd (if_pos h1) h
  · rfl
