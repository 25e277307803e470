/-! What a new entry of the reference is, row by row. -/
/-- the counts of device d behind its new entry -/
def tb_cnt1 (q : tb_Q) (d : Nat) : tb_Q := tb_keep (tb_set q 7 (5 * d + d) (q 7 (5 * d + d) + 1)) d
theorem tb_cnt1_n {q : tb_Q} {d r : Nat} (h7 : r ≠ 7) (h8 : r ≠ 8) : tb_cnt1 q d r = q r := by
  unfold tb_cnt1
  rw [tb_keep_n h8, tb_set_n _ _ _ h7]
theorem tb_en1_n {q : tb_Q} {e k p f v r s : Nat} (h : s = 0 ∨ 6 ≤ s) : tb_en1 q e k p f v r s = q s := by
  unfold tb_en1
  rw [tb_set_n _ _ _ (by omega), tb_set_n _ _ _ (by omega), tb_set_n _ _ _ (by omega), tb_set_n _ _ _ (by omega), tb_set_n _ _ _ (by omega)]
theorem tb_en2_n {q : tb_Q} {d k p f v r s : Nat} (h : s = 0 ∨ 7 ≤ s) : tb_en2 q d k p f v r s = q s := by
  unfold tb_en2
  rw [tb_vc_n (by omega), tb_en1_n (by omega)]
theorem tb_ent_r {q : tb_Q} {d k p f v r s : Nat} (h1 : 1 ≤ s) (h6 : s ≤ 5) : tb_ent q d k p f v r s = tb_en1 q (40 * d + q 0 d) k p f v r s := by
  unfold tb_ent tb_en4 tb_en3 tb_en2
  rw [tb_keep_n (by omega), tb_set_n _ _ _ (by omega), tb_set_n _ _ _ (by omega), tb_vc_n (by omega)]
theorem tb_ent_1 (q : tb_Q) (d k p f v r : Nat) : tb_ent q d k p f v r 1 = va_up (q 1) (40 * d + q 0 d) k := by
  rw [tb_ent_r (by decide) (by decide)]
  unfold tb_en1
  rw [tb_set_n _ _ _ (by decide), tb_set_n _ _ _ (by decide), tb_set_n _ _ _ (by decide), tb_set_n _ _ _ (by decide), tb_set_s]
theorem tb_ent_2 (q : tb_Q) (d k p f v r : Nat) : tb_ent q d k p f v r 2 = va_up (q 2) (40 * d + q 0 d) p := by
  rw [tb_ent_r (by decide) (by decide)]
  unfold tb_en1
  rw [tb_set_n _ _ _ (by decide), tb_set_n _ _ _ (by decide), tb_set_n _ _ _ (by decide), tb_set_s, tb_set_n _ _ _ (by decide)]
theorem tb_ent_3 (q : tb_Q) (d k p f v r : Nat) : tb_ent q d k p f v r 3 = va_up (q 3) (40 * d + q 0 d) f := by
  rw [tb_ent_r (by decide) (by decide)]
  unfold tb_en1
  rw [tb_set_n _ _ _ (by decide), tb_set_n _ _ _ (by decide), tb_set_s, tb_set_n _ _ _ (by decide), tb_set_n _ _ _ (by decide)]
theorem tb_ent_4 (q : tb_Q) (d k p f v r : Nat) : tb_ent q d k p f v r 4 = va_up (q 4) (40 * d + q 0 d) v := by
  rw [tb_ent_r (by decide) (by decide)]
  unfold tb_en1
  rw [tb_set_n _ _ _ (by decide), tb_set_s, tb_set_n _ _ _ (by decide), tb_set_n _ _ _ (by decide), tb_set_n _ _ _ (by decide)]
theorem tb_ent_5 (q : tb_Q) (d k p f v r : Nat) : tb_ent q d k p f v r 5 = va_up (q 5) (40 * d + q 0 d) r := by
  rw [tb_ent_r (by decide) (by decide)]
  unfold tb_en1
  rw [tb_set_s, tb_set_n _ _ _ (by decide), tb_set_n _ _ _ (by decide), tb_set_n _ _ _ (by decide), tb_set_n _ _ _ (by decide)]
theorem tb_vc_6 (q : tb_Q) (d e : Nat) : ∀ n i, tb_fo (tb_vcF d e) q n 6 i = if 5 * e ≤ i ∧ i < 5 * e + n then q 7 (5 * d + (i - 5 * e)) else q 6 i
  | 0, i => by rw [if_neg (by omega)]; rfl
  | n + 1, i => by
    rw [tb_fo_s]
    unfold tb_vcF
    rw [tb_set_s, show tb_fo (fun a q => tb_set q 6 (5 * e + a) (q 7 (5 * d + a))) q n 7 = q 7 from tb_vc_n (d := d) (e := e) (by decide) n]
    by_cases h : i = 5 * e + n
    · subst h
      rw [va_up_self, if_pos (by omega), show 5 * e + n - 5 * e = n by omega]
    · rw [va_up_ne _ _ h, show tb_fo (fun a q => tb_set q 6 (5 * e + a) (q 7 (5 * d + a))) q n 6 i = _ from tb_vc_6 q d e n i]
      by_cases h2 : 5 * e ≤ i ∧ i < 5 * e + n
      · rw [if_pos h2, if_pos (by omega)]
      · rw [if_neg h2, if_neg (by omega)]
theorem tb_ent_6 (q : tb_Q) (d k p f v r i : Nat) : tb_ent q d k p f v r 6 i = if 5 * (40 * d + q 0 d) ≤ i ∧ i < 5 * (40 * d + q 0 d) + 5 then q 7 (5 * d + (i - 5 * (40 * d + q 0 d))) else q 6 i := by
  unfold tb_ent tb_en4 tb_en3 tb_en2
  rw [tb_keep_n (by decide), tb_set_n _ _ _ (by decide), tb_set_n _ _ _ (by decide), tb_vc_6, tb_en1_n (by decide), tb_en1_n (by decide)]
theorem tb_ent_row0 (q : tb_Q) (d k p f v r : Nat) : tb_ent q d k p f v r 0 = va_up (q 0) d (q 0 d + 1) := by
  unfold tb_ent tb_en4 tb_en3
  rw [tb_keep_n (by decide), tb_set_n _ _ _ (by decide), tb_set_s, tb_en2_n (by decide)]
theorem tb_ent_7 (q : tb_Q) (d k p f v r : Nat) : tb_ent q d k p f v r 7 = va_up (q 7) (5 * d + d) (q 7 (5 * d + d) + 1) := by
  unfold tb_ent tb_en4
  rw [tb_keep_n (by decide), tb_set_s]
  unfold tb_en3
  rw [tb_set_n _ _ _ (by decide), tb_en2_n (by decide)]
theorem tb_ent_8 (q : tb_Q) (d k p f v r i : Nat) : tb_ent q d k p f v r 8 i = if 5 * d ≤ i ∧ i < 5 * d + 5 then va_up (q 7) (5 * d + d) (q 7 (5 * d + d) + 1) i else q 8 i := by
  have h7 := tb_ent_7 q d k p f v r
  unfold tb_ent at h7 ⊢
  rw [tb_keep_n (by decide)] at h7
  rw [tb_keep_8, h7]
  unfold tb_en4 tb_en3
  rw [tb_set_n _ _ _ (by decide), tb_set_n _ _ _ (by decide), tb_en2_n (by decide)]
theorem tb_ent_9 {q : tb_Q} {d k p f v r s : Nat} (h : 9 ≤ s) : tb_ent q d k p f v r s = q s := by
  unfold tb_ent tb_en4 tb_en3
  rw [tb_keep_n (by omega), tb_set_n _ _ _ (by omega), tb_set_n _ _ _ (by omega), tb_en2_n (by omega)]
theorem tb_cnt1_7 (q : tb_Q) (d : Nat) : tb_cnt1 q d 7 = va_up (q 7) (5 * d + d) (q 7 (5 * d + d) + 1) := by
  unfold tb_cnt1
  rw [tb_keep_n (by decide), tb_set_s]
theorem tb_cnt1_8 (q : tb_Q) (d i : Nat) : tb_cnt1 q d 8 i = if 5 * d ≤ i ∧ i < 5 * d + 5 then va_up (q 7) (5 * d + d) (q 7 (5 * d + d) + 1) i else q 8 i := by
  unfold tb_cnt1
  rw [tb_keep_8, tb_set_s, tb_set_n _ _ _ (by decide)]
theorem tb_ent_ins {q : tb_Q} {d k p f v r : Nat} (hd : d < 5) (h40 : q 0 d < 40) : xs_ins (tb_cnt1 q d) (tb_ent q d k p f v r) d (40 * d + q 0 d) := by
  unfold xs_ins
  rw [tb_cnt1_n (r := 0) (by decide) (by decide)]
  refine ⟨rfl, hd, h40, ?_, fun d' h => ?_, fun s h1 h5 j hj => ?_, fun g j hj hg => ?_, fun s hs => ?_⟩
  · rw [tb_ent_row0, va_up_self]
  · rw [tb_ent_row0, va_up_ne _ _ h]
  · rw [tb_cnt1_n (by omega) (by omega)]
    have h : s = 1 ∨ s = 2 ∨ s = 3 ∨ s = 4 ∨ s = 5 := by omega
    rcases h with rfl | rfl | rfl | rfl | rfl
    · rw [tb_ent_1, va_up_ne _ _ hj]
    · rw [tb_ent_2, va_up_ne _ _ hj]
    · rw [tb_ent_3, va_up_ne _ _ hj]
    · rw [tb_ent_4, va_up_ne _ _ hj]
    · rw [tb_ent_5, va_up_ne _ _ hj]
  · rw [tb_cnt1_n (by decide) (by decide), tb_ent_6, if_neg (by omega)]
  · by_cases h7 : s = 7
    · subst h7
      rw [tb_ent_7, tb_cnt1_7]
    · by_cases h8 : s = 8
      · subst h8
        funext i
        rw [tb_ent_8, tb_cnt1_8]
      · rw [tb_ent_9 (by omega), tb_cnt1_n h7 h8]
theorem tb_ent_v (q : tb_Q) (d k p f v r j : Nat) (hj : j < 5) : tb_ent q d k p f v r 6 (5 * (40 * d + q 0 d) + j) = q 7 (5 * d + j) := by
  rw [tb_ent_6, if_pos (by omega), show 5 * (40 * d + q 0 d) + j - 5 * (40 * d + q 0 d) = j by omega]
theorem xs_vec_ent {q : tb_Q} {κ : Nat → ClassId} {d k p f v r : Nat} : xs_vec κ (tb_ent q d k p f v r) (40 * d + q 0 d) = xs_A (κ 0) 5 (fun j => nI (xs_row q 7 d j)) := by
  unfold xs_vec
  have : (fun j => nI (xs_row (tb_ent q d k p f v r) 6 (40 * d + q 0 d) j)) = fun j => nI (xs_row q 7 d j) := by
    funext j
    unfold xs_row
    by_cases hj : j < 5
    · rw [if_pos hj, if_pos hj, tb_ent_v q d k p f v r j hj]
    · rw [if_neg hj, if_neg hj]
  rw [this]
/-- the number of a plot's next lend -/
def xs_nx (q : tb_Q) (p : Nat) : Nat := match xs_ll q p (q 0 0) with
  | none => 1
  | some k => q 5 k + 1
theorem xs_nx_n {q : tb_Q} {p : Nat} (h : xs_ll q p (q 0 0) = none) : xs_nx q p = 1 := by
  unfold xs_nx
  rw [h]
theorem xs_nx_s {q : tb_Q} {p k : Nat} (h : xs_ll q p (q 0 0) = some k) : xs_nx q p = q 5 k + 1 := by
  unfold xs_nx
  rw [h]
theorem xs_at.jl {κ : Nat → ClassId} {σ ρ : um_M} {xd la ma va : Nat → Nat} {q : tb_Q} {sc : xs_S} (h : xs_at κ σ xd la ma va q sc) : xs_at κ (um_jn σ ρ) xd la ma va q sc :=
  ⟨fun i hi => (h.1 i hi).jl, h.2.1, fun k hk => (h.2.2.1 k hk).jl, fun e he => ⟨(h.2.2.2 e he).1.jl, (h.2.2.2 e he).2.1.jl, (h.2.2.2 e he).2.2⟩⟩
theorem lw_cI {cb : Cond} (h : cb ∈ lw_g) : GoodIn lw_g (cb :: lw_g) := lw_good (fun w hw => by
  rcases List.mem_cons.mp hw with rfl | h1
  · exact h
  · exact h1)
theorem dfX1 : ∀ j, j < 5 → defaultValue (tyX1 j) = vp_V [.int 0, .int 0, .int 0, .null, .int 0] j := fun j hj => by
  have h : j = 0 ∨ j = 1 ∨ j = 2 ∨ j = 3 ∨ j = 4 := by omega
  rcases h with rfl | rfl | rfl | rfl | rfl <;> rfl
theorem dfX3 : ∀ j, j < 6 → defaultValue (tyX3 j) = vp_V [.int 0, .int 0, .int 0, .int 0, .null, .null] j := fun j hj => by
  have h : j = 0 ∨ j = 1 ∨ j = 2 ∨ j = 3 ∨ j = 4 ∨ j = 5 := by omega
  rcases h with rfl | rfl | rfl | rfl | rfl | rfl <;> rfl
theorem um_ne9 {σ : um_M} {a b : Nat} {x : va_E} (ha : a ∉ σ.1) (h : um_h σ b x) : b ≠ a := fun z => ha (z ▸ h.1)
