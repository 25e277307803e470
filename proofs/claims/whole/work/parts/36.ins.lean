/-! A new entry of the picture, and what of the class's cells changes with it. -/
def xs_ins (q q2 : tb_Q) (d e : Nat) : Prop := e = 40 * d + q 0 d ∧ d < 5 ∧ q 0 d < 40 ∧ q2 0 d = q 0 d + 1 ∧ (∀ d', d' ≠ d → q2 0 d' = q 0 d') ∧ (∀ r, 1 ≤ r → r ≤ 5 → ∀ j, j ≠ e → q2 r j = q r j) ∧ (∀ f j, j < 5 → f ≠ e → q2 6 (5 * f + j) = q 6 (5 * f + j)) ∧ ∀ r, 7 ≤ r → q2 r = q r
theorem xs_ll_c {q q2 : tb_Q} {p : Nat} : ∀ {n : Nat}, (∀ j, j < n → q2 1 j = q 1 j ∧ q2 2 j = q 2 j) → xs_ll q2 p n = xs_ll q p n
  | 0 => fun _ => rfl
  | n + 1 => fun h => by
    have h1 := h n (by omega)
    have ih := xs_ll_c (q := q) (q2 := q2) (p := p) (n := n) (fun j hj => h j (by omega))
    unfold xs_ll
    rw [h1.1, h1.2, ih]
theorem xs_lm_c {q q2 : tb_Q} {sp a : Nat} : ∀ {n : Nat}, (∀ j, j < n → q2 1 (40 * a + j) = q 1 (40 * a + j) ∧ q2 2 (40 * a + j) = q 2 (40 * a + j) ∧ q2 3 (40 * a + j) = q 3 (40 * a + j)) → xs_lm q2 sp a n = xs_lm q sp a n
  | 0 => fun _ => rfl
  | n + 1 => fun h => by
    have h1 := h n (by omega)
    have ih := xs_lm_c (q := q) (q2 := q2) (sp := sp) (a := a) (n := n) (fun j hj => h j (by omega))
    unfold xs_lm
    rw [h1.1, h1.2.1, h1.2.2, ih]
theorem xs_bk_c {q q2 : tb_Q} {t p m : Nat} : ∀ {n : Nat}, (∀ j, j < n → q2 1 (40 * t + j) = q 1 (40 * t + j) ∧ q2 2 (40 * t + j) = q 2 (40 * t + j) ∧ q2 4 (40 * t + j) = q 4 (40 * t + j)) → xs_bk q2 t p m n = xs_bk q t p m n
  | 0 => fun _ => rfl
  | n + 1 => fun h => by
    have h1 := h n (by omega)
    have ih := xs_bk_c (q := q) (q2 := q2) (t := t) (p := p) (m := m) (n := n) (fun j hj => h j (by omega))
    unfold xs_bk
    rw [h1.1, h1.2.1, h1.2.2, ih]
section INS
variable {q q2 : tb_Q} {d e : Nat}
theorem xs_ins.r (hi : xs_ins q q2 d e) {r j : Nat} (h1 : 1 ≤ r) (h2 : r ≤ 5) (h : j ≠ e) : q2 r j = q r j := hi.2.2.2.2.2.1 r h1 h2 j h
theorem xs_ins.ll (hi : xs_ins q q2 d e) (hm : ∀ d, q 0 d ≤ 40) {p n : Nat} (hn : n ≤ q 0 0) : xs_ll q2 p n = xs_ll q p n := by
  refine xs_ll_c (fun j hj => ?_)
  have hje : j ≠ e := by
    intro z
    have h1 := hi.1
    have h0 := hm 0
    by_cases hd : d = 0
    · subst hd; omega
    · omega
  exact ⟨hi.r (by decide) (by decide) hje, hi.r (by decide) (by decide) hje⟩
theorem xs_ins.lm (hi : xs_ins q q2 d e) (hm : ∀ d, q 0 d ≤ 40) {sp a n : Nat} (hn : n ≤ q 0 a) : xs_lm q2 sp a n = xs_lm q sp a n := by
  refine xs_lm_c (fun j hj => ?_)
  have hje : 40 * a + j ≠ e := by
    intro z
    have h1 := hi.1
    have h0 := hm a
    have h2 := hi.2.2.1
    have hd : d = a := by omega
    subst hd
    omega
  exact ⟨hi.r (by decide) (by decide) hje, hi.r (by decide) (by decide) hje, hi.r (by decide) (by decide) hje⟩
theorem xs_ins.bk (hi : xs_ins q q2 d e) (hm : ∀ d, q 0 d ≤ 40) {t p m n : Nat} (hn : n ≤ q 0 t) : xs_bk q2 t p m n = xs_bk q t p m n := by
  refine xs_bk_c (fun j hj => ?_)
  have hje : 40 * t + j ≠ e := by
    intro z
    have h1 := hi.1
    have h0 := hm t
    have h2 := hi.2.2.1
    have hd : d = t := by omega
    subst hd
    omega
  exact ⟨hi.r (by decide) (by decide) hje, hi.r (by decide) (by decide) hje, hi.r (by decide) (by decide) hje⟩
theorem xs_ins.ll1 (hi : xs_ins q q2 d e) (hm : ∀ d, q 0 d ≤ 40) (p : Nat) (h : ¬ (d = 0 ∧ q2 1 e = 0 ∧ q2 2 e = p)) : xs_ll q2 p (q2 0 0) = xs_ll q p (q 0 0) := by
  by_cases hd : d = 0
  · subst hd
    have he : e = q 0 0 := by have := hi.1; omega
    rw [hi.2.2.2.1]
    show (if q2 1 (q 0 0) = 0 ∧ q2 2 (q 0 0) = p then some (q 0 0) else xs_ll q2 p (q 0 0)) = _
    rw [← he, if_neg (fun z => h ⟨rfl, z⟩), he]
    exact hi.ll hm (Nat.le_refl _)
  · rw [hi.2.2.2.2.1 0 (fun z => hd z.symm)]
    exact hi.ll hm (Nat.le_refl _)
theorem xs_ins.ll2 (hi : xs_ins q q2 0 e) {p : Nat} (h1 : q2 1 e = 0) (h2 : q2 2 e = p) : xs_ll q2 p (q2 0 0) = some e := by
  have he : e = q 0 0 := by have := hi.1; omega
  rw [hi.2.2.2.1]
  show (if q2 1 (q 0 0) = 0 ∧ q2 2 (q 0 0) = p then some (q 0 0) else xs_ll q2 p (q 0 0)) = _
  rw [← he, if_pos ⟨h1, h2⟩]
theorem xs_ins.lm1 (hi : xs_ins q q2 d e) (hm : ∀ d, q 0 d ≤ 40) (sp a : Nat) (h : ¬ (a = d ∧ q2 1 e = 2 ∧ 12 * q2 2 e + q2 3 e = sp)) : xs_lm q2 sp a (q2 0 a) = xs_lm q sp a (q 0 a) := by
  by_cases hd : a = d
  · subst hd
    rw [hi.2.2.2.1]
    show (if q2 1 (40 * a + q 0 a) = 2 ∧ 12 * q2 2 (40 * a + q 0 a) + q2 3 (40 * a + q 0 a) = sp then some (40 * a + q 0 a) else xs_lm q2 sp a (q 0 a)) = _
    rw [← hi.1, if_neg (fun z => h ⟨rfl, z⟩)]
    exact hi.lm hm (Nat.le_refl _)
  · rw [hi.2.2.2.2.1 a hd]
    exact hi.lm hm (Nat.le_refl _)
theorem xs_ins.lm2 (hi : xs_ins q q2 d e) {sp : Nat} (h1 : q2 1 e = 2) (h2 : 12 * q2 2 e + q2 3 e = sp) : xs_lm q2 sp d (q2 0 d) = some e := by
  rw [hi.2.2.2.1]
  show (if q2 1 (40 * d + q 0 d) = 2 ∧ 12 * q2 2 (40 * d + q 0 d) + q2 3 (40 * d + q 0 d) = sp then some (40 * d + q 0 d) else xs_lm q2 sp d (q 0 d)) = _
  rw [← hi.1, if_pos ⟨h1, h2⟩]
theorem xs_ins.bk1 (hi : xs_ins q q2 d e) (hm : ∀ d, q 0 d ≤ 40) (t p m : Nat) (h : ¬ (t = d ∧ q2 1 e = 1 ∧ q2 2 e = p ∧ q2 4 e = m)) : xs_bk q2 t p m (q2 0 t) = xs_bk q t p m (q 0 t) := by
  by_cases hd : t = d
  · subst hd
    rw [hi.2.2.2.1]
    show (if q2 1 (40 * t + q 0 t) = 1 ∧ q2 2 (40 * t + q 0 t) = p ∧ q2 4 (40 * t + q 0 t) = m then q 0 t + 1 else xs_bk q2 t p m (q 0 t)) = _
    rw [← hi.1, if_neg (fun z => h ⟨rfl, z⟩)]
    exact hi.bk hm (Nat.le_refl _)
  · rw [hi.2.2.2.2.1 t hd]
    exact hi.bk hm (Nat.le_refl _)
theorem xs_ins.bk2 (hi : xs_ins q q2 d e) {p m : Nat} (h1 : q2 1 e = 1) (h2 : q2 2 e = p) (h3 : q2 4 e = m) : xs_bk q2 d p m (q2 0 d) = q 0 d + 1 := by
  rw [hi.2.2.2.1]
  show (if q2 1 (40 * d + q 0 d) = 1 ∧ q2 2 (40 * d + q 0 d) = p ∧ q2 4 (40 * d + q 0 d) = m then q 0 d + 1 else xs_bk q2 d p m (q 0 d)) = _
  rw [← hi.1, if_pos ⟨h1, h2, h3⟩]
theorem xs_ins.L (hi : xs_ins q q2 d e) (hm : ∀ d, q 0 d ≤ 40) {j : Nat} (h : xs_isL q2 j) : (xs_isL q j ∧ j ≠ e) ∨ (d = 0 ∧ j = e ∧ q2 1 e = 0) := by
  by_cases hj : j = e
  · subst hj
    have h1 := hi.1
    have h2 := h.1
    by_cases hd : d = 0
    · exact Or.inr ⟨hd, rfl, h.2⟩
    · rw [hi.2.2.2.2.1 0 (fun z => hd z.symm)] at h2
      have := hm 0
      omega
  · refine Or.inl ⟨⟨?_, ?_⟩, hj⟩
    · have h2 := h.1
      by_cases hd : d = 0
      · subst hd
        rw [hi.2.2.2.1] at h2
        have := hi.1
        omega
      · rw [hi.2.2.2.2.1 0 (fun z => hd z.symm)] at h2
        exact h2
    · rw [← hi.r (by decide) (by decide) hj]
      exact h.2
theorem xs_ins.M (hi : xs_ins q q2 d e) {j : Nat} (h : xs_isM q2 j) : (xs_isM q j ∧ j ≠ e) ∨ (j = e ∧ q2 1 e = 2) := by
  by_cases hj : j = e
  · exact Or.inr ⟨hj, hj ▸ h.2.2⟩
  · refine Or.inl ⟨⟨h.1, ?_, ?_⟩, hj⟩
    · have h2 := h.2.1
      by_cases hd : j / 40 = d
      · rw [hd, hi.2.2.2.1] at h2
        rw [hd]
        have := hi.1
        omega
      · rw [hi.2.2.2.2.1 _ hd] at h2
        exact h2
    · rw [← hi.r (by decide) (by decide) hj]
      exact h.2.2
theorem xs_ins.eM (hi : xs_ins q q2 d e) (h : q2 1 e = 2) : xs_isM q2 e := by
  have h1 := hi.1
  have h2 := hi.2.1
  have h3 := hi.2.2.1
  have e1 : e / 40 = d := by omega
  exact ⟨by omega, by rw [e1, hi.2.2.2.1]; omega, h⟩
/-- the cells that show rows behind the sixth -/
theorem xs_ins.cell (hi : xs_ins q q2 d e) {κ : Nat → ClassId} {xd la ma la' ma' : Nat → Nat} {sc : xs_S} {i : Nat} (h29 : i < 29) (h15 : i ≠ 15) (h17 : i ≠ 17) : xs_cell κ xd la' ma' q2 sc i = xs_cell κ xd la ma q sc i := by
  have e7 := hi.2.2.2.2.2.2.2
  have hro : ∀ r d', 7 ≤ r → xs_row q2 r d' = xs_row q r d' := by
    intro r d' hr
    funext j
    unfold xs_row
    rw [e7 r hr]
  refine xs_29 (P := fun i => i ≠ 15 → i ≠ 17 → xs_cell κ xd la' ma' q2 sc i = xs_cell κ xd la ma q sc i) ?_ ?_ ?_ ?_ ?_ ?_ ?_ ?_ ?_ ?_ ?_ ?_ ?_ ?_ ?_ ?_ ?_ ?_ ?_ ?_ ?_ ?_ ?_ ?_ ?_ ?_ ?_ ?_ ?_ h29 h15 h17
  all_goals intro h15 h17
  all_goals first | exact absurd rfl h15 | exact absurd rfl h17 | simp only [xs_cell, hro 7 _ (by decide), hro 8 _ (by decide), e7 13 (by decide), e7 9 (by decide), e7 10 (by decide), e7 11 (by decide), e7 12 (by decide)]
theorem xs_ins.vec (hi : xs_ins q q2 d e) {κ : Nat → ClassId} {j : Nat} (hj : j ≠ e) : xs_vec κ q2 j = xs_vec κ q j := by
  unfold xs_vec
  have : (fun k => nI (xs_row q2 6 j k)) = fun k => nI (xs_row q 6 j k) := by
    funext k
    unfold xs_row
    by_cases hk : k < 5
    · rw [if_pos hk, if_pos hk, hi.2.2.2.2.2.2.1 j k hk hj]
    · rw [if_neg hk, if_neg hk]
  rw [this]
theorem xs_map_up {f : Nat → Nat} {o : Option Nat} {e a : Nat} (h : o ≠ some e) : o.map (va_up f e a) = o.map f := by
  cases o with
  | none => rfl
  | some j => exact congrArg some (va_up_ne _ _ (fun z => h (by rw [z])))
end INS
section INA
variable {κ : Nat → ClassId} {σ σ' : um_M} {xd la ma va : Nat → Nat} {q q2 : tb_Q} {sc : xs_S} {d e : Nat}
theorem xs_at.la15 (h : xs_at κ σ xd la ma va q sc) {j : Nat} (hj : xs_isL q j) {i : Nat} (hi : i < 29) : la j ≠ xd i := (h.2.2.1 j hj).ne (h.1 i hi) (fun z => (xs_cell_n hi _).1 z.symm)
theorem xs_at.ma15 (h : xs_at κ σ xd la ma va q sc) {j : Nat} (hj : xs_isM q j) {i : Nat} (hi : i < 29) : ma j ≠ xd i := (h.2.2.2 j hj).1.ne (h.1 i hi) (fun z => (xs_cell_n hi _).2 z.symm)
/-- a lend of the office -/
theorem xs_at.insL (h : xs_at κ σ xd la ma va q sc) (hm : ∀ d, q 0 d ≤ 40) (hlt : ∀ k, xs_isL q k → 1 ≤ q 4 k ∧ q 4 k < 5) (hi : xs_ins q q2 0 e) {p t n a : Nat} (k1 : q2 1 e = 0) (k2 : q2 2 e = p) (k4 : q2 4 e = t) (k5 : q2 5 e = n) (ht : 1 ≤ t) (hbk : xs_bk q t p n (q 0 t) = 0)
    (hf : ∀ b x, b ≠ xd 15 → um_h σ b x → um_h σ' b x) (h15 : um_h σ' (xd 15) (xs_R (κ 3) 6 (va_up (fun p => (xs_ll q p (q 0 0)).map la) p (some a)))) (hL : um_h σ' a (.inr (1, [.int (nI n), .int (nI (e + 1)), .int (nI t), va_rf ((xs_ll q p (q 0 0)).map la), .int 0]))) : xs_at κ σ' xd (va_up la e a) ma va q2 sc := by
  have he : e = q 0 0 := by have := hi.1; omega
  have hne : ∀ {p n : Nat}, n ≤ q 0 0 → xs_ll q p n ≠ some e := fun hn z => by
    have := (xs_ll_some z).1
    omega
  refine ⟨fun i h29 => ?_, h.2.1, fun j hj => ?_, fun j hj => ?_⟩
  · by_cases e15 : i = 15
    · subst e15
      have : (fun p => (xs_ll q2 p (q2 0 0)).map (va_up la e a)) = va_up (fun p => (xs_ll q p (q 0 0)).map la) p (some a) := by
        funext p'
        by_cases hp : p' = p
        · subst hp
          rw [va_up_self, hi.ll2 k1 k2]
          exact congrArg some (va_up_self _ _ _)
        · rw [va_up_ne _ _ hp, hi.ll1 hm p' (fun z => hp (by rw [← z.2.2, k2]))]
          exact xs_map_up (hne (Nat.le_refl _))
      show um_h σ' (xd 15) (xs_R (κ 3) 6 (fun p => (xs_ll q2 p (q2 0 0)).map (va_up la e a)))
      rw [this]
      exact h15
    · by_cases e17 : i = 17
      · subst e17
        refine hf _ _ (fun z => by have := h.2.1 17 15 (by decide) (by decide) z; omega) ?_
        have : (fun c => (xs_lm q2 (c / 5) (c % 5) (q2 0 (c % 5))).map ma) = fun c => (xs_lm q (c / 5) (c % 5) (q 0 (c % 5))).map ma := by
          funext c
          rw [hi.lm1 hm _ _ (fun z => by rw [k1] at z; exact absurd z.2.1 (by decide))]
        show um_h σ (xd 17) (xs_R (κ 4) 360 (fun c => (xs_lm q2 (c / 5) (c % 5) (q2 0 (c % 5))).map ma))
        rw [this]
        exact h.c17
      · rw [hi.cell h29 e15 e17 (la := la) (ma := ma)]
        exact hf _ _ (fun z => e15 (h.2.1 i 15 h29 (by decide) z)) (h.1 i h29)
  · rcases hi.L hm hj with ⟨h1, h2⟩ | ⟨-, h2, -⟩
    · rw [va_up_ne _ _ h2]
      have h3 := h.2.2.1 j h1
      have h4 : xs_lend (va_up la e a) q2 j = xs_lend la q j := by
        unfold xs_lend
        rw [hi.r (by decide) (by decide) h2, hi.r (by decide) (by decide) h2, hi.r (by decide) (by decide) h2, hi.ll hm (Nat.le_of_lt h1.1), hi.bk1 hm _ _ _ (fun z => by have := (hlt j h1).1; omega), xs_map_up (hne (Nat.le_of_lt h1.1))]
      rw [h4]
      exact hf _ _ (h.la15 h1 (by decide)) h3
    · subst h2
      rw [va_up_self]
      have h4 : xs_lend (va_up la j a) q2 j = .inr (1, [.int (nI n), .int (nI (j + 1)), .int (nI t), va_rf ((xs_ll q p (q 0 0)).map la), .int 0]) := by
        unfold xs_lend
        rw [k5, k4, k2, hi.ll hm (by omega), hi.bk1 hm _ _ _ (fun z => by omega), hbk, xs_map_up (hne (by omega)), he]
        rfl
      rw [h4]
      exact hL
  · rcases hi.M hj with ⟨h1, h2⟩ | ⟨h2, h3⟩
    · obtain ⟨a1, a2, a3⟩ := h.2.2.2 j h1
      have h4 : xs_meas ma va q2 j = xs_meas ma va q j := by
        unfold xs_meas
        have hle : j % 40 ≤ q 0 (j / 40) := Nat.le_of_lt h1.2.1
        rw [hi.r (by decide) (by decide) h2, hi.r (by decide) (by decide) h2, hi.r (by decide) (by decide) h2, hi.r (by decide) (by decide) h2, hi.lm hm hle]
      rw [h4, hi.vec h2]
      exact ⟨hf _ _ (h.ma15 h1 (by decide)) a1, hf _ _ (a3 15 (by decide)) a2, a3⟩
    · rw [k1] at h3
      exact absurd h3 (by decide)
/-- a value of device d -/
theorem xs_at.insM (h : xs_at κ σ xd la ma va q sc) (hm : ∀ d, q 0 d ≤ 40) (hi : xs_ins q q2 d e) {p f w n a b : Nat} (k1 : q2 1 e = 2) (k2 : q2 2 e = p) (k3 : q2 3 e = f) (k4 : q2 4 e = w) (k5 : q2 5 e = n) (hsp : 12 * p + f < 72)
    (hv : um_h σ' b (xs_vec κ q2 e)) (hvb : ∀ i, i < 29 → b ≠ xd i)
    (hf : ∀ b x, b ≠ xd 17 → um_h σ b x → um_h σ' b x) (h17 : um_h σ' (xd 17) (xs_R (κ 4) 360 (va_up (fun c => (xs_lm q (c / 5) (c % 5) (q 0 (c % 5))).map ma) ((12 * p + f) * 5 + d) (some a)))) (hM : um_h σ' a (.inr (3, [.int (nI d), .int (nI (q 0 d + 1)), .int (nI w), .int (nI n), .ref b, va_rf ((xs_lm q (12 * p + f) d (q 0 d)).map ma)]))) : xs_at κ σ' xd la (va_up ma e a) (va_up va e b) q2 sc := by
  have he := hi.1
  have hd5 := hi.2.1
  have hq40 := hi.2.2.1
  have ed : e / 40 = d := by omega
  have em : e % 40 = q 0 d := by omega
  have hne : ∀ {sp a n : Nat}, n ≤ q 0 a → xs_lm q sp a n ≠ some e := fun {sp a n} hn z => by
    have h1 := xs_lm_some z
    have := hm a
    have : a = d := by omega
    subst this
    omega
  refine ⟨fun i h29 => ?_, h.2.1, fun j hj => ?_, fun j hj => ?_⟩
  · by_cases e17 : i = 17
    · subst e17
      have : (fun c => (xs_lm q2 (c / 5) (c % 5) (q2 0 (c % 5))).map (va_up ma e a)) = va_up (fun c => (xs_lm q (c / 5) (c % 5) (q 0 (c % 5))).map ma) ((12 * p + f) * 5 + d) (some a) := by
        funext c
        by_cases hc : c = (12 * p + f) * 5 + d
        · subst hc
          rw [va_up_self, show ((12 * p + f) * 5 + d) / 5 = 12 * p + f by omega, show ((12 * p + f) * 5 + d) % 5 = d by omega, hi.lm2 k1 (by rw [k2, k3])]
          exact congrArg some (va_up_self _ _ _)
        · rw [va_up_ne _ _ hc, hi.lm1 hm _ _ (fun z => hc (by rw [k2, k3] at z; omega))]
          exact xs_map_up (hne (Nat.le_refl _))
      show um_h σ' (xd 17) (xs_R (κ 4) 360 (fun c => (xs_lm q2 (c / 5) (c % 5) (q2 0 (c % 5))).map (va_up ma e a)))
      rw [this]
      exact h17
    · by_cases e15 : i = 15
      · subst e15
        refine hf _ _ (fun z => by have := h.2.1 15 17 (by decide) (by decide) z; omega) ?_
        have : (fun p => (xs_ll q2 p (q2 0 0)).map la) = fun p => (xs_ll q p (q 0 0)).map la := by
          funext p'
          rw [hi.ll1 hm _ (fun z => by rw [k1] at z; exact absurd z.2.1 (by decide))]
        show um_h σ (xd 15) (xs_R (κ 3) 6 (fun p => (xs_ll q2 p (q2 0 0)).map la))
        rw [this]
        exact h.c15
      · rw [hi.cell h29 e15 e17 (la := la) (ma := ma)]
        exact hf _ _ (fun z => e17 (h.2.1 i 17 h29 (by decide) z)) (h.1 i h29)
  · rcases hi.L hm hj with ⟨h1, h2⟩ | ⟨-, -, h2⟩
    · have h3 := h.2.2.1 j h1
      have h4 : xs_lend la q2 j = xs_lend la q j := by
        unfold xs_lend
        rw [hi.r (by decide) (by decide) h2, hi.r (by decide) (by decide) h2, hi.r (by decide) (by decide) h2, hi.ll hm (Nat.le_of_lt h1.1), hi.bk1 hm _ _ _ (fun z => by rw [k1] at z; exact absurd z.2.1 (by decide))]
      rw [h4]
      exact hf _ _ (h.la15 h1 (by decide)) h3
    · rw [k1] at h2
      exact absurd h2 (by decide)
  · rcases hi.M hj with ⟨h1, h2⟩ | ⟨h2, h3⟩
    · obtain ⟨a1, a2, a3⟩ := h.2.2.2 j h1
      have hle : j % 40 ≤ q 0 (j / 40) := Nat.le_of_lt h1.2.1
      have h4 : xs_meas (va_up ma e a) (va_up va e b) q2 j = xs_meas ma va q j := by
        unfold xs_meas
        rw [hi.r (by decide) (by decide) h2, hi.r (by decide) (by decide) h2, hi.r (by decide) (by decide) h2, hi.r (by decide) (by decide) h2, hi.lm hm hle, xs_map_up (hne hle), va_up_ne _ _ h2]
      rw [h4, hi.vec h2, va_up_ne _ _ h2, va_up_ne _ _ h2]
      exact ⟨hf _ _ (h.ma15 h1 (by decide)) a1, hf _ _ (a3 17 (by decide)) a2, a3⟩
    · subst h2
      rw [va_up_self, va_up_self]
      refine ⟨?_, hv, hvb⟩
      have h4 : xs_meas (va_up ma j a) (va_up va j b) q2 j = .inr (3, [.int (nI d), .int (nI (q 0 d + 1)), .int (nI w), .int (nI n), .ref b, va_rf ((xs_lm q (12 * p + f) d (q 0 d)).map ma)]) := by
        unfold xs_meas
        rw [k5, k4, k3, k2, ed, em, hi.lm hm (Nat.le_refl _), xs_map_up (hne (Nat.le_refl _)), va_up_self]
      rw [h4]
      exact hM
/-- a plot is given back: the lend k says so -/
theorem xs_at.insB (h : xs_at κ σ xd la ma va q sc) (hm : ∀ d, q 0 d ≤ 40) (hi : xs_ins q q2 d e) {k : Nat} (k1 : q2 1 e = 1) (hk : xs_isL q k) (k2 : q2 2 e = q 2 k) (k4 : q2 4 e = q 5 k) (kd : q 4 k = d) (hu : ∀ j, xs_isL q j → q 2 j = q 2 k → q 5 j = q 5 k → j = k) (hla : ∀ j, xs_isL q j → j ≠ k → la j ≠ la k)
    (hf : ∀ b x, b ≠ la k → um_h σ b x → um_h σ' b x) (hL : um_h σ' (la k) (.inr (1, [.int (nI (q 5 k)), .int (nI (k + 1)), .int (nI (q 4 k)), va_rf ((xs_ll q (q 2 k) k).map la), .int (nI (q 0 d + 1))]))) : xs_at κ σ' xd la ma va q2 sc := by
  have he := hi.1
  refine ⟨fun i h29 => ?_, h.2.1, fun j hj => ?_, fun j hj => ?_⟩
  · refine hf _ _ (h.la15 hk h29).symm ?_
    by_cases e15 : i = 15
    · subst e15
      have : (fun p => (xs_ll q2 p (q2 0 0)).map la) = fun p => (xs_ll q p (q 0 0)).map la := by
        funext p'
        rw [hi.ll1 hm _ (fun z => by rw [k1] at z; exact absurd z.2.1 (by decide))]
      show um_h σ (xd 15) (xs_R (κ 3) 6 (fun p => (xs_ll q2 p (q2 0 0)).map la))
      rw [this]
      exact h.c15
    · by_cases e17 : i = 17
      · subst e17
        have : (fun c => (xs_lm q2 (c / 5) (c % 5) (q2 0 (c % 5))).map ma) = fun c => (xs_lm q (c / 5) (c % 5) (q 0 (c % 5))).map ma := by
          funext c
          rw [hi.lm1 hm _ _ (fun z => by rw [k1] at z; exact absurd z.2.1 (by decide))]
        show um_h σ (xd 17) (xs_R (κ 4) 360 (fun c => (xs_lm q2 (c / 5) (c % 5) (q2 0 (c % 5))).map ma))
        rw [this]
        exact h.c17
      · rw [hi.cell h29 e15 e17 (la := la) (ma := ma)]
        exact h.1 i h29
  · rcases hi.L hm hj with ⟨h1, h2⟩ | ⟨-, -, h2⟩
    · by_cases hjk : j = k
      · subst hjk
        have h4 : xs_lend la q2 j = .inr (1, [.int (nI (q 5 j)), .int (nI (j + 1)), .int (nI (q 4 j)), va_rf ((xs_ll q (q 2 j) j).map la), .int (nI (q 0 d + 1))]) := by
          unfold xs_lend
          rw [hi.r (by decide) (by decide) h2, hi.r (by decide) (by decide) h2, hi.r (by decide) (by decide) h2, hi.ll hm (Nat.le_of_lt h1.1), kd, hi.bk2 k1 k2 k4]
        rw [h4]
        exact hL
      · have h3 := h.2.2.1 j h1
        have h4 : xs_lend la q2 j = xs_lend la q j := by
          unfold xs_lend
          rw [hi.r (by decide) (by decide) h2, hi.r (by decide) (by decide) h2, hi.r (by decide) (by decide) h2, hi.ll hm (Nat.le_of_lt h1.1), hi.bk1 hm _ _ _ (fun z => hjk (hu j h1 (by rw [← k2]; exact z.2.2.1.symm) (by rw [← k4]; exact z.2.2.2.symm)))]
        rw [h4]
        exact hf _ _ (hla j h1 hjk) h3
    · rw [k1] at h2
      exact absurd h2 (by decide)
  · rcases hi.M hj with ⟨h1, h2⟩ | ⟨h2, h3⟩
    · obtain ⟨a1, a2, a3⟩ := h.2.2.2 j h1
      have hle : j % 40 ≤ q 0 (j / 40) := Nat.le_of_lt h1.2.1
      have h4 : xs_meas ma va q2 j = xs_meas ma va q j := by
        unfold xs_meas
        rw [hi.r (by decide) (by decide) h2, hi.r (by decide) (by decide) h2, hi.r (by decide) (by decide) h2, hi.r (by decide) (by decide) h2, hi.lm hm hle]
      rw [h4, hi.vec h2]
      have n1 : ma j ≠ la k := a1.ne (h.2.2.1 k hk) (fun z => by unfold xs_meas xs_lend at z; injection z with z; injection z with z1 z2; exact absurd z1 (by decide))
      have n2 : va j ≠ la k := a2.ne (h.2.2.1 k hk) (fun z => by unfold xs_vec xs_lend at z; cases z)
      exact ⟨hf _ _ n1 a1, hf _ _ n2 a2, a3⟩
    · rw [k1] at h3
      exact absurd h3 (by decide)
theorem xs_at.laI (h : xs_at κ σ xd la ma va q sc) (hm : ∀ d, q 0 d ≤ 40) {j k : Nat} (hj : xs_isL q j) (hk : xs_isL q k) (hn : j ≠ k) : la j ≠ la k := by
  intro z
  have h1 := h.2.2.1 j hj
  have h2 := h.2.2.1 k hk
  rw [z] at h1
  have h3 := h1.inj h2
  unfold xs_lend at h3
  simp only [Sum.inr.injEq, Prod.mk.injEq, List.cons.injEq, Value.int.injEq] at h3
  have a1 := hj.1
  have a2 := hk.1
  have := hm 0
  have g2 := (nI_eq (a := j + 1) (b := k + 1) (by omega) (by omega)).mp h3.2.2.1
  omega
end INA
