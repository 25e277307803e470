/-! The class's objects and arrays, as the same picture. xd: where its 29 fixed cells lie; la, ma, va: where the lend of an office's entry, the measure and the vector of an entry lie; sc: what is only scratch. -/
abbrev xs_S : Type := (Nat → Nat → Option Nat) × (Nat → Int64) × (Nat → Int32) × (Nat → Int32)
/-- the last lend of plot p among the office's first n entries -/
def xs_ll (q : tb_Q) (p : Nat) : Nat → Option Nat
  | 0 => none
  | n + 1 => if q 1 n = 0 ∧ q 2 n = p then some n else xs_ll q p n
/-- the last value of spot sp among author a's first n entries -/
def xs_lm (q : tb_Q) (sp a : Nat) : Nat → Option Nat
  | 0 => none
  | n + 1 => if q 1 (40 * a + n) = 2 ∧ 12 * q 2 (40 * a + n) + q 3 (40 * a + n) = sp then some (40 * a + n) else xs_lm q sp a n
/-- the number of the entry, among device t's first n, that gave lend m of plot p back; 0 none -/
def xs_bk (q : tb_Q) (t p m : Nat) : Nat → Nat
  | 0 => 0
  | n + 1 => if q 1 (40 * t + n) = 1 ∧ q 2 (40 * t + n) = p ∧ q 4 (40 * t + n) = m then n + 1 else xs_bk q t p m n
def xs_row (q : tb_Q) (r d j : Nat) : Nat := if j < 5 then q r (5 * d + j) else 0
def xs_rows (f : Nat → Nat) (b : Nat) (j : Nat) : Option Nat := if j < 5 then some (f (b + j)) else none
abbrev xs_A (c : ClassId) (n : Nat) (f : Nat → Int32) : va_E := .inl (c, n, .inl f)
abbrev xs_R (c : ClassId) (n : Nat) (f : Nat → Option Nat) : va_E := .inl (c, n, .inr (.inr (.inr (.inr f))))
def xs_cell (κ : Nat → ClassId) (xd la ma : Nat → Nat) (q : tb_Q) (sc : xs_S) (i : Nat) : va_E := match i with
  | 0 => .inr (8, [.ref (xd 1), .ref (xd 14), .ref (xd 16), .ref (xd 21), .ref (xd 25), .ref (xd 26), .ref (xd 27), .ref (xd 28)])
  | 1 => .inr (0, [.ref (xd 2), .ref (xd 3), .int (tb_m1 (q 13 0)), .int (tb_m1 (q 13 1))])
  | 2 => xs_R (κ 2) 5 (xs_rows xd 4)
  | 3 => xs_R (κ 2) 5 (xs_rows xd 9)
  | 4 => xs_A (κ 0) 5 (fun j => nI (xs_row q 7 0 j))
  | 5 => xs_A (κ 0) 5 (fun j => nI (xs_row q 7 1 j))
  | 6 => xs_A (κ 0) 5 (fun j => nI (xs_row q 7 2 j))
  | 7 => xs_A (κ 0) 5 (fun j => nI (xs_row q 7 3 j))
  | 8 => xs_A (κ 0) 5 (fun j => nI (xs_row q 7 4 j))
  | 9 => xs_A (κ 0) 5 (fun j => nI (xs_row q 8 0 j))
  | 10 => xs_A (κ 0) 5 (fun j => nI (xs_row q 8 1 j))
  | 11 => xs_A (κ 0) 5 (fun j => nI (xs_row q 8 2 j))
  | 12 => xs_A (κ 0) 5 (fun j => nI (xs_row q 8 3 j))
  | 13 => xs_A (κ 0) 5 (fun j => nI (xs_row q 8 4 j))
  | 14 => .inr (2, [.ref (xd 15)])
  | 15 => xs_R (κ 3) 6 (fun p => (xs_ll q p (q 0 0)).map la)
  | 16 => .inr (4, [.ref (xd 17), .ref (xd 18), .ref (xd 19), .ref (xd 20), .int (sc.2.2.1 0), .int (sc.2.2.1 1)])
  | 17 => xs_R (κ 4) 360 (fun c => (xs_lm q (c / 5) (c % 5) (q 0 (c % 5))).map ma)
  | 18 => xs_R (κ 4) 5 (sc.1 0)
  | 19 => xs_R (κ 4) 5 (sc.1 1)
  | 20 => xs_R (κ 4) 5 (sc.1 2)
  | 21 => .inr (7, [.ref (xd 22), .ref (xd 23), .ref (xd 24)])
  | 22 => xs_A (κ 0) 4 (fun j => nI (q 9 j))
  | 23 => xs_A (κ 0) 4 (fun j => nI (q 10 j))
  | 24 => xs_A (κ 0) 4 (fun j => nI (q 11 j))
  | 25 => .inr (5, [.long (sc.2.1 0), .long (sc.2.1 1), .int (sc.2.2.1 2), .int (sc.2.2.1 3)])
  | 26 => .inr (6, [.long (sc.2.1 2), .long (sc.2.1 3), .int (sc.2.2.1 4), .int (sc.2.2.1 5)])
  | 27 => xs_A (κ 0) 6 (fun j => nI (q 12 j))
  | _ => xs_A (κ 0) 3 sc.2.2.2
def xs_lend (la : Nat → Nat) (q : tb_Q) (k : Nat) : va_E := .inr (1, [.int (nI (q 5 k)), .int (nI (k + 1)), .int (nI (q 4 k)), va_rf ((xs_ll q (q 2 k) k).map la), .int (nI (xs_bk q (q 4 k) (q 2 k) (q 5 k) (q 0 (q 4 k))))])
def xs_meas (ma va : Nat → Nat) (q : tb_Q) (e : Nat) : va_E := .inr (3, [.int (nI (e / 40)), .int (nI (e % 40 + 1)), .int (nI (q 4 e)), .int (nI (q 5 e)), .ref (va e), va_rf ((xs_lm q (12 * q 2 e + q 3 e) (e / 40) (e % 40)).map ma)])
def xs_vec (κ : Nat → ClassId) (q : tb_Q) (e : Nat) : va_E := xs_A (κ 0) 5 (fun j => nI (xs_row q 6 e j))
/-- entry e is a value; entry k of the office is a lend -/
def xs_isM (q : tb_Q) (e : Nat) : Prop := e < 200 ∧ e % 40 < q 0 (e / 40) ∧ q 1 e = 2
def xs_isL (q : tb_Q) (k : Nat) : Prop := k < q 0 0 ∧ q 1 k = 0
def xs_pool (κ : Nat → ClassId) (σ : um_M) (xd la ma va : Nat → Nat) (q : tb_Q) : Prop :=
  (∀ k, xs_isL q k → um_h σ (la k) (xs_lend la q k)) ∧ ∀ e, xs_isM q e → um_h σ (ma e) (xs_meas ma va q e) ∧ um_h σ (va e) (xs_vec κ q e) ∧ ∀ i, i < 29 → va e ≠ xd i
def xs_at (κ : Nat → ClassId) (σ : um_M) (xd la ma va : Nat → Nat) (q : tb_Q) (sc : xs_S) : Prop :=
  (∀ i, i < 29 → um_h σ (xd i) (xs_cell κ xd la ma q sc i)) ∧ (∀ i j, i < 29 → j < 29 → xd i = xd j → i = j) ∧ xs_pool κ σ xd la ma va q
theorem xs_29 {P : Nat → Prop} (h0 : P 0) (h1 : P 1) (h2 : P 2) (h3 : P 3) (h4 : P 4) (h5 : P 5) (h6 : P 6) (h7 : P 7) (h8 : P 8) (h9 : P 9) (h10 : P 10) (h11 : P 11) (h12 : P 12) (h13 : P 13) (h14 : P 14) (h15 : P 15) (h16 : P 16) (h17 : P 17) (h18 : P 18) (h19 : P 19) (h20 : P 20) (h21 : P 21) (h22 : P 22) (h23 : P 23) (h24 : P 24) (h25 : P 25) (h26 : P 26) (h27 : P 27) (h28 : P 28) {i : Nat} (hi : i < 29) : P i := by
  have h : i = 0 ∨ i = 1 ∨ i = 2 ∨ i = 3 ∨ i = 4 ∨ i = 5 ∨ i = 6 ∨ i = 7 ∨ i = 8 ∨ i = 9 ∨ i = 10 ∨ i = 11 ∨ i = 12 ∨ i = 13 ∨ i = 14 ∨ i = 15 ∨ i = 16 ∨ i = 17 ∨ i = 18 ∨ i = 19 ∨ i = 20 ∨ i = 21 ∨ i = 22 ∨ i = 23 ∨ i = 24 ∨ i = 25 ∨ i = 26 ∨ i = 27 ∨ i = 28 := by omega
  rcases h with rfl | rfl | rfl | rfl | rfl | rfl | rfl | rfl | rfl | rfl | rfl | rfl | rfl | rfl | rfl | rfl | rfl | rfl | rfl | rfl | rfl | rfl | rfl | rfl | rfl | rfl | rfl | rfl | rfl <;> assumption
theorem xs_cell_n {κ : Nat → ClassId} {xd la ma : Nat → Nat} {q : tb_Q} {sc : xs_S} {i : Nat} (hi : i < 29) (fs : List Value) : xs_cell κ xd la ma q sc i ≠ .inr (1, fs) ∧ xs_cell κ xd la ma q sc i ≠ .inr (3, fs) := by
  refine xs_29 (P := fun i => xs_cell κ xd la ma q sc i ≠ .inr (1, fs) ∧ xs_cell κ xd la ma q sc i ≠ .inr (3, fs)) ?_ ?_ ?_ ?_ ?_ ?_ ?_ ?_ ?_ ?_ ?_ ?_ ?_ ?_ ?_ ?_ ?_ ?_ ?_ ?_ ?_ ?_ ?_ ?_ ?_ ?_ ?_ ?_ ?_ hi <;> exact ⟨fun z => (by cases z), fun z => (by cases z)⟩
theorem xs_pool.up {κ : Nat → ClassId} {σ : um_M} {xd la ma va : Nat → Nat} {q : tb_Q} {sc : xs_S} (h : xs_at κ σ xd la ma va q sc) {k : Nat} (hk : k < 29) (e : va_E) : xs_pool κ (um_up σ (xd k) e) xd la ma va q := by
  refine ⟨fun j hj => ?_, fun j hj => ?_⟩
  · exact (h.2.2.1 j hj).up ((h.2.2.1 j hj).ne (h.1 k hk) (fun z => (xs_cell_n hk _).1 z.symm))
  · obtain ⟨a1, a2, a3⟩ := h.2.2.2 j hj
    exact ⟨a1.up (a1.ne (h.1 k hk) (fun z => (xs_cell_n hk _).2 z.symm)), a2.up (a3 k hk), a3⟩
theorem xs_pool.congr {κ : Nat → ClassId} {σ : um_M} {xd la ma va : Nat → Nat} {q q' : tb_Q} (h : xs_pool κ σ xd la ma va q) (hq : ∀ r, r ≤ 6 → q' r = q r) : xs_pool κ σ xd la ma va q' := by
  have e0 := hq 0 (by decide)
  have e1 := hq 1 (by decide)
  have e2 := hq 2 (by decide)
  have e3 := hq 3 (by decide)
  have e4 := hq 4 (by decide)
  have e5 := hq 5 (by decide)
  have e6 := hq 6 (by decide)
  have hll : ∀ p n, xs_ll q' p n = xs_ll q p n := by
    intro p n
    induction n with
    | zero => rfl
    | succ n ih => unfold xs_ll; rw [e1, e2, ih]
  have hlm : ∀ sp a n, xs_lm q' sp a n = xs_lm q sp a n := by
    intro sp a n
    induction n with
    | zero => rfl
    | succ n ih => unfold xs_lm; rw [e1, e2, e3, ih]
  have hbk : ∀ t p m n, xs_bk q' t p m n = xs_bk q t p m n := by
    intro t p m n
    induction n with
    | zero => rfl
    | succ n ih => unfold xs_bk; rw [e1, e2, e4, ih]
  refine ⟨fun k hk => ?_, fun e he => ?_⟩
  · unfold xs_isL at hk
    rw [e0, e1] at hk
    have := h.1 k hk
    unfold xs_lend at this ⊢
    rw [e5, e4, e2, e0, hll, hbk]
    exact this
  · unfold xs_isM at he
    rw [e0, e1] at he
    obtain ⟨a1, a2, a3⟩ := h.2 e he
    refine ⟨?_, ?_, a3⟩
    · unfold xs_meas at a1 ⊢
      rw [e4, e5, e2, e3, hlm]
      exact a1
    · unfold xs_vec xs_row at a2 ⊢
      rw [e6]
      exact a2
/-- one fixed cell changes; of the picture only rows behind the sixth -/
theorem xs_at.flat {κ : Nat → ClassId} {σ : um_M} {xd la ma va : Nat → Nat} {q q' : tb_Q} {sc sc' : xs_S} (h : xs_at κ σ xd la ma va q sc) (k : Nat) (hk : k < 29) (hq : ∀ r, r ≤ 6 → q' r = q r) (hc : ∀ i, i < 29 → i ≠ k → xs_cell κ xd la ma q' sc' i = xs_cell κ xd la ma q sc i) {e : va_E} (he : e = xs_cell κ xd la ma q' sc' k) : xs_at κ (um_up σ (xd k) e) xd la ma va q' sc' := by
  subst he
  refine ⟨fun i hi => ?_, h.2.1, (xs_pool.up h hk _).congr hq⟩
  by_cases e : i = k
  · subst e
    exact (h.1 i hi).self
  · rw [hc i hi e]
    exact (h.1 i hi).up (fun z => e (h.2.1 i k hi hk z))
theorem xs_at.row {κ : Nat → ClassId} {σ : um_M} {xd la ma va : Nat → Nat} {q : tb_Q} {sc : xs_S} (h : xs_at κ σ xd la ma va q sc) {d : Nat} (hd : d < 5) : um_h σ (xd (4 + d)) (xs_A (κ 0) 5 (fun j => nI (xs_row q 7 d j))) := by
  have h5 : d = 0 ∨ d = 1 ∨ d = 2 ∨ d = 3 ∨ d = 4 := by omega
  rcases h5 with rfl | rfl | rfl | rfl | rfl
  · exact h.1 4 (by decide)
  · exact h.1 5 (by decide)
  · exact h.1 6 (by decide)
  · exact h.1 7 (by decide)
  · exact h.1 8 (by decide)
theorem xs_at.kep {κ : Nat → ClassId} {σ : um_M} {xd la ma va : Nat → Nat} {q : tb_Q} {sc : xs_S} (h : xs_at κ σ xd la ma va q sc) {d : Nat} (hd : d < 5) : um_h σ (xd (9 + d)) (xs_A (κ 0) 5 (fun j => nI (xs_row q 8 d j))) := by
  have h5 : d = 0 ∨ d = 1 ∨ d = 2 ∨ d = 3 ∨ d = 4 := by omega
  rcases h5 with rfl | rfl | rfl | rfl | rfl
  · exact h.1 9 (by decide)
  · exact h.1 10 (by decide)
  · exact h.1 11 (by decide)
  · exact h.1 12 (by decide)
  · exact h.1 13 (by decide)
theorem xs_rows_i {f : Nat → Nat} {b j : Nat} (h : j < 5) : xs_rows f b j = some (f (b + j)) := if_pos h
theorem xs_row_i {q : tb_Q} {r d j : Nat} (h : j < 5) : xs_row q r d j = q r (5 * d + j) := if_pos h
/-- row d of the known counts becomes that of q' -/
theorem xs_at.setKn {κ : Nat → ClassId} {σ : um_M} {xd la ma va : Nat → Nat} {q q' : tb_Q} {sc : xs_S} (h : xs_at κ σ xd la ma va q sc) {d : Nat} (hd : d < 5) (hq : ∀ r, r ≠ 7 → q' r = q r) (hr : ∀ d' j, d' < 5 → j < 5 → d' ≠ d → q' 7 (5 * d' + j) = q 7 (5 * d' + j)) {f : Nat → Int32} (hf : f = fun j => nI (xs_row q' 7 d j)) : xs_at κ (um_up σ (xd (4 + d)) (xs_A (κ 0) 5 f)) xd la ma va q' sc := by
  have hro : ∀ d', d' < 5 → d' ≠ d → xs_row q' 7 d' = xs_row q 7 d' := by
    intro d' h1 h2
    funext j
    unfold xs_row
    split
    · rename_i hj
      exact hr d' j h1 hj h2
    · rfl
  have h8 : ∀ d', xs_row q' 8 d' = xs_row q 8 d' := by
    intro d'
    funext j
    unfold xs_row
    rw [hq 8 (by decide)]
  have hll : ∀ p n, xs_ll q' p n = xs_ll q p n := by
    intro p n
    induction n with
    | zero => rfl
    | succ n ih => unfold xs_ll; rw [hq 1 (by decide), hq 2 (by decide), ih]
  have hlm : ∀ sp a n, xs_lm q' sp a n = xs_lm q sp a n := by
    intro sp a n
    induction n with
    | zero => rfl
    | succ n ih => unfold xs_lm; rw [hq 1 (by decide), hq 2 (by decide), hq 3 (by decide), ih]
  subst hf
  refine h.flat (4 + d) (by omega) (fun r hr => hq r (by omega)) (fun i hi hn => ?_) ?_
  · refine xs_29 (P := fun i => i ≠ 4 + d → xs_cell κ xd la ma q' sc i = xs_cell κ xd la ma q sc i) ?_ ?_ ?_ ?_ ?_ ?_ ?_ ?_ ?_ ?_ ?_ ?_ ?_ ?_ ?_ ?_ ?_ ?_ ?_ ?_ ?_ ?_ ?_ ?_ ?_ ?_ ?_ ?_ ?_ hi hn
    all_goals intro hn
    all_goals simp only [xs_cell, h8, hll, hlm, hq 13 (by decide), hq 0 (by decide), hq 9 (by decide), hq 10 (by decide), hq 11 (by decide), hq 12 (by decide)]
    · rw [hro 0 (by omega) (by omega)]
    · rw [hro 1 (by omega) (by omega)]
    · rw [hro 2 (by omega) (by omega)]
    · rw [hro 3 (by omega) (by omega)]
    · rw [hro 4 (by omega) (by omega)]
  · have h5 : d = 0 ∨ d = 1 ∨ d = 2 ∨ d = 3 ∨ d = 4 := by omega
    rcases h5 with rfl | rfl | rfl | rfl | rfl <;> rfl
theorem xs_at.setKp {κ : Nat → ClassId} {σ : um_M} {xd la ma va : Nat → Nat} {q q' : tb_Q} {sc : xs_S} (h : xs_at κ σ xd la ma va q sc) {d : Nat} (hd : d < 5) (hq : ∀ r, r ≠ 8 → q' r = q r) (hr : ∀ d' j, d' < 5 → j < 5 → d' ≠ d → q' 8 (5 * d' + j) = q 8 (5 * d' + j)) {f : Nat → Int32} (hf : f = fun j => nI (xs_row q' 8 d j)) : xs_at κ (um_up σ (xd (9 + d)) (xs_A (κ 0) 5 f)) xd la ma va q' sc := by
  have hro : ∀ d', d' < 5 → d' ≠ d → xs_row q' 8 d' = xs_row q 8 d' := by
    intro d' h1 h2
    funext j
    unfold xs_row
    split
    · rename_i hj
      exact hr d' j h1 hj h2
    · rfl
  have h8 : ∀ d', xs_row q' 7 d' = xs_row q 7 d' := by
    intro d'
    funext j
    unfold xs_row
    rw [hq 7 (by decide)]
  have hll : ∀ p n, xs_ll q' p n = xs_ll q p n := by
    intro p n
    induction n with
    | zero => rfl
    | succ n ih => unfold xs_ll; rw [hq 1 (by decide), hq 2 (by decide), ih]
  have hlm : ∀ sp a n, xs_lm q' sp a n = xs_lm q sp a n := by
    intro sp a n
    induction n with
    | zero => rfl
    | succ n ih => unfold xs_lm; rw [hq 1 (by decide), hq 2 (by decide), hq 3 (by decide), ih]
  subst hf
  refine h.flat (9 + d) (by omega) (fun r hr => hq r (by omega)) (fun i hi hn => ?_) ?_
  · refine xs_29 (P := fun i => i ≠ 9 + d → xs_cell κ xd la ma q' sc i = xs_cell κ xd la ma q sc i) ?_ ?_ ?_ ?_ ?_ ?_ ?_ ?_ ?_ ?_ ?_ ?_ ?_ ?_ ?_ ?_ ?_ ?_ ?_ ?_ ?_ ?_ ?_ ?_ ?_ ?_ ?_ ?_ ?_ hi hn
    all_goals intro hn
    all_goals simp only [xs_cell, h8, hll, hlm, hq 13 (by decide), hq 0 (by decide), hq 9 (by decide), hq 10 (by decide), hq 11 (by decide), hq 12 (by decide)]
    · rw [hro 0 (by omega) (by omega)]
    · rw [hro 1 (by omega) (by omega)]
    · rw [hro 2 (by omega) (by omega)]
    · rw [hro 3 (by omega) (by omega)]
    · rw [hro 4 (by omega) (by omega)]
  · have h5 : d = 0 ∨ d = 1 ∨ d = 2 ∨ d = 3 ∨ d = 4 := by omega
    rcases h5 with rfl | rfl | rfl | rfl | rfl <;> rfl
