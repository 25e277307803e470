/-! The notebook's page says what the reference finds. -/
/-- the numbers below n that P says yes to, in their order -/
def tb_fl (P : Nat → Bool) : Nat → List Nat
  | 0 => []
  | n + 1 => if P n = true then tb_fl P n ++ [n] else tb_fl P n
theorem tb_fl_y {P : Nat → Bool} {n : Nat} (h : P n = true) : tb_fl P (n + 1) = tb_fl P n ++ [n] := if_pos h
theorem tb_fl_n {P : Nat → Bool} {n : Nat} (h : P n = false) : tb_fl P (n + 1) = tb_fl P n := if_neg (by rw [h]; decide)
theorem tb_fl_mem {P : Nat → Bool} {x : Nat} : ∀ {n : Nat}, x ∈ tb_fl P n ↔ x < n ∧ P x = true
  | 0 => ⟨fun h => (by cases h), fun h => absurd h.1 (Nat.not_lt_zero _)⟩
  | n + 1 => by
    cases h : P n with
    | true =>
      rw [tb_fl_y h, List.mem_append, List.mem_singleton, tb_fl_mem (n := n)]
      constructor
      · rintro (⟨h1, h2⟩ | rfl)
        · exact ⟨by omega, h2⟩
        · exact ⟨by omega, h⟩
      · rintro ⟨h1, h2⟩
        by_cases e : x = n
        · exact Or.inr e
        · exact Or.inl ⟨by omega, h2⟩
    | false =>
      rw [tb_fl_n h, tb_fl_mem (n := n)]
      constructor
      · rintro ⟨h1, h2⟩
        exact ⟨by omega, h2⟩
      · rintro ⟨h1, h2⟩
        have : x ≠ n := fun e => by rw [e, h] at h2; cases h2
        exact ⟨by omega, h2⟩
theorem tb_fl_skip {P : Nat → Bool} {n : Nat} : ∀ m, (∀ e, n ≤ e → e < n + m → P e = false) → tb_fl P (n + m) = tb_fl P n
  | 0 => fun _ => rfl
  | m + 1 => fun h => by
    rw [show n + (m + 1) = n + m + 1 from rfl, tb_fl_n (h (n + m) (by omega) (by omega))]
    exact tb_fl_skip m (fun e h1 h2 => h e h1 (by omega))
theorem tb_fl_one {P : Nat → Bool} {n m e : Nat} (h1 : n ≤ e) (h2 : e < n + m) (h : P e = true) (ho : ∀ x, n ≤ x → x < n + m → x ≠ e → P x = false) : tb_fl P (n + m) = tb_fl P n ++ [e] := by
  have a := tb_fl_skip (P := P) (n := e + 1) (n + m - (e + 1)) (fun x x1 x2 => ho x (by omega) (by omega) (by omega))
  rw [show e + 1 + (n + m - (e + 1)) = n + m by omega] at a
  have b := tb_fl_skip (P := P) (n := n) (e - n) (fun x x1 x2 => ho x x1 (by omega) (by omega))
  rw [show n + (e - n) = e by omega] at b
  rw [a, tb_fl_y h, b]
theorem tb_fl_c {P R : Nat → Bool} : ∀ {n : Nat}, (∀ x, x < n → P x = R x) → tb_fl P n = tb_fl R n
  | 0 => fun _ => rfl
  | n + 1 => fun h => by
    have ih := tb_fl_c (P := P) (R := R) (n := n) (fun x hx => h x (by omega))
    unfold tb_fl
    rw [h n (by omega), ih]
theorem tb_fl_add (P : Nat → Bool) (n : Nat) : ∀ m, tb_fl P (n + m) = tb_fl P n ++ (tb_fl (fun k => P (n + k)) m).map (n + ·)
  | 0 => (List.append_nil _).symm
  | m + 1 => by
    have ih := tb_fl_add P n m
    rw [show n + (m + 1) = n + m + 1 from rfl]
    cases h : P (n + m) with
    | true => rw [tb_fl_y h, tb_fl_y (P := fun k => P (n + k)) h, ih, List.map_append, List.append_assoc]; rfl
    | false => rw [tb_fl_n h, tb_fl_n (P := fun k => P (n + k)) h, ih]
theorem tb_fl_len (P : Nat → Bool) : ∀ n, (tb_fl P n).length ≤ n
  | 0 => Nat.le_refl _
  | n + 1 => by
    have := tb_fl_len P n
    unfold tb_fl
    split
    · rw [List.length_append, List.length_singleton]; omega
    · omega
/-- the last of them, one more -/
theorem tb_fl_last {P : Nat → Bool} {F : Nat → Nat → Nat} (hF : ∀ n l, F n l = if P n = true then n + 1 else l) : ∀ n, (tb_fl P n).getLast? = if tb_fo F 0 n = 0 then none else some (tb_fo F 0 n - 1)
  | 0 => rfl
  | n + 1 => by
    rw [tb_fo_s, hF]
    cases h : P n with
    | true => rw [tb_fl_y h, if_pos rfl, if_neg (by omega), Nat.add_sub_cancel, List.getLast?_append]; rfl
    | false => rw [tb_fl_n h, if_neg (show ¬ (false = true) by decide)]; exact tb_fl_last hF n
theorem tb_of_t {q : tb_Q} {d p f e : Nat} : tb_of q d p f e = true ↔ e % 40 < q 7 (5 * d + e / 40) ∧ q 1 e = 2 ∧ q 2 e = p ∧ q 3 e = f := by
  unfold tb_of
  simp only [Bool.and_eq_true, tb_kn_t, decide_eq_true_eq, and_assoc]
theorem tb_last_t {q : tb_Q} {d p f e : Nat} : tb_last q d p f e = true ↔ tb_of q d p f e = true ∧ ∀ g, g < 200 → g ≠ e → tb_of q d p f g = true → ¬ e % 40 < q 6 (5 * g + e / 40) := by
  unfold tb_last
  rw [tb_all (P := tb_lsP q d p f e) (F := tb_lsF q d p f e) (fun _ _ => rfl)]
  constructor
  · rintro ⟨h1, h2⟩
    refine ⟨h1, fun g hg hne hof hlt => ?_⟩
    have := h2 g hg
    unfold tb_lsP at this
    rw [decide_eq_false hne, hof, decide_eq_true hlt] at this
    cases this
  · rintro ⟨h1, h2⟩
    refine ⟨h1, fun g hg => ?_⟩
    unfold tb_lsP
    by_cases hne : g = e
    · rw [decide_eq_true hne]; rfl
    · cases hof : tb_of q d p f g with
      | false => simp
      | true => rw [decide_eq_false (h2 g hg hne hof)]; simp
theorem xs_of_M {q : tb_Q} (ok : tb_ok q) {d p f e : Nat} (hd : d < 5) (he : e < 200) (h : tb_of q d p f e = true) : xs_isM q e := by
  obtain ⟨h1, h2, -, -⟩ := tb_of_t.mp h
  exact ⟨he, Nat.lt_of_lt_of_le h1 (ok.kn d _ hd (by omega)), h2⟩
theorem xs_lm_ge {q : tb_Q} {sp a k : Nat} : ∀ {n : Nat}, k < n → q 1 (40 * a + k) = 2 → 12 * q 2 (40 * a + k) + q 3 (40 * a + k) = sp → ∃ j, xs_lm q sp a n = some j ∧ 40 * a + k ≤ j
  | 0 => fun h => absurd h (Nat.not_lt_zero _)
  | n + 1 => fun h h1 h2 => by
    unfold xs_lm
    by_cases hc : q 1 (40 * a + n) = 2 ∧ 12 * q 2 (40 * a + n) + q 3 (40 * a + n) = sp
    · rw [if_pos hc]; exact ⟨_, rfl, by omega⟩
    · rw [if_neg hc]
      have : k ≠ n := fun z => hc (z ▸ ⟨h1, h2⟩)
      exact xs_lm_ge (by omega) h1 h2
/-- the newest known value of an author -/
theorem xs_lo_of {q : tb_Q} (ok : tb_ok q) {d p f i e : Nat} (hd : d < 5) (hi : i < 5) (hf : f < 12) (h : xs_lo q d (12 * p + f) i = some e) : tb_of q d p f e = true ∧ e < 200 ∧ e / 40 = i := by
  obtain ⟨h1, h2, h3⟩ := xs_lo_M ok.m40 ok.kn hd hi h
  obtain ⟨a1, a2, a3, a4⟩ := xs_lm_some h
  have := ok.ms e h1
  have hk := ok.kn d i hd hi
  have h40 := ok.m40 i
  exact ⟨tb_of_t.mpr ⟨by rw [h2]; omega, a3, by omega, by omega⟩, h1.1, h2⟩
theorem xs_lo_ge {q : tb_Q} {d p f e : Nat} (h : tb_of q d p f e = true) : ∃ g, xs_lo q d (12 * p + f) (e / 40) = some g ∧ e ≤ g := by
  obtain ⟨h1, h2, h3, h4⟩ := tb_of_t.mp h
  have e1 : 40 * (e / 40) + e % 40 = e := by omega
  have := xs_lm_ge (q := q) (sp := 12 * p + f) (a := e / 40) h1 (by rw [e1]; exact h2) (by rw [e1, h3, h4])
  rw [e1] at this
  exact this
theorem xs_ka_ex {q : tb_Q} {lo : Nat → Option Nat} {e : Nat} : xs_ka q lo e = true ↔ ∃ i g, i < 5 ∧ lo i = some g ∧ g ≠ e ∧ e % 40 < q 6 (5 * g + e / 40) := by
  unfold xs_ka
  rw [tb_any (P := xs_kaP q lo e) (F := xs_kaF q lo e) (fun _ _ => rfl)]
  constructor
  · rintro ⟨i, h1, h2⟩
    cases ho : lo i with
    | none => rw [xs_kaP_0 ho] at h2; cases h2
    | some g =>
      by_cases hg : g = e
      · rw [xs_kaP_e ho hg] at h2; cases h2
      · rw [xs_kaP_y ho hg] at h2
        refine ⟨i, g, h1, ho, hg, ?_⟩
        have : ¬ q 6 (5 * g + e / 40) < e % 40 + 1 := by simpa using h2
        omega
  · rintro ⟨i, g, h1, h2, h3, h4⟩
    refine ⟨i, h1, ?_⟩
    rw [xs_kaP_y h2 h3, decide_eq_false (by omega)]
    rfl
theorem xs_un_last {q : tb_Q} (ok : tb_ok q) {d p f e : Nat} (hd : d < 5) (hf : f < 12) (he : e < 200) : tb_last q d p f e = true ↔ xs_un q (xs_lo q d (12 * p + f)) (e / 40) = some e := by
  constructor
  · intro h
    obtain ⟨h1, h2⟩ := tb_last_t.mp h
    obtain ⟨g, g1, g2⟩ := xs_lo_ge h1
    obtain ⟨c1, c2, c3⟩ := xs_lo_of ok hd (by omega) hf g1
    have hge : g = e := by
      refine Decidable.byContradiction (fun hne => h2 g c2 hne c1 ?_)
      rw [← c3, ok.vo g (xs_of_M ok hd c2 c1)]
      omega
    subst hge
    refine xs_un_y g1 ?_
    cases hk : xs_ka q (xs_lo q d (12 * p + f)) g with
    | false => rfl
    | true =>
      obtain ⟨i, g', i1, i2, i3, i4⟩ := xs_ka_ex.mp hk
      obtain ⟨b1, b2, -⟩ := xs_lo_of ok hd i1 hf i2
      exact absurd i4 (h2 g' b2 i3 b1)
  · intro h
    obtain ⟨h1, h2⟩ := xs_un_some h
    obtain ⟨c1, -, -⟩ := xs_lo_of ok hd (by omega) hf h1
    refine tb_last_t.mpr ⟨c1, fun g hg hne hof hlt => ?_⟩
    obtain ⟨g', g1, g2⟩ := xs_lo_ge hof
    obtain ⟨b1, b2, b3⟩ := xs_lo_of ok hd (by omega) hf g1
    have hM := xs_of_M ok hd hg hof
    have hM' := xs_of_M ok hd b2 b1
    by_cases hge : g' = e
    · subst hge
      rw [b3, ok.vo g hM] at hlt
      omega
    · have : xs_ka q (xs_lo q d (12 * p + f)) e = true := xs_ka_ex.mpr ⟨g / 40, g', by omega, g1, hge, by
        by_cases hgg : g = g'
        · rw [← hgg]; exact hlt
        · exact Nat.lt_of_lt_of_le hlt (ok.vm g g' _ hM hM' b3.symm (by omega) (by omega))⟩
      rw [h2] at this
      cases this
theorem xs_un_e {q : tb_Q} (ok : tb_ok q) {d p f i e : Nat} (hd : d < 5) (hf : f < 12) (hi : i < 5) (h : xs_un q (xs_lo q d (12 * p + f)) i = some e) : tb_last q d p f e = true ∧ e < 200 ∧ e / 40 = i := by
  obtain ⟨h1, h2⟩ := xs_un_some h
  obtain ⟨c1, c2, c3⟩ := xs_lo_of ok hd hi hf h1
  exact ⟨(xs_un_last ok hd hf c2).mpr (by rw [c3]; exact h), c2, c3⟩
/-- the page's list is the reference's, picked in the order of entries -/
theorem xs_ls_fl {q : tb_Q} (ok : tb_ok q) {d p f : Nat} (hd : d < 5) (hf : f < 12) (top : Nat) (b : Bool) : ∀ i, i ≤ 5 → xs_ls q (xs_un q (xs_lo q d (12 * p + f))) top b i = tb_fl (fun e => tb_last q d p f e && (decide (q 5 e = top) == b)) (40 * i)
  | 0 => fun _ => rfl
  | i + 1 => fun hi => by
    have ih := xs_ls_fl ok hd hf (p := p) top b i (by omega)
    rw [show 40 * (i + 1) = 40 * i + 40 by omega]
    have hoth : ∀ x, 40 * i ≤ x → x < 40 * i + 40 → tb_last q d p f x = true → xs_un q (xs_lo q d (12 * p + f)) i = some x := fun x x1 x2 hx => by
      have := (xs_un_last ok hd hf (by omega)).mp hx
      rw [show x / 40 = i by omega] at this
      exact this
    cases ho : xs_un q (xs_lo q d (12 * p + f)) i with
    | none =>
      rw [xs_ls_0 ho, ih, tb_fl_skip 40 (fun x x1 x2 => ?_)]
      cases hx : tb_last q d p f x with
      | false => rfl
      | true => have := hoth x x1 x2 hx; rw [ho] at this; cases this
    | some e =>
      obtain ⟨a1, a2, a3⟩ := xs_un_e ok hd hf (by omega) ho
      have hno : ∀ x, 40 * i ≤ x → x < 40 * i + 40 → x ≠ e → tb_last q d p f x = false := fun x x1 x2 hne => by
        cases hx : tb_last q d p f x with
        | false => rfl
        | true => have := hoth x x1 x2 hx; rw [ho] at this; exact absurd (Option.some.inj this).symm hne
      by_cases c : (decide (q 5 e = top) == b) = true
      · rw [xs_ls_y ho c, ih, tb_fl_one (e := e) (by omega) (by omega) (by rw [a1, c]; rfl) (fun x x1 x2 hne => by rw [hno x x1 x2 hne]; rfl)]
      · rw [xs_ls_n ho c, ih, tb_fl_skip 40 (fun x x1 x2 => ?_)]
        by_cases hxe : x = e
        · subst hxe
          rw [a1]
          simpa using c
        · rw [hno x x1 x2 hxe]; rfl
theorem tb_rank_B {q : tb_Q} {d p f B : Nat} : ∀ n, tb_fo (tb_rkF q d p f) 0 n ≤ B ↔ ∀ e, e < n → tb_last q d p f e = true → q 5 e + 1 ≤ B
  | 0 => ⟨fun _ e h => absurd h (Nat.not_lt_zero _), fun _ => Nat.zero_le _⟩
  | n + 1 => by
    have ih := tb_rank_B (q := q) (d := d) (p := p) (f := f) (B := B) n
    rw [tb_fo_s]
    unfold tb_rkF
    change (if (tb_last q d p f n && !decide (q 5 n + 1 ≤ tb_fo (tb_rkF q d p f) 0 n)) = true then q 5 n + 1 else tb_fo (tb_rkF q d p f) 0 n) ≤ B ↔ _
    cases hl : tb_last q d p f n with
    | false =>
      rw [Bool.false_and, if_neg (by decide), ih]
      constructor
      · intro h e he hx
        have : e ≠ n := fun z => by rw [z, hl] at hx; cases hx
        exact h e (by omega) hx
      · exact fun h e he => h e (by omega)
    | true =>
      rw [Bool.true_and]
      have key : (if (!decide (q 5 n + 1 ≤ tb_fo (tb_rkF q d p f) 0 n)) = true then q 5 n + 1 else tb_fo (tb_rkF q d p f) 0 n) ≤ B ↔ tb_fo (tb_rkF q d p f) 0 n ≤ B ∧ q 5 n + 1 ≤ B := by
        by_cases hc : q 5 n + 1 ≤ tb_fo (tb_rkF q d p f) 0 n
        · rw [decide_eq_true hc, if_neg (by decide)]; omega
        · rw [decide_eq_false hc, if_pos (by decide)]; omega
      rw [key, ih]
      constructor
      · rintro ⟨h1, h2⟩ e he hx
        by_cases z : e = n
        · rw [z]; exact h2
        · exact h1 e (by omega) hx
      · exact fun h => ⟨fun e he => h e (by omega), h n (by omega) hl⟩
theorem xs_tp_B {q : tb_Q} {un : Nat → Option Nat} {B : Nat} : ∀ n, tb_fo (xs_tpF q un) 0 n ≤ B ↔ ∀ i e, i < n → un i = some e → q 5 e ≤ B
  | 0 => ⟨fun _ i e h => absurd h (Nat.not_lt_zero _), fun _ => Nat.zero_le _⟩
  | n + 1 => by
    have ih := xs_tp_B (q := q) (un := un) (B := B) n
    cases ho : un n with
    | none =>
      rw [xs_tp_n ho, ih]
      constructor
      · intro h i e he hx
        have : i ≠ n := fun z => by rw [z, ho] at hx; cases hx
        exact h i e (by omega) hx
      · exact fun h i e he => h i e (by omega)
    | some g =>
      have key : tb_fo (xs_tpF q un) 0 (n + 1) ≤ B ↔ tb_fo (xs_tpF q un) 0 n ≤ B ∧ q 5 g ≤ B := by
        rw [xs_tp_y ho]
        split <;> omega
      rw [key, ih]
      constructor
      · rintro ⟨h1, h2⟩ i e he hx
        by_cases z : i = n
        · rw [z, ho] at hx; injection hx with hx; rw [← hx]; exact h2
        · exact h1 i e (by omega) hx
      · exact fun h => ⟨fun i e he => h i e (by omega), h n g (by omega) ho⟩
/-- the rank of what is shown -/
theorem tb_rank_tp {q : tb_Q} (ok : tb_ok q) {d p f e : Nat} (hd : d < 5) (hf : f < 12) (he : e < 200) (h : tb_last q d p f e = true) : tb_rank q d p f = xs_tp q (xs_un q (xs_lo q d (12 * p + f))) + 1 := by
  have hB : ∀ B, tb_rank q d p f ≤ B + 1 ↔ xs_tp q (xs_un q (xs_lo q d (12 * p + f))) ≤ B := fun B => by
    unfold tb_rank xs_tp
    rw [tb_rank_B, xs_tp_B]
    constructor
    · intro h1 i g hi hg
      obtain ⟨a1, a2, a3⟩ := xs_un_e ok hd hf hi hg
      have := h1 g a2 a1
      omega
    · intro h1 g hg hl
      have := h1 (g / 40) g (by omega) ((xs_un_last ok hd hf hg).mp hl)
      omega
  have h1 := (hB _).mpr (Nat.le_refl _)
  have h2 : ¬ tb_rank q d p f ≤ 0 := fun z => by
    have := (tb_rank_B 200).mp z e he h
    omega
  have h3 := (hB (tb_rank q d p f - 1)).mp (by omega)
  omega
section NBP
variable {q : tb_Q} {d p f : Nat}
/-- the reference's candidates and strays -/
def tb_PC (q : tb_Q) (d p f e : Nat) : Bool := tb_last q d p f e && decide (q 5 e + 1 = tb_rank q d p f)
def tb_PD (q : tb_Q) (d p f e : Nat) : Bool := tb_last q d p f e && !decide (q 5 e + 1 = tb_rank q d p f)
theorem xs_PCD (ok : tb_ok q) (hd : d < 5) (hf : f < 12) (b : Bool) {e : Nat} (he : e < 200) : (tb_last q d p f e && (decide (q 5 e = xs_tp q (xs_un q (xs_lo q d (12 * p + f)))) == b)) = (tb_last q d p f e && (decide (q 5 e + 1 = tb_rank q d p f) == b)) := by
  cases h : tb_last q d p f e with
  | false => rw [Bool.false_and, Bool.false_and]
  | true =>
    have := tb_rank_tp ok hd hf he h
    have e1 : (q 5 e = xs_tp q (xs_un q (xs_lo q d (12 * p + f)))) = (q 5 e + 1 = tb_rank q d p f) := propext ⟨fun z => by omega, fun z => by omega⟩
    simp only [e1]
theorem xs_C_fl (ok : tb_ok q) (hd : d < 5) (hf : f < 12) : xs_C q d (12 * p + f) = tb_fl (tb_PC q d p f) 200 := by
  unfold xs_C
  rw [xs_ls_fl ok hd hf _ _ 5 (Nat.le_refl _)]
  refine tb_fl_c (fun e he => ?_)
  rw [xs_PCD ok hd hf true he]
  unfold tb_PC
  cases tb_last q d p f e <;> cases decide (q 5 e + 1 = tb_rank q d p f) <;> rfl
theorem xs_D_fl (ok : tb_ok q) (hd : d < 5) (hf : f < 12) : xs_D q d (12 * p + f) = tb_fl (tb_PD q d p f) 200 := by
  unfold xs_D
  rw [xs_ls_fl ok hd hf _ _ 5 (Nat.le_refl _)]
  refine tb_fl_c (fun e he => ?_)
  rw [xs_PCD ok hd hf false he]
  unfold tb_PD
  cases tb_last q d p f e <;> cases decide (q 5 e + 1 = tb_rank q d p f) <;> rfl
theorem xs_sh_ok (ok : tb_ok q) (hd : d < 5) (hf : f < 12) : (xs_C q d (12 * p + f)).getLast? = tb_shO q d p f := by
  rw [xs_C_fl ok hd hf, tb_fl_last (P := tb_PC q d p f) (F := tb_shF q d p f (tb_rank q d p f)) (fun _ _ => rfl)]
  rfl
theorem xs_cf_ok (ok : tb_ok q) (hd : d < 5) (hf : f < 12) : xs_cf q (xs_C q d (12 * p + f)) = tb_conf q d p f := by
  have hC := xs_C_fl ok (p := p) hd hf
  have hL := xs_sh_ok ok (p := p) hd hf
  generalize xs_C q d (12 * p + f) = C at *
  unfold tb_conf tb_cfx
  by_cases h0 : tb_shown q d p f = 0
  · rw [if_pos h0]
    have : C = [] := by
      unfold tb_shO at hL
      rw [if_pos h0] at hL
      exact List.getLast?_eq_none_iff.mp hL
    rw [this]
    rfl
  · rw [if_neg h0]
    unfold tb_shO at hL
    rw [if_neg h0] at hL
    have hlm : tb_shown q d p f - 1 ∈ C := List.mem_of_getLast? hL
    have hmem : ∀ e, e ∈ C ↔ e < 200 ∧ tb_last q d p f e = true ∧ q 5 e + 1 = tb_rank q d p f := fun e => by
      rw [hC, tb_fl_mem]
      unfold tb_PC
      rw [Bool.and_eq_true, decide_eq_true_eq]
    have h0m : C.getD 0 0 ∈ C := xs_getD_mem (by cases C with | nil => cases hlm | cons a b => simp)
    have hl := (hmem _).mp hlm
    rw [Bool.eq_iff_iff]
    unfold xs_cf
    rw [List.any_eq_true, tb_any (P := fun e => tb_last q d p f e && decide (q 5 e = q 5 (tb_shown q d p f - 1)) && decide (¬ q 4 e = q 4 (tb_shown q d p f - 1))) (F := tb_cfF q d p f (tb_shown q d p f - 1)) (fun _ _ => rfl)]
    have hw : ∀ e, e ∈ C → ¬ q 4 e = q 4 (tb_shown q d p f - 1) → ∃ n, n < 200 ∧ (tb_last q d p f n && decide (q 5 n = q 5 (tb_shown q d p f - 1)) && decide (¬ q 4 n = q 4 (tb_shown q d p f - 1))) = true := fun e he hne => by
      obtain ⟨c1, c2, c3⟩ := (hmem e).mp he
      exact ⟨e, c1, by rw [c2, decide_eq_true (show q 5 e = q 5 (tb_shown q d p f - 1) by omega), decide_eq_true hne]; rfl⟩
    constructor
    · rintro ⟨e, he, hne⟩
      have hne : ¬ q 4 e = q 4 (C.getD 0 0) := by simpa using hne
      by_cases hz : q 4 e = q 4 (tb_shown q d p f - 1)
      · exact hw _ h0m (fun z => hne (by rw [hz, z]))
      · exact hw e he hz
    · rintro ⟨e, he, hx⟩
      simp only [Bool.and_eq_true, decide_eq_true_eq] at hx
      obtain ⟨⟨x1, x2⟩, x3⟩ := hx
      have heC : e ∈ C := (hmem e).mpr ⟨he, x1, by omega⟩
      by_cases hz : q 4 e = q 4 (C.getD 0 0)
      · exact ⟨_, hlm, by
          have : ¬ q 4 (tb_shown q d p f - 1) = q 4 (C.getD 0 0) := fun z => x3 (by rw [hz, z])
          simpa using this⟩
      · exact ⟨e, heC, by simpa using hz⟩
theorem tb_ccn_len (k : Nat) : tb_ccn q d p f k = (tb_fl (tb_cis q d p f) k).length := by
  induction k with
  | zero => rfl
  | succ k ih =>
    show (if tb_cis q d p f k = true then tb_ccn q d p f k + 1 else tb_ccn q d p f k) = _
    cases h : tb_cis q d p f k with
    | true => rw [if_pos rfl, tb_fl_y h, List.length_append, List.length_singleton, ih]
    | false => rw [if_neg (by decide), tb_fl_n h, ih]
theorem tb_cfd_at2 {j : Nat} (hj : j < 2147483648) : tb_cfd q d p f (nI j) 400 = match (tb_fl (tb_cis q d p f) 400)[j]? with | none => 0 | some k => k + 1 := by
  have hle : ∀ k, k ≤ 400 → tb_cfd q d p f (nI j) k = match (tb_fl (tb_cis q d p f) k)[j]? with | none => 0 | some k => k + 1 := by
    intro k
    induction k with
    | zero => exact fun _ => rfl
    | succ n ih =>
      intro hn
      have ih := ih (by omega)
      have hlen := tb_fl_len (tb_cis q d p f) n
      show (if tb_cfd q d p f (nI j) n = 0 then (if (tb_cis q d p f n && decide (nI (tb_ccn q d p f n) = nI j)) = true then n + 1 else 0) else tb_cfd q d p f (nI j) n) = _
      rw [tb_ccn_len]
      simp only [tb_nIn (show (tb_fl (tb_cis q d p f) n).length < 2147483648 by omega) hj]
      cases h : tb_cis q d p f n with
      | true =>
        rw [tb_fl_y h, Bool.true_and]
        by_cases hj : j < (tb_fl (tb_cis q d p f) n).length
        · rw [List.getElem?_append_left hj]
          rw [List.getElem?_eq_getElem hj] at ih ⊢
          rw [ih]
          rfl
        · rw [List.getElem?_eq_none (by omega)] at ih
          rw [if_pos ih, List.getElem?_append_right (by omega)]
          by_cases hj2 : (tb_fl (tb_cis q d p f) n).length = j
          · rw [decide_eq_true hj2, if_pos rfl, hj2, Nat.sub_self]
            rfl
          · rw [decide_eq_false hj2, if_neg (by decide), List.getElem?_eq_none (by rw [List.length_singleton]; omega)]
      | false =>
        rw [tb_fl_n h, Bool.false_and, if_neg (show ¬ (false = true) by decide), ← ih]
        split <;> rename_i hz
        · exact hz.symm
        · rfl
  exact hle 400 (Nat.le_refl _)
theorem tb_cis_fl (ok : tb_ok q) (hd : d < 5) (hf : f < 12) : tb_fl (tb_cis q d p f) 400 = xs_C q d (12 * p + f) ++ (xs_D q d (12 * p + f)).map (200 + ·) := by
  have h0 := tb_fl_add (tb_cis q d p f) 200 200
  have h1 : tb_fl (tb_cis q d p f) 200 = tb_fl (tb_PC q d p f) 200 := tb_fl_c (fun e he => by
    unfold tb_cis tb_PC
    rw [Nat.mod_eq_of_lt he, decide_eq_false (show ¬ 200 ≤ e by omega)]
    cases tb_last q d p f e <;> cases decide (q 5 e + 1 = tb_rank q d p f) <;> rfl)
  have h2 : tb_fl (fun k => tb_cis q d p f (200 + k)) 200 = tb_fl (tb_PD q d p f) 200 := tb_fl_c (fun e he => by
    show tb_cis q d p f (200 + e) = _
    unfold tb_cis tb_PD
    rw [show (200 + e) % 200 = e by omega, decide_eq_true (show 200 ≤ 200 + e by omega)]
    cases tb_last q d p f e <;> cases decide (q 5 e + 1 = tb_rank q d p f) <;> rfl)
  rw [h1, h2, ← xs_C_fl ok hd hf, ← xs_D_fl ok hd hf] at h0
  exact h0
theorem xs_cd_ok (ok : tb_ok q) (hd : d < 5) (hf : f < 12) {j : Nat} (hj : j < 2147483648) : xs_code (xs_C q d (12 * p + f)) (xs_D q d (12 * p + f)) j = tb_cand q d p f (nI j) := by
  have h1 := tb_cfd_at2 (q := q) (d := d) (p := p) (f := f) hj
  rw [tb_cis_fl ok hd hf] at h1
  have hm : ∀ e, e ∈ xs_C q d (12 * p + f) ++ xs_D q d (12 * p + f) → e < 200 := fun e he => by
    rw [List.mem_append, xs_C_fl ok hd hf, xs_D_fl ok hd hf, tb_fl_mem, tb_fl_mem] at he
    rcases he with he | he <;> exact he.1
  generalize xs_C q d (12 * p + f) = C at *
  generalize xs_D q d (12 * p + f) = S at *
  unfold xs_code tb_cand
  by_cases c1 : C.length + S.length ≤ j
  · rw [List.getElem?_eq_none (by rw [List.length_append, List.length_map]; exact c1)] at h1
    rw [if_pos c1, if_pos h1]
  · rw [if_neg c1]
    by_cases c2 : j < C.length
    · rw [List.getElem?_append_left c2, List.getElem?_eq_getElem c2] at h1
      change _ = C[j] + 1 at h1
      have hC : (C ++ S).getD j 0 = C[j] := by rw [List.getD_eq_getElem?_getD, List.getElem?_append_left c2, List.getElem?_eq_getElem c2]; rfl
      have h2 := hm C[j] (List.mem_append_left _ (List.getElem_mem c2))
      rw [if_pos c2, h1, if_neg (by omega), Nat.add_sub_cancel, hC]
      unfold tb_ccode
      rw [Nat.mod_eq_of_lt h2, if_neg (by omega)]
      rfl
    · have c3 : j - C.length < S.length := by omega
      rw [List.getElem?_append_right (by omega), List.getElem?_map, List.getElem?_eq_getElem c3] at h1
      change _ = 200 + S[j - C.length] + 1 at h1
      have hC : (C ++ S).getD j 0 = S[j - C.length] := by rw [List.getD_eq_getElem?_getD, List.getElem?_append_right (by omega), List.getElem?_eq_getElem c3]; rfl
      have h2 := hm S[j - C.length] (List.mem_append_right _ (List.getElem_mem c3))
      rw [if_neg c2, h1, if_neg (by omega), Nat.add_sub_cancel, hC]
      unfold tb_ccode
      rw [show (200 + S[j - C.length]) % 200 = S[j - C.length] by omega, if_pos (by omega)]
      rfl
theorem tb_top_B {B : Nat} : ∀ n, tb_fo (tb_rsF q d p f) 0 n ≤ B ↔ ∀ e, e < n → tb_of q d p f e = true → q 5 e ≤ B
  | 0 => ⟨fun _ e h => absurd h (Nat.not_lt_zero _), fun _ => Nat.zero_le _⟩
  | n + 1 => by
    have ih := tb_top_B (B := B) n
    rw [tb_fo_s]
    change (if (tb_of q d p f n && !decide (q 5 n ≤ tb_fo (tb_rsF q d p f) 0 n)) = true then q 5 n else tb_fo (tb_rsF q d p f) 0 n) ≤ B ↔ _
    cases hl : tb_of q d p f n with
    | false =>
      rw [Bool.false_and, if_neg (by decide), ih]
      constructor
      · intro h e he hx
        have : e ≠ n := fun z => by rw [z, hl] at hx; cases hx
        exact h e (by omega) hx
      · exact fun h e he => h e (by omega)
    | true =>
      rw [Bool.true_and]
      have key : (if (!decide (q 5 n ≤ tb_fo (tb_rsF q d p f) 0 n)) = true then q 5 n else tb_fo (tb_rsF q d p f) 0 n) ≤ B ↔ tb_fo (tb_rsF q d p f) 0 n ≤ B ∧ q 5 n ≤ B := by
        by_cases hc : q 5 n ≤ tb_fo (tb_rsF q d p f) 0 n
        · rw [decide_eq_true hc, if_neg (by decide)]; omega
        · rw [decide_eq_false hc, if_pos (by decide)]; omega
      rw [key, ih]
      constructor
      · rintro ⟨h1, h2⟩ e he hx
        by_cases z : e = n
        · rw [z]; exact h2
        · exact h1 e (by omega) hx
      · exact fun h => ⟨fun e he => h e (by omega), h n (by omega) hl⟩
theorem xs_grC_B {sp a B : Nat} : ∀ n g, xs_grC q sp a n g ≤ B ↔ g ≤ B ∧ ∀ j, j < n → q 1 (40 * a + j) = 2 → 12 * q 2 (40 * a + j) + q 3 (40 * a + j) = sp → q 5 (40 * a + j) ≤ B
  | 0, g => ⟨fun h => ⟨h, fun j hj => absurd hj (Nat.not_lt_zero _)⟩, fun h => h.1⟩
  | n + 1, g => by
    show (if q 1 (40 * a + n) = 2 ∧ 12 * q 2 (40 * a + n) + q 3 (40 * a + n) = sp then xs_grC q sp a n (if g < q 5 (40 * a + n) then q 5 (40 * a + n) else g) else xs_grC q sp a n g) ≤ B ↔ _
    by_cases hc : q 1 (40 * a + n) = 2 ∧ 12 * q 2 (40 * a + n) + q 3 (40 * a + n) = sp
    · rw [if_pos hc, xs_grC_B]
      have key : (if g < q 5 (40 * a + n) then q 5 (40 * a + n) else g) ≤ B ↔ g ≤ B ∧ q 5 (40 * a + n) ≤ B := by
        split <;> omega
      rw [key]
      constructor
      · rintro ⟨⟨h1, h2⟩, h3⟩
        refine ⟨h1, fun j hj => ?_⟩
        by_cases z : j = n
        · rw [z]; exact fun _ _ => h2
        · exact h3 j (by omega)
      · rintro ⟨h1, h2⟩
        exact ⟨⟨h1, h2 n (by omega) hc.1 hc.2⟩, fun j hj => h2 j (by omega)⟩
    · rw [if_neg hc, xs_grC_B]
      constructor
      · rintro ⟨h1, h2⟩
        refine ⟨h1, fun j hj h3 h4 => ?_⟩
        by_cases z : j = n
        · rw [z] at h3 h4; exact absurd ⟨h3, h4⟩ hc
        · exact h2 j (by omega) h3 h4
      · rintro ⟨h1, h2⟩
        exact ⟨h1, fun j hj => h2 j (by omega)⟩
theorem xs_gr_B {sp B : Nat} : ∀ n, tb_fo (fun a g => xs_grC q sp a (q 7 (5 * d + a)) g) 0 n ≤ B ↔ ∀ a j, a < n → j < q 7 (5 * d + a) → q 1 (40 * a + j) = 2 → 12 * q 2 (40 * a + j) + q 3 (40 * a + j) = sp → q 5 (40 * a + j) ≤ B
  | 0 => ⟨fun _ a _ h => absurd h (Nat.not_lt_zero _), fun _ => Nat.zero_le _⟩
  | n + 1 => by
    have ih := xs_gr_B (sp := sp) (B := B) n
    rw [tb_fo_s]
    show xs_grC q sp n (q 7 (5 * d + n)) (tb_fo (fun a g => xs_grC q sp a (q 7 (5 * d + a)) g) 0 n) ≤ B ↔ _
    rw [xs_grC_B, ih]
    constructor
    · rintro ⟨h1, h2⟩ a j ha
      by_cases z : a = n
      · rw [z]; exact h2 j
      · exact h1 a j (by omega)
    · exact fun h => ⟨fun a j ha => h a j (by omega), fun j => h n j (by omega)⟩
theorem xs_gr_ok (ok : tb_ok q) (hd : d < 5) (hf : f < 12) : xs_gr q d (12 * p + f) = tb_top q d p f := by
  have hB : ∀ B, xs_gr q d (12 * p + f) ≤ B ↔ tb_top q d p f ≤ B := fun B => by
    unfold xs_gr tb_top
    rw [xs_gr_B, tb_top_B]
    constructor
    · intro h e he hof
      obtain ⟨a1, a2, a3, a4⟩ := tb_of_t.mp hof
      have := h (e / 40) (e % 40) (by omega) a1
      rw [show 40 * (e / 40) + e % 40 = e by omega] at this
      exact this a2 (by rw [a3, a4])
    · intro h a j ha hj h1 h2
      have hk := ok.kn d a hd ha
      have h40 := ok.m40 a
      have e1 : (40 * a + j) / 40 = a := by omega
      have e2 : (40 * a + j) % 40 = j := by omega
      have hM : xs_isM q (40 * a + j) := ⟨by omega, by rw [e1, e2]; omega, h1⟩
      have := ok.ms _ hM
      exact h _ (by omega) (tb_of_t.mpr ⟨by rw [e1, e2]; exact hj, h1, by omega, by omega⟩)
  have h1 := (hB _).mpr (Nat.le_refl _)
  have h2 := (hB _).mp (Nat.le_refl _)
  omega
end NBP
theorem tb_ok.pure {q : tb_Q} (ok : tb_ok q) : xs_pure q :=
  ⟨fun d p hd _ => xs_ho_holds ok hd, fun d p hd _ => xs_no_lent ok hd, fun d hd p f _ hf => xs_sh_ok ok hd hf,
   fun d hd k hk => by
     have := xs_cf_ok ok (p := k / 12) (f := k % 12) hd (by omega)
     rw [show 12 * (k / 12) + k % 12 = k by omega] at this
     exact this,
   fun d p f j hd _ hf hj => xs_cd_ok ok hd hf hj,
   fun k hk => by
     have := xs_gr_ok ok (d := 0) (p := k / 12) (f := k % 12) (by decide) (by omega)
     rw [show 12 * (k / 12) + k % 12 = k by omega] at this
     exact this,
   fun p _ => xs_nx_lent ok p, fun t p ht _ => xs_bk_nx ok ht⟩
