/-! Lends: what the class's chain says is what the reference finds. -/
theorem tb_any {P : Nat → Bool} {F : Nat → Bool → Bool} (hF : ∀ n b, F n b = (b || P n)) : ∀ N, tb_fo F false N = true ↔ ∃ n, n < N ∧ P n = true
  | 0 => ⟨fun h => (by cases h), fun ⟨_, h, _⟩ => absurd h (Nat.not_lt_zero _)⟩
  | N + 1 => by
    rw [tb_fo_s, hF, Bool.or_eq_true, tb_any hF N]
    constructor
    · rintro (⟨n, h1, h2⟩ | h)
      · exact ⟨n, by omega, h2⟩
      · exact ⟨N, by omega, h⟩
    · rintro ⟨n, h1, h2⟩
      by_cases h : n = N
      · subst h; exact Or.inr h2
      · exact Or.inl ⟨n, by omega, h2⟩
theorem tb_all {P : Nat → Bool} {F : Nat → Bool → Bool} {z : Bool} (hF : ∀ n b, F n b = (b && P n)) : ∀ N, tb_fo F z N = true ↔ z = true ∧ ∀ n, n < N → P n = true
  | 0 => ⟨fun h => ⟨h, fun _ h => absurd h (Nat.not_lt_zero _)⟩, fun h => h.1⟩
  | N + 1 => by
    rw [tb_fo_s, hF, Bool.and_eq_true, tb_all hF N]
    constructor
    · rintro ⟨⟨h0, h1⟩, h2⟩
      refine ⟨h0, fun n hn => ?_⟩
      by_cases h : n = N
      · subst h; exact h2
      · exact h1 n (by omega)
    · rintro ⟨h0, h1⟩
      exact ⟨⟨h0, fun n hn => h1 n (by omega)⟩, h1 N (by omega)⟩
theorem tb_kn_t {q : tb_Q} {d a k : Nat} : tb_kn q d a k = true ↔ k < q 7 (5 * d + a) := by
  unfold tb_kn
  simp
theorem tb_ln_t {q : tb_Q} {d p k : Nat} : tb_ln q d p k = true ↔ k < q 7 (5 * d + 0) ∧ q 1 k = 0 ∧ q 2 k = p := by
  unfold tb_ln
  rw [Bool.and_eq_true, Bool.and_eq_true, tb_kn_t, decide_eq_true_eq, decide_eq_true_eq, and_assoc]
theorem xs_L_kn {q : tb_Q} (ok : tb_ok q) {d k : Nat} (hd : d < 5) (h : k < q 7 (5 * d + 0)) (h1 : q 1 k = 0) : xs_isL q k := ⟨Nat.lt_of_lt_of_le h (ok.kn d 0 hd (by decide)), h1⟩
theorem tb_lent_i {q : tb_Q} (ok : tb_ok q) {d p : Nat} (hd : d < 5) : ∀ i, i ≤ q 7 (5 * d + 0) → tb_fo (tb_lentF q d p) 0 i = (match xs_ll q p i with | none => 0 | some k => q 5 k)
  | 0 => fun _ => rfl
  | i + 1 => fun h => by
    have ih := tb_lent_i ok (p := p) hd i (by omega)
    rw [tb_fo_s]
    unfold tb_lentF xs_ll
    by_cases hc : q 1 i = 0 ∧ q 2 i = p
    · have hln : tb_ln q d p i = true := tb_ln_t.mpr ⟨by omega, hc⟩
      have hLi := xs_L_kn ok hd (show i < q 7 (5 * d + 0) by omega) hc.1
      rw [if_pos hc, hln]
      have : ¬ q 5 i ≤ tb_fo (tb_lentF q d p) 0 i := by
        rw [ih]
        cases ho : xs_ll q p i with
        | none =>
          have := (ok.lt i hLi).2.2.2
          show ¬ q 5 i ≤ 0
          omega
        | some k =>
          obtain ⟨a1, a2, a3⟩ := xs_ll_some ho
          have := ok.li k i (xs_L_kn ok hd (by omega) a2) hLi a1 (by rw [a3, hc.2])
          show ¬ q 5 i ≤ q 5 k
          omega
      rw [if_pos (by show (true && !decide (q 5 i ≤ tb_fo (tb_lentF q d p) 0 i)) = true; rw [decide_eq_false this]; rfl)]
    · have hln : tb_ln q d p i = false := by
        cases hb : tb_ln q d p i with
        | false => rfl
        | true => exact absurd (tb_ln_t.mp hb).2 hc
      rw [if_neg hc, hln]
      exact ih
theorem tb_lent_c {q : tb_Q} {d p : Nat} : ∀ i, tb_fo (tb_lentF q d p) 0 (q 7 (5 * d + 0) + i) = tb_fo (tb_lentF q d p) 0 (q 7 (5 * d + 0))
  | 0 => rfl
  | i + 1 => by
    have ih := tb_lent_c (q := q) (d := d) (p := p) i
    show tb_lentF q d p (q 7 (5 * d + 0) + i) (tb_fo (tb_lentF q d p) 0 (q 7 (5 * d + 0) + i)) = _
    unfold tb_lentF
    have hln : tb_ln q d p (q 7 (5 * d + 0) + i) = false := by
      cases hb : tb_ln q d p (q 7 (5 * d + 0) + i) with
      | false => rfl
      | true => have := (tb_ln_t.mp hb).1; omega
    rw [hln]
    exact ih
theorem xs_no_lent {q : tb_Q} (ok : tb_ok q) {d p : Nat} (hd : d < 5) : xs_no q d p = tb_lent q d p := by
  have h1 := ok.kn d 0 hd (by decide)
  have h2 := ok.m40 0
  have := tb_lent_c (q := q) (d := d) (p := p) (40 - q 7 (5 * d + 0))
  rw [show q 7 (5 * d + 0) + (40 - q 7 (5 * d + 0)) = 40 by omega, tb_lent_i ok hd _ (Nat.le_refl _)] at this
  exact this.symm
theorem xs_ll_ge {q : tb_Q} {p k : Nat} : ∀ {n : Nat}, k < n → q 1 k = 0 → q 2 k = p → ∃ j, xs_ll q p n = some j ∧ k ≤ j
  | 0 => fun h => absurd h (Nat.not_lt_zero _)
  | n + 1 => fun h h1 h2 => by
    unfold xs_ll
    by_cases hc : q 1 n = 0 ∧ q 2 n = p
    · rw [if_pos hc]; exact ⟨n, rfl, by omega⟩
    · rw [if_neg hc]
      have : k ≠ n := fun z => hc (z ▸ ⟨h1, h2⟩)
      exact xs_ll_ge (by omega) h1 h2
theorem tb_lent_ge {q : tb_Q} (ok : tb_ok q) {d p k : Nat} (hd : d < 5) (h : k < q 7 (5 * d + 0)) (h1 : q 1 k = 0) (h2 : q 2 k = p) : q 5 k ≤ tb_lent q d p := by
  rw [← xs_no_lent ok hd]
  obtain ⟨j, a1, a2⟩ := xs_ll_ge h h1 h2
  unfold xs_no
  rw [a1]
  show q 5 k ≤ q 5 j
  by_cases e : k = j
  · rw [e]; exact Nat.le_refl _
  · obtain ⟨b1, b2, b3⟩ := xs_ll_some a1
    exact Nat.le_of_lt (ok.li k j (xs_L_kn ok hd h h1) (xs_L_kn ok hd b1 b2) (by omega) (by rw [h2, b3]))
theorem tb_lent_rk {q : tb_Q} (ok : tb_ok q) {d p : Nat} (hd : d < 5) : tb_lent q d p ≤ q 0 0 := by
  rw [← xs_no_lent ok hd]
  unfold xs_no
  split
  · exact Nat.zero_le _
  · exact ok.rk _
theorem tb_lent_0 {q : tb_Q} (ok : tb_ok q) {d p : Nat} (hd : d < 5) : tb_lent q d p = 0 ↔ xs_ll q p (q 7 (5 * d + 0)) = none := by
  rw [← xs_no_lent ok hd]
  unfold xs_no
  cases ho : xs_ll q p (q 7 (5 * d + 0)) with
  | none => exact ⟨fun _ => rfl, fun _ => rfl⟩
  | some k =>
    obtain ⟨b1, b2, b3⟩ := xs_ll_some ho
    have := (ok.lt k (xs_L_kn ok hd b1 b2)).2.2.2
    exact ⟨fun z => by change q 5 k = 0 at z; omega, fun z => by cases z⟩
theorem tb_L_inj {q : tb_Q} (ok : tb_ok q) {j k : Nat} (hj : xs_isL q j) (hk : xs_isL q k) (h2 : q 2 j = q 2 k) (h5 : q 5 j = q 5 k) : j = k := by
  by_cases h : j < k
  · have := ok.li j k hj hk h h2; omega
  · by_cases h' : k < j
    · have := ok.li k j hk hj h' h2.symm; omega
    · omega
theorem tb_ht_k {q : tb_Q} (ok : tb_ok q) {d p K : Nat} (hd : d < 5) (ho : xs_ll q p (q 7 (5 * d + 0)) = some K) : ∀ i, tb_fo (tb_htF q d p (q 5 K)) 0 i = if i ≤ K then 0 else q 4 K + 1
  | 0 => by rw [if_pos (Nat.zero_le _)]; rfl
  | i + 1 => by
    have ih := tb_ht_k ok (p := p) hd ho i
    obtain ⟨b1, b2, b3⟩ := xs_ll_some ho
    have hLK := xs_L_kn ok hd b1 b2
    rw [tb_fo_s]
    show (if (tb_ln q d p i && decide (q 5 i = q 5 K)) = true then q 4 i + 1 else tb_fo (tb_htF q d p (q 5 K)) 0 i) = _
    by_cases hc : (tb_ln q d p i && decide (q 5 i = q 5 K)) = true
    · rw [if_pos hc]
      rw [Bool.and_eq_true, tb_ln_t, decide_eq_true_eq] at hc
      obtain ⟨⟨c1, c2, c3⟩, c4⟩ := hc
      have : i = K := tb_L_inj ok (xs_L_kn ok hd c1 c2) hLK (by rw [c3, b3]) c4
      rw [if_neg (by omega), this]
    · rw [if_neg hc, ih]
      have hiK : i ≠ K := fun z => hc (by rw [z, Bool.and_eq_true, tb_ln_t, decide_eq_true_eq]; exact ⟨⟨b1, b2, b3⟩, rfl⟩)
      by_cases h : i ≤ K
      · rw [if_pos h, if_pos (by omega)]
      · rw [if_neg h, if_neg (by omega)]
theorem tb_back_t {q : tb_Q} {d p n : Nat} : tb_back q d p n = true ↔ ∃ e, e < 200 ∧ e % 40 < q 7 (5 * d + e / 40) ∧ q 1 e = 1 ∧ q 2 e = p ∧ q 4 e = n := by
  unfold tb_back
  rw [tb_any (P := tb_bkP q d p n) (F := tb_bkF q d p n) (fun _ _ => rfl)]
  constructor
  · rintro ⟨e, h1, h2⟩
    simp only [tb_bkP, Bool.and_eq_true, tb_kn_t, decide_eq_true_eq] at h2
    exact ⟨e, h1, h2.1.1.1, h2.1.1.2, h2.1.2, h2.2⟩
  · rintro ⟨e, h1, h2, h3, h4, h5⟩
    refine ⟨e, h1, ?_⟩
    simp only [tb_bkP, Bool.and_eq_true, tb_kn_t, decide_eq_true_eq]
    exact ⟨⟨⟨h2, h3⟩, h4⟩, h5⟩
theorem xs_bk_s {q : tb_Q} {t p m j : Nat} : ∀ {n : Nat}, xs_bk q t p m n = j + 1 → j < n ∧ q 1 (40 * t + j) = 1 ∧ q 2 (40 * t + j) = p ∧ q 4 (40 * t + j) = m
  | 0 => fun h => (by cases h)
  | n + 1 => fun h => by
    unfold xs_bk at h
    split at h
    · rename_i hc
      have : n = j := by omega
      subst this
      exact ⟨by omega, hc⟩
    · obtain ⟨a1, a2⟩ := xs_bk_s h
      exact ⟨by omega, a2⟩
theorem xs_bk_0 {q : tb_Q} {t p m : Nat} : ∀ {n : Nat}, xs_bk q t p m n = 0 → ∀ j, j < n → ¬ (q 1 (40 * t + j) = 1 ∧ q 2 (40 * t + j) = p ∧ q 4 (40 * t + j) = m)
  | 0 => fun _ j h => absurd h (Nat.not_lt_zero _)
  | n + 1 => fun h j hj => by
    unfold xs_bk at h
    split at h
    · cases h
    · rename_i hc
      by_cases e : j = n
      · subst e; exact hc
      · exact xs_bk_0 h j (by omega)
/-- was the lend given back, as device d knows -/
theorem tb_back_bk {q : tb_Q} (ok : tb_ok q) {d p K : Nat} (hd : d < 5) (hK : xs_isL q K) (hp : q 2 K = p) : tb_back q d p (q 5 K) = true ↔ ¬ xs_bk q (q 4 K) p (q 5 K) (q 0 (q 4 K)) = 0 ∧ ¬ q 7 (5 * d + q 4 K) < xs_bk q (q 4 K) p (q 5 K) (q 0 (q 4 K)) := by
  have hlt := ok.lt K hK
  rw [tb_back_t]
  constructor
  · rintro ⟨e, h1, h2, h3, h4, h5⟩
    have hk := ok.kn d (e / 40) hd (by omega)
    have hB : xs_isB q e := ⟨h1, by omega, h3⟩
    obtain ⟨j, b1, b2, b3, b4⟩ := ok.bl e hB
    have hj : j = K := tb_L_inj ok b1 hK (by rw [b2, h4, hp]) (by rw [b3, h5])
    subst hj
    have hee : 40 * q 4 j + e % 40 = e := by rw [b4]; omega
    have hnz : ¬ xs_bk q (q 4 j) p (q 5 j) (q 0 (q 4 j)) = 0 := fun z => xs_bk_0 z (e % 40) (by rw [b4]; exact hB.2.1) (by rw [hee]; exact ⟨h3, h4, h5⟩)
    refine ⟨hnz, ?_⟩
    obtain ⟨i, hi⟩ : ∃ i, xs_bk q (q 4 j) p (q 5 j) (q 0 (q 4 j)) = i + 1 := ⟨_, (Nat.succ_pred_eq_of_ne_zero hnz).symm⟩
    obtain ⟨a1, a2, a3, a4⟩ := xs_bk_s hi
    have h40 := ok.m40 (q 4 j)
    have hBi : xs_isB q (40 * q 4 j + i) := ⟨by omega, by rw [show (40 * q 4 j + i) % 40 = i by omega, show (40 * q 4 j + i) / 40 = q 4 j by omega]; exact a1, a2⟩
    have : 40 * q 4 j + i = e := ok.bu _ _ hBi hB (by omega) (by rw [a3, h4]) (by rw [a4, h5])
    rw [hi, b4]
    omega
  · rintro ⟨hnz, hle⟩
    obtain ⟨i, hi⟩ : ∃ i, xs_bk q (q 4 K) p (q 5 K) (q 0 (q 4 K)) = i + 1 := ⟨_, (Nat.succ_pred_eq_of_ne_zero hnz).symm⟩
    obtain ⟨a1, a2, a3, a4⟩ := xs_bk_s hi
    rw [hi] at hle
    have h40 := ok.m40 (q 4 K)
    refine ⟨40 * q 4 K + i, by omega, ?_, a2, a3, a4⟩
    rw [show (40 * q 4 K + i) % 40 = i by omega, show (40 * q 4 K + i) / 40 = q 4 K by omega]
    omega
theorem xs_ho_holds {q : tb_Q} (ok : tb_ok q) {d p : Nat} (hd : d < 5) : xs_ho q d p = tb_holds q d p := by
  have h1 := ok.kn d 0 hd (by decide)
  have h2 := ok.m40 0
  unfold tb_holds
  cases ho : xs_ll q p (q 7 (5 * d + 0)) with
  | none =>
    rw [xs_ho_n ho, if_pos]
    rw [decide_eq_true ((tb_lent_0 ok hd).mpr ho)]
    rfl
  | some K =>
    obtain ⟨b1, b2, b3⟩ := xs_ll_some ho
    have hLK := xs_L_kn ok hd b1 b2
    have hl : tb_lent q d p = q 5 K := by rw [← xs_no_lent ok hd]; exact xs_no_k ho
    have hn : ¬ tb_lent q d p = 0 := fun z => by rw [tb_lent_0 ok hd, ho] at z; cases z
    rw [decide_eq_false hn, hl]
    unfold xs_ho
    rw [ho]
    show (if ¬ xs_bk q (q 4 K) (q 2 K) (q 5 K) (q 0 (q 4 K)) = 0 ∧ ¬ q 7 (5 * d + q 4 K) < xs_bk q (q 4 K) (q 2 K) (q 5 K) (q 0 (q 4 K)) then 0 else q 4 K + 1) = _
    rw [b3]
    show (if ¬ xs_bk q (q 4 K) p (q 5 K) (q 0 (q 4 K)) = 0 ∧ ¬ q 7 (5 * d + q 4 K) < xs_bk q (q 4 K) p (q 5 K) (q 0 (q 4 K)) then 0 else q 4 K + 1) = _
    by_cases hb : tb_back q d p (q 5 K) = true
    · rw [if_pos ((tb_back_bk ok hd hLK b3).mp hb), if_pos (by rw [hb]; rfl)]
    · rw [if_neg (fun z => hb ((tb_back_bk ok hd hLK b3).mpr z)), if_neg (by simpa using hb)]
      unfold tb_ht
      rw [tb_ht_k ok hd ho, if_neg (by omega)]
theorem xs_nx_lent {q : tb_Q} (ok : tb_ok q) (p : Nat) : xs_nx q p = tb_lent q 0 p + 1 := by
  rw [← xs_no_lent ok (by decide : 0 < 5)]
  unfold xs_nx xs_no
  rw [(ok.own 0 (by decide)).1]
  cases xs_ll q p (q 0 0) <;> rfl
theorem xs_bk_nx {q : tb_Q} (ok : tb_ok q) {t p : Nat} (ht : t < 5) : xs_bk q t p (xs_nx q p) (q 0 t) = 0 := by
  refine Decidable.byContradiction (fun hnz => ?_)
  obtain ⟨i, hi⟩ : ∃ i, xs_bk q t p (xs_nx q p) (q 0 t) = i + 1 := ⟨_, (Nat.succ_pred_eq_of_ne_zero hnz).symm⟩
  obtain ⟨a1, a2, a3, a4⟩ := xs_bk_s hi
  have h40 := ok.m40 t
  have hBi : xs_isB q (40 * t + i) := ⟨by omega, by rw [show (40 * t + i) % 40 = i by omega, show (40 * t + i) / 40 = t by omega]; exact a1, a2⟩
  obtain ⟨j, b1, b2, b3, b4⟩ := ok.bl _ hBi
  have := tb_lent_ge ok (d := 0) (p := p) (k := j) (by decide) (by rw [(ok.own 0 (by decide)).1]; exact b1.1) b1.2 (by rw [b2, a3])
  rw [a4, xs_nx_lent ok] at b3
  omega
/-- who holds a plot was lent it, and has not given it back -/
theorem tb_holds_k {q : tb_Q} (ok : tb_ok q) {t p : Nat} (ht : t < 5) (h : t + 1 = tb_holds q t p) : ∃ K, xs_isL q K ∧ q 2 K = p ∧ q 5 K = tb_lent q t p ∧ q 4 K = t := by
  rw [← xs_ho_holds ok ht] at h
  cases ho : xs_ll q p (q 7 (5 * t + 0)) with
  | none => rw [xs_ho_n ho] at h; omega
  | some K =>
    obtain ⟨b1, b2, b3⟩ := xs_ll_some ho
    exact ⟨K, xs_L_kn ok ht b1 b2, b3, by rw [← xs_no_lent ok ht]; exact (xs_no_k ho).symm, xs_ho_k ho h⟩
theorem tb_holds_b {q : tb_Q} (ok : tb_ok q) {t p : Nat} (ht : t < 5) (h : t + 1 = tb_holds q t p) : ∀ g, xs_isB q g → g / 40 = t → q 2 g = p → q 4 g = tb_lent q t p → False := by
  intro g hB hg h2 h4
  have : tb_back q t p (tb_lent q t p) = true := tb_back_t.mpr ⟨g, hB.1, by rw [hg, (ok.own t ht).1, ← hg]; exact hB.2.1, hB.2.2, h2, h4⟩
  unfold tb_holds at h
  rw [this, Bool.or_true, if_pos rfl] at h
  omega
