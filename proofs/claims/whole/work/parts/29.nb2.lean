/-! What every picture that a run of calls makes keeps; rows for the walks over the notebook. -/
def xs_isB (q : tb_Q) (e : Nat) : Prop := e < 200 ∧ e % 40 < q 0 (e / 40) ∧ q 1 e = 1
def tb_ok (q : tb_Q) : Prop :=
  (tb_sm q) ∧
  (∀ d, q 0 d ≤ 40) ∧
  (∀ d a, d < 5 → a < 5 → q 7 (5 * d + a) ≤ q 0 a) ∧
  (∀ d a, d < 5 → a < 5 → q 8 (5 * d + a) ≤ q 7 (5 * d + a)) ∧
  (∀ d, d < 5 → q 7 (5 * d + d) = q 0 d ∧ q 8 (5 * d + d) = q 0 d) ∧
  (tb_sp q) ∧
  (∀ e, q 5 e ≤ q 0 0) ∧
  (∀ k, xs_isL q k → 1 ≤ q 4 k ∧ q 4 k < 5 ∧ q 2 k < 6 ∧ 1 ≤ q 5 k) ∧
  (∀ k j, xs_isL q k → xs_isL q j → k < j → q 2 k = q 2 j → q 5 k < q 5 j) ∧
  (∀ e, xs_isB q e → ∃ k, xs_isL q k ∧ q 2 k = q 2 e ∧ q 5 k = q 4 e ∧ q 4 k = e / 40) ∧
  (∀ e f, xs_isB q e → xs_isB q f → e / 40 = f / 40 → q 2 e = q 2 f → q 4 e = q 4 f → e = f) ∧
  (∀ e, xs_isM q e → q 2 e < 6 ∧ q 3 e < 12) ∧
  (∀ e, xs_isM q e → q 6 (5 * e + e / 40) = e % 40) ∧
  (∀ e a, xs_isM q e → a < 5 → q 6 (5 * e + a) ≤ q 8 (5 * (e / 40) + a)) ∧
  (∀ e f a, xs_isM q e → xs_isM q f → e / 40 = f / 40 → e < f → a < 5 → q 6 (5 * e + a) ≤ q 6 (5 * f + a)) ∧
  (q 13 0 ≤ 5 ∧ q 13 1 ≤ 5 ∧ (q 13 0 = 0 ↔ q 13 1 = 0) ∧ (q 13 0 = q 13 1 → q 13 0 = 0))
theorem tb_ok.sm {q : tb_Q} (h : tb_ok q) : tb_sm q := h.1
theorem tb_ok.m40 {q : tb_Q} (h : tb_ok q) : ∀ d, q 0 d ≤ 40 := h.2.1
theorem tb_ok.kn {q : tb_Q} (h : tb_ok q) : ∀ d a, d < 5 → a < 5 → q 7 (5 * d + a) ≤ q 0 a := h.2.2.1
theorem tb_ok.kp {q : tb_Q} (h : tb_ok q) : ∀ d a, d < 5 → a < 5 → q 8 (5 * d + a) ≤ q 7 (5 * d + a) := h.2.2.2.1
theorem tb_ok.own {q : tb_Q} (h : tb_ok q) : ∀ d, d < 5 → q 7 (5 * d + d) = q 0 d ∧ q 8 (5 * d + d) = q 0 d := h.2.2.2.2.1
theorem tb_ok.sp {q : tb_Q} (h : tb_ok q) : tb_sp q := h.2.2.2.2.2.1
theorem tb_ok.rk {q : tb_Q} (h : tb_ok q) : ∀ e, q 5 e ≤ q 0 0 := h.2.2.2.2.2.2.1
theorem tb_ok.lt {q : tb_Q} (h : tb_ok q) : ∀ k, xs_isL q k → 1 ≤ q 4 k ∧ q 4 k < 5 ∧ q 2 k < 6 ∧ 1 ≤ q 5 k := h.2.2.2.2.2.2.2.1
theorem tb_ok.li {q : tb_Q} (h : tb_ok q) : ∀ k j, xs_isL q k → xs_isL q j → k < j → q 2 k = q 2 j → q 5 k < q 5 j := h.2.2.2.2.2.2.2.2.1
theorem tb_ok.bl {q : tb_Q} (h : tb_ok q) : ∀ e, xs_isB q e → ∃ k, xs_isL q k ∧ q 2 k = q 2 e ∧ q 5 k = q 4 e ∧ q 4 k = e / 40 := h.2.2.2.2.2.2.2.2.2.1
theorem tb_ok.bu {q : tb_Q} (h : tb_ok q) : ∀ e f, xs_isB q e → xs_isB q f → e / 40 = f / 40 → q 2 e = q 2 f → q 4 e = q 4 f → e = f := h.2.2.2.2.2.2.2.2.2.2.1
theorem tb_ok.ms {q : tb_Q} (h : tb_ok q) : ∀ e, xs_isM q e → q 2 e < 6 ∧ q 3 e < 12 := h.2.2.2.2.2.2.2.2.2.2.2.1
theorem tb_ok.vo {q : tb_Q} (h : tb_ok q) : ∀ e, xs_isM q e → q 6 (5 * e + e / 40) = e % 40 := h.2.2.2.2.2.2.2.2.2.2.2.2.1
theorem tb_ok.vk {q : tb_Q} (h : tb_ok q) : ∀ e a, xs_isM q e → a < 5 → q 6 (5 * e + a) ≤ q 8 (5 * (e / 40) + a) := h.2.2.2.2.2.2.2.2.2.2.2.2.2.1
theorem tb_ok.vm {q : tb_Q} (h : tb_ok q) : ∀ e f a, xs_isM q e → xs_isM q f → e / 40 = f / 40 → e < f → a < 5 → q 6 (5 * e + a) ≤ q 6 (5 * f + a) := h.2.2.2.2.2.2.2.2.2.2.2.2.2.2.1
theorem tb_ok.me {q : tb_Q} (h : tb_ok q) : q 13 0 ≤ 5 ∧ q 13 1 ≤ 5 ∧ (q 13 0 = 0 ↔ q 13 1 = 0) ∧ (q 13 0 = q 13 1 → q 13 0 = 0) := h.2.2.2.2.2.2.2.2.2.2.2.2.2.2.2
theorem xs_lm_M {q : tb_Q} {sp a n e : Nat} (hm : ∀ d, q 0 d ≤ 40) (ha : a < 5) (hn : n ≤ q 0 a) (h : xs_lm q sp a n = some e) : xs_isM q e ∧ e / 40 = a ∧ 12 * q 2 e + q 3 e = sp ∧ e = 40 * a + e % 40 ∧ e % 40 < n := by
  obtain ⟨h1, h2, h3, h4⟩ := xs_lm_some h
  have h6 := hm a
  have e1 : e / 40 = a := by omega
  have e2 : e % 40 < q 0 a := by omega
  exact ⟨⟨by omega, by rw [e1]; exact e2, h3⟩, e1, h4, by omega, by omega⟩
theorem xs_ka_up {q : tb_Q} {lo : Nat → Option Nat} {e i : Nat} (h : tb_fo (xs_kaF q lo e) false i = true) : ∀ n, tb_fo (xs_kaF q lo e) false (i + n) = true
  | 0 => h
  | n + 1 => by
    show xs_kaF q lo e (i + n) (tb_fo (xs_kaF q lo e) false (i + n)) = true
    rw [xs_ka_up h n]
    rfl
theorem xs_ka_t {q : tb_Q} {lo : Nat → Option Nat} {e i : Nat} (h : tb_fo (xs_kaF q lo e) false (i + 1) = true) (hi : i < 5) : xs_ka q lo e = true := by
  have := xs_ka_up h (4 - i)
  rw [show i + 1 + (4 - i) = 5 by omega] at this
  exact this
theorem xs_un_n0 {q : tb_Q} {lo : Nat → Option Nat} {i : Nat} (h : lo i = none) : xs_un q lo i = none := by
  unfold xs_un
  rw [h]
theorem xs_un_n1 {q : tb_Q} {lo : Nat → Option Nat} {i e : Nat} (h : lo i = some e) (c : xs_ka q lo e = true) : xs_un q lo i = none := by
  unfold xs_un
  rw [h]
  exact if_pos c
theorem xs_un_y {q : tb_Q} {lo : Nat → Option Nat} {i e : Nat} (h : lo i = some e) (c : xs_ka q lo e = false) : xs_un q lo i = some e := by
  unfold xs_un
  rw [h]
  exact if_neg (by rw [c]; decide)
theorem xs_un_some {q : tb_Q} {lo : Nat → Option Nat} {i e : Nat} (h : xs_un q lo i = some e) : lo i = some e ∧ xs_ka q lo e = false := by
  unfold xs_un at h
  split at h
  · cases h
  · rename_i f hf
    split at h
    · cases h
    · rename_i hc
      cases h
      exact ⟨hf, by simpa using hc⟩
theorem xs_tp_n {q : tb_Q} {un : Nat → Option Nat} {i : Nat} (h : un i = none) : tb_fo (xs_tpF q un) 0 (i + 1) = tb_fo (xs_tpF q un) 0 i := by
  rw [tb_fo_s]
  show (match un i with | none => _ | some e => _) = _
  rw [h]
theorem xs_tp_y {q : tb_Q} {un : Nat → Option Nat} {i e : Nat} (h : un i = some e) : tb_fo (xs_tpF q un) 0 (i + 1) = if tb_fo (xs_tpF q un) 0 i < q 5 e then q 5 e else tb_fo (xs_tpF q un) 0 i := by
  rw [tb_fo_s]
  generalize tb_fo (xs_tpF q un) 0 i = t
  unfold xs_tpF
  rw [h]
  show (if q 5 e ≤ t then t else q 5 e) = _
  by_cases hc : q 5 e ≤ t
  · rw [if_pos hc, if_neg (by omega)]
  · rw [if_neg hc, if_pos (by omega)]
theorem xs_tp_lt {q : tb_Q} (hq : tb_sm q) (un : Nat → Option Nat) (i : Nat) : tb_fo (xs_tpF q un) 0 i < 2147483648 := Nat.lt_of_le_of_lt (tb_foN_le (B := 2000) (by decide) (fun k t ht => by
  unfold xs_tpF
  split
  · exact ht
  · split
    · exact ht
    · exact hq _ _) i) (by decide)
theorem xs_ls_y {q : tb_Q} {un : Nat → Option Nat} {top i e : Nat} {b : Bool} (h : un i = some e) (c : (decide (q 5 e = top) == b) = true) : xs_ls q un top b (i + 1) = xs_ls q un top b i ++ [e] := by
  show xs_lsF q un top b i (xs_ls q un top b i) = _
  unfold xs_lsF
  rw [h]
  exact if_pos c
theorem xs_ls_n {q : tb_Q} {un : Nat → Option Nat} {top i e : Nat} {b : Bool} (h : un i = some e) (c : ¬ (decide (q 5 e = top) == b) = true) : xs_ls q un top b (i + 1) = xs_ls q un top b i := by
  show xs_lsF q un top b i (xs_ls q un top b i) = _
  unfold xs_lsF
  rw [h]
  exact if_neg c
theorem xs_ls_0 {q : tb_Q} {un : Nat → Option Nat} {top i : Nat} {b : Bool} (h : un i = none) : xs_ls q un top b (i + 1) = xs_ls q un top b i := by
  show xs_lsF q un top b i (xs_ls q un top b i) = _
  unfold xs_lsF
  rw [h]
theorem xs_ls_2 (q : tb_Q) (un : Nat → Option Nat) (top : Nat) : ∀ i, (xs_ls q un top true i).length + (xs_ls q un top false i).length ≤ i
  | 0 => Nat.le_refl _
  | i + 1 => by
    have ih := xs_ls_2 q un top i
    cases h : un i with
    | none => rw [xs_ls_0 h, xs_ls_0 h]; omega
    | some e =>
      by_cases c : q 5 e = top
      · rw [xs_ls_y h (by simp [c]), xs_ls_n h (by simp [c]), List.length_append, List.length_singleton]; omega
      · rw [xs_ls_n h (by simp [c]), xs_ls_y h (by simp [c]), List.length_append, List.length_singleton]; omega
theorem xs_ls_st (q : tb_Q) (un : Nat → Option Nat) (top : Nat) (b : Bool) (i : Nat) : ∀ n, (xs_ls q un top b (i + n)).length ≤ (xs_ls q un top b i).length + n
  | 0 => Nat.le_refl _
  | n + 1 => by
    have ih := xs_ls_st q un top b i n
    show (xs_ls q un top b (i + n + 1)).length ≤ _
    cases h : un (i + n) with
    | none => rw [xs_ls_0 h]; omega
    | some e =>
      by_cases c : (decide (q 5 e = top) == b) = true
      · rw [xs_ls_y h c, List.length_append, List.length_singleton]; omega
      · rw [xs_ls_n h c]; omega
theorem xs_ls_5 (q : tb_Q) (un : Nat → Option Nat) (top : Nat) {i : Nat} (hi : i ≤ 5) : (xs_ls q un top true 5).length + (xs_ls q un top false i).length ≤ 5 := by
  have h1 := xs_ls_2 q un top i
  have h2 := xs_ls_st q un top true i (5 - i)
  rw [show i + (5 - i) = 5 by omega] at h2
  omega
theorem xs_app_n (sc : xs_S) (ma : Nat → Nat) (n : Nat) (l : List Nat) {r : Nat} (h : r ≠ 2) : (xs_app sc ma n l).1 r = sc.1 r := va_up_ne _ _ h
theorem xs_app_i0 (sc : xs_S) (ma : Nat → Nat) (n : Nat) (l : List Nat) : (xs_app sc ma n l).2.2.1 0 = sc.2.2.1 0 := show va_up sc.2.2.1 1 (nI (n + l.length)) 0 = sc.2.2.1 0 from va_up_ne _ _ (by decide)
theorem xs_sI_s (sc : xs_S) (i : Nat) (v : Int32) : (xs_sI sc i v).2.2.1 i = v := show va_up sc.2.2.1 i v i = v from va_up_self _ _ _
theorem xs_sI_n (sc : xs_S) {i j : Nat} (v : Int32) (h : j ≠ i) : (xs_sI sc i v).2.2.1 j = sc.2.2.1 j := show va_up sc.2.2.1 i v j = sc.2.2.1 j from va_up_ne _ _ h
theorem xs_app_z0 (sc : xs_S) (ma : Nat → Nat) (l : List Nat) : (xs_app sc ma 0 l).2.2.1 1 = nI l.length := by
  rw [xs_app_z, Nat.zero_add]
theorem xs_app_in (sc : xs_S) (ma : Nat → Nat) (n : Nat) (l : List Nat) {j : Nat} (h1 : n ≤ j) (h2 : j < n + l.length) : (xs_app sc ma n l).1 2 j = some (ma (l.getD (j - n) 0)) := by
  show va_up sc.1 2 (fun j => if n ≤ j ∧ j < n + l.length then (l[j - n]?).map ma else sc.1 2 j) 2 j = _
  rw [va_up_self]
  show (if n ≤ j ∧ j < n + l.length then (l[j - n]?).map ma else sc.1 2 j) = _
  rw [if_pos ⟨h1, h2⟩, List.getD_eq_getElem?_getD, List.getElem?_eq_getElem (by omega)]
  rfl
theorem xs_app_out (sc : xs_S) (ma : Nat → Nat) (n : Nat) (l : List Nat) {j : Nat} (h1 : j < n) : (xs_app sc ma n l).1 2 j = sc.1 2 j := by
  show va_up sc.1 2 (fun j => if n ≤ j ∧ j < n + l.length then (l[j - n]?).map ma else sc.1 2 j) 2 j = _
  rw [va_up_self]
  show (if n ≤ j ∧ j < n + l.length then (l[j - n]?).map ma else sc.1 2 j) = _
  rw [if_neg (by omega)]
/-- the scratch when the page of a spot has been opened -/
def xs_pg (q : tb_Q) (ma : Nat → Nat) (sc : xs_S) (d sp : Nat) : xs_S :=
  xs_app (xs_sI (xs_app (xs_sI (xs_fill (xs_fill sc 0 (fun j => (xs_lo q d sp j).map ma) 5) 1 (fun j => (xs_un q (xs_lo q d sp) j).map ma) 5) 1 (nI 0)) ma 0 (xs_ls q (xs_un q (xs_lo q d sp)) (xs_tp q (xs_un q (xs_lo q d sp))) true 5)) 0 (nI (xs_ls q (xs_un q (xs_lo q d sp)) (xs_tp q (xs_un q (xs_lo q d sp))) true 5).length)) ma (xs_ls q (xs_un q (xs_lo q d sp)) (xs_tp q (xs_un q (xs_lo q d sp))) true 5).length (xs_ls q (xs_un q (xs_lo q d sp)) (xs_tp q (xs_un q (xs_lo q d sp))) false 5)
/-- candidates, strays -/
def xs_C (q : tb_Q) (d sp : Nat) : List Nat := xs_ls q (xs_un q (xs_lo q d sp)) (xs_tp q (xs_un q (xs_lo q d sp))) true 5
def xs_D (q : tb_Q) (d sp : Nat) : List Nat := xs_ls q (xs_un q (xs_lo q d sp)) (xs_tp q (xs_un q (xs_lo q d sp))) false 5
/-- what a page says: candidates C, strays S -/
def xs_page (ma : Nat → Nat) (sc : xs_S) (C S : List Nat) : Prop := sc.2.2.1 0 = nI C.length ∧ sc.2.2.1 1 = nI (C.length + S.length) ∧ ∀ j, j < C.length + S.length → sc.1 2 j = some (ma ((C ++ S).getD j 0))
theorem xs_pg_page (q : tb_Q) (ma : Nat → Nat) (sc : xs_S) (d sp : Nat) : xs_page ma (xs_pg q ma sc d sp) (xs_C q d sp) (xs_D q d sp) := by
  refine ⟨?_, ?_, ?_⟩
  · exact (xs_app_i0 _ _ _ _).trans (xs_sI_s _ _ _)
  · exact xs_app_z _ _ _ _
  · intro j hj
    by_cases h : j < (xs_C q d sp).length
    · rw [List.getD_eq_getElem?_getD, List.getElem?_append_left h]
      show (xs_app _ ma (xs_C q d sp).length (xs_D q d sp)).1 2 j = _
      rw [xs_app_out _ _ _ _ h]
      show (xs_app _ ma 0 (xs_C q d sp)).1 2 j = _
      rw [xs_app_in _ _ _ _ (Nat.zero_le _) (by rw [Nat.zero_add]; exact h), List.getD_eq_getElem?_getD]
      rfl
    · rw [List.getD_eq_getElem?_getD, List.getElem?_append_right (by omega)]
      show (xs_app _ ma (xs_C q d sp).length (xs_D q d sp)).1 2 j = _
      rw [xs_app_in _ _ _ _ (Nat.le_of_not_lt h) hj, List.getD_eq_getElem?_getD]
theorem xs_ls_mem {q : tb_Q} {un : Nat → Option Nat} {top e : Nat} {b : Bool} : ∀ {n : Nat}, e ∈ xs_ls q un top b n → ∃ i, i < n ∧ un i = some e ∧ (decide (q 5 e = top) == b) = true
  | 0 => fun h => by cases h
  | n + 1 => by
    intro h
    cases ho : un n with
    | none =>
      rw [xs_ls_0 ho] at h
      obtain ⟨i, h1, h2⟩ := xs_ls_mem h
      exact ⟨i, by omega, h2⟩
    | some f =>
      by_cases c : (decide (q 5 f = top) == b) = true
      · rw [xs_ls_y ho c, List.mem_append, List.mem_singleton] at h
        rcases h with h | rfl
        · obtain ⟨i, h1, h2⟩ := xs_ls_mem h
          exact ⟨i, by omega, h2⟩
        · exact ⟨n, by omega, ho, c⟩
      · rw [xs_ls_n ho c] at h
        obtain ⟨i, h1, h2⟩ := xs_ls_mem h
        exact ⟨i, by omega, h2⟩
theorem xs_CD_M {q : tb_Q} (ok : tb_ok q) {d sp e : Nat} (hd : d < 5) (h : e ∈ xs_C q d sp ++ xs_D q d sp) : xs_isM q e ∧ 12 * q 2 e + q 3 e = sp := by
  rw [List.mem_append] at h
  have : ∃ i, i < 5 ∧ xs_un q (xs_lo q d sp) i = some e := by
    rcases h with h | h
    · obtain ⟨i, h1, h2, _⟩ := xs_ls_mem h
      exact ⟨i, h1, h2⟩
    · obtain ⟨i, h1, h2, _⟩ := xs_ls_mem h
      exact ⟨i, h1, h2⟩
  obtain ⟨i, h1, h2⟩ := this
  have h3 := xs_lo_M ok.m40 ok.kn hd h1 (xs_un_some h2).1
  exact ⟨h3.1, h3.2.2⟩
theorem xs_CD_len (q : tb_Q) (d sp : Nat) : (xs_C q d sp).length + (xs_D q d sp).length ≤ 5 := xs_ls_5 q _ _ (Nat.le_refl 5)
theorem xs_getD_mem {l : List Nat} {j : Nat} (h : j < l.length) : l.getD j 0 ∈ l := by
  rw [List.getD_eq_getElem?_getD, List.getElem?_eq_getElem h]
  exact List.getElem_mem h
/-- do the candidates disagree -/
def xs_cf (q : tb_Q) (C : List Nat) : Bool := C.any (fun e => !decide (q 4 e = q 4 (C.getD 0 0)))
theorem xs_cf_t {q : tb_Q} {C : List Nat} {i : Nat} (hi : i < C.length) (h : ¬ q 4 (C.getD i 0) = q 4 (C.getD 0 0)) : xs_cf q C = true := by
  unfold xs_cf
  rw [List.any_eq_true]
  exact ⟨_, xs_getD_mem hi, by
    show (!decide (q 4 (C.getD i 0) = q 4 (C.getD 0 0))) = true
    rw [decide_eq_false h]
    rfl⟩
theorem xs_cf_f {q : tb_Q} {C : List Nat} (h : ∀ j, j < C.length → q 4 (C.getD j 0) = q 4 (C.getD 0 0)) : xs_cf q C = false := by
  unfold xs_cf
  rw [List.any_eq_false]
  intro e he
  obtain ⟨j, hj, rfl⟩ := List.getElem_of_mem he
  have := h j hj
  rw [List.getD_eq_getElem?_getD, List.getElem?_eq_getElem hj] at this
  simpa using this
/-- the greatest rank along a chain -/
def xs_grC (q : tb_Q) (sp a : Nat) : Nat → Nat → Nat
  | 0, g => g
  | n + 1, g => if q 1 (40 * a + n) = 2 ∧ 12 * q 2 (40 * a + n) + q 3 (40 * a + n) = sp then xs_grC q sp a n (if g < q 5 (40 * a + n) then q 5 (40 * a + n) else g) else xs_grC q sp a n g
def xs_gr (q : tb_Q) (d sp : Nat) : Nat := tb_fo (fun a g => xs_grC q sp a (q 7 (5 * d + a)) g) 0 5
theorem xs_grC_n {q : tb_Q} {sp a n g : Nat} (h : xs_lm q sp a n = none) : xs_grC q sp a n g = g := by
  induction n with
  | zero => rfl
  | succ n ih =>
    unfold xs_lm at h
    split at h
    · cases h
    · rename_i hc
      unfold xs_grC
      rw [if_neg hc]
      exact ih h
theorem xs_grC_y {q : tb_Q} {sp a n g e : Nat} (h : xs_lm q sp a n = some e) : xs_grC q sp a n g = xs_grC q sp a (e - 40 * a) (if g < q 5 e then q 5 e else g) := by
  induction n with
  | zero => cases h
  | succ n ih =>
    unfold xs_lm at h
    split at h
    · rename_i hc
      cases h
      rw [show 40 * a + n - 40 * a = n by omega]
      show (if _ then _ else _) = _
      rw [if_pos hc]
    · rename_i hc
      show (if _ then _ else _) = _
      rw [if_neg hc]
      exact ih h
theorem xs_grC_le {q : tb_Q} {B : Nat} (hq : ∀ e, q 5 e ≤ B) {sp a : Nat} : ∀ {n g : Nat}, g ≤ B → xs_grC q sp a n g ≤ B
  | 0, g => fun h => h
  | n + 1, g => by
    intro h
    show (if _ then _ else _) ≤ B
    split
    · refine xs_grC_le hq ?_
      split
      · exact hq _
      · exact h
    · exact xs_grC_le hq h
theorem xs_gr_le {q : tb_Q} {B : Nat} (hq : ∀ e, q 5 e ≤ B) (d sp i : Nat) : tb_fo (fun a g => xs_grC q sp a (q 7 (5 * d + a)) g) 0 i ≤ B := tb_foN_le (Nat.zero_le _) (fun k n hn => xs_grC_le hq hn) i
theorem xs_getD_l {C S : List Nat} {j : Nat} (h : j < C.length) : (C ++ S).getD j 0 = C.getD j 0 := by
  rw [List.getD_eq_getElem?_getD, List.getD_eq_getElem?_getD, List.getElem?_append_left h]
theorem xs_last_n {C : List Nat} (h : C.length = 0) : C.getLast? = none := by
  rw [List.length_eq_zero_iff.mp h]
  rfl
theorem xs_last_y {C S : List Nat} (h : ¬ C.length = 0) : C.getLast? = some ((C ++ S).getD (C.length - 1) 0) := by
  rw [xs_getD_l (by omega), List.getLast?_eq_getElem?, List.getD_eq_getElem?_getD, List.getElem?_eq_getElem (by omega)]
  rfl
/-- the code at place j of candidates and strays -/
def xs_code (C S : List Nat) (j : Nat) : Int32 := if C.length + S.length ≤ j then -1 else if j < C.length then nI (100 * ((C ++ S).getD j 0 / 40) + ((C ++ S).getD j 0 % 40 + 1)) else nI (100 * ((C ++ S).getD j 0 / 40) + ((C ++ S).getD j 0 % 40 + 1) + 1000)
theorem xs_gr_lt {q : tb_Q} (hq : tb_sm q) (d sp i : Nat) : tb_fo (fun a g => xs_grC q sp a (q 7 (5 * d + a)) g) 0 i < 2147483648 := Nat.lt_of_le_of_lt (xs_gr_le (hq 5) d sp i) (by decide)
theorem xs_kaP_0 {q : tb_Q} {lo : Nat → Option Nat} {e i : Nat} (h : lo i = none) : xs_kaP q lo e i = false := by
  unfold xs_kaP
  rw [h]
theorem xs_kaP_e {q : tb_Q} {lo : Nat → Option Nat} {e f i : Nat} (h : lo i = some f) (c : f = e) : xs_kaP q lo e i = false := by
  unfold xs_kaP
  rw [h]
  simp [c]
theorem xs_kaP_y {q : tb_Q} {lo : Nat → Option Nat} {e f i : Nat} (h : lo i = some f) (c : ¬ f = e) : xs_kaP q lo e i = !decide (q 6 (5 * f + e / 40) < e % 40 + 1) := by
  unfold xs_kaP
  rw [h]
  show (!decide (f = e) && _) = _
  rw [decide_eq_false c]
  rfl
section NC
variable {p : Program} {l : Launch} {e : Env} {R : Room} {s : State} {m : MethodId} {args : Array Value} {below : List Frame} {meth : Method} {c : Code} {H : Heap} {locs : List Loc} {cells slots : Nat} {Q : State → Prop}
variable {cc : ByteArray} {pc tgt : Nat} {ls : Array Slot} {rest : List Value} {off : Int} {D : va_G} {A : Nat → Prop} {σ : um_M} {κ : Nat → ClassId} {xd la ma va : Nat → Nat} {q : tb_Q} {sc : xs_S}
theorem xs_acmp (hx : p.tables.exec = Jvm.exec) (hb : c.code = cc) (h : xs_at κ σ xd la ma va q sc) {e9 f9 : Nat} (he : xs_isM q e9) (hf : xs_isM q f9) (hdg : decode cc pc = .ok (.if_acmp .eq off, 3)) (ht : (pc : Int) + off = (tgt : Int)) (kt : f9 = e9 → W p l e R s m args below meth c H locs cells slots Q (F0 m tgt ls rest)) (kf : ¬ f9 = e9 → W p l e R s m args below meth c H locs cells slots Q (F0 m (pc + 3) ls rest)) : W p l e R s m args below meth c H locs cells slots Q (F0 m pc ls (.ref (ma e9) :: .ref (ma f9) :: rest)) :=
  lv_acmp_eq (rx := some (ma f9)) (ry := some (ma e9)) hx hb hdg ht (fun z => kt (h.maI he hf (by injection z))) (fun z => kf (fun w => z (by rw [w])))
theorem um_max {own : String} {index : Nat} (hx : p.tables.exec = Jvm.exec) (hb : c.code = cc) (hml : c.maxLocals = ls.size) (hown : s.vm.findClass own = some m.cls) (hlink : (Cond.methodLink own index Lib.Math.max.name).before args s = true) (hstat : (Cond.static Lib.Math.max.name).before args s = true) (hini : (Cond.initialized "java/lang/Math").before args s = true) (hcode : (Cond.code Lib.Math.max.name Lib.Math.max.code 2 (some .int)).before args s = true)
    (hframes : 1 ≤ R.frames) (hlocals : (rest.map fun v => v.category).sum + 13 ≤ R.locals) (hc : cells ≤ R.cells) (hs : slots ≤ R.slots) {x y : Nat} (h1 : x < 2147483648) (h2 : y < 2147483648) (hdg : decode cc pc = .ok (.invokestatic index, 3))
    (kk : W p l e R s m args below meth c H locs cells slots Q (F0 m (pc + 3) ls (.int (nI (if x < y then y else x)) :: rest))) : W p l e R s m args below meth c H locs cells slots Q (F0 m pc ls (.int (nI y) :: .int (nI x) :: rest)) := by
  refine va_mmax hx hb hml hown hlink hstat hini hcode hframes hlocals hc hs hdg ?_
  have : (if nI x < nI y then nI y else nI x) = nI (if x < y then y else x) := by
    by_cases hxy : x < y
    · rw [if_pos hxy, if_pos (by rw [Int32.lt_iff_toInt_lt, nI_toInt h1, nI_toInt h2]; omega)]
    · rw [if_neg hxy, if_neg (by rw [Int32.lt_iff_toInt_lt, nI_toInt h1, nI_toInt h2]; omega)]
  rw [this]
  exact kk
theorem um_subN (hx : p.tables.exec = Jvm.exec) (hb : c.code = cc) (hdg : decode cc pc = .ok (.isub, 1)) {x : Nat} (h : ¬ x = 0) (kk : W p l e R s m args below meth c H locs cells slots Q (F0 m (pc + 1) ls (.int (nI (x - 1)) :: rest))) : W p l e R s m args below meth c H locs cells slots Q (F0 m pc ls (.int (nI 1) :: .int (nI x) :: rest)) := by
  refine lv_isub hx hb hdg ?_
  rw [show nI x - nI 1 = nI (x - 1) from tb_m1_p h]
  exact kk
end NC
