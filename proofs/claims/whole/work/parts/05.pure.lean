/-! The picture: one table of numbers, q r i (r: 0 many, 1 kinds, 2 plots, 3 fields, 4 values, 5 ranks, 6 vectors, 7 knows, 8 kept, 9 factors, 10 lows, 11 highs, 12 stands; 13: the meeting, each number one more). What each question answers, of the picture alone. -/
abbrev tb_Q : Type := Nat → Nat → Nat
def tb_set (q : tb_Q) (r j v : Nat) : tb_Q := va_up q r (va_up (q r) j v)
def tb_m1 (n : Nat) : Int32 := nI n - 1
def tb_fo {α : Type} (f : Nat → α → α) (z : α) : Nat → α
  | 0 => z
  | n + 1 => f n (tb_fo f z n)
theorem tb_fo_s {α : Type} (f : Nat → α → α) (z : α) (n : Nat) : tb_fo f z (n + 1) = f n (tb_fo f z n) := rfl
/-- all numbers of the picture are small -/
def tb_sm (q : tb_Q) : Prop := ∀ r i, q r i ≤ 2000
def tb_in (v lo hi : Int32) : Bool := !decide (v < lo) && !decide (hi < v)
def tb_kn (q : tb_Q) (d a k : Nat) : Bool := !decide (q 7 (5 * d + a) ≤ k)
def tb_ln (q : tb_Q) (d p k : Nat) : Bool := tb_kn q d 0 k && decide (q 1 k = 0) && decide (q 2 k = p)
def tb_lentF (q : tb_Q) (d p k n : Nat) : Nat := if (tb_ln q d p k && !decide (q 5 k ≤ n)) = true then q 5 k else n
def tb_lent (q : tb_Q) (d p : Nat) : Nat := tb_fo (tb_lentF q d p) 0 40
def tb_bkP (q : tb_Q) (d p n e : Nat) : Bool := tb_kn q d (e / 40) (e % 40) && decide (q 1 e = 1) && decide (q 2 e = p) && decide (q 4 e = n)
def tb_bkF (q : tb_Q) (d p n e : Nat) (b : Bool) : Bool := b || tb_bkP q d p n e
def tb_back (q : tb_Q) (d p n : Nat) : Bool := tb_fo (tb_bkF q d p n) false 200
def tb_htF (q : tb_Q) (d p n k t : Nat) : Nat := if (tb_ln q d p k && decide (q 5 k = n)) = true then q 4 k + 1 else t
def tb_ht (q : tb_Q) (d p n : Nat) : Nat := tb_fo (tb_htF q d p n) 0 40
/-- who holds the plot, one more; 0 nobody -/
def tb_holds (q : tb_Q) (d p : Nat) : Nat := if (decide (tb_lent q d p = 0) || tb_back q d p (tb_lent q d p)) = true then 0 else tb_ht q d p (tb_lent q d p)
def tb_of (q : tb_Q) (d p f e : Nat) : Bool := tb_kn q d (e / 40) (e % 40) && decide (q 1 e = 2) && decide (q 2 e = p) && decide (q 3 e = f)
def tb_lsP (q : tb_Q) (d p f e g : Nat) : Bool := decide (g = e) || !tb_of q d p f g || !decide (e % 40 < q 6 (5 * g + e / 40))
def tb_lsF (q : tb_Q) (d p f e g : Nat) (b : Bool) : Bool := b && tb_lsP q d p f e g
def tb_last (q : tb_Q) (d p f e : Nat) : Bool := tb_fo (tb_lsF q d p f e) (tb_of q d p f e) 200
def tb_rkF (q : tb_Q) (d p f e r : Nat) : Nat := if (tb_last q d p f e && !decide (q 5 e + 1 ≤ r)) = true then q 5 e + 1 else r
/-- the greatest rank of what is left, one more; 0 none -/
def tb_rank (q : tb_Q) (d p f : Nat) : Nat := tb_fo (tb_rkF q d p f) 0 200
def tb_shF (q : tb_Q) (d p f r e l : Nat) : Nat := if (tb_last q d p f e && decide (q 5 e + 1 = r)) = true then e + 1 else l
/-- the entry that is shown, one more; 0 none -/
def tb_shown (q : tb_Q) (d p f : Nat) : Nat := tb_fo (tb_shF q d p f (tb_rank q d p f)) 0 200
def tb_cfF (q : tb_Q) (d p f l e : Nat) (b : Bool) : Bool := b || (tb_last q d p f e && decide (q 5 e = q 5 l) && decide (¬ q 4 e = q 4 l))
def tb_cfx (q : tb_Q) (d p f i : Nat) : Bool := if tb_shown q d p f = 0 then false else tb_fo (tb_cfF q d p f (tb_shown q d p f - 1)) false i
def tb_conf (q : tb_Q) (d p f : Nat) : Bool := tb_cfx q d p f 200
/-- how many spots before k are in conflict -/
def tb_cnt (q : tb_Q) (d : Nat) : Nat → Nat
  | 0 => 0
  | k + 1 => if tb_conf q d (k / 12) (k % 12) = true then tb_cnt q d k + 1 else tb_cnt q d k
/-- the i-th spot in conflict, one more; 0 none -/
def tb_inc (q : tb_Q) (d : Nat) (i : Int32) : Nat → Nat
  | 0 => 0
  | k + 1 => if tb_inc q d i k = 0 then (if (tb_conf q d (k / 12) (k % 12) && decide (nI (tb_cnt q d k) = i)) = true then k + 1 else 0) else tb_inc q d i k
def tb_rsF (q : tb_Q) (d p f e r : Nat) : Nat := if (tb_of q d p f e && !decide (q 5 e ≤ r)) = true then q 5 e else r
def tb_top (q : tb_Q) (d p f : Nat) : Nat := tb_fo (tb_rsF q d p f) 0 200
def tb_isV (f : Nat) (v : Int32) : Bool := if f = 0 then tb_in v 0 3 else tb_in v 10 (if f = 1 then 2000 else 600)
/-- what device d knows is kept -/
def tb_kpF (d a : Nat) (q : tb_Q) : tb_Q := tb_set q 8 (5 * d + a) (q 7 (5 * d + a))
def tb_keep (q : tb_Q) (d : Nat) : tb_Q := tb_fo (tb_kpF d) q 5
def tb_vcF (d e a : Nat) (q : tb_Q) : tb_Q := tb_set q 6 (5 * e + a) (q 7 (5 * d + a))
def tb_en1 (q : tb_Q) (e kind p f v r : Nat) : tb_Q := tb_set (tb_set (tb_set (tb_set (tb_set q 1 e kind) 2 e p) 3 e f) 4 e v) 5 e r
def tb_en2 (q : tb_Q) (d kind p f v r : Nat) : tb_Q := tb_fo (tb_vcF d (40 * d + q 0 d)) (tb_en1 q (40 * d + q 0 d) kind p f v r) 5
def tb_en3 (q : tb_Q) (d kind p f v r : Nat) : tb_Q := tb_set (tb_en2 q d kind p f v r) 0 d (tb_en2 q d kind p f v r 0 d + 1)
def tb_en4 (q : tb_Q) (d kind p f v r : Nat) : tb_Q := tb_set (tb_en3 q d kind p f v r) 7 (5 * d + d) (tb_en3 q d kind p f v r 7 (5 * d + d) + 1)
/-- a new entry of device d -/
def tb_ent (q : tb_Q) (d kind p f v r : Nat) : tb_Q :=
  tb_keep (tb_en4 q d kind p f v r) d
/-- the first author of whom 'to' knows fewer than 'from', one more; 0 none -/
def tb_carF (q : tb_Q) (fr to : Nat) : Nat → Nat
  | 0 => 0
  | a + 1 => if tb_carF q fr to a = 0 then (if q 7 (5 * fr + a) ≤ q 7 (5 * to + a) then 0 else a + 1) else tb_carF q fr to a
def tb_car (q : tb_Q) (fr to : Nat) : Nat := tb_carF q fr to 5
/-- one step of a swap, in one direction -/
def tb_cary (q : tb_Q) (fr to : Nat) : tb_Q := if tb_car q fr to = 0 then q else tb_set q 7 (5 * to + (tb_car q fr to - 1)) (q 7 (5 * to + (tb_car q fr to - 1)) + 1)
def tb_ends (q : tb_Q) : tb_Q := tb_set (tb_set q 13 0 0) 13 1 0
theorem tb_nI {f : Nat → Nat} {j v : Nat} : upd (fun k => nI (f k)) j (nI v) = fun k => nI (va_up f j v k) := by
  funext k
  by_cases h : k = j
  · subst h; rw [pk_us, va_up_self]
  · rw [pk_un h, va_up_ne _ _ h]
theorem tb_set_s (q : tb_Q) (r j v : Nat) : tb_set q r j v r = va_up (q r) j v := va_up_self _ _ _
theorem tb_set_n (q : tb_Q) {r r' : Nat} (j v : Nat) (h : r' ≠ r) : tb_set q r j v r' = q r' := va_up_ne _ _ h
theorem tb_sm_lt {q : tb_Q} (h : tb_sm q) (r i : Nat) : q r i < 2147483648 := Nat.lt_of_le_of_lt (h r i) (by decide)
theorem tb_m1_0 : tb_m1 0 = -1 := by decide +kernel
theorem tb_m1_s (n : Nat) : tb_m1 (n + 1) = nI n := nI_pred n
theorem tb_foN_le {f : Nat → Nat → Nat} {z B : Nat} (hz : z ≤ B) (hf : ∀ k n, n ≤ B → f k n ≤ B) : ∀ i, tb_fo f z i ≤ B
  | 0 => hz
  | i + 1 => hf i _ (tb_foN_le hz hf i)
theorem tb_lent_le {q : tb_Q} (hq : tb_sm q) (d p i : Nat) : tb_fo (tb_lentF q d p) 0 i ≤ 2000 := tb_foN_le (by decide) (fun k n hn => by unfold tb_lentF; split; exact hq _ _; exact hn) i
theorem tb_lent_lt {q : tb_Q} (hq : tb_sm q) (d p i : Nat) : tb_fo (tb_lentF q d p) 0 i < 2147483648 := Nat.lt_of_le_of_lt (tb_lent_le hq d p i) (by decide)
theorem tb_lentlt {q : tb_Q} (hq : tb_sm q) (d p : Nat) : tb_lent q d p < 2147483648 := tb_lent_lt hq d p 40
theorem tb_ht_lt {q : tb_Q} (hq : tb_sm q) (d p n i : Nat) : tb_fo (tb_htF q d p n) 0 i < 2147483648 := Nat.lt_of_le_of_lt (tb_foN_le (B := 2001) (by decide) (fun k t ht => by unfold tb_htF; split; exact Nat.succ_le_succ (hq _ _); exact ht) i) (by decide)
theorem tb_holdslt {q : tb_Q} (hq : tb_sm q) (d p : Nat) : tb_holds q d p < 2147483648 := by
  unfold tb_holds
  split
  · decide
  · exact tb_ht_lt hq d p _ 40
theorem tb_rank_lt {q : tb_Q} (hq : tb_sm q) (d p f i : Nat) : tb_fo (tb_rkF q d p f) 0 i < 2147483648 := Nat.lt_of_le_of_lt (tb_foN_le (B := 2001) (by decide) (fun k t ht => by unfold tb_rkF; split; exact Nat.succ_le_succ (hq _ _); exact ht) i) (by decide)
theorem tb_top_lt {q : tb_Q} (hq : tb_sm q) (d p f i : Nat) : tb_fo (tb_rsF q d p f) 0 i < 2147483648 := Nat.lt_of_le_of_lt (tb_foN_le (B := 2000) (by decide) (fun k t ht => by unfold tb_rsF; split; exact hq _ _; exact ht) i) (by decide)
theorem tb_sh_le (q : tb_Q) (d p f r : Nat) : ∀ i, tb_fo (tb_shF q d p f r) 0 i ≤ i
  | 0 => Nat.le_refl _
  | i + 1 => by
    rw [tb_fo_s]
    unfold tb_shF
    split
    · exact Nat.le_refl _
    · exact Nat.le_succ_of_le (tb_sh_le q d p f r i)
theorem tb_shown_le (q : tb_Q) (d p f : Nat) : tb_shown q d p f ≤ 200 := tb_sh_le q d p f _ 200
theorem tb_ls_ff {q : tb_Q} {d p f e i : Nat} (h : tb_fo (tb_lsF q d p f e) (tb_of q d p f e) i = false) : ∀ n, tb_fo (tb_lsF q d p f e) (tb_of q d p f e) (i + n) = false
  | 0 => h
  | n + 1 => by
    show tb_lsF q d p f e (i + n) (tb_fo (tb_lsF q d p f e) (tb_of q d p f e) (i + n)) = false
    rw [tb_ls_ff h n]
    rfl
theorem tb_ls_f {q : tb_Q} {d p f e i : Nat} (h : tb_fo (tb_lsF q d p f e) (tb_of q d p f e) i = false) (hi : i ≤ 200) : tb_last q d p f e = false := by
  have := tb_ls_ff h (200 - i)
  rw [show i + (200 - i) = 200 by omega] at this
  exact this
theorem tb_cfx_s {q : tb_Q} {d p f : Nat} (h : ¬ tb_shown q d p f = 0) (i : Nat) : tb_cfx q d p f (i + 1) = (tb_cfx q d p f i || (tb_last q d p f i && decide (q 5 i = q 5 (tb_shown q d p f - 1)) && decide (¬ q 4 i = q 4 (tb_shown q d p f - 1)))) := by
  unfold tb_cfx
  rw [if_neg h, if_neg h]
  rfl
theorem tb_cfx_0 {q : tb_Q} {d p f : Nat} (h : tb_shown q d p f = 0) (i : Nat) : tb_cfx q d p f i = false := by
  unfold tb_cfx
  rw [if_pos h]
theorem tb_inc_up {q : tb_Q} {d i : Nat} {x : Int32} (h : tb_inc q d x (i + 1) = i + 1) : ∀ n, tb_inc q d x (i + 1 + n) = i + 1
  | 0 => h
  | n + 1 => by
    show (if tb_inc q d x (i + 1 + n) = 0 then _ else tb_inc q d x (i + 1 + n)) = i + 1
    rw [tb_inc_up h n, if_neg (by omega)]
theorem tb_inc_at {q : tb_Q} {d i : Nat} {x : Int32} (h : tb_inc q d x (i + 1) = i + 1) (hi : i < 72) : tb_inc q d x 72 = i + 1 := by
  have := tb_inc_up h (71 - i)
  rw [show i + 1 + (71 - i) = 72 by omega] at this
  exact this
theorem tb_inc_le (q : tb_Q) (d : Nat) (x : Int32) : ∀ k, tb_inc q d x k ≤ k
  | 0 => Nat.le_refl _
  | k + 1 => by
    have := tb_inc_le q d x k
    show (if tb_inc q d x k = 0 then _ else tb_inc q d x k) ≤ k + 1
    split
    · split <;> omega
    · omega
theorem tb_carF_up {q : tb_Q} {fr to i : Nat} (h : tb_carF q fr to (i + 1) = i + 1) : ∀ n, tb_carF q fr to (i + 1 + n) = i + 1
  | 0 => h
  | n + 1 => by
    show (if tb_carF q fr to (i + 1 + n) = 0 then _ else tb_carF q fr to (i + 1 + n)) = i + 1
    rw [tb_carF_up h n, if_neg (by omega)]
theorem tb_car_at {q : tb_Q} {fr to i : Nat} (h : tb_carF q fr to (i + 1) = i + 1) (hi : i < 5) : tb_car q fr to = i + 1 := by
  have := tb_carF_up h (4 - i)
  rw [show i + 1 + (4 - i) = 5 by omega] at this
  exact this
theorem tb_m1_i {r : Nat} (h : r < 2147483648) : (tb_m1 r).toInt = (r : Int) - 1 := by
  cases r with
  | zero => decide +kernel
  | succ n => rw [tb_m1_s, nI_toInt (by omega)]; omega
theorem tb_m1_p {r : Nat} (h : ¬ r = 0) : tb_m1 r = nI (r - 1) := by
  cases r with
  | zero => exact absurd rfl h
  | succ n => exact tb_m1_s n
theorem tb_m1_lt {r : Nat} (h : r < 2147483648) : tb_m1 r < 0 ↔ r = 0 := by
  rw [Int32.lt_iff_toInt_lt, tb_m1_i h, Int32.toInt_zero]; omega
theorem tb_m1_ge {r : Nat} (h : r < 2147483648) : 0 ≤ tb_m1 r ↔ ¬ r = 0 := by
  rw [Int32.le_iff_toInt_le, tb_m1_i h, Int32.toInt_zero]; omega
theorem tb_m1_le {x r : Nat} (hx : x < 2147483648) (h : r < 2147483648) : nI x ≤ tb_m1 r ↔ x + 1 ≤ r := by
  rw [Int32.le_iff_toInt_le, tb_m1_i h, nI_toInt hx]; omega
theorem tb_m1_eq {x r : Nat} (hx : x < 2147483648) (h : r < 2147483648) : nI x = tb_m1 r ↔ x + 1 = r := by
  rw [← Int32.toInt_inj, tb_m1_i h, nI_toInt hx]; omega
section TBR
variable {p : Program} {l : Launch} {e : Env} {R : Room} {s : State} {m : MethodId} {args : Array Value} {below : List Frame} {meth : Method} {c : Code} {H : Heap} {locs : List Loc} {cells slots : Nat} {Q : State → Prop}
variable {cc : ByteArray} {pc tgt x r : Nat} {ls : Array Slot} {rest : List Value} {off : Int}
theorem um_leNM (hx : p.tables.exec = Jvm.exec) (hb : c.code = cc) (hdg : decode cc pc = .ok (.if_icmp .le off, 3)) (ht : (pc : Int) + off = (tgt : Int)) (h1 : x < 2147483648) (h2 : r < 2147483648) (kt : x + 1 ≤ r → W p l e R s m args below meth c H locs cells slots Q (F0 m tgt ls rest)) (kf : ¬ x + 1 ≤ r → W p l e R s m args below meth c H locs cells slots Q (F0 m (pc + 3) ls rest)) : W p l e R s m args below meth c H locs cells slots Q (F0 m pc ls (.int (tb_m1 r) :: .int (nI x) :: rest)) :=
  lv_icmp_le hx hb hdg ht (fun z => kt ((tb_m1_le h1 h2).mp z)) (fun z => kf (fun w => z ((tb_m1_le h1 h2).mpr w)))
theorem um_neNM (hx : p.tables.exec = Jvm.exec) (hb : c.code = cc) (hdg : decode cc pc = .ok (.if_icmp .ne off, 3)) (ht : (pc : Int) + off = (tgt : Int)) (h1 : x < 2147483648) (h2 : r < 2147483648) (kt : ¬ x + 1 = r → W p l e R s m args below meth c H locs cells slots Q (F0 m tgt ls rest)) (kf : x + 1 = r → W p l e R s m args below meth c H locs cells slots Q (F0 m (pc + 3) ls rest)) : W p l e R s m args below meth c H locs cells slots Q (F0 m pc ls (.int (tb_m1 r) :: .int (nI x) :: rest)) :=
  lv_icmp_ne hx hb hdg ht (fun z => kt (fun w => z ((tb_m1_eq h1 h2).mpr w))) (fun z => kf ((tb_m1_eq h1 h2).mp z))
theorem um_eqNM (hx : p.tables.exec = Jvm.exec) (hb : c.code = cc) (hdg : decode cc pc = .ok (.if_icmp .eq off, 3)) (ht : (pc : Int) + off = (tgt : Int)) (h1 : x < 2147483648) (h2 : r < 2147483648) (kt : x + 1 = r → W p l e R s m args below meth c H locs cells slots Q (F0 m tgt ls rest)) (kf : ¬ x + 1 = r → W p l e R s m args below meth c H locs cells slots Q (F0 m (pc + 3) ls rest)) : W p l e R s m args below meth c H locs cells slots Q (F0 m pc ls (.int (tb_m1 r) :: .int (nI x) :: rest)) :=
  lv_icmp_eq hx hb hdg ht (fun z => kt ((tb_m1_eq h1 h2).mp z)) (fun z => kf (fun w => z ((tb_m1_eq h1 h2).mpr w)))
theorem um_neMN (hx : p.tables.exec = Jvm.exec) (hb : c.code = cc) (hdg : decode cc pc = .ok (.if_icmp .ne off, 3)) (ht : (pc : Int) + off = (tgt : Int)) (h1 : x < 2147483648) (h2 : r < 2147483648) (kt : ¬ x + 1 = r → W p l e R s m args below meth c H locs cells slots Q (F0 m tgt ls rest)) (kf : x + 1 = r → W p l e R s m args below meth c H locs cells slots Q (F0 m (pc + 3) ls rest)) : W p l e R s m args below meth c H locs cells slots Q (F0 m pc ls (.int (nI x) :: .int (tb_m1 r) :: rest)) :=
  lv_icmp_ne hx hb hdg ht (fun z => kt (fun w => z ((tb_m1_eq h1 h2).mpr w).symm)) (fun z => kf ((tb_m1_eq h1 h2).mp z.symm))
theorem um_eqMN (hx : p.tables.exec = Jvm.exec) (hb : c.code = cc) (hdg : decode cc pc = .ok (.if_icmp .eq off, 3)) (ht : (pc : Int) + off = (tgt : Int)) (h1 : x < 2147483648) (h2 : r < 2147483648) (kt : x + 1 = r → W p l e R s m args below meth c H locs cells slots Q (F0 m tgt ls rest)) (kf : ¬ x + 1 = r → W p l e R s m args below meth c H locs cells slots Q (F0 m (pc + 3) ls rest)) : W p l e R s m args below meth c H locs cells slots Q (F0 m pc ls (.int (nI x) :: .int (tb_m1 r) :: rest)) :=
  lv_icmp_eq hx hb hdg ht (fun z => kt ((tb_m1_eq h1 h2).mp z.symm)) (fun z => kf (fun w => z ((tb_m1_eq h1 h2).mpr w).symm))
theorem um_ltM (hx : p.tables.exec = Jvm.exec) (hb : c.code = cc) (hdg : decode cc pc = .ok (.ifCond .lt off, 3)) (ht : (pc : Int) + off = (tgt : Int)) (h2 : r < 2147483648) (kt : r = 0 → W p l e R s m args below meth c H locs cells slots Q (F0 m tgt ls rest)) (kf : ¬ r = 0 → W p l e R s m args below meth c H locs cells slots Q (F0 m (pc + 3) ls rest)) : W p l e R s m args below meth c H locs cells slots Q (F0 m pc ls (.int (tb_m1 r) :: rest)) :=
  lv_if_lt hx hb hdg ht (fun z => kt ((tb_m1_lt h2).mp z)) (fun z => kf (fun w => z ((tb_m1_lt h2).mpr w)))
theorem um_geM (hx : p.tables.exec = Jvm.exec) (hb : c.code = cc) (hdg : decode cc pc = .ok (.ifCond .ge off, 3)) (ht : (pc : Int) + off = (tgt : Int)) (h2 : r < 2147483648) (kt : ¬ r = 0 → W p l e R s m args below meth c H locs cells slots Q (F0 m tgt ls rest)) (kf : r = 0 → W p l e R s m args below meth c H locs cells slots Q (F0 m (pc + 3) ls rest)) : W p l e R s m args below meth c H locs cells slots Q (F0 m pc ls (.int (tb_m1 r) :: rest)) :=
  lv_if_ge hx hb hdg ht (fun z => kt ((tb_m1_ge h2).mp z)) (fun z => kf (Decidable.byContradiction (fun w => z ((tb_m1_ge h2).mpr w))))
end TBR
