/-! Volumes and errors, of the picture. -/
def tb_th (q : tb_Q) (d p t : Nat) : Nat := (if tb_shown q d p (3 * t) = 0 then 0 else 1) + (if tb_shown q d p (3 * t + 1) = 0 then 0 else 1) + (if tb_shown q d p (3 * t + 2) = 0 then 0 else 1)
def tb_val (q : tb_Q) (d p f : Nat) : Nat := q 4 (tb_shown q d p f - 1)
def tb_bad (q : tb_Q) (k dv hv : Nat) : Bool := decide (100 * hv < q 10 k * dv) || !decide (100 * hv ≤ q 11 k * dv)
def tb_vol (dv hv f : Int64) : Int64 := dv * dv * hv * f / 100000
def tb_tree (q : tb_Q) (d p t w : Nat) : Int64 :=
  if w = 2 then (if ¬ tb_th q d p t = 0 ∧ ¬ 3 ≤ tb_th q d p t then 1 else 0)
  else if ¬ 3 ≤ tb_th q d p t then 0
  else if w = 0 then tb_vol (nI (tb_val q d p (3 * t + 1))).toInt64 (nI (tb_val q d p (3 * t + 2))).toInt64 (nI (q 9 (tb_val q d p (3 * t)))).toInt64
  else if w = 1 then (nI (tb_val q d p (3 * t + 1))).toInt64 * (nI (tb_val q d p (3 * t + 1))).toInt64
  else if tb_bad q (tb_val q d p (3 * t)) (tb_val q d p (3 * t + 1)) (tb_val q d p (3 * t + 2)) = true then 1 else 0
def tb_smF (q : tb_Q) (d p w t : Nat) (v : Int64) : Int64 := v + (tb_tree q d p t w <<< ((nI (if w = 3 then t else 0)).toInt64 &&& 63))
def tb_sum (q : tb_Q) (d p w : Nat) : Int64 := tb_fo (tb_smF q d p w) 0 4
def tb_rtS (v : Int64) (n : Nat) (r : Int64) : Int64 := if v < (r + ((1 : Int64) <<< ((nI n).toInt64 &&& 63))) * (r + ((1 : Int64) <<< ((nI n).toInt64 &&& 63))) then r else r + ((1 : Int64) <<< ((nI n).toInt64 &&& 63))
/-- from bit n - 1 down -/
def tb_rt (v : Int64) : Nat → Int64 → Int64
  | 0, r => r
  | n + 1, r => tb_rt v n (tb_rtS v n r)
def tb_root (v : Int64) : Int64 := tb_rt v 31 0
section LCR
variable {p : Program} {l : Launch} {e : Env} {R : Room} {s : State} {m : MethodId} {args : Array Value} {below : List Frame} {meth : Method} {c : Code} {H : Heap} {locs : List Loc} {cells slots : Nat} {Q : State → Prop}
variable {cc : ByteArray} {pc tgt : Nat} {x y : Int64} {ls : Array Slot} {rest : List Value} {off : Int}
theorem um_gtC (hx : p.tables.exec = Jvm.exec) (hb : c.code = cc) (hdg : decode cc pc = .ok (.ifCond .gt off, 3)) (ht : (pc : Int) + off = (tgt : Int)) (kt : y < x → W p l e R s m args below meth c H locs cells slots Q (F0 m tgt ls rest)) (kf : ¬ y < x → W p l e R s m args below meth c H locs cells slots Q (F0 m (pc + 3) ls rest)) : W p l e R s m args below meth c H locs cells slots Q (F0 m pc ls (.int (lg_cmp x y) :: rest)) :=
  lv_if_gt hx hb hdg ht (fun z => kt ((lg_cmp_gt x y).mp z)) (fun z => kf (fun w => z ((lg_cmp_gt x y).mpr w)))
theorem um_geC (hx : p.tables.exec = Jvm.exec) (hb : c.code = cc) (hdg : decode cc pc = .ok (.ifCond .ge off, 3)) (ht : (pc : Int) + off = (tgt : Int)) (kt : y ≤ x → W p l e R s m args below meth c H locs cells slots Q (F0 m tgt ls rest)) (kf : ¬ y ≤ x → W p l e R s m args below meth c H locs cells slots Q (F0 m (pc + 3) ls rest)) : W p l e R s m args below meth c H locs cells slots Q (F0 m pc ls (.int (lg_cmp x y) :: rest)) :=
  lv_if_ge hx hb hdg ht (fun z => kt ((lg_cmp_ge x y).mp z)) (fun z => kf (fun w => z ((lg_cmp_ge x y).mpr w)))
theorem um_eqC (hx : p.tables.exec = Jvm.exec) (hb : c.code = cc) (hdg : decode cc pc = .ok (.ifCond .eq off, 3)) (ht : (pc : Int) + off = (tgt : Int)) (kt : x = y → W p l e R s m args below meth c H locs cells slots Q (F0 m tgt ls rest)) (kf : ¬ x = y → W p l e R s m args below meth c H locs cells slots Q (F0 m (pc + 3) ls rest)) : W p l e R s m args below meth c H locs cells slots Q (F0 m pc ls (.int (lg_cmp x y) :: rest)) :=
  lv_if_eq hx hb hdg ht (fun z => kt ((lg_cmp_eq x y).mp z)) (fun z => kf (fun w => z ((lg_cmp_eq x y).mpr w)))
end LCR
/-! What each call answers, what it throws (0 nothing), the picture behind it: of the picture and the raw arguments. -/
theorem tb_inN {x : Int32} {a n : Nat} (ha : a < 2147483648) (hn : n < 2147483648) (h : tb_in x (nI a) (nI n) = true) : ∃ j : Nat, a ≤ j ∧ j ≤ n ∧ x = nI j := by
  simp only [tb_in, Bool.and_eq_true, Bool.not_eq_true', decide_eq_false_iff_not] at h
  obtain ⟨h1, h2⟩ := h
  rw [Int32.lt_iff_toInt_lt, nI_toInt ha] at h1
  rw [Int32.lt_iff_toInt_lt, nI_toInt hn] at h2
  refine ⟨x.toInt.toNat, by omega, by omega, ?_⟩
  rw [← Int32.toInt_inj, nI_toInt (by omega)]
  omega
def tb_fd (x1 x2 x3 : Int32) : Bool := tb_in x1 (nI 0) (nI 5) && tb_in x2 (nI 0) (nI 3) && tb_in x3 (nI 0) (nI 2)
def tb_isVx (x v : Int32) : Bool := if x = 0 then tb_in v (nI 0) (nI 3) else tb_in v (nI 10) (if x = nI 1 then nI 2000 else nI 600)
theorem tb_isVN {x v : Int32} (h : tb_isVx x v = true) : ∃ j : Nat, j ≤ 2000 ∧ v = nI j := by
  unfold tb_isVx at h
  split at h
  · obtain ⟨j, -, h2, h3⟩ := tb_inN (by decide) (by decide) h
    exact ⟨j, by omega, h3⟩
  · split at h
    · obtain ⟨j, -, h2, h3⟩ := tb_inN (by decide) (by decide) h
      exact ⟨j, by omega, h3⟩
    · obtain ⟨j, -, h2, h3⟩ := tb_inN (by decide) (by decide) h
      exact ⟨j, by omega, h3⟩
-- species
def tb_spB (x0 x1 x2 x3 : Int32) : Bool := !(tb_in x0 (nI 0) (nI 3) && tb_in x1 (nI 1) (nI 100) && !decide (x2 < 0) && !decide (x3 < x2) && decide (x3 ≤ nI 1000))
def tbT_species (x0 x1 x2 x3 : Int32) : Nat := if tb_spB x0 x1 x2 x3 = true then 1 else 0
def tbQ_species (q : tb_Q) (x0 x1 x2 x3 : Int32) : tb_Q := if tb_spB x0 x1 x2 x3 = true then q else tb_set (tb_set (tb_set q 9 x0.toNatClampNeg x1.toNatClampNeg) 10 x0.toNatClampNeg x2.toNatClampNeg) 11 x0.toNatClampNeg x3.toNatClampNeg
-- stand
def tb_stB (x0 x1 : Int32) : Bool := !(tb_in x0 (nI 0) (nI 5) && tb_in x1 (nI 0) (nI 2))
def tbT_stand (x0 x1 : Int32) : Nat := if tb_stB x0 x1 = true then 1 else 0
def tbQ_stand (q : tb_Q) (x0 x1 : Int32) : tb_Q := if tb_stB x0 x1 = true then q else tb_set q 12 x0.toNatClampNeg x1.toNatClampNeg
-- lend
def tb_ldB (x0 x1 : Int32) : Bool := !(tb_in x0 (nI 0) (nI 5) && tb_in x1 (nI 1) (nI 4))
def tb_ldC (q : tb_Q) (p : Nat) : Bool := !decide (tb_holds q 0 p = 0) || decide (q 0 0 = 40)
def tbT_lend (q : tb_Q) (x0 x1 : Int32) : Nat := if tb_ldB x0 x1 = true then 1 else if tb_ldC q x0.toNatClampNeg = true then 2 else 0
def tbQ_lend (q : tb_Q) (x0 x1 : Int32) : tb_Q := if tb_ldB x0 x1 = true then q else if tb_ldC q x0.toNatClampNeg = true then q else tb_ent q 0 0 x0.toNatClampNeg 0 x1.toNatClampNeg (tb_lent q 0 x0.toNatClampNeg + 1)
def tbA_lend (q : tb_Q) (x0 x1 : Int32) : Nat := if tb_ldB x0 x1 = true then 0 else if tb_ldC q x0.toNatClampNeg = true then 0 else tb_lent q 0 x0.toNatClampNeg + 1
-- giveBack
def tb_gbB (x0 x1 : Int32) : Bool := !(tb_in x0 (nI 1) (nI 4) && tb_in x1 (nI 0) (nI 5))
def tb_gbC (q : tb_Q) (t p : Nat) : Bool := !decide (t + 1 = tb_holds q t p) || decide (q 0 t = 40)
def tbT_giveBack (q : tb_Q) (x0 x1 : Int32) : Nat := if tb_gbB x0 x1 = true then 1 else if tb_gbC q x0.toNatClampNeg x1.toNatClampNeg = true then 2 else 0
def tbQ_giveBack (q : tb_Q) (x0 x1 : Int32) : tb_Q := if tb_gbB x0 x1 = true then q else if tb_gbC q x0.toNatClampNeg x1.toNatClampNeg = true then q else tb_ent q x0.toNatClampNeg 1 x1.toNatClampNeg 0 (tb_lent q x0.toNatClampNeg x1.toNatClampNeg) 0
def tbA_giveBack (q : tb_Q) (x0 x1 : Int32) : Nat := if tb_gbB x0 x1 = true then 0 else if tb_gbC q x0.toNatClampNeg x1.toNatClampNeg = true then 0 else tbQ_giveBack q x0 x1 0 x0.toNatClampNeg
-- enter
def tb_enB (x0 x1 x2 x3 x4 : Int32) : Bool := !(tb_in x0 (nI 0) (nI 4) && tb_fd x1 x2 x3 && tb_isVx x3 x4)
def tb_rkf (q : tb_Q) (d p : Nat) : Nat := if d + 1 = tb_holds q d p then tb_lent q d p else 0
def tbT_enter (q : tb_Q) (x0 x1 x2 x3 x4 : Int32) : Nat := if tb_enB x0 x1 x2 x3 x4 = true then 1 else if q 0 x0.toNatClampNeg = 40 then 2 else 0
def tbQ_enter (q : tb_Q) (x0 x1 x2 x3 x4 : Int32) : tb_Q := if tb_enB x0 x1 x2 x3 x4 = true then q else if q 0 x0.toNatClampNeg = 40 then q else tb_ent q x0.toNatClampNeg 2 x1.toNatClampNeg (3 * x2.toNatClampNeg + x3.toNatClampNeg) x4.toNatClampNeg (tb_rkf q x0.toNatClampNeg x1.toNatClampNeg)
def tbA_enter (q : tb_Q) (x0 x1 x2 x3 x4 : Int32) : Nat := if tb_enB x0 x1 x2 x3 x4 = true then 0 else if q 0 x0.toNatClampNeg = 40 then 0 else tbQ_enter q x0 x1 x2 x3 x4 0 x0.toNatClampNeg
-- resolve
def tbT_resolve (q : tb_Q) (x0 x1 : Int32) : Nat := if tb_inc q 0 x0 72 = 0 then 1 else if tb_isVx (nI ((tb_inc q 0 x0 72 - 1) % 3)) x1 = false then 2 else if q 0 0 = 40 then 3 else 0
def tbQ_resolve (q : tb_Q) (x0 x1 : Int32) : tb_Q := if tb_inc q 0 x0 72 = 0 then q else if tb_isVx (nI ((tb_inc q 0 x0 72 - 1) % 3)) x1 = false then q else if q 0 0 = 40 then q else tb_ent q 0 2 ((tb_inc q 0 x0 72 - 1) / 12) ((tb_inc q 0 x0 72 - 1) % 12) x1.toNatClampNeg (tb_top q 0 ((tb_inc q 0 x0 72 - 1) / 12) ((tb_inc q 0 x0 72 - 1) % 12) + 1)
def tbA_resolve (q : tb_Q) (x0 x1 : Int32) : Nat := if tb_inc q 0 x0 72 = 0 then 0 else if tb_isVx (nI ((tb_inc q 0 x0 72 - 1) % 3)) x1 = false then 0 else if q 0 0 = 40 then 0 else tbQ_resolve q x0 x1 0 0
-- meet
def tb_meB (x0 x1 : Int32) : Bool := !(tb_in x0 (nI 0) (nI 4) && tb_in x1 (nI 0) (nI 4) && !decide (x0 = x1))
def tbT_meet (q : tb_Q) (x0 x1 : Int32) : Nat := if tb_meB x0 x1 = true then 1 else if q 13 0 = 0 then 0 else 2
def tbQ_meet (q : tb_Q) (x0 x1 : Int32) : tb_Q := if tb_meB x0 x1 = true then q else if q 13 0 = 0 then tb_set (tb_set q 13 0 (x0.toNatClampNeg + 1)) 13 1 (x1.toNatClampNeg + 1) else q
-- swap
def tbT_swap (q : tb_Q) : Nat := if q 13 0 = 0 then 1 else 0
def tbA_swap (q : tb_Q) : Bool := if q 13 0 = 0 then false else !decide (tb_car q (q 13 0 - 1) (q 13 1 - 1) = 0) || !decide (tb_car q (q 13 1 - 1) (q 13 0 - 1) = 0)
def tbQ_swap (q : tb_Q) : tb_Q := if q 13 0 = 0 then q else if tb_car q (q 13 0 - 1) (q 13 1 - 1) = 0 then tb_cary q (q 13 1 - 1) (q 13 0 - 1) else tb_cary q (q 13 0 - 1) (q 13 1 - 1)
-- part
def tbT_part (q : tb_Q) : Nat := if q 13 0 = 0 then 1 else 0
def tbQ_part (q : tb_Q) : tb_Q := if q 13 0 = 0 then q else tb_ends (tb_keep (tb_keep q (q 13 0 - 1)) (q 13 1 - 1))
-- crash
def tb_crF (d a : Nat) (q : tb_Q) : tb_Q := tb_set q 7 (5 * d + a) (if a = d then q 0 a else q 8 (5 * d + a))
def tb_crM (q : tb_Q) (d : Nat) : tb_Q := if d + 1 = q 13 0 then tb_ends (tb_keep q (q 13 1 - 1)) else if d + 1 = q 13 1 then tb_ends (tb_keep q (q 13 0 - 1)) else q
def tb_cr (q : tb_Q) (d : Nat) : tb_Q := tb_fo (tb_crF d) (tb_crM q d) 5
def tbT_crash (x0 : Int32) : Nat := if tb_in x0 (nI 0) (nI 4) = true then 0 else 1
def tbQ_crash (q : tb_Q) (x0 : Int32) : tb_Q := if tb_in x0 (nI 0) (nI 4) = true then tb_cr q x0.toNatClampNeg else q
-- known
def tb_knB (x0 x1 : Int32) : Bool := !(tb_in x0 (nI 0) (nI 4) && tb_in x1 (nI 0) (nI 4))
def tbT_known (x0 x1 : Int32) : Nat := if tb_knB x0 x1 = true then 1 else 0
def tbA_known (q : tb_Q) (x0 x1 : Int32) : Nat := if tb_knB x0 x1 = true then 0 else q 7 (5 * x0.toNatClampNeg + x1.toNatClampNeg)
-- holder
def tb_hoB (x0 x1 x2 : Int32) : Bool := !(tb_in x0 (nI 0) (nI 4) && tb_in x1 (nI 0) (nI 5) && tb_in x2 (nI 0) (nI 1))
def tbT_holder (x0 x1 x2 : Int32) : Nat := if tb_hoB x0 x1 x2 = true then 1 else 0
def tbA_holder (q : tb_Q) (x0 x1 x2 : Int32) : Int32 := if tb_hoB x0 x1 x2 = true then nI 0 else if x2 = 0 then tb_m1 (tb_holds q x0.toNatClampNeg x1.toNatClampNeg) else nI (tb_lent q x0.toNatClampNeg x1.toNatClampNeg)
-- value
def tb_vaB (x0 x1 x2 x3 : Int32) : Bool := !(tb_in x0 (nI 0) (nI 4) && tb_fd x1 x2 x3)
def tb_vaS (q : tb_Q) (x0 x1 x2 x3 : Int32) : Nat := tb_shown q x0.toNatClampNeg x1.toNatClampNeg (3 * x2.toNatClampNeg + x3.toNatClampNeg)
def tbT_value (q : tb_Q) (x0 x1 x2 x3 : Int32) : Nat := if tb_vaB x0 x1 x2 x3 = true then 1 else if tb_vaS q x0 x1 x2 x3 = 0 then 2 else 0
def tbA_value (q : tb_Q) (x0 x1 x2 x3 : Int32) : Nat := if tb_vaB x0 x1 x2 x3 = true then 0 else if tb_vaS q x0 x1 x2 x3 = 0 then 0 else q 4 (tb_vaS q x0 x1 x2 x3 - 1)
-- conflict
def tb_coB (x0 x1 : Int32) : Bool := !(tb_in x0 (nI 0) (nI 4) && decide (0 ≤ x1))
def tbT_conflict (x0 x1 : Int32) : Nat := if tb_coB x0 x1 = true then 1 else 0
def tb_code (k : Nat) : Nat := 100 * (k / 12) + 10 * (k % 12 / 3) + k % 3
def tbA_conflict (q : tb_Q) (x0 x1 : Int32) : Int32 := if tb_coB x0 x1 = true then nI 0 else if tb_inc q x0.toNatClampNeg x1 72 = 0 then -1 else nI (tb_code (tb_inc q x0.toNatClampNeg x1 72 - 1))
-- rows that a new entry, a keeping leave as they were
theorem tb_keep_n {q : tb_Q} {d r : Nat} (h : r ≠ 8) : tb_keep q d r = q r := by
  have : ∀ i, tb_fo (tb_kpF d) q i r = q r := by
    intro i
    induction i with
    | zero => rfl
    | succ i ih => rw [tb_fo_s]; unfold tb_kpF; rw [tb_set_n _ _ _ h]; exact ih
  exact this 5
theorem tb_vc_n {q : tb_Q} {d e r : Nat} (h : r ≠ 6) (i : Nat) : tb_fo (tb_vcF d e) q i r = q r := by
  induction i with
  | zero => rfl
  | succ i ih => rw [tb_fo_s]; unfold tb_vcF; rw [tb_set_n _ _ _ h]; exact ih
theorem tb_ent_0 (q : tb_Q) (d k p f v r : Nat) : tb_ent q d k p f v r 0 d = q 0 d + 1 := by
  unfold tb_ent
  rw [tb_keep_n (by decide)]
  unfold tb_en4
  rw [tb_set_n _ _ _ (by decide)]
  unfold tb_en3
  rw [tb_set_s, va_up_self]
  unfold tb_en2
  rw [tb_vc_n (by decide)]
  rfl
