/-! ===== Coins ===== -/
def en_coins (k : Nat) : Prop := en_is k 0 = true ∧ en_tg k 0 = k + 1 ∧ en_tg k 1 = k + 2 ∧ k + 2 < 62 ∧ en_al (k + 1) = some 20 ∧ en_al (k + 2) = some 20
theorem en_coins_5 : en_coins 5 := by unfold en_coins; decide +kernel
theorem en_coins_14 : en_coins 14 := by unfold en_coins; decide +kernel
/-- n coins, their minutes and buttons -/
def en_cD (w : en_W) (k n : Nat) (cm cb : Nat → Int) : Prop := w k 2 = zI n ∧ n ≤ 20 ∧ ∀ i, i < n → w (k + 1) i = zI (cm i) ∧ w (k + 2) i = zI (cb i) ∧ 0 ≤ cm i ∧ cm i ≤ 99 ∧ 0 ≤ cb i ∧ cb i ≤ 9
theorem en_cD.fr {w w' : en_W} {k n : Nat} {cm cb : Nat → Int} (h : en_cD w k n cm cb) (h0 : w' k = w k) (h1 : w' (k + 1) = w (k + 1)) (h2 : w' (k + 2) = w (k + 2)) : en_cD w' k n cm cb := by
  unfold en_cD
  rw [h0, h1, h2]
  exact h
/-- how many of the first n coins are for b -/
def mq (cb : Nat → Int) (b : Int) : Nat → Nat
  | 0 => 0
  | n + 1 => mq cb b n + (if cb n = b then 1 else 0)
theorem mq_le (cb : Nat → Int) (b : Int) : ∀ n, mq cb b n ≤ n
  | 0 => Nat.le_refl 0
  | n + 1 => by
    have := mq_le cb b n
    unfold mq
    split <;> omega
/-- coins since b was asked: t of them seen already, n to look at -/
def mz (cb : Nat → Int) (b : Int) (t : Nat) : Nat → Int
  | 0 => t
  | n + 1 => if cb n = b then (t : Int) - 1 - n else mz cb b t n
/-- without the c-th -/
def mr (f : Nat → Int) (c j : Nat) : Int := if j < c then f j else f (j + 1)
section
variable {w : en_W} {k n : Nat} {cm cb : Nat → Int} {c : Int}
theorem s_number (hk : en_coins k) (hd : en_cD w k n cm cb) : SX0_number [.ref k] w = some (some (.int (zI n)), w) := by
  obtain ⟨q1, q2, q3, q4, q5, q6⟩ := hk
  obtain ⟨d1, d2, d3⟩ := hd
  refine en_val rfl (fun Q hQ => ?_)
  show en_Ev XX0_number 0 [some (.ref k)] [] w Q
  simp only [eX0_number_0, eX0_number_1, eX0_number_4, en_kl_0, en_kl_i, en_kl_r, en_kl_n, en_kl_l, en_Ec_some, en_Ec_void, en_rcv, en_stk, List.map_cons, List.map_nil, List.sum_cons, List.sum_nil, Value.category, Nat.reduceAdd, Nat.reduceLeDiff, decide_true, true_and, and_true, and_self, q1, d1]
  exact hQ
theorem s_isEmpty (hk : en_coins k) (hd : en_cD w k n cm cb) : SX0_isEmpty [.ref k] w = some (some (.int (zT (n = 0))), w) := by
  obtain ⟨q1, q2, q3, q4, q5, q6⟩ := hk
  obtain ⟨d1, d2, d3⟩ := hd
  refine en_val rfl (fun Q hQ => ?_)
  show en_Ev XX0_isEmpty 0 [some (.ref k)] [] w Q
  simp (disch := omega) only [eX0_isEmpty_0, eX0_isEmpty_1, eX0_isEmpty_4, eX0_isEmpty_7, eX0_isEmpty_8, eX0_isEmpty_11, eX0_isEmpty_12, en_kl_0, en_kl_i, en_kl_r, en_kl_n, en_kl_l, en_Ec_some, en_Ec_void, en_rcv, en_stk, List.map_cons, List.map_nil, List.sum_cons, List.sum_nil, Value.category, Nat.reduceAdd, Nat.reduceLeDiff, decide_true, true_and, and_true, and_self, zI_add, zI_sub, zI_mul, zI_neg, zI_lt, zI_le, zI_eq, zI_cl, zI_0, zI_1, zI_m1, zI_lit, zT_0, zT_01, zI_01, zI_11, ↓reduceIte, if_true, if_false, not_false_eq_true, not_true_eq_false, Int.reduceEq, Int.reduceLT, Int.reduceLE, Classical.not_not, Bool.false_eq_true, q1, d1]
  repeat' (first | split | apply And.intro)
  all_goals first | omega | exact hQ | (rw [zT_t (by omega)] at hQ; exact hQ) | (rw [zT_f (by omega)] at hQ; exact hQ)
theorem s_has (hk : en_coins k) (hd : en_cD w k n cm cb) (h1 : -2147483648 ≤ c) (h2 : c < 2147483648) : SX0_has [.ref k, .int (zI c)] w = some (some (.int (zT (0 ≤ c ∧ c < n))), w) := by
  obtain ⟨q1, q2, q3, q4, q5, q6⟩ := hk
  obtain ⟨d1, d2, d3⟩ := hd
  refine en_val rfl (fun Q hQ => ?_)
  show en_Ev XX0_has 0 [some (.ref k), some (.int (zI c))] [] w Q
  simp (disch := omega) only [eX0_has_0, eX0_has_1, eX0_has_4, eX0_has_5, eX0_has_6, eX0_has_9, eX0_has_12, eX0_has_13, eX0_has_16, eX0_has_17, en_kl_0, en_kl_i, en_kl_r, en_kl_n, en_kl_l, en_Ec_some, en_Ec_void, en_rcv, en_stk, List.map_cons, List.map_nil, List.sum_cons, List.sum_nil, Value.category, Nat.reduceAdd, Nat.reduceLeDiff, decide_true, true_and, and_true, and_self, zI_add, zI_sub, zI_mul, zI_neg, zI_lt, zI_le, zI_eq, zI_cl, zI_0, zI_1, zI_m1, zI_lit, zT_0, zT_01, zI_01, zI_11, ↓reduceIte, if_true, if_false, not_false_eq_true, not_true_eq_false, Int.reduceEq, Int.reduceLT, Int.reduceLE, Classical.not_not, Bool.false_eq_true, q1, d1]
  repeat' (first | split | apply And.intro)
  all_goals first | omega | exact hQ | (rw [zT_t (by omega)] at hQ; exact hQ) | (rw [zT_f (by omega)] at hQ; exact hQ)
theorem s_minuteOf (hk : en_coins k) (hd : en_cD w k n cm cb) (h1 : -2147483648 ≤ c) (h2 : c < 2147483648) : SX0_minuteOf [.ref k, .int (zI c)] w = some (some (.int (zI (if 0 ≤ c ∧ c < n then cm c.toNat else -1))), w) := by
  obtain ⟨q1, q2, q3, q4, q5, q6⟩ := hk
  obtain ⟨d1, d2, d3⟩ := hd
  refine en_val rfl (fun Q hQ => ?_)
  show en_Ev XX0_minuteOf 0 [some (.ref k), some (.int (zI c))] [] w Q
  by_cases c1 : 0 ≤ c ∧ c < n
  · rw [if_pos c1] at hQ
    have c2 : ¬ c < 0 := by omega
    have c3 : ¬ (n : Int) ≤ c := by omega
    have c4 : ¬ 20 ≤ c.toNat := by omega
    obtain ⟨e1, -⟩ := d3 c.toNat (by omega)
    simp (disch := omega) only [eX0_minuteOf_0, eX0_minuteOf_1, eX0_minuteOf_4, eX0_minuteOf_5, eX0_minuteOf_6, eX0_minuteOf_9, eX0_minuteOf_12, eX0_minuteOf_13, eX0_minuteOf_16, eX0_minuteOf_17, eX0_minuteOf_18, eX0_minuteOf_21, eX0_minuteOf_22, en_kl_0, en_kl_i, en_kl_r, en_kl_n, en_kl_l, en_Ec_some, en_Ec_void, en_rcv, en_stk, List.map_cons, List.map_nil, List.sum_cons, List.sum_nil, Value.category, Nat.reduceAdd, Nat.reduceLeDiff, decide_true, true_and, and_true, and_self, zI_add, zI_sub, zI_mul, zI_neg, zI_lt, zI_le, zI_eq, zI_cl, zI_0, zI_1, zI_m1, zI_lit, zT_0, zT_01, zI_01, zI_11, ↓reduceIte, if_true, if_false, not_false_eq_true, not_true_eq_false, Int.reduceEq, Int.reduceLT, Int.reduceLE, Classical.not_not, Bool.false_eq_true, q1, q2, d1, en_ix_at (by omega) q5, c2, c3, c4, e1, or_self, not_false_eq_true]
    exact hQ
  · rw [if_neg c1] at hQ
    simp (disch := omega) only [eX0_minuteOf_0, eX0_minuteOf_1, eX0_minuteOf_4, eX0_minuteOf_5, eX0_minuteOf_6, eX0_minuteOf_9, eX0_minuteOf_12, eX0_minuteOf_13, eX0_minuteOf_16, eX0_minuteOf_17, eX0_minuteOf_18, eX0_minuteOf_21, eX0_minuteOf_22, en_kl_0, en_kl_i, en_kl_r, en_kl_n, en_kl_l, en_Ec_some, en_Ec_void, en_rcv, en_stk, List.map_cons, List.map_nil, List.sum_cons, List.sum_nil, Value.category, Nat.reduceAdd, Nat.reduceLeDiff, decide_true, true_and, and_true, and_self, zI_add, zI_sub, zI_mul, zI_neg, zI_lt, zI_le, zI_eq, zI_cl, zI_0, zI_1, zI_m1, zI_lit, zT_0, zT_01, zI_01, zI_11, ↓reduceIte, if_true, if_false, not_false_eq_true, not_true_eq_false, Int.reduceEq, Int.reduceLT, Int.reduceLE, Classical.not_not, Bool.false_eq_true, q1, q2, d1]
    by_cases c2 : c < 0
    · simp only [c2, if_true]; exact hQ
    · have c3 : (n : Int) ≤ c := by omega
      simp only [c2, c3, if_true, if_false]; exact hQ
theorem s_buttonOf (hk : en_coins k) (hd : en_cD w k n cm cb) (h1 : -2147483648 ≤ c) (h2 : c < 2147483648) : SX0_buttonOf [.ref k, .int (zI c)] w = some (some (.int (zI (if 0 ≤ c ∧ c < n then cb c.toNat else -1))), w) := by
  obtain ⟨q1, q2, q3, q4, q5, q6⟩ := hk
  obtain ⟨d1, d2, d3⟩ := hd
  refine en_val rfl (fun Q hQ => ?_)
  show en_Ev XX0_buttonOf 0 [some (.ref k), some (.int (zI c))] [] w Q
  by_cases c1 : 0 ≤ c ∧ c < n
  · rw [if_pos c1] at hQ
    have c2 : ¬ c < 0 := by omega
    have c3 : ¬ (n : Int) ≤ c := by omega
    have c4 : ¬ 20 ≤ c.toNat := by omega
    obtain ⟨-, e1, -⟩ := d3 c.toNat (by omega)
    simp (disch := omega) only [eX0_buttonOf_0, eX0_buttonOf_1, eX0_buttonOf_4, eX0_buttonOf_5, eX0_buttonOf_6, eX0_buttonOf_9, eX0_buttonOf_12, eX0_buttonOf_13, eX0_buttonOf_16, eX0_buttonOf_17, eX0_buttonOf_18, eX0_buttonOf_21, eX0_buttonOf_22, en_kl_0, en_kl_i, en_kl_r, en_kl_n, en_kl_l, en_Ec_some, en_Ec_void, en_rcv, en_stk, List.map_cons, List.map_nil, List.sum_cons, List.sum_nil, Value.category, Nat.reduceAdd, Nat.reduceLeDiff, decide_true, true_and, and_true, and_self, zI_add, zI_sub, zI_mul, zI_neg, zI_lt, zI_le, zI_eq, zI_cl, zI_0, zI_1, zI_m1, zI_lit, zT_0, zT_01, zI_01, zI_11, ↓reduceIte, if_true, if_false, not_false_eq_true, not_true_eq_false, Int.reduceEq, Int.reduceLT, Int.reduceLE, Classical.not_not, Bool.false_eq_true, q1, q3, d1, en_ix_at (by omega) q6, c2, c3, c4, e1, or_self, not_false_eq_true]
    exact hQ
  · rw [if_neg c1] at hQ
    simp (disch := omega) only [eX0_buttonOf_0, eX0_buttonOf_1, eX0_buttonOf_4, eX0_buttonOf_5, eX0_buttonOf_6, eX0_buttonOf_9, eX0_buttonOf_12, eX0_buttonOf_13, eX0_buttonOf_16, eX0_buttonOf_17, eX0_buttonOf_18, eX0_buttonOf_21, eX0_buttonOf_22, en_kl_0, en_kl_i, en_kl_r, en_kl_n, en_kl_l, en_Ec_some, en_Ec_void, en_rcv, en_stk, List.map_cons, List.map_nil, List.sum_cons, List.sum_nil, Value.category, Nat.reduceAdd, Nat.reduceLeDiff, decide_true, true_and, and_true, and_self, zI_add, zI_sub, zI_mul, zI_neg, zI_lt, zI_le, zI_eq, zI_cl, zI_0, zI_1, zI_m1, zI_lit, zT_0, zT_01, zI_01, zI_11, ↓reduceIte, if_true, if_false, not_false_eq_true, not_true_eq_false, Int.reduceEq, Int.reduceLT, Int.reduceLE, Classical.not_not, Bool.false_eq_true, q1, q2, d1]
    by_cases c2 : c < 0
    · simp only [c2, if_true]; exact hQ
    · have c3 : (n : Int) ≤ c := by omega
      simp only [c2, c3, if_true, if_false]; exact hQ
theorem s_lastMinute (hk : en_coins k) (hd : en_cD w k n cm cb) : SX0_lastMinute [.ref k] w = some (some (.int (zI (if n = 0 then -1 else cm (n - 1)))), w) := by
  have hk' := hk
  have hd' := hd
  obtain ⟨q1, q2, q3, q4, q5, q6⟩ := hk
  obtain ⟨d1, d2, d3⟩ := hd
  refine en_val rfl (fun Q hQ => ?_)
  show en_Ev XX0_lastMinute 0 [some (.ref k)] [] w Q
  simp (disch := omega) only [eX0_lastMinute_0, eX0_lastMinute_1, eX0_lastMinute_2, eX0_lastMinute_5, eX0_lastMinute_6, eX0_lastMinute_7, eX0_lastMinute_10, en_kl_0, en_kl_i, en_kl_r, en_kl_n, en_kl_l, en_Ec_some, en_Ec_void, en_rcv, en_stk, List.map_cons, List.map_nil, List.sum_cons, List.sum_nil, Value.category, Nat.reduceAdd, Nat.reduceLeDiff, decide_true, true_and, and_true, and_self, zI_add, zI_sub, zI_mul, zI_neg, zI_lt, zI_le, zI_eq, zI_cl, zI_0, zI_1, zI_m1, zI_lit, zT_0, zT_01, zI_01, zI_11, ↓reduceIte, if_true, if_false, not_false_eq_true, not_true_eq_false, Int.reduceEq, Int.reduceLT, Int.reduceLE, Classical.not_not, Bool.false_eq_true, q1, d1]
  rw [s_minuteOf hk' hd' (by omega) (by omega)]
  simp (disch := omega) only [eX0_lastMinute_0, eX0_lastMinute_1, eX0_lastMinute_2, eX0_lastMinute_5, eX0_lastMinute_6, eX0_lastMinute_7, eX0_lastMinute_10, en_kl_0, en_kl_i, en_kl_r, en_kl_n, en_kl_l, en_Ec_some, en_Ec_void, en_rcv, en_stk, List.map_cons, List.map_nil, List.sum_cons, List.sum_nil, Value.category, Nat.reduceAdd, Nat.reduceLeDiff, decide_true, true_and, and_true, and_self, zI_add, zI_sub, zI_mul, zI_neg, zI_lt, zI_le, zI_eq, zI_cl, zI_0, zI_1, zI_m1, zI_lit, zT_0, zT_01, zI_01, zI_11, ↓reduceIte, if_true, if_false, not_false_eq_true, not_true_eq_false, Int.reduceEq, Int.reduceLT, Int.reduceLE, Classical.not_not, Bool.false_eq_true, q1, d1]
  by_cases c1 : n = 0
  · rw [if_pos c1] at hQ
    rw [if_neg (by omega)]
    exact hQ
  · rw [if_neg c1] at hQ
    rw [if_pos (by omega), show ((n : Int) - 1).toNat = n - 1 by omega]
    exact hQ
theorem s_add {mi bu : Int} (hk : en_coins k) (hd : en_cD w k n cm cb) (hn : n < 20) (h1 : 0 ≤ mi) (h2 : mi ≤ 99) (h3 : 0 ≤ bu) (h4 : bu ≤ 9) : ∃ w', SX0_add [.ref k, .int (zI mi), .int (zI bu)] w = some (none, w') ∧ en_cD w' k (n + 1) (fun i => if i = n then mi else cm i) (fun i => if i = n then bu else cb i) ∧ en_fr [k, k + 1, k + 2] w w' := by
  obtain ⟨q1, q2, q3, q4, q5, q6⟩ := hk
  obtain ⟨d1, d2, d3⟩ := hd
  refine en_exv rfl ?_
  show en_Ev XX0_add 0 [some (.ref k), some (.int (zI mi)), some (.int (zI bu))] [] w _
  have c2 : ¬ (n : Int) < 0 := by omega
  have c3 : ¬ (20 : Int) ≤ n := by omega
  have c4 : ¬ 20 ≤ n := by omega
  simp (disch := omega) only [eX0_add_0, eX0_add_1, eX0_add_4, eX0_add_7, eX0_add_8, eX0_add_11, eX0_add_13, eX0_add_16, eX0_add_17, eX0_add_20, eX0_add_21, eX0_add_24, eX0_add_25, eX0_add_26, eX0_add_27, eX0_add_30, eX0_add_31, eX0_add_34, eX0_add_35, eX0_add_36, eX0_add_37, eX0_add_37i, eX0_add_38, eX0_add_41, eX0_add_42, eX0_add_43, eX0_add_46, en_kl_0, en_kl_i, en_kl_r, en_kl_n, en_kl_l, en_Ec_some, en_Ec_void, en_rcv, en_stk, List.map_cons, List.map_nil, List.sum_cons, List.sum_nil, Value.category, Nat.reduceAdd, Nat.reduceLeDiff, decide_true, true_and, and_true, and_self, zI_add, zI_sub, zI_mul, zI_neg, zI_lt, zI_le, zI_eq, zI_cl, zI_0, zI_1, zI_m1, zI_lit, zT_0, zT_01, zI_01, zI_11, ↓reduceIte, if_true, if_false, not_false_eq_true, not_true_eq_false, Int.reduceEq, Int.reduceLT, Int.reduceLE, Classical.not_not, Bool.false_eq_true, q1, q2, q3, d1, en_ix_at (show k + 1 < 62 by omega) q5, en_ix_at q4 q6, c2, c3, c4, or_self, not_false_eq_true, en_up_ne, Int.toNat_natCast]
  refine ⟨⟨?_, by omega, fun i hi => ?_⟩, ((en_fr.rf.up (by simp)).up (by simp)).up (by simp)⟩
  · rw [en_up_eq, upd_eq]
    congr 1
  · simp (disch := omega) only [en_up_ne, en_up_eq]
    by_cases hin : i = n
    · subst hin
      simp only [upd_eq, if_true]
      exact ⟨trivial, trivial, h1, h2, h3, h4⟩
    · simp only [upd_ne hin, hin, if_false]
      exact d3 i (by omega)
theorem s_clear (hk : en_coins k) : ∃ w', SX0_clear [.ref k] w = some (none, w') ∧ en_cD w' k 0 cm cb ∧ en_fr [k] w w' := by
  obtain ⟨q1, q2, q3, q4, q5, q6⟩ := hk
  refine en_exv rfl ?_
  show en_Ev XX0_clear 0 [some (.ref k)] [] w _
  simp (disch := omega) only [eX0_clear_0, eX0_clear_1, eX0_clear_2, eX0_clear_5, en_kl_0, en_kl_i, en_kl_r, en_kl_n, en_kl_l, en_Ec_some, en_Ec_void, en_rcv, en_stk, List.map_cons, List.map_nil, List.sum_cons, List.sum_nil, Value.category, Nat.reduceAdd, Nat.reduceLeDiff, decide_true, true_and, and_true, and_self, zI_add, zI_sub, zI_mul, zI_neg, zI_lt, zI_le, zI_eq, zI_cl, zI_0, zI_1, zI_m1, zI_lit, zT_0, zT_01, zI_01, zI_11, ↓reduceIte, if_true, if_false, not_false_eq_true, not_true_eq_false, Int.reduceEq, Int.reduceLT, Int.reduceLE, Classical.not_not, Bool.false_eq_true, q1]
  refine ⟨⟨?_, by omega, fun i hi => absurd hi (by omega)⟩, en_fr.rf.up (by simp)⟩
  rw [en_up_eq, upd_eq]
  rfl
theorem s_takeAll {k' : Nat} (hk : en_coins k) (hk' : en_coins k') (ha : k' + 2 < k ∨ k + 2 < k') (hd : en_cD w k' n cm cb) : ∃ w', SX0_takeAll [.ref k, .ref k'] w = some (none, w') ∧ en_cD w' k n cm cb ∧ en_fr [k, k + 1, k + 2] w w' := by
  obtain ⟨q1, q2, q3, q4, q5, q6⟩ := hk
  obtain ⟨r1, r2, r3, r4, r5, r6⟩ := hk'
  obtain ⟨d1, d2, d3⟩ := hd
  refine en_exv rfl ?_
  show en_Ev XX0_takeAll 0 [some (.ref k), some (.ref k')] [] w _
  simp only [eX0_takeAll_0, eX0_takeAll_0n, eX0_takeAll_1n, eX0_takeAll_1, eX0_takeAll_4, eX0_takeAll_4n, eX0_takeAll_5, eX0_takeAll_8, eX0_takeAll_9, eX0_takeAll_10, eX0_takeAll_13, eX0_takeAll_14, eX0_takeAll_16, eX0_takeAll_19, eX0_takeAll_19n, eX0_takeAll_20, eX0_takeAll_23, eX0_takeAll_24, eX0_takeAll_25, eX0_takeAll_28, eX0_takeAll_29, eX0_takeAll_31, eX0_takeAll_34, eX0_takeAll_35, eX0_takeAll_35n, eX0_takeAll_36, eX0_takeAll_39, eX0_takeAll_42, en_kl_0, en_kl_i, en_kl_r, en_kl_n, en_kl_l, en_Ec_some, en_Ec_void, en_rcv, en_stk, List.map_cons, List.map_nil, List.sum_cons, List.sum_nil, Value.category, Nat.reduceAdd, Nat.reduceLeDiff, decide_true, true_and, and_true, and_self, q1, q2, q3, r1, r2, r3]
  have cp : ∀ (v : en_W) (a b : Nat), a < 62 → b < 62 → en_al a = some 20 → en_al b = some 20 → SJ_Jcopy [.ref a, .int 0, .ref b, .int 0, .int 20] v = some (none, en_row v b (va_cpy (v a) (v b) 0 0 20)) := by
    intro v a b h1 h2 h3 h4
    unfold SJ_Jcopy
    dsimp only
    rw [h3, h4]
    dsimp only
    rw [if_pos ⟨h1, h2, by decide, by decide, by decide, by decide, by decide⟩]
    rfl
  rw [cp w (k' + 1) (k + 1) (by omega) (by omega) r5 q5]
  simp only [eX0_takeAll_0, eX0_takeAll_0n, eX0_takeAll_1n, eX0_takeAll_1, eX0_takeAll_4, eX0_takeAll_4n, eX0_takeAll_5, eX0_takeAll_8, eX0_takeAll_9, eX0_takeAll_10, eX0_takeAll_13, eX0_takeAll_14, eX0_takeAll_16, eX0_takeAll_19, eX0_takeAll_19n, eX0_takeAll_20, eX0_takeAll_23, eX0_takeAll_24, eX0_takeAll_25, eX0_takeAll_28, eX0_takeAll_29, eX0_takeAll_31, eX0_takeAll_34, eX0_takeAll_35, eX0_takeAll_35n, eX0_takeAll_36, eX0_takeAll_39, eX0_takeAll_42, en_kl_0, en_kl_i, en_kl_r, en_kl_n, en_kl_l, en_Ec_some, en_Ec_void, en_rcv, en_stk, List.map_cons, List.map_nil, List.sum_cons, List.sum_nil, Value.category, Nat.reduceAdd, Nat.reduceLeDiff, decide_true, true_and, and_true, and_self, q1, q2, q3, r1, r2, r3]
  rw [cp _ (k' + 2) (k + 2) (by omega) (by omega) r6 q6]
  simp (disch := omega) only [eX0_takeAll_0, eX0_takeAll_0n, eX0_takeAll_1n, eX0_takeAll_1, eX0_takeAll_4, eX0_takeAll_4n, eX0_takeAll_5, eX0_takeAll_8, eX0_takeAll_9, eX0_takeAll_10, eX0_takeAll_13, eX0_takeAll_14, eX0_takeAll_16, eX0_takeAll_19, eX0_takeAll_19n, eX0_takeAll_20, eX0_takeAll_23, eX0_takeAll_24, eX0_takeAll_25, eX0_takeAll_28, eX0_takeAll_29, eX0_takeAll_31, eX0_takeAll_34, eX0_takeAll_35, eX0_takeAll_35n, eX0_takeAll_36, eX0_takeAll_39, eX0_takeAll_42, en_kl_0, en_kl_i, en_kl_r, en_kl_n, en_kl_l, en_Ec_some, en_Ec_void, en_rcv, en_stk, List.map_cons, List.map_nil, List.sum_cons, List.sum_nil, Value.category, Nat.reduceAdd, Nat.reduceLeDiff, decide_true, true_and, and_true, and_self, q1, q2, q3, r1, r2, r3, en_row_ne, d1]
  refine ⟨⟨by rw [en_up_eq, upd_eq], d2, fun i hi => ?_⟩, ((en_fr.rf.row (by simp)).row (by simp)).up (by simp)⟩
  simp (disch := omega) only [en_up_ne, en_row_ne, en_row_eq]
  have e : ∀ f g : Nat → Int32, va_cpy f g 0 0 20 i = f i := by
    intro f g
    unfold va_cpy
    rw [if_pos (by omega)]
    congr 1
    omega
  rw [e, e]
  exact d3 i hi
theorem s_askedFor {b : Int} (hk : en_coins k) (hd : en_cD w k n cm cb) (h1 : -1 < b) (h2 : b < 2147483648) : SX0_askedFor [.ref k, .int (zI b)] w = some (some (.int (zI (mq cb b n))), w) := by
  have hk' := hk
  have hd' := hd
  obtain ⟨q1, q2, q3, q4, q5, q6⟩ := hk
  obtain ⟨d1, d2, d3⟩ := hd
  refine en_val rfl (fun Q hQ => ?_)
  show en_Ev XX0_askedFor 0 [some (.ref k), some (.int (zI b)), none, none] [] w Q
  have loop : ∀ (d i : Nat), i + d = n → en_Ev XX0_askedFor 4 [some (.ref k), some (.int (zI b)), some (.int (zI (mq cb b i))), some (.int (zI i))] [] w Q := by
    intro d
    induction d with
    | zero =>
      intro i h3
      have e : i = n := by omega
      have c1 : (n : Int) ≤ (i : Int) := by omega
      rw [eX0_askedFor_4]
      simp (disch := omega) only [eX0_askedFor_0, eX0_askedFor_1, eX0_askedFor_2, eX0_askedFor_3, eX0_askedFor_5, eX0_askedFor_6, eX0_askedFor_9, eX0_askedFor_12, eX0_askedFor_13, eX0_askedFor_14, eX0_askedFor_17, eX0_askedFor_18, eX0_askedFor_21, eX0_askedFor_24, eX0_askedFor_27, eX0_askedFor_30, eX0_askedFor_31, en_kl_0, en_kl_i, en_kl_r, en_kl_n, en_kl_l, en_Ec_some, en_Ec_void, en_rcv, en_stk, List.map_cons, List.map_nil, List.sum_cons, List.sum_nil, Value.category, Nat.reduceAdd, Nat.reduceLeDiff, decide_true, true_and, and_true, and_self, zI_add, zI_sub, zI_mul, zI_neg, zI_lt, zI_le, zI_eq, zI_cl, zI_0, zI_1, zI_m1, zI_lit, zT_0, zT_01, zI_01, zI_11, ↓reduceIte, if_true, if_false, not_false_eq_true, not_true_eq_false, Int.reduceEq, Int.reduceLT, Int.reduceLE, Classical.not_not, Bool.false_eq_true, q1, d1, c1]
      rw [show mq cb b i = mq cb b n from by rw [e]]
      exact hQ
    | succ d ih =>
      intro i h3
      have c1 : ¬ (n : Int) ≤ (i : Int) := by omega
      have ih' := ih (i + 1) (by omega)
      have hm := mq_le cb b i
      obtain ⟨-, -, -, -, g3, g4⟩ := d3 i (by omega)
      rw [eX0_askedFor_4]
      simp (disch := omega) only [eX0_askedFor_0, eX0_askedFor_1, eX0_askedFor_2, eX0_askedFor_3, eX0_askedFor_5, eX0_askedFor_6, eX0_askedFor_9, eX0_askedFor_12, eX0_askedFor_13, eX0_askedFor_14, eX0_askedFor_17, eX0_askedFor_18, eX0_askedFor_21, eX0_askedFor_24, eX0_askedFor_27, eX0_askedFor_30, eX0_askedFor_31, en_kl_0, en_kl_i, en_kl_r, en_kl_n, en_kl_l, en_Ec_some, en_Ec_void, en_rcv, en_stk, List.map_cons, List.map_nil, List.sum_cons, List.sum_nil, Value.category, Nat.reduceAdd, Nat.reduceLeDiff, decide_true, true_and, and_true, and_self, zI_add, zI_sub, zI_mul, zI_neg, zI_lt, zI_le, zI_eq, zI_cl, zI_0, zI_1, zI_m1, zI_lit, zT_0, zT_01, zI_01, zI_11, ↓reduceIte, if_true, if_false, not_false_eq_true, not_true_eq_false, Int.reduceEq, Int.reduceLT, Int.reduceLE, Classical.not_not, Bool.false_eq_true, q1, d1, c1]
      rw [s_buttonOf hk' hd' (by omega) (by omega), if_pos (by omega), Int.toNat_natCast]
      simp (disch := omega) only [eX0_askedFor_0, eX0_askedFor_1, eX0_askedFor_2, eX0_askedFor_3, eX0_askedFor_5, eX0_askedFor_6, eX0_askedFor_9, eX0_askedFor_12, eX0_askedFor_13, eX0_askedFor_14, eX0_askedFor_17, eX0_askedFor_18, eX0_askedFor_21, eX0_askedFor_24, eX0_askedFor_27, eX0_askedFor_30, eX0_askedFor_31, en_kl_0, en_kl_i, en_kl_r, en_kl_n, en_kl_l, en_Ec_some, en_Ec_void, en_rcv, en_stk, List.map_cons, List.map_nil, List.sum_cons, List.sum_nil, Value.category, Nat.reduceAdd, Nat.reduceLeDiff, decide_true, true_and, and_true, and_self, zI_add, zI_sub, zI_mul, zI_neg, zI_lt, zI_le, zI_eq, zI_cl, zI_0, zI_1, zI_m1, zI_lit, zT_0, zT_01, zI_01, zI_11, ↓reduceIte, if_true, if_false, not_false_eq_true, not_true_eq_false, Int.reduceEq, Int.reduceLT, Int.reduceLE, Classical.not_not, Bool.false_eq_true, q1, d1]
      unfold mq at ih'
      by_cases c2 : cb i = b
      · simp only [c2, if_true] at ih' ⊢
        exact ih'
      · simp only [c2, if_false] at ih' ⊢
        exact ih'
  simp (disch := omega) only [eX0_askedFor_0, eX0_askedFor_1, eX0_askedFor_2, eX0_askedFor_3, en_kl_0, en_kl_i, en_kl_r, en_kl_n, en_kl_l, en_Ec_some, en_Ec_void, en_rcv, en_stk, List.map_cons, List.map_nil, List.sum_cons, List.sum_nil, Value.category, Nat.reduceAdd, Nat.reduceLeDiff, decide_true, true_and, and_true, and_self, zI_add, zI_sub, zI_mul, zI_neg, zI_lt, zI_le, zI_eq, zI_cl, zI_0, zI_1, zI_m1, zI_lit, zT_0, zT_01, zI_01, zI_11, ↓reduceIte, if_true, if_false, not_false_eq_true, not_true_eq_false, Int.reduceEq, Int.reduceLT, Int.reduceLE, Classical.not_not, Bool.false_eq_true]
  exact loop n 0 (by omega)
theorem s_numberSince {b : Int} (hk : en_coins k) (hd : en_cD w k n cm cb) (h1 : -1 < b) (h2 : b < 2147483648) : SX0_numberSince [.ref k, .int (zI b)] w = some (some (.int (zI (mz cb b n n))), w) := by
  have hk' := hk
  have hd' := hd
  obtain ⟨q1, q2, q3, q4, q5, q6⟩ := hk
  obtain ⟨d1, d2, d3⟩ := hd
  refine en_val rfl (fun Q hQ => ?_)
  show en_Ev XX0_numberSince 0 [some (.ref k), some (.int (zI b)), none] [] w Q
  have loop : ∀ (i : Nat), i ≤ n → Q (some (.int (zI (mz cb b n i)))) w → en_Ev XX0_numberSince 7 [some (.ref k), some (.int (zI b)), some (.int (zI ((i : Int) - 1)))] [] w Q := by
    intro i
    induction i with
    | zero =>
      intro h3 hq
      have c1 : (((0 : Nat) : Int) - 1 < 0) := by omega
      rw [eX0_numberSince_7]
      simp (disch := omega) only [eX0_numberSince_0, eX0_numberSince_1, eX0_numberSince_4, eX0_numberSince_5, eX0_numberSince_6, eX0_numberSince_8, eX0_numberSince_11, eX0_numberSince_12, eX0_numberSince_13, eX0_numberSince_16, eX0_numberSince_17, eX0_numberSince_20, eX0_numberSince_21, eX0_numberSince_24, eX0_numberSince_25, eX0_numberSince_26, eX0_numberSince_27, eX0_numberSince_28, eX0_numberSince_29, eX0_numberSince_32, eX0_numberSince_35, eX0_numberSince_36, eX0_numberSince_39, en_kl_0, en_kl_i, en_kl_r, en_kl_n, en_kl_l, en_Ec_some, en_Ec_void, en_rcv, en_stk, List.map_cons, List.map_nil, List.sum_cons, List.sum_nil, Value.category, Nat.reduceAdd, Nat.reduceLeDiff, decide_true, true_and, and_true, and_self, zI_add, zI_sub, zI_mul, zI_neg, zI_lt, zI_le, zI_eq, zI_cl, zI_0, zI_1, zI_m1, zI_lit, zT_0, zT_01, zI_01, zI_11, ↓reduceIte, if_true, if_false, not_false_eq_true, not_true_eq_false, Int.reduceEq, Int.reduceLT, Int.reduceLE, Classical.not_not, Bool.false_eq_true, q1, d1, c1]
      exact hq
    | succ i ih =>
      intro h3 hq
      have c1 : ¬ (((i + 1 : Nat) : Int) - 1 < 0) := by omega
      obtain ⟨-, -, -, -, g3, g4⟩ := d3 i (by omega)
      rw [eX0_numberSince_7]
      simp (disch := omega) only [eX0_numberSince_0, eX0_numberSince_1, eX0_numberSince_4, eX0_numberSince_5, eX0_numberSince_6, eX0_numberSince_8, eX0_numberSince_11, eX0_numberSince_12, eX0_numberSince_13, eX0_numberSince_16, eX0_numberSince_17, eX0_numberSince_20, eX0_numberSince_21, eX0_numberSince_24, eX0_numberSince_25, eX0_numberSince_26, eX0_numberSince_27, eX0_numberSince_28, eX0_numberSince_29, eX0_numberSince_32, eX0_numberSince_35, eX0_numberSince_36, eX0_numberSince_39, en_kl_0, en_kl_i, en_kl_r, en_kl_n, en_kl_l, en_Ec_some, en_Ec_void, en_rcv, en_stk, List.map_cons, List.map_nil, List.sum_cons, List.sum_nil, Value.category, Nat.reduceAdd, Nat.reduceLeDiff, decide_true, true_and, and_true, and_self, zI_add, zI_sub, zI_mul, zI_neg, zI_lt, zI_le, zI_eq, zI_cl, zI_0, zI_1, zI_m1, zI_lit, zT_0, zT_01, zI_01, zI_11, ↓reduceIte, if_true, if_false, not_false_eq_true, not_true_eq_false, Int.reduceEq, Int.reduceLT, Int.reduceLE, Classical.not_not, Bool.false_eq_true, q1, d1, c1]
      rw [s_buttonOf hk' hd' (by omega) (by omega), if_pos (by omega), show (((i + 1 : Nat) : Int) - 1).toNat = i by omega]
      simp (disch := omega) only [eX0_numberSince_0, eX0_numberSince_1, eX0_numberSince_4, eX0_numberSince_5, eX0_numberSince_6, eX0_numberSince_8, eX0_numberSince_11, eX0_numberSince_12, eX0_numberSince_13, eX0_numberSince_16, eX0_numberSince_17, eX0_numberSince_20, eX0_numberSince_21, eX0_numberSince_24, eX0_numberSince_25, eX0_numberSince_26, eX0_numberSince_27, eX0_numberSince_28, eX0_numberSince_29, eX0_numberSince_32, eX0_numberSince_35, eX0_numberSince_36, eX0_numberSince_39, en_kl_0, en_kl_i, en_kl_r, en_kl_n, en_kl_l, en_Ec_some, en_Ec_void, en_rcv, en_stk, List.map_cons, List.map_nil, List.sum_cons, List.sum_nil, Value.category, Nat.reduceAdd, Nat.reduceLeDiff, decide_true, true_and, and_true, and_self, zI_add, zI_sub, zI_mul, zI_neg, zI_lt, zI_le, zI_eq, zI_cl, zI_0, zI_1, zI_m1, zI_lit, zT_0, zT_01, zI_01, zI_11, ↓reduceIte, if_true, if_false, not_false_eq_true, not_true_eq_false, Int.reduceEq, Int.reduceLT, Int.reduceLE, Classical.not_not, Bool.false_eq_true, q1, d1]
      unfold mz at hq
      by_cases c2 : cb i = b
      · simp only [c2, if_true] at hq ⊢
        refine en_qI hq (by omega)
      · simp only [c2, if_false] at hq ⊢
        have := ih (by omega) hq
        rw [show ((i + 1 : Nat) : Int) - 1 + -1 = (i : Int) - 1 by omega]
        exact this
  simp (disch := omega) only [eX0_numberSince_0, eX0_numberSince_1, eX0_numberSince_4, eX0_numberSince_5, eX0_numberSince_6, en_kl_0, en_kl_i, en_kl_r, en_kl_n, en_kl_l, en_Ec_some, en_Ec_void, en_rcv, en_stk, List.map_cons, List.map_nil, List.sum_cons, List.sum_nil, Value.category, Nat.reduceAdd, Nat.reduceLeDiff, decide_true, true_and, and_true, and_self, zI_add, zI_sub, zI_mul, zI_neg, zI_lt, zI_le, zI_eq, zI_cl, zI_0, zI_1, zI_m1, zI_lit, zT_0, zT_01, zI_01, zI_11, ↓reduceIte, if_true, if_false, not_false_eq_true, not_true_eq_false, Int.reduceEq, Int.reduceLT, Int.reduceLE, Classical.not_not, Bool.false_eq_true, q1, d1]
  exact loop n (Nat.le_refl n) hQ
theorem s_remove {c : Nat} (hk : en_coins k) (hd : en_cD w k n cm cb) (hc : c < n) : ∃ w', SX0_remove [.ref k, .int (zI c)] w = some (none, w') ∧ en_cD w' k (n - 1) (mr cm c) (mr cb c) ∧ en_fr [k, k + 1, k + 2] w w' := by
  have hk' := hk
  have hd' := hd
  obtain ⟨q1, q2, q3, q4, q5, q6⟩ := hk
  obtain ⟨d1, d2, d3⟩ := hd
  refine en_exv rfl ?_
  show en_Ev XX0_remove 0 [some (.ref k), some (.int (zI c)), none] [] w _
  have loop : ∀ (d i : Nat) (v : en_W), i + d + 1 = n → c ≤ i → en_fr [k, k + 1, k + 2] w v → v k 2 = zI n → (∀ j, j < n → v (k + 1) j = zI (if j < i then mr cm c j else cm j) ∧ v (k + 2) j = zI (if j < i then mr cb c j else cb j)) → en_Ev XX0_remove 11 [some (.ref k), some (.int (zI c)), some (.int (zI i))] [] v (fun r w' => r = none ∧ en_cD w' k (n - 1) (mr cm c) (mr cb c) ∧ en_fr [k, k + 1, k + 2] w w') := by
    intro d
    induction d with
    | zero =>
      intro i v h1 h2 h3 h4 h5
      have c1 : (n : Int) ≤ (i : Int) + 1 := by omega
      rw [eX0_remove_11]
      simp (disch := omega) only [eX0_remove_0, eX0_remove_1, eX0_remove_2, eX0_remove_5, eX0_remove_8, eX0_remove_9, eX0_remove_10, eX0_remove_12, eX0_remove_13, eX0_remove_14, eX0_remove_15, eX0_remove_18, eX0_remove_21, eX0_remove_22, eX0_remove_25, eX0_remove_26, eX0_remove_27, eX0_remove_30, eX0_remove_31, eX0_remove_32, eX0_remove_33, eX0_remove_34, eX0_remove_35, eX0_remove_36, eX0_remove_39, eX0_remove_40, eX0_remove_41, eX0_remove_44, eX0_remove_45, eX0_remove_46, eX0_remove_47, eX0_remove_48, eX0_remove_49, eX0_remove_52, eX0_remove_55, eX0_remove_56, eX0_remove_56i, eX0_remove_57, eX0_remove_60, eX0_remove_61, eX0_remove_62, eX0_remove_65, en_kl_0, en_kl_i, en_kl_r, en_kl_n, en_kl_l, en_Ec_some, en_Ec_void, en_rcv, en_stk, List.map_cons, List.map_nil, List.sum_cons, List.sum_nil, Value.category, Nat.reduceAdd, Nat.reduceLeDiff, decide_true, true_and, and_true, and_self, zI_add, zI_sub, zI_mul, zI_neg, zI_lt, zI_le, zI_eq, zI_cl, zI_0, zI_1, zI_m1, zI_lit, zT_0, zT_01, zI_01, zI_11, ↓reduceIte, if_true, if_false, not_false_eq_true, not_true_eq_false, Int.reduceEq, Int.reduceLT, Int.reduceLE, Classical.not_not, Bool.false_eq_true, q1, h4, c1]
      refine ⟨⟨?_, by omega, fun j hj => ?_⟩, h3.up (by simp)⟩
      · rw [en_up_eq, upd_eq]
        congr 1
        omega
      · simp (disch := omega) only [en_up_ne]
        obtain ⟨g1, g2⟩ := h5 j (by omega)
        rw [if_pos (by omega)] at g1 g2
        rw [g1, g2]
        refine ⟨rfl, rfl, ?_⟩
        unfold mr
        split
        · exact (d3 j (by omega)).2.2
        · exact (d3 (j + 1) (by omega)).2.2
    | succ d ih =>
      intro i v h1 h2 h3 h4 h5
      have c1 : ¬ (n : Int) ≤ (i : Int) + 1 := by omega
      have c2 : ¬ (i : Int) + 1 < 0 := by omega
      have c3 : ¬ (i : Int) < 0 := by omega
      have c4 : ¬ 19 ≤ i := by omega
      have c5 : ¬ 20 ≤ i := by omega
      have e1 : ((i : Int) + 1).toNat = i + 1 := by omega
      rw [eX0_remove_11]
      simp (disch := omega) only [eX0_remove_0, eX0_remove_1, eX0_remove_2, eX0_remove_5, eX0_remove_8, eX0_remove_9, eX0_remove_10, eX0_remove_12, eX0_remove_13, eX0_remove_14, eX0_remove_15, eX0_remove_18, eX0_remove_21, eX0_remove_22, eX0_remove_25, eX0_remove_26, eX0_remove_27, eX0_remove_30, eX0_remove_31, eX0_remove_32, eX0_remove_33, eX0_remove_34, eX0_remove_35, eX0_remove_36, eX0_remove_39, eX0_remove_40, eX0_remove_41, eX0_remove_44, eX0_remove_45, eX0_remove_46, eX0_remove_47, eX0_remove_48, eX0_remove_49, eX0_remove_52, eX0_remove_55, eX0_remove_56, eX0_remove_56i, eX0_remove_57, eX0_remove_60, eX0_remove_61, eX0_remove_62, eX0_remove_65, en_kl_0, en_kl_i, en_kl_r, en_kl_n, en_kl_l, en_Ec_some, en_Ec_void, en_rcv, en_stk, List.map_cons, List.map_nil, List.sum_cons, List.sum_nil, Value.category, Nat.reduceAdd, Nat.reduceLeDiff, decide_true, true_and, and_true, and_self, zI_add, zI_sub, zI_mul, zI_neg, zI_lt, zI_le, zI_eq, zI_cl, zI_0, zI_1, zI_m1, zI_lit, zT_0, zT_01, zI_01, zI_11, ↓reduceIte, if_true, if_false, not_false_eq_true, not_true_eq_false, Int.reduceEq, Int.reduceLT, Int.reduceLE, Classical.not_not, Bool.false_eq_true, q1, q2, q3, h4, c1, c2, c3, c4, c5, en_ix_at (show k + 1 < 62 by omega) q5, en_ix_at q4 q6, or_self, not_false_eq_true, Int.toNat_natCast, en_up_ne, e1]
      have := ih (i + 1) (en_up (en_up v (k + 1) i (v (k + 1) (i + 1))) (k + 2) i (v (k + 2) (i + 1))) (by omega) (by omega) ((h3.up (by simp)).up (by simp)) (by simp (disch := omega) only [en_up_ne, h4]) (fun j hj => by
        simp (disch := omega) only [en_up_ne, en_up_eq]
        obtain ⟨g1, g2⟩ := h5 j hj
        by_cases hji : j = i
        · subst hji
          obtain ⟨g3, g4⟩ := h5 (j + 1) (by omega)
          rw [upd_eq, upd_eq, g3, g4]
          unfold mr
          simp only [show ¬ (j + 1 < j) by omega, show j < j + 1 by omega, show ¬ j < c by omega, if_true, if_false, and_self]
        · rw [upd_ne hji, upd_ne hji, g1, g2]
          by_cases hj2 : j < i
          · rw [if_pos hj2, if_pos hj2, if_pos (by omega), if_pos (by omega)]
            exact ⟨rfl, rfl⟩
          · rw [if_neg hj2, if_neg hj2, if_neg (by omega), if_neg (by omega)]
            exact ⟨rfl, rfl⟩)
      exact this
  simp (disch := omega) only [eX0_remove_0, eX0_remove_1, eX0_remove_2, en_kl_0, en_kl_i, en_kl_r, en_kl_n, en_kl_l, en_Ec_some, en_Ec_void, en_rcv, en_stk, List.map_cons, List.map_nil, List.sum_cons, List.sum_nil, Value.category, Nat.reduceAdd, Nat.reduceLeDiff, decide_true, true_and, and_true, and_self, zI_add, zI_sub, zI_mul, zI_neg, zI_lt, zI_le, zI_eq, zI_cl, zI_0, zI_1, zI_m1, zI_lit, zT_0, zT_01, zI_01, zI_11, ↓reduceIte, if_true, if_false, not_false_eq_true, not_true_eq_false, Int.reduceEq, Int.reduceLT, Int.reduceLE, Classical.not_not, Bool.false_eq_true, q1]
  rw [s_has hk' hd' (by omega) (by omega), zT_t (by omega)]
  have c6 : ¬ (1 : Int) = 0 := by omega
  simp (disch := omega) only [eX0_remove_5, eX0_remove_9, eX0_remove_10, en_kl_0, en_kl_i, en_kl_r, en_kl_n, en_kl_l, en_Ec_some, en_Ec_void, en_rcv, en_stk, List.map_cons, List.map_nil, List.sum_cons, List.sum_nil, Value.category, Nat.reduceAdd, Nat.reduceLeDiff, decide_true, true_and, and_true, and_self, zI_add, zI_sub, zI_mul, zI_neg, zI_lt, zI_le, zI_eq, zI_cl, zI_0, zI_1, zI_m1, zI_lit, zT_0, zT_01, zI_01, zI_11, ↓reduceIte, if_true, if_false, not_false_eq_true, not_true_eq_false, Int.reduceEq, Int.reduceLT, Int.reduceLE, Classical.not_not, Bool.false_eq_true, c6]
  refine loop (n - 1 - c) c w (by omega) (Nat.le_refl c) en_fr.rf d1 (fun j hj => ?_)
  obtain ⟨g1, g2, -⟩ := d3 j hj
  rw [g1, g2]
  by_cases hj2 : j < c
  · rw [if_pos hj2, if_pos hj2]
    unfold mr
    rw [if_pos hj2, if_pos hj2]
    exact ⟨rfl, rfl⟩
  · rw [if_neg hj2, if_neg hj2]
    exact ⟨rfl, rfl⟩
end
