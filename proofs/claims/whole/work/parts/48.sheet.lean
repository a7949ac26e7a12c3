/-! ===== Sheet ===== -/
def en_sh (k : Nat) : Prop := en_is k 3 = true ∧ en_tg k 0 = k + 1 ∧ k + 1 < 62 ∧ en_al (k + 1) = some 60
theorem en_sh_at : ∀ q, q < 4 → en_sh (54 + 2 * q) := by unfold en_sh; decide +kernel
def aS1 (w : en_W) (k : Nat) (fo : Int) (sz : Nat) (it : Nat → Int32) : Prop := en_sh k ∧ (w k 1 = zI fo ∧ -1 ≤ fo ∧ fo ≤ 2) ∧ (w k 2 = zI sz ∧ sz ≤ 60 ∧ (fo = -1 → sz = 0)) ∧ ∀ j, j < sz → w (k + 1) j = it j
theorem aS1.fr {w w' : en_W} {k : Nat} {fo : Int} {sz : Nat} {it : Nat → Int32} (h : aS1 w k fo sz it) (h0 : w' k = w k) (h1 : w' (k + 1) = w (k + 1)) : aS1 w' k fo sz it := by
  unfold aS1
  rw [h0, h1]
  exact h
/-- what an item of a form keeps of a number -/
def cutF (fo : Int) (x : Int32) : Int32 := if fo = 0 then x.toInt8.toInt32 else if fo = 1 then x.toInt16.toInt32 else x
section
variable {w : en_W} {k sz : Nat} {fo v i c : Int} {it : Nat → Int32} {x : Int32}
theorem s_isForm (h1 : -2147483648 ≤ v) (h2 : v < 2147483648) : SX3_isForm [.int (zI v)] w = some (some (.int (zT (0 ≤ v ∧ v ≤ 2))), w) := by
  refine en_val rfl (fun Q hQ => ?_)
  show en_Ev XX3_isForm 0 [some (.int (zI v))] [] w Q
  simp (disch := omega) only [eX3_isForm_0, eX3_isForm_1, eX3_isForm_4, eX3_isForm_5, eX3_isForm_6, eX3_isForm_9, eX3_isForm_10, eX3_isForm_13, eX3_isForm_14, en_kl_0, en_kl_i, en_kl_r, en_kl_n, en_kl_l, en_Ec_some, en_Ec_void, en_rcv, en_stk, List.map_cons, List.map_nil, List.sum_cons, List.sum_nil, Value.category, Nat.reduceAdd, Nat.reduceLeDiff, decide_true, true_and, and_true, and_self, zI_add, zI_sub, zI_mul, zI_neg, zI_lt, zI_le, zI_eq, zI_cl, zI_0, zI_1, zI_m1, zI_lit, zT_0, zT_01, zI_01, zI_11, ↓reduceIte, if_true, if_false, not_false_eq_true, not_true_eq_false, Int.reduceEq, Int.reduceLT, Int.reduceLE, Classical.not_not, Bool.false_eq_true]
  repeat' (first | split | apply And.intro)
  all_goals first | omega | exact hQ | (rw [zT_t (by omega)] at hQ; exact hQ) | (rw [zT_f (by omega)] at hQ; exact hQ)
theorem s_isLost (h : aS1 w k fo sz it) : SX3_isLost [.ref k] w = some (some (.int (zT (fo = -1))), w) := by
  obtain ⟨⟨q1, q2, q3, q4⟩, ⟨g1, g2, g3⟩, g4, g5⟩ := h
  refine en_val rfl (fun Q hQ => ?_)
  show en_Ev XX3_isLost 0 [some (.ref k)] [] w Q
  simp (disch := omega) only [eX3_isLost_0, eX3_isLost_1, eX3_isLost_4, eX3_isLost_5, eX3_isLost_8, eX3_isLost_9, eX3_isLost_12, eX3_isLost_13, en_kl_0, en_kl_i, en_kl_r, en_kl_n, en_kl_l, en_Ec_some, en_Ec_void, en_rcv, en_stk, List.map_cons, List.map_nil, List.sum_cons, List.sum_nil, Value.category, Nat.reduceAdd, Nat.reduceLeDiff, decide_true, true_and, and_true, and_self, zI_add, zI_sub, zI_mul, zI_neg, zI_lt, zI_le, zI_eq, zI_cl, zI_0, zI_1, zI_m1, zI_lit, zT_0, zT_01, zI_01, zI_11, ↓reduceIte, if_true, if_false, not_false_eq_true, not_true_eq_false, Int.reduceEq, Int.reduceLT, Int.reduceLE, Classical.not_not, Bool.false_eq_true, q1, g1]
  repeat' (first | split | apply And.intro)
  all_goals first | omega | exact hQ | (rw [zT_t (by omega)] at hQ; exact hQ) | (rw [zT_f (by omega)] at hQ; exact hQ)
theorem s_formNow (h : aS1 w k fo sz it) : SX3_formNow [.ref k] w = some (some (.int (zI fo)), w) := by
  obtain ⟨⟨q1, q2, q3, q4⟩, ⟨g1, g2, g3⟩, g4, g5⟩ := h
  refine en_val rfl (fun Q hQ => ?_)
  show en_Ev XX3_formNow 0 [some (.ref k)] [] w Q
  simp (disch := omega) only [eX3_formNow_0, eX3_formNow_1, eX3_formNow_4, en_kl_0, en_kl_i, en_kl_r, en_kl_n, en_kl_l, en_Ec_some, en_Ec_void, en_rcv, en_stk, List.map_cons, List.map_nil, List.sum_cons, List.sum_nil, Value.category, Nat.reduceAdd, Nat.reduceLeDiff, decide_true, true_and, and_true, and_self, zI_add, zI_sub, zI_mul, zI_neg, zI_lt, zI_le, zI_eq, zI_cl, zI_0, zI_1, zI_m1, zI_lit, zT_0, zT_01, zI_01, zI_11, ↓reduceIte, if_true, if_false, not_false_eq_true, not_true_eq_false, Int.reduceEq, Int.reduceLT, Int.reduceLE, Classical.not_not, Bool.false_eq_true, q1, g1]
  exact hQ
theorem s_sheetNumber (h : aS1 w k fo sz it) : SX3_number [.ref k] w = some (some (.int (zI sz)), w) := by
  obtain ⟨⟨q1, q2, q3, q4⟩, -, ⟨g1, g2, g3⟩, g5⟩ := h
  refine en_val rfl (fun Q hQ => ?_)
  show en_Ev XX3_number 0 [some (.ref k)] [] w Q
  simp (disch := omega) only [eX3_number_0, eX3_number_1, eX3_number_4, en_kl_0, en_kl_i, en_kl_r, en_kl_n, en_kl_l, en_Ec_some, en_Ec_void, en_rcv, en_stk, List.map_cons, List.map_nil, List.sum_cons, List.sum_nil, Value.category, Nat.reduceAdd, Nat.reduceLeDiff, decide_true, true_and, and_true, and_self, zI_add, zI_sub, zI_mul, zI_neg, zI_lt, zI_le, zI_eq, zI_cl, zI_0, zI_1, zI_m1, zI_lit, zT_0, zT_01, zI_01, zI_11, ↓reduceIte, if_true, if_false, not_false_eq_true, not_true_eq_false, Int.reduceEq, Int.reduceLT, Int.reduceLE, Classical.not_not, Bool.false_eq_true, q1, g1]
  exact hQ
theorem s_holds (h : aS1 w k fo sz it) (h1 : -2147483648 ≤ v) (h2 : v < 2147483648) : SX3_holds [.ref k, .int (zI v)] w = some (some (.int (zT (0 ≤ v ∧ v < sz))), w) := by
  obtain ⟨⟨q1, q2, q3, q4⟩, -, ⟨g1, g2, g3⟩, g5⟩ := h
  refine en_val rfl (fun Q hQ => ?_)
  show en_Ev XX3_holds 0 [some (.ref k), some (.int (zI v))] [] w Q
  simp (disch := omega) only [eX3_holds_0, eX3_holds_1, eX3_holds_4, eX3_holds_5, eX3_holds_6, eX3_holds_9, eX3_holds_12, eX3_holds_13, eX3_holds_15, eX3_holds_18, eX3_holds_19, eX3_holds_22, eX3_holds_23, en_kl_0, en_kl_i, en_kl_r, en_kl_n, en_kl_l, en_Ec_some, en_Ec_void, en_rcv, en_stk, List.map_cons, List.map_nil, List.sum_cons, List.sum_nil, Value.category, Nat.reduceAdd, Nat.reduceLeDiff, decide_true, true_and, and_true, and_self, zI_add, zI_sub, zI_mul, zI_neg, zI_lt, zI_le, zI_eq, zI_cl, zI_0, zI_1, zI_m1, zI_lit, zT_0, zT_01, zI_01, zI_11, ↓reduceIte, if_true, if_false, not_false_eq_true, not_true_eq_false, Int.reduceEq, Int.reduceLT, Int.reduceLE, Classical.not_not, Bool.false_eq_true, q1, g1]
  repeat' (first | split | apply And.intro)
  all_goals first | omega | exact hQ | (rw [zT_t (by omega)] at hQ; exact hQ) | (rw [zT_f (by omega)] at hQ; exact hQ)
theorem s_holdsRun (h : aS1 w k fo sz it) (h1 : -2147483648 ≤ v) (h2 : v < 2147483648) (h3 : -2147483648 ≤ c) (h4 : c < 2147483648) : SX3_holdsRun [.ref k, .int (zI v), .int (zI c)] w = some (some (.int (zT (0 ≤ v ∧ v ≤ sz ∧ 0 ≤ c ∧ c ≤ sz - v))), w) := by
  obtain ⟨⟨q1, q2, q3, q4⟩, -, ⟨g1, g2, g3⟩, g5⟩ := h
  refine en_val rfl (fun Q hQ => ?_)
  show en_Ev XX3_holdsRun 0 [some (.ref k), some (.int (zI v)), some (.int (zI c))] [] w Q
  by_cases k1 : v < 0
  · rw [zT_f (by omega)] at hQ
    simp (disch := omega) only [eX3_holdsRun_0, eX3_holdsRun_1, eX3_holdsRun_4, eX3_holdsRun_5, eX3_holdsRun_6, eX3_holdsRun_9, eX3_holdsRun_12, eX3_holdsRun_13, eX3_holdsRun_16, eX3_holdsRun_17, eX3_holdsRun_18, eX3_holdsRun_21, eX3_holdsRun_22, eX3_holdsRun_23, eX3_holdsRun_26, eX3_holdsRun_27, eX3_holdsRun_30, eX3_holdsRun_31, en_kl_0, en_kl_i, en_kl_r, en_kl_n, en_kl_l, en_Ec_some, en_Ec_void, en_rcv, en_stk, List.map_cons, List.map_nil, List.sum_cons, List.sum_nil, Value.category, Nat.reduceAdd, Nat.reduceLeDiff, decide_true, true_and, and_true, and_self, zI_add, zI_sub, zI_mul, zI_neg, zI_lt, zI_le, zI_eq, zI_cl, zI_0, zI_1, zI_m1, zI_lit, zT_0, zT_01, zI_01, zI_11, ↓reduceIte, if_true, if_false, not_false_eq_true, not_true_eq_false, Int.reduceEq, Int.reduceLT, Int.reduceLE, Classical.not_not, Bool.false_eq_true, q1, g1, k1]
    exact hQ
  · by_cases k2 : (sz : Int) < v
    · rw [zT_f (by omega)] at hQ
      simp (disch := omega) only [eX3_holdsRun_0, eX3_holdsRun_1, eX3_holdsRun_4, eX3_holdsRun_5, eX3_holdsRun_6, eX3_holdsRun_9, eX3_holdsRun_12, eX3_holdsRun_13, eX3_holdsRun_16, eX3_holdsRun_17, eX3_holdsRun_18, eX3_holdsRun_21, eX3_holdsRun_22, eX3_holdsRun_23, eX3_holdsRun_26, eX3_holdsRun_27, eX3_holdsRun_30, eX3_holdsRun_31, en_kl_0, en_kl_i, en_kl_r, en_kl_n, en_kl_l, en_Ec_some, en_Ec_void, en_rcv, en_stk, List.map_cons, List.map_nil, List.sum_cons, List.sum_nil, Value.category, Nat.reduceAdd, Nat.reduceLeDiff, decide_true, true_and, and_true, and_self, zI_add, zI_sub, zI_mul, zI_neg, zI_lt, zI_le, zI_eq, zI_cl, zI_0, zI_1, zI_m1, zI_lit, zT_0, zT_01, zI_01, zI_11, ↓reduceIte, if_true, if_false, not_false_eq_true, not_true_eq_false, Int.reduceEq, Int.reduceLT, Int.reduceLE, Classical.not_not, Bool.false_eq_true, q1, g1, k1, k2]
      exact hQ
    · by_cases k3 : c < 0
      · rw [zT_f (by omega)] at hQ
        simp (disch := omega) only [eX3_holdsRun_0, eX3_holdsRun_1, eX3_holdsRun_4, eX3_holdsRun_5, eX3_holdsRun_6, eX3_holdsRun_9, eX3_holdsRun_12, eX3_holdsRun_13, eX3_holdsRun_16, eX3_holdsRun_17, eX3_holdsRun_18, eX3_holdsRun_21, eX3_holdsRun_22, eX3_holdsRun_23, eX3_holdsRun_26, eX3_holdsRun_27, eX3_holdsRun_30, eX3_holdsRun_31, en_kl_0, en_kl_i, en_kl_r, en_kl_n, en_kl_l, en_Ec_some, en_Ec_void, en_rcv, en_stk, List.map_cons, List.map_nil, List.sum_cons, List.sum_nil, Value.category, Nat.reduceAdd, Nat.reduceLeDiff, decide_true, true_and, and_true, and_self, zI_add, zI_sub, zI_mul, zI_neg, zI_lt, zI_le, zI_eq, zI_cl, zI_0, zI_1, zI_m1, zI_lit, zT_0, zT_01, zI_01, zI_11, ↓reduceIte, if_true, if_false, not_false_eq_true, not_true_eq_false, Int.reduceEq, Int.reduceLT, Int.reduceLE, Classical.not_not, Bool.false_eq_true, q1, g1, k1, k2, k3]
        exact hQ
      · by_cases k4 : c ≤ sz - v
        · have k5 : ¬ (sz : Int) - v < c := by omega
          rw [zT_t (by omega)] at hQ
          simp (disch := omega) only [eX3_holdsRun_0, eX3_holdsRun_1, eX3_holdsRun_4, eX3_holdsRun_5, eX3_holdsRun_6, eX3_holdsRun_9, eX3_holdsRun_12, eX3_holdsRun_13, eX3_holdsRun_16, eX3_holdsRun_17, eX3_holdsRun_18, eX3_holdsRun_21, eX3_holdsRun_22, eX3_holdsRun_23, eX3_holdsRun_26, eX3_holdsRun_27, eX3_holdsRun_30, eX3_holdsRun_31, en_kl_0, en_kl_i, en_kl_r, en_kl_n, en_kl_l, en_Ec_some, en_Ec_void, en_rcv, en_stk, List.map_cons, List.map_nil, List.sum_cons, List.sum_nil, Value.category, Nat.reduceAdd, Nat.reduceLeDiff, decide_true, true_and, and_true, and_self, zI_add, zI_sub, zI_mul, zI_neg, zI_lt, zI_le, zI_eq, zI_cl, zI_0, zI_1, zI_m1, zI_lit, zT_0, zT_01, zI_01, zI_11, ↓reduceIte, if_true, if_false, not_false_eq_true, not_true_eq_false, Int.reduceEq, Int.reduceLT, Int.reduceLE, Classical.not_not, Bool.false_eq_true, q1, g1, k1, k2, k3, k5]
          exact hQ
        · have k5 : (sz : Int) - v < c := by omega
          rw [zT_f (by omega)] at hQ
          simp (disch := omega) only [eX3_holdsRun_0, eX3_holdsRun_1, eX3_holdsRun_4, eX3_holdsRun_5, eX3_holdsRun_6, eX3_holdsRun_9, eX3_holdsRun_12, eX3_holdsRun_13, eX3_holdsRun_16, eX3_holdsRun_17, eX3_holdsRun_18, eX3_holdsRun_21, eX3_holdsRun_22, eX3_holdsRun_23, eX3_holdsRun_26, eX3_holdsRun_27, eX3_holdsRun_30, eX3_holdsRun_31, en_kl_0, en_kl_i, en_kl_r, en_kl_n, en_kl_l, en_Ec_some, en_Ec_void, en_rcv, en_stk, List.map_cons, List.map_nil, List.sum_cons, List.sum_nil, Value.category, Nat.reduceAdd, Nat.reduceLeDiff, decide_true, true_and, and_true, and_self, zI_add, zI_sub, zI_mul, zI_neg, zI_lt, zI_le, zI_eq, zI_cl, zI_0, zI_1, zI_m1, zI_lit, zT_0, zT_01, zI_01, zI_11, ↓reduceIte, if_true, if_false, not_false_eq_true, not_true_eq_false, Int.reduceEq, Int.reduceLT, Int.reduceLE, Classical.not_not, Bool.false_eq_true, q1, g1, k1, k2, k3, k5]
          exact hQ
theorem s_item (h : aS1 w k fo sz it) (h1 : 0 ≤ v) (h2 : v < sz) : SX3_item [.ref k, .int (zI v)] w = some (some (.int (it v.toNat)), w) := by
  have h' := h
  obtain ⟨⟨q1, q2, q3, q4⟩, -, ⟨g1, g2, g3⟩, g5⟩ := h
  refine en_val rfl (fun Q hQ => ?_)
  show en_Ev XX3_item 0 [some (.ref k), some (.int (zI v))] [] w Q
  simp (disch := omega) only [eX3_item_0, eX3_item_1, eX3_item_2, en_kl_0, en_kl_i, en_kl_r, en_kl_n, en_kl_l, en_Ec_some, en_Ec_void, en_rcv, en_stk, List.map_cons, List.map_nil, List.sum_cons, List.sum_nil, Value.category, Nat.reduceAdd, Nat.reduceLeDiff, decide_true, true_and, and_true, and_self, q1]
  rw [s_holds h' (by omega) (by omega), zT_t ⟨h1, h2⟩]
  have c1 : ¬ v < 0 := by omega
  have c2 : ¬ 60 ≤ v.toNat := by omega
  have e := g5 v.toNat (by omega)
  simp (disch := omega) only [eX3_item_0, eX3_item_1, eX3_item_2, eX3_item_5, eX3_item_8, eX3_item_9, eX3_item_12, eX3_item_13, eX3_item_14, eX3_item_17, eX3_item_18, en_kl_0, en_kl_i, en_kl_r, en_kl_n, en_kl_l, en_Ec_some, en_Ec_void, en_rcv, en_stk, List.map_cons, List.map_nil, List.sum_cons, List.sum_nil, Value.category, Nat.reduceAdd, Nat.reduceLeDiff, decide_true, true_and, and_true, and_self, zI_add, zI_sub, zI_mul, zI_neg, zI_lt, zI_le, zI_eq, zI_cl, zI_0, zI_1, zI_m1, zI_lit, zT_0, zT_01, zI_01, zI_11, ↓reduceIte, if_true, if_false, not_false_eq_true, not_true_eq_false, Int.reduceEq, Int.reduceLT, Int.reduceLE, Classical.not_not, Bool.false_eq_true, q1, q2, en_ix_at q3 q4, c1, c2, e, or_self]
  exact hQ
theorem s_narrowed (h : aS1 w k fo sz it) (h0 : 0 ≤ fo) : SX3_narrowed [.ref k, .int x] w = some (some (.int (cutF fo x)), w) := by
  obtain ⟨⟨q1, q2, q3, q4⟩, ⟨g1, g2, g3⟩, g4, g5⟩ := h
  refine en_val rfl (fun Q hQ => ?_)
  show en_Ev XX3_narrowed 0 [some (.ref k), some (.int x)] [] w Q
  unfold cutF at hQ
  by_cases c1 : fo = 0
  · rw [if_pos c1] at hQ
    simp (disch := omega) only [eX3_narrowed_0, eX3_narrowed_1, eX3_narrowed_4, eX3_narrowed_32, eX3_narrowed_33, eX3_narrowed_34, eX3_narrowed_35, eX3_narrowed_36, eX3_narrowed_37, eX3_narrowed_38, eX3_narrowed_39, en_kl_0, en_kl_i, en_kl_r, en_kl_n, en_kl_l, en_Ec_some, en_Ec_void, en_rcv, en_stk, List.map_cons, List.map_nil, List.sum_cons, List.sum_nil, Value.category, Nat.reduceAdd, Nat.reduceLeDiff, decide_true, true_and, and_true, and_self, zI_add, zI_sub, zI_mul, zI_neg, zI_lt, zI_le, zI_eq, zI_cl, zI_0, zI_1, zI_m1, zI_lit, zT_0, zT_01, zI_01, zI_11, ↓reduceIte, if_true, if_false, not_false_eq_true, not_true_eq_false, Int.reduceEq, Int.reduceLT, Int.reduceLE, Classical.not_not, Bool.false_eq_true, q1, g1, c1]
    exact hQ
  · by_cases c2 : fo = 1
    · rw [if_neg c1, if_pos c2] at hQ
      simp (disch := omega) only [eX3_narrowed_0, eX3_narrowed_1, eX3_narrowed_4, eX3_narrowed_32, eX3_narrowed_33, eX3_narrowed_34, eX3_narrowed_35, eX3_narrowed_36, eX3_narrowed_37, eX3_narrowed_38, eX3_narrowed_39, en_kl_0, en_kl_i, en_kl_r, en_kl_n, en_kl_l, en_Ec_some, en_Ec_void, en_rcv, en_stk, List.map_cons, List.map_nil, List.sum_cons, List.sum_nil, Value.category, Nat.reduceAdd, Nat.reduceLeDiff, decide_true, true_and, and_true, and_self, zI_add, zI_sub, zI_mul, zI_neg, zI_lt, zI_le, zI_eq, zI_cl, zI_0, zI_1, zI_m1, zI_lit, zT_0, zT_01, zI_01, zI_11, ↓reduceIte, if_true, if_false, not_false_eq_true, not_true_eq_false, Int.reduceEq, Int.reduceLT, Int.reduceLE, Classical.not_not, Bool.false_eq_true, q1, g1, c1, c2]
      exact hQ
    · rw [if_neg c1, if_neg c2] at hQ
      simp (disch := omega) only [eX3_narrowed_0, eX3_narrowed_1, eX3_narrowed_4, eX3_narrowed_32, eX3_narrowed_33, eX3_narrowed_34, eX3_narrowed_35, eX3_narrowed_36, eX3_narrowed_37, eX3_narrowed_38, eX3_narrowed_39, en_kl_0, en_kl_i, en_kl_r, en_kl_n, en_kl_l, en_Ec_some, en_Ec_void, en_rcv, en_stk, List.map_cons, List.map_nil, List.sum_cons, List.sum_nil, Value.category, Nat.reduceAdd, Nat.reduceLeDiff, decide_true, true_and, and_true, and_self, zI_add, zI_sub, zI_mul, zI_neg, zI_lt, zI_le, zI_eq, zI_cl, zI_0, zI_1, zI_m1, zI_lit, zT_0, zT_01, zI_01, zI_11, ↓reduceIte, if_true, if_false, not_false_eq_true, not_true_eq_false, Int.reduceEq, Int.reduceLT, Int.reduceLE, Classical.not_not, Bool.false_eq_true, q1, g1, c1, c2]
      exact hQ
theorem s_put (h : aS1 w k fo sz it) (h0 : 0 ≤ fo) (h1 : 0 ≤ v) (h2 : v < sz) : SX3_put [.ref k, .int (zI v), .int x] w = some (none, en_up w (k + 1) v.toNat (cutF fo x)) := by
  have h' := h
  obtain ⟨⟨q1, q2, q3, q4⟩, -, ⟨g1, g2, g3⟩, g5⟩ := h
  refine en_val rfl (fun Q hQ => ?_)
  show en_Ev XX3_put 0 [some (.ref k), some (.int (zI v)), some (.int x)] [] w Q
  simp (disch := omega) only [eX3_put_0, eX3_put_1, eX3_put_2, en_kl_0, en_kl_i, en_kl_r, en_kl_n, en_kl_l, en_Ec_some, en_Ec_void, en_rcv, en_stk, List.map_cons, List.map_nil, List.sum_cons, List.sum_nil, Value.category, Nat.reduceAdd, Nat.reduceLeDiff, decide_true, true_and, and_true, and_self, q1]
  rw [s_holds h' (by omega) (by omega), zT_t ⟨h1, h2⟩]
  simp (disch := omega) only [eX3_put_5, eX3_put_8, eX3_put_9, eX3_put_12, eX3_put_13, eX3_put_14, eX3_put_15, en_kl_0, en_kl_i, en_kl_r, en_kl_n, en_kl_l, en_Ec_some, en_Ec_void, en_rcv, en_stk, List.map_cons, List.map_nil, List.sum_cons, List.sum_nil, Value.category, Nat.reduceAdd, Nat.reduceLeDiff, decide_true, true_and, and_true, and_self, zI_add, zI_sub, zI_mul, zI_neg, zI_lt, zI_le, zI_eq, zI_cl, zI_0, zI_1, zI_m1, zI_lit, zT_0, zT_01, zI_01, zI_11, ↓reduceIte, if_true, if_false, not_false_eq_true, not_true_eq_false, Int.reduceEq, Int.reduceLT, Int.reduceLE, Classical.not_not, Bool.false_eq_true, q1, q2]
  rw [s_narrowed h' h0]
  have c1 : ¬ v < 0 := by omega
  have c2 : ¬ 60 ≤ v.toNat := by omega
  simp (disch := omega) only [eX3_put_18, eX3_put_19, en_kl_0, en_kl_i, en_kl_r, en_kl_n, en_kl_l, en_Ec_some, en_Ec_void, en_rcv, en_stk, List.map_cons, List.map_nil, List.sum_cons, List.sum_nil, Value.category, Nat.reduceAdd, Nat.reduceLeDiff, decide_true, true_and, and_true, and_self, zI_add, zI_sub, zI_mul, zI_neg, zI_lt, zI_le, zI_eq, zI_cl, zI_0, zI_1, zI_m1, zI_lit, zT_0, zT_01, zI_01, zI_11, ↓reduceIte, if_true, if_false, not_false_eq_true, not_true_eq_false, Int.reduceEq, Int.reduceLT, Int.reduceLE, Classical.not_not, Bool.false_eq_true, en_ix_at q3 q4, c1, c2, or_self]
  exact hQ
theorem s_becomeLost (h : aS1 w k fo sz it) : ∃ w', SX3_becomeLost [.ref k] w = some (none, w') ∧ aS1 w' k (-1) 0 it ∧ en_fr [k] w w' := by
  obtain ⟨hs, ⟨g1, g2, g3⟩, g4, g5⟩ := h
  have q1 := hs.1
  refine en_exv rfl ?_
  show en_Ev XX3_becomeLost 0 [some (.ref k)] [] w _
  simp (disch := omega) only [eX3_becomeLost_0, eX3_becomeLost_1, eX3_becomeLost_2, eX3_becomeLost_5, eX3_becomeLost_6, eX3_becomeLost_7, eX3_becomeLost_10, en_kl_0, en_kl_i, en_kl_r, en_kl_n, en_kl_l, en_Ec_some, en_Ec_void, en_rcv, en_stk, List.map_cons, List.map_nil, List.sum_cons, List.sum_nil, Value.category, Nat.reduceAdd, Nat.reduceLeDiff, decide_true, true_and, and_true, and_self, zI_add, zI_sub, zI_mul, zI_neg, zI_lt, zI_le, zI_eq, zI_cl, zI_0, zI_1, zI_m1, zI_lit, zT_0, zT_01, zI_01, zI_11, ↓reduceIte, if_true, if_false, not_false_eq_true, not_true_eq_false, Int.reduceEq, Int.reduceLT, Int.reduceLE, Classical.not_not, Bool.false_eq_true, q1]
  refine ⟨⟨hs, ⟨?_, by omega, by omega⟩, ⟨?_, by omega, fun _ => rfl⟩, fun j hj => absurd hj (by omega)⟩, (en_fr.rf.up (by simp)).up (by simp)⟩
  · simp (disch := decide) only [en_up_eq, upd_eq, upd_ne]
  · simp (disch := decide) only [en_up_eq, upd_eq, upd_ne]
    rfl
theorem s_renew {m : Nat} (h : aS1 w k fo sz it) (h1 : 0 ≤ v) (h2 : v ≤ 2) (h3 : m ≤ 60) : ∃ w', SX3_renew [.ref k, .int (zI v), .int (zI m)] w = some (none, w') ∧ aS1 w' k v m (fun _ => 0) ∧ en_fr [k, k + 1] w w' := by
  obtain ⟨hs, ⟨g1, g2, g3⟩, g4, g5⟩ := h
  obtain ⟨q1, q2, q3, q4⟩ := id hs
  refine en_exv rfl ?_
  show en_Ev XX3_renew 0 [some (.ref k), some (.int (zI v)), some (.int (zI m))] [] w _
  simp (disch := omega) only [eX3_renew_0, eX3_renew_1, en_kl_0, en_kl_i, en_kl_r, en_kl_n, en_kl_l, en_Ec_some, en_Ec_void, en_rcv, en_stk, List.map_cons, List.map_nil, List.sum_cons, List.sum_nil, Value.category, Nat.reduceAdd, Nat.reduceLeDiff, decide_true, true_and, and_true, and_self, q1]
  rw [s_isForm (by omega) (by omega), zT_t ⟨h1, h2⟩]
  have c1 : ¬ (m : Int) < 0 := by omega
  have c2 : (m : Int) ≤ 60 := by omega
  simp (disch := omega) only [eX3_renew_4, eX3_renew_7, eX3_renew_8, eX3_renew_11, eX3_renew_12, eX3_renew_14, eX3_renew_18, eX3_renew_19, eX3_renew_22, eX3_renew_23, en_kl_0, en_kl_i, en_kl_r, en_kl_n, en_kl_l, en_Ec_some, en_Ec_void, en_rcv, en_stk, List.map_cons, List.map_nil, List.sum_cons, List.sum_nil, Value.category, Nat.reduceAdd, Nat.reduceLeDiff, decide_true, true_and, and_true, and_self, zI_add, zI_sub, zI_mul, zI_neg, zI_lt, zI_le, zI_eq, zI_cl, zI_0, zI_1, zI_m1, zI_lit, zT_0, zT_01, zI_01, zI_11, ↓reduceIte, if_true, if_false, not_false_eq_true, not_true_eq_false, Int.reduceEq, Int.reduceLT, Int.reduceLE, Classical.not_not, Bool.false_eq_true, q1, q2, c1, c2]
  obtain ⟨w1, e1, k1, f1⟩ := s_fill (w := w) (k := k + 1) (v := zI 0) (by omega) q4 (by decide)
  rw [e1]
  simp (disch := omega) only [eX3_renew_26, eX3_renew_27, eX3_renew_28, eX3_renew_31, eX3_renew_32, eX3_renew_33, eX3_renew_36, en_kl_0, en_kl_i, en_kl_r, en_kl_n, en_kl_l, en_Ec_some, en_Ec_void, en_rcv, en_stk, List.map_cons, List.map_nil, List.sum_cons, List.sum_nil, Value.category, Nat.reduceAdd, Nat.reduceLeDiff, decide_true, true_and, and_true, and_self, zI_add, zI_sub, zI_mul, zI_neg, zI_lt, zI_le, zI_eq, zI_cl, zI_0, zI_1, zI_m1, zI_lit, zT_0, zT_01, zI_01, zI_11, ↓reduceIte, if_true, if_false, not_false_eq_true, not_true_eq_false, Int.reduceEq, Int.reduceLT, Int.reduceLE, Classical.not_not, Bool.false_eq_true, q1]
  refine ⟨⟨hs, ⟨?_, by omega, by omega⟩, ⟨?_, h3, fun q => absurd q (by omega)⟩, fun j hj => ?_⟩, ((f1.mono (by simp)).up (by simp)).up (by simp)⟩
  · simp (disch := decide) only [en_up_eq, upd_eq, upd_ne]
  · simp (disch := decide) only [en_up_eq, upd_eq, upd_ne]
  · simp (disch := omega) only [en_up_ne]
    rw [k1 j (by omega)]
theorem s_copy0 {a b : Nat} (ha : a < 62) (hb : b < 62) (h1 : en_al a = some 60) (h2 : en_al b = some 60) (v1 : 0 ≤ v) (i1 : 0 ≤ i) (c1 : 0 ≤ c) (v2 : v + c ≤ 60) (i2 : i + c ≤ 60) : SJ_Jcopy [.ref a, .int (zI v), .ref b, .int (zI i), .int (zI c)] w = some (none, en_row w b (va_cpy (w a) (w b) v.toNat i.toNat c.toNat)) := by
  unfold SJ_Jcopy
  dsimp only
  rw [h1, h2]
  dsimp only
  have e : ∀ z : Int, 0 ≤ z → z ≤ 60 → ¬ zI z < 0 := by
    intro z z1 z2 q
    rw [zI_0, zI_lt (by omega) (by omega) (by omega) (by omega)] at q
    omega
  rw [zI_cl (by omega) (by omega), zI_cl (by omega) (by omega), zI_cl (by omega) (by omega)]
  rw [if_pos ⟨ha, hb, e v v1 (by omega), e i i1 (by omega), e c c1 (by omega), by omega, by omega⟩]
theorem s_takeRun {k2 sz2 : Nat} {fo2 : Int} {it2 : Nat → Int32} (h : aS1 w k fo sz it) (h' : aS1 w k2 fo2 sz2 it2) (v1 : 0 ≤ v) (v2 : v ≤ sz2) (i1 : 0 ≤ i) (i2 : i ≤ sz) (c1 : 0 ≤ c) (c2 : c ≤ sz2 - v) (c3 : c ≤ sz - i) : SX3_takeRun [.ref k, .ref k2, .int (zI v), .int (zI i), .int (zI c)] w = some (none, en_row w (k + 1) (va_cpy (w (k2 + 1)) (w (k + 1)) v.toNat i.toNat c.toNat)) := by
  have hz := h.2.2.1.2.1
  have hz2 := h'.2.2.1.2.1
  obtain ⟨q1, q2, q3, q4⟩ := h.1
  obtain ⟨r1, r2, r3, r4⟩ := h'.1
  refine en_val rfl (fun Q hQ => ?_)
  show en_Ev XX3_takeRun 0 [some (.ref k), some (.ref k2), some (.int (zI v)), some (.int (zI i)), some (.int (zI c))] [] w Q
  simp (disch := omega) only [eX3_takeRun_0, eX3_takeRun_1, eX3_takeRun_4, eX3_takeRun_5, eX3_takeRun_6, eX3_takeRun_8, en_kl_0, en_kl_i, en_kl_r, en_kl_n, en_kl_l, en_Ec_some, en_Ec_void, en_rcv, en_stk, List.map_cons, List.map_nil, List.sum_cons, List.sum_nil, Value.category, Nat.reduceAdd, Nat.reduceLeDiff, decide_true, true_and, and_true, and_self, r1]
  rw [s_holdsRun h' (by omega) (by omega) (by omega) (by omega), zT_t ⟨v1, v2, c1, c2⟩]
  simp (disch := omega) only [eX3_takeRun_11, eX3_takeRun_14, eX3_takeRun_15, eX3_takeRun_16, eX3_takeRun_18, en_kl_0, en_kl_i, en_kl_r, en_kl_n, en_kl_l, en_Ec_some, en_Ec_void, en_rcv, en_stk, List.map_cons, List.map_nil, List.sum_cons, List.sum_nil, Value.category, Nat.reduceAdd, Nat.reduceLeDiff, decide_true, true_and, and_true, and_self, zI_add, zI_sub, zI_mul, zI_neg, zI_lt, zI_le, zI_eq, zI_cl, zI_0, zI_1, zI_m1, zI_lit, zT_0, zT_01, zI_01, zI_11, ↓reduceIte, if_true, if_false, not_false_eq_true, not_true_eq_false, Int.reduceEq, Int.reduceLT, Int.reduceLE, Classical.not_not, Bool.false_eq_true, q1]
  rw [s_holdsRun h (by omega) (by omega) (by omega) (by omega), zT_t ⟨i1, i2, c1, c3⟩]
  simp (disch := omega) only [eX3_takeRun_21, eX3_takeRun_24, eX3_takeRun_25, eX3_takeRun_28, eX3_takeRun_29, eX3_takeRun_30, eX3_takeRun_33, eX3_takeRun_34, eX3_takeRun_36, en_kl_0, en_kl_i, en_kl_r, en_kl_n, en_kl_l, en_Ec_some, en_Ec_void, en_rcv, en_stk, List.map_cons, List.map_nil, List.sum_cons, List.sum_nil, Value.category, Nat.reduceAdd, Nat.reduceLeDiff, decide_true, true_and, and_true, and_self, zI_add, zI_sub, zI_mul, zI_neg, zI_lt, zI_le, zI_eq, zI_cl, zI_0, zI_1, zI_m1, zI_lit, zT_0, zT_01, zI_01, zI_11, ↓reduceIte, if_true, if_false, not_false_eq_true, not_true_eq_false, Int.reduceEq, Int.reduceLT, Int.reduceLE, Classical.not_not, Bool.false_eq_true, q1, q2, r1, r2]
  rw [s_copy0 r3 q3 r4 q4 v1 i1 c1 (by omega) (by omega)]
  simp (disch := omega) only [eX3_takeRun_39, en_kl_0, en_kl_i, en_kl_r, en_kl_n, en_kl_l, en_Ec_some, en_Ec_void, en_rcv, en_stk, List.map_cons, List.map_nil, List.sum_cons, List.sum_nil, Value.category, Nat.reduceAdd, Nat.reduceLeDiff, decide_true, true_and, and_true, and_self]
  exact hQ
end
