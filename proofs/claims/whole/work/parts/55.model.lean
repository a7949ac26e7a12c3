/-! ===== the model: longs, small tests ===== -/
def lI (z : Int) : Int64 := Int64.ofInt z
theorem lI_toInt {z : Int} (h1 : -4611686018427387904 ≤ z) (h2 : z < 4611686018427387904) : (lI z).toInt = z := Int64.toInt_ofInt_of_le (by
  show -(2 ^ 63) ≤ z
  omega) (by
  show z < 2 ^ 63
  omega)
theorem lI_of {v : Int} (h1 : -2147483648 ≤ v) (h2 : v < 2147483648) : (zI v).toInt64 = lI v := by
  apply Int64.toInt_inj.mp
  rw [Int32.toInt_toInt64, zI_toInt h1 h2, lI_toInt (by omega) (by omega)]
theorem lI_0 : (0 : Int64) = lI 0 := by decide
theorem lI_1 : (1 : Int64) = lI 1 := by decide
theorem lI_m1 : (-1 : Int64) = lI (-1) := by decide
theorem lI_lit (n : Nat) : (OfNat.ofNat n : Int64) = lI (OfNat.ofNat n : Int) := by
  show Int64.ofNat n = Int64.ofInt (n : Int)
  rw [Int64.ofInt_eq_ofNat]
theorem lI_add (a b : Int) : lI a + lI b = lI (a + b) := by
  unfold lI
  rw [Int64.ofInt_add]
theorem lI_sub (a b : Int) : lI a - lI b = lI (a - b) := by
  unfold lI
  rw [Int64.ofInt_sub]
theorem lI_mul (a b : Int) : lI a * lI b = lI (a * b) := by
  unfold lI
  rw [Int64.ofInt_mul]
theorem lI_neg (a : Int) : -lI a = lI (-a) := by
  unfold lI
  rw [Int64.ofInt_neg]
theorem lI_lt {a b : Int} (h1 : -4611686018427387904 ≤ a) (h2 : a < 4611686018427387904) (h3 : -4611686018427387904 ≤ b) (h4 : b < 4611686018427387904) : (lI a < lI b) = (a < b) := by
  rw [Int64.lt_iff_toInt_lt, lI_toInt h1 h2, lI_toInt h3 h4]
theorem lI_le {a b : Int} (h1 : -4611686018427387904 ≤ a) (h2 : a < 4611686018427387904) (h3 : -4611686018427387904 ≤ b) (h4 : b < 4611686018427387904) : (lI a ≤ lI b) = (a ≤ b) := by
  rw [Int64.le_iff_toInt_le, lI_toInt h1 h2, lI_toInt h3 h4]
theorem lc_lt {a b : Int} (h1 : -4611686018427387904 ≤ a) (h2 : a < 4611686018427387904) (h3 : -4611686018427387904 ≤ b) (h4 : b < 4611686018427387904) : (lg_cmp (lI a) (lI b) < zI 0) = (a < b) := by
  rw [← zI_0, ← lI_lt h1 h2 h3 h4]
  exact propext (lg_cmp_lt _ _)
theorem lc_gt {a b : Int} (h1 : -4611686018427387904 ≤ a) (h2 : a < 4611686018427387904) (h3 : -4611686018427387904 ≤ b) (h4 : b < 4611686018427387904) : (zI 0 < lg_cmp (lI a) (lI b)) = (b < a) := by
  rw [← zI_0, ← lI_lt h3 h4 h1 h2]
  exact propext (lg_cmp_gt _ _)
theorem lc_le {a b : Int} (h1 : -4611686018427387904 ≤ a) (h2 : a < 4611686018427387904) (h3 : -4611686018427387904 ≤ b) (h4 : b < 4611686018427387904) : (lg_cmp (lI a) (lI b) ≤ zI 0) = (a ≤ b) := by
  rw [← zI_0, ← lI_le h1 h2 h3 h4]
  exact propext (lg_cmp_le _ _)
theorem lc_ge {a b : Int} (h1 : -4611686018427387904 ≤ a) (h2 : a < 4611686018427387904) (h3 : -4611686018427387904 ≤ b) (h4 : b < 4611686018427387904) : (zI 0 ≤ lg_cmp (lI a) (lI b)) = (b ≤ a) := by
  rw [← zI_0, ← lI_le h3 h4 h1 h2]
  exact propext (lg_cmp_ge _ _)
section
variable {w : en_W} {v a b : Int} {x : Int32}
theorem r_in (h1 : -2147483648 ≤ v) (h2 : v < 2147483648) (h3 : -2147483648 ≤ a) (h4 : a < 2147483648) (h5 : -2147483648 ≤ b) (h6 : b < 2147483648) : SX6_in [.long (lI v), .long (lI a), .long (lI b)] w = some (some (.int (zT (a ≤ v ∧ v ≤ b))), w) := by
  refine en_val rfl (fun Q hQ => ?_)
  show en_Ev XX6_in 0 [some (.long (lI v)), none, some (.long (lI a)), none, some (.long (lI b)), none] [] w Q
  by_cases c1 : v < a
  · rw [zT_f (by omega)] at hQ
    simp (disch := omega) only [eX6_in_0, eX6_in_1, eX6_in_2, eX6_in_3, eX6_in_6, eX6_in_7, eX6_in_9, eX6_in_10, eX6_in_13, eX6_in_14, eX6_in_17, eX6_in_18, en_kl_0, en_kl_i, en_kl_r, en_kl_n, en_kl_l, en_Ec_some, en_Ec_void, en_rcv, en_stk, List.map_cons, List.map_nil, List.sum_cons, List.sum_nil, Value.category, Nat.reduceAdd, Nat.reduceLeDiff, decide_true, true_and, and_true, and_self, zI_add, zI_sub, zI_mul, zI_neg, zI_lt, zI_le, zI_eq, zI_cl, zI_0, zI_1, zI_m1, zI_lit, zT_0, zT_01, zI_01, zI_11, ↓reduceIte, if_true, if_false, not_false_eq_true, not_true_eq_false, Int.reduceEq, Int.reduceLT, Int.reduceLE, Classical.not_not, Bool.false_eq_true, lI_of, lI_0, lI_1, lI_m1, lI_lit, lI_neg, lI_add, lI_sub, lI_mul, lc_lt, lc_gt, lc_le, lc_ge, c1]
    exact hQ
  · by_cases c2 : b < v
    · rw [zT_f (by omega)] at hQ
      simp (disch := omega) only [eX6_in_0, eX6_in_1, eX6_in_2, eX6_in_3, eX6_in_6, eX6_in_7, eX6_in_9, eX6_in_10, eX6_in_13, eX6_in_14, eX6_in_17, eX6_in_18, en_kl_0, en_kl_i, en_kl_r, en_kl_n, en_kl_l, en_Ec_some, en_Ec_void, en_rcv, en_stk, List.map_cons, List.map_nil, List.sum_cons, List.sum_nil, Value.category, Nat.reduceAdd, Nat.reduceLeDiff, decide_true, true_and, and_true, and_self, zI_add, zI_sub, zI_mul, zI_neg, zI_lt, zI_le, zI_eq, zI_cl, zI_0, zI_1, zI_m1, zI_lit, zT_0, zT_01, zI_01, zI_11, ↓reduceIte, if_true, if_false, not_false_eq_true, not_true_eq_false, Int.reduceEq, Int.reduceLT, Int.reduceLE, Classical.not_not, Bool.false_eq_true, lI_of, lI_0, lI_1, lI_m1, lI_lit, lI_neg, lI_add, lI_sub, lI_mul, lc_lt, lc_gt, lc_le, lc_ge, c1, c2]
      exact hQ
    · rw [zT_t (by omega)] at hQ
      simp (disch := omega) only [eX6_in_0, eX6_in_1, eX6_in_2, eX6_in_3, eX6_in_6, eX6_in_7, eX6_in_9, eX6_in_10, eX6_in_13, eX6_in_14, eX6_in_17, eX6_in_18, en_kl_0, en_kl_i, en_kl_r, en_kl_n, en_kl_l, en_Ec_some, en_Ec_void, en_rcv, en_stk, List.map_cons, List.map_nil, List.sum_cons, List.sum_nil, Value.category, Nat.reduceAdd, Nat.reduceLeDiff, decide_true, true_and, and_true, and_self, zI_add, zI_sub, zI_mul, zI_neg, zI_lt, zI_le, zI_eq, zI_cl, zI_0, zI_1, zI_m1, zI_lit, zT_0, zT_01, zI_01, zI_11, ↓reduceIte, if_true, if_false, not_false_eq_true, not_true_eq_false, Int.reduceEq, Int.reduceLT, Int.reduceLE, Classical.not_not, Bool.false_eq_true, lI_of, lI_0, lI_1, lI_m1, lI_lit, lI_neg, lI_add, lI_sub, lI_mul, lc_lt, lc_gt, lc_le, lc_ge, c1, c2]
      exact hQ
theorem r_isTwo (h1 : -2147483648 ≤ v) (h2 : v < 2147483648) : SX6_isTwo [.int (zI v)] w = some (some (.int (zT (0 ≤ v ∧ v ≤ 1))), w) := by
  refine en_val rfl (fun Q hQ => ?_)
  show en_Ev XX6_isTwo 0 [some (.int (zI v))] [] w Q
  simp (disch := omega) only [eX6_isTwo_0, eX6_isTwo_1, eX6_isTwo_2, eX6_isTwo_3, eX6_isTwo_4, eX6_isTwo_7, en_kl_0, en_kl_i, en_kl_r, en_kl_n, en_kl_l, en_Ec_some, en_Ec_void, en_rcv, en_stk, List.map_cons, List.map_nil, List.sum_cons, List.sum_nil, Value.category, Nat.reduceAdd, Nat.reduceLeDiff, decide_true, true_and, and_true, and_self, zI_add, zI_sub, zI_mul, zI_neg, zI_lt, zI_le, zI_eq, zI_cl, zI_0, zI_1, zI_m1, zI_lit, zT_0, zT_01, zI_01, zI_11, ↓reduceIte, if_true, if_false, not_false_eq_true, not_true_eq_false, Int.reduceEq, Int.reduceLT, Int.reduceLE, Classical.not_not, Bool.false_eq_true, lI_of, lI_0, lI_1, lI_m1, lI_lit, lI_neg, lI_add, lI_sub, lI_mul, lc_lt, lc_gt, lc_le, lc_ge, r_in]
  exact hQ
theorem r_isSheet (h1 : -2147483648 ≤ v) (h2 : v < 2147483648) : SX6_isSheet [.int (zI v)] w = some (some (.int (zT (0 ≤ v ∧ v ≤ 3))), w) := by
  refine en_val rfl (fun Q hQ => ?_)
  show en_Ev XX6_isSheet 0 [some (.int (zI v))] [] w Q
  simp (disch := omega) only [eX6_isSheet_0, eX6_isSheet_1, eX6_isSheet_2, eX6_isSheet_3, eX6_isSheet_6, eX6_isSheet_9, en_kl_0, en_kl_i, en_kl_r, en_kl_n, en_kl_l, en_Ec_some, en_Ec_void, en_rcv, en_stk, List.map_cons, List.map_nil, List.sum_cons, List.sum_nil, Value.category, Nat.reduceAdd, Nat.reduceLeDiff, decide_true, true_and, and_true, and_self, zI_add, zI_sub, zI_mul, zI_neg, zI_lt, zI_le, zI_eq, zI_cl, zI_0, zI_1, zI_m1, zI_lit, zT_0, zT_01, zI_01, zI_11, ↓reduceIte, if_true, if_false, not_false_eq_true, not_true_eq_false, Int.reduceEq, Int.reduceLT, Int.reduceLE, Classical.not_not, Bool.false_eq_true, lI_of, lI_0, lI_1, lI_m1, lI_lit, lI_neg, lI_add, lI_sub, lI_mul, lc_lt, lc_gt, lc_le, lc_ge, r_in]
  exact hQ
theorem r_isRecord (h1 : -2147483648 ≤ v) (h2 : v < 2147483648) : SX6_isRecord [.int (zI v)] w = some (some (.int (zT (0 ≤ v ∧ v ≤ 9))), w) := by
  refine en_val rfl (fun Q hQ => ?_)
  show en_Ev XX6_isRecord 0 [some (.int (zI v))] [] w Q
  simp (disch := omega) only [eX6_isRecord_0, eX6_isRecord_1, eX6_isRecord_2, eX6_isRecord_3, eX6_isRecord_6, eX6_isRecord_9, en_kl_0, en_kl_i, en_kl_r, en_kl_n, en_kl_l, en_Ec_some, en_Ec_void, en_rcv, en_stk, List.map_cons, List.map_nil, List.sum_cons, List.sum_nil, Value.category, Nat.reduceAdd, Nat.reduceLeDiff, decide_true, true_and, and_true, and_self, zI_add, zI_sub, zI_mul, zI_neg, zI_lt, zI_le, zI_eq, zI_cl, zI_0, zI_1, zI_m1, zI_lit, zT_0, zT_01, zI_01, zI_11, ↓reduceIte, if_true, if_false, not_false_eq_true, not_true_eq_false, Int.reduceEq, Int.reduceLT, Int.reduceLE, Classical.not_not, Bool.false_eq_true, lI_of, lI_0, lI_1, lI_m1, lI_lit, lI_neg, lI_add, lI_sub, lI_mul, lc_lt, lc_gt, lc_le, lc_ge, r_in]
  exact hQ
theorem r_met : SX6_met [.ref 19, .int (zI v)] w = some (some (.int (zI (-10 - v))), en_up w 19 4 (zI v)) := by
  refine en_val rfl (fun Q hQ => ?_)
  show en_Ev XX6_met 0 [some (.ref 19), some (.int (zI v))] [] w Q
  simp (disch := omega) only [eX6_met_0, eX6_met_1, eX6_met_2, eX6_met_5, eX6_met_7, eX6_met_8, eX6_met_9, en_kl_0, en_kl_i, en_kl_r, en_kl_n, en_kl_l, en_Ec_some, en_Ec_void, en_rcv, en_stk, List.map_cons, List.map_nil, List.sum_cons, List.sum_nil, Value.category, Nat.reduceAdd, Nat.reduceLeDiff, decide_true, true_and, and_true, and_self, zI_add, zI_sub, zI_mul, zI_neg, zI_lt, zI_le, zI_eq, zI_cl, zI_0, zI_1, zI_m1, zI_lit, zT_0, zT_01, zI_01, zI_11, ↓reduceIte, if_true, if_false, not_false_eq_true, not_true_eq_false, Int.reduceEq, Int.reduceLT, Int.reduceLE, Classical.not_not, Bool.false_eq_true, fi_0, ft_0_0, ft_0_1, ft_0_2, ft_0_3, ft_0_4, ft_0_5, fi_3, ft_3_0, ft_3_1, fi_5, ft_5_0, ft_5_1, fi_8, ft_8_0, ft_8_1, ft_8_2, ft_8_3, ft_8_4, ft_8_5, fi_14, ft_14_0, ft_14_1, fi_19, ft_19_0, ft_19_1, ft_19_2, ft_19_3, ft_19_5, ft_19_6, ft_19_7, ft_19_8, ft_19_12, ft_19_13, ft_19_14, ft_19_15, ft_19_16, ft_19_21, fx_4, fx_6, fx_7, fx_9, fx_10, fx_11, fx_12, fx_13, fx_15, fx_16, fx_17, fx_18, fx_20, fx_21, fx_22, fx_23, fx_24, fx_25, fx_26, fx_27, fx_28, fx_29, fx_30, fx_31, fx_32, fx_33]
  exact hQ
theorem r_no : SX6_no [.int (-2)] w = some (some (.long (-9223372036854775806)), w) := by
  refine en_val rfl (fun Q hQ => ?_)
  show en_Ev XX6_no 0 [some (.int (-2))] [] w Q
  simp (disch := omega) only [eX6_no_0, eX6_no_3, eX6_no_4, eX6_no_5, eX6_no_6, en_kl_0, en_kl_i, en_kl_r, en_kl_n, en_kl_l, en_Ec_some, en_Ec_void, en_rcv, en_stk, List.map_cons, List.map_nil, List.sum_cons, List.sum_nil, Value.category, Nat.reduceAdd, Nat.reduceLeDiff, decide_true, true_and, and_true, and_self]
  exact hQ
theorem r_most : SX6_most [.int (zI v)] w = some (some (.int (if zI v = zI 0 then zI 60 else if zI v = zI 1 then zI 3 else zI 99)), w) := by
  refine en_val rfl (fun Q hQ => ?_)
  show en_Ev XX6_most 0 [some (.int (zI v))] [] w Q
  by_cases c1 : zI v = zI 0
  · rw [if_pos c1] at hQ
    simp (disch := omega) only [eX6_most_0, eX6_most_1, eX6_most_4, eX6_most_6, eX6_most_9, eX6_most_10, eX6_most_11, eX6_most_14, eX6_most_15, eX6_most_18, eX6_most_20, en_kl_0, en_kl_i, en_kl_r, en_kl_n, en_kl_l, en_Ec_some, en_Ec_void, en_rcv, en_stk, List.map_cons, List.map_nil, List.sum_cons, List.sum_nil, Value.category, Nat.reduceAdd, Nat.reduceLeDiff, decide_true, true_and, and_true, and_self, zI_0, zI_1, zI_lit, c1, ↓reduceIte, not_true_eq_false, if_false, if_true]
    exact hQ
  · by_cases c2 : zI v = zI 1
    · rw [if_neg c1, if_pos c2] at hQ
      simp (disch := omega) only [eX6_most_0, eX6_most_1, eX6_most_4, eX6_most_6, eX6_most_9, eX6_most_10, eX6_most_11, eX6_most_14, eX6_most_15, eX6_most_18, eX6_most_20, en_kl_0, en_kl_i, en_kl_r, en_kl_n, en_kl_l, en_Ec_some, en_Ec_void, en_rcv, en_stk, List.map_cons, List.map_nil, List.sum_cons, List.sum_nil, Value.category, Nat.reduceAdd, Nat.reduceLeDiff, decide_true, true_and, and_true, and_self, zI_0, zI_1, zI_lit, c1, c2, ↓reduceIte, not_true_eq_false, not_false_eq_true, if_false, if_true]
      first | exact hQ | (rw [if_neg (by decide)]; exact hQ) | (rw [if_pos (by decide)]; exact hQ)
    · rw [if_neg c1, if_neg c2] at hQ
      simp (disch := omega) only [eX6_most_0, eX6_most_1, eX6_most_4, eX6_most_6, eX6_most_9, eX6_most_10, eX6_most_11, eX6_most_14, eX6_most_15, eX6_most_18, eX6_most_20, en_kl_0, en_kl_i, en_kl_r, en_kl_n, en_kl_l, en_Ec_some, en_Ec_void, en_rcv, en_stk, List.map_cons, List.map_nil, List.sum_cons, List.sum_nil, Value.category, Nat.reduceAdd, Nat.reduceLeDiff, decide_true, true_and, and_true, and_self, zI_0, zI_1, zI_lit, c1, c2, ↓reduceIte, not_true_eq_false, not_false_eq_true, if_false, if_true]
      exact hQ
theorem r_cut (h1 : 0 ≤ v) (h2 : v ≤ 2) : SX6_cut [.int (zI v), .int x] w = some (some (.int (cutF v x)), w) := by
  refine en_val rfl (fun Q hQ => ?_)
  show en_Ev XX6_cut 0 [some (.int (zI v)), some (.int x)] [] w Q
  unfold cutF at hQ
  by_cases c1 : v = 0
  · rw [if_pos c1] at hQ
    simp (disch := omega) only [eX6_cut_0, eX6_cut_1, eX6_cut_4, eX6_cut_5, eX6_cut_6, eX6_cut_9, eX6_cut_10, eX6_cut_11, eX6_cut_14, eX6_cut_15, eX6_cut_16, eX6_cut_19, eX6_cut_20, en_kl_0, en_kl_i, en_kl_r, en_kl_n, en_kl_l, en_Ec_some, en_Ec_void, en_rcv, en_stk, List.map_cons, List.map_nil, List.sum_cons, List.sum_nil, Value.category, Nat.reduceAdd, Nat.reduceLeDiff, decide_true, true_and, and_true, and_self, zI_add, zI_sub, zI_mul, zI_neg, zI_lt, zI_le, zI_eq, zI_cl, zI_0, zI_1, zI_m1, zI_lit, zT_0, zT_01, zI_01, zI_11, ↓reduceIte, if_true, if_false, not_false_eq_true, not_true_eq_false, Int.reduceEq, Int.reduceLT, Int.reduceLE, Classical.not_not, Bool.false_eq_true, c1]
    exact hQ
  · by_cases c2 : v = 1
    · rw [if_neg c1, if_pos c2] at hQ
      simp (disch := omega) only [eX6_cut_0, eX6_cut_1, eX6_cut_4, eX6_cut_5, eX6_cut_6, eX6_cut_9, eX6_cut_10, eX6_cut_11, eX6_cut_14, eX6_cut_15, eX6_cut_16, eX6_cut_19, eX6_cut_20, en_kl_0, en_kl_i, en_kl_r, en_kl_n, en_kl_l, en_Ec_some, en_Ec_void, en_rcv, en_stk, List.map_cons, List.map_nil, List.sum_cons, List.sum_nil, Value.category, Nat.reduceAdd, Nat.reduceLeDiff, decide_true, true_and, and_true, and_self, zI_add, zI_sub, zI_mul, zI_neg, zI_lt, zI_le, zI_eq, zI_cl, zI_0, zI_1, zI_m1, zI_lit, zT_0, zT_01, zI_01, zI_11, ↓reduceIte, if_true, if_false, not_false_eq_true, not_true_eq_false, Int.reduceEq, Int.reduceLT, Int.reduceLE, Classical.not_not, Bool.false_eq_true, c1, c2]
      exact hQ
    · rw [if_neg c1, if_neg c2] at hQ
      simp (disch := omega) only [eX6_cut_0, eX6_cut_1, eX6_cut_4, eX6_cut_5, eX6_cut_6, eX6_cut_9, eX6_cut_10, eX6_cut_11, eX6_cut_14, eX6_cut_15, eX6_cut_16, eX6_cut_19, eX6_cut_20, en_kl_0, en_kl_i, en_kl_r, en_kl_n, en_kl_l, en_Ec_some, en_Ec_void, en_rcv, en_stk, List.map_cons, List.map_nil, List.sum_cons, List.sum_nil, Value.category, Nat.reduceAdd, Nat.reduceLeDiff, decide_true, true_and, and_true, and_self, zI_add, zI_sub, zI_mul, zI_neg, zI_lt, zI_le, zI_eq, zI_cl, zI_0, zI_1, zI_m1, zI_lit, zT_0, zT_01, zI_01, zI_11, ↓reduceIte, if_true, if_false, not_false_eq_true, not_true_eq_false, Int.reduceEq, Int.reduceLT, Int.reduceLE, Classical.not_not, Bool.false_eq_true, c1, c2]
      exact hQ
end
