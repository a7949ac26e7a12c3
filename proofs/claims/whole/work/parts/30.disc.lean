/-! ===== Disc: what its methods answer ===== -/
def en_disc (k : Nat) : Prop := en_is k 1 = true ∧ en_tg k 1 = k + 1 ∧ k + 1 < 62 ∧ en_al (k + 1) = some 9
theorem en_disc_at : ∀ r, r < 10 → en_disc (34 + 2 * r) := by unfold en_disc; decide +kernel
/-- a disc's numbers: G grooves, from groove j the arm goes to s j (-1: on) -/
def en_dD (w : en_W) (k : Nat) (G : Int) (s : Nat → Int) : Prop := en_disc k ∧ w k 0 = zI G ∧ 1 ≤ G ∧ G ≤ 9 ∧ ∀ j, j < 9 → w (k + 1) j = zI (s j) ∧ -1 ≤ s j ∧ s j ≤ 9
section
variable {w : en_W} {k : Nat} {G : Int} {s : Nat → Int} {v g : Int}
theorem s_mayBeLong (h1 : -2147483648 ≤ v) (h2 : v < 2147483648) : SX1_mayBeLong [.int (zI v)] w = some (some (.int (zT (1 ≤ v ∧ v ≤ 9))), w) := by
  refine en_val rfl (fun Q hQ => ?_)
  show en_Ev XX1_mayBeLong 0 [some (.int (zI v))] [] w Q
  simp (disch := omega) only [eX1_mayBeLong_0, eX1_mayBeLong_1, eX1_mayBeLong_2, eX1_mayBeLong_5, eX1_mayBeLong_6, eX1_mayBeLong_8, eX1_mayBeLong_11, eX1_mayBeLong_12, eX1_mayBeLong_15, eX1_mayBeLong_16, en_kl_0, en_kl_i, en_kl_r, en_kl_n, en_kl_l, en_Ec_some, en_Ec_void, en_rcv, en_stk, List.map_cons, List.map_nil, List.sum_cons, List.sum_nil, Value.category, Nat.reduceAdd, Nat.reduceLeDiff, decide_true, true_and, and_true, and_self, zI_add, zI_sub, zI_mul, zI_neg, zI_lt, zI_le, zI_eq, zI_cl, zI_0, zI_1, zI_m1, zI_lit, zT_0, zT_01, zI_01, zI_11, if_true, if_false, Classical.not_not, Bool.false_eq_true]
  repeat' (first | split | apply And.intro)
  all_goals first | omega | exact hQ | (rw [zT_t (by omega)] at hQ; exact hQ) | (rw [zT_f (by omega)] at hQ; exact hQ)
theorem s_mayBeScratched (h1 : -2147483648 ≤ v) (h2 : v < 2147483648) : SX1_mayBeScratched [.int (zI v)] w = some (some (.int (zT (0 ≤ v ∧ v < 9))), w) := by
  refine en_val rfl (fun Q hQ => ?_)
  show en_Ev XX1_mayBeScratched 0 [some (.int (zI v))] [] w Q
  simp (disch := omega) only [eX1_mayBeScratched_0, eX1_mayBeScratched_1, eX1_mayBeScratched_4, eX1_mayBeScratched_5, eX1_mayBeScratched_7, eX1_mayBeScratched_10, eX1_mayBeScratched_11, eX1_mayBeScratched_14, eX1_mayBeScratched_15, en_kl_0, en_kl_i, en_kl_r, en_kl_n, en_kl_l, en_Ec_some, en_Ec_void, en_rcv, en_stk, List.map_cons, List.map_nil, List.sum_cons, List.sum_nil, Value.category, Nat.reduceAdd, Nat.reduceLeDiff, decide_true, true_and, and_true, and_self, zI_add, zI_sub, zI_mul, zI_neg, zI_lt, zI_le, zI_eq, zI_cl, zI_0, zI_1, zI_m1, zI_lit, zT_0, zT_01, zI_01, zI_11, if_true, if_false, Classical.not_not, Bool.false_eq_true]
  repeat' (first | split | apply And.intro)
  all_goals first | omega | exact hQ | (rw [zT_t (by omega)] at hQ; exact hQ) | (rw [zT_f (by omega)] at hQ; exact hQ)
theorem s_mayLeadTo (h1 : -2147483648 ≤ v) (h2 : v < 2147483648) : SX1_mayLeadTo [.int (zI v)] w = some (some (.int (zT (-1 ≤ v ∧ v ≤ 9))), w) := by
  refine en_val rfl (fun Q hQ => ?_)
  show en_Ev XX1_mayLeadTo 0 [some (.int (zI v))] [] w Q
  simp (disch := omega) only [eX1_mayLeadTo_0, eX1_mayLeadTo_1, eX1_mayLeadTo_2, eX1_mayLeadTo_5, eX1_mayLeadTo_6, eX1_mayLeadTo_8, eX1_mayLeadTo_11, eX1_mayLeadTo_12, eX1_mayLeadTo_15, eX1_mayLeadTo_16, en_kl_0, en_kl_i, en_kl_r, en_kl_n, en_kl_l, en_Ec_some, en_Ec_void, en_rcv, en_stk, List.map_cons, List.map_nil, List.sum_cons, List.sum_nil, Value.category, Nat.reduceAdd, Nat.reduceLeDiff, decide_true, true_and, and_true, and_self, zI_add, zI_sub, zI_mul, zI_neg, zI_lt, zI_le, zI_eq, zI_cl, zI_0, zI_1, zI_m1, zI_lit, zT_0, zT_01, zI_01, zI_11, if_true, if_false, Classical.not_not, Bool.false_eq_true]
  repeat' (first | split | apply And.intro)
  all_goals first | omega | exact hQ | (rw [zT_t (by omega)] at hQ; exact hQ) | (rw [zT_f (by omega)] at hQ; exact hQ)
end
