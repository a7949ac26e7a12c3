/-! ===== Disc, further ===== -/
/-- the scratched bits of grooves below n -/
def mb (G : Int) (s : Nat → Int) : Nat → Nat
  | 0 => 0
  | n + 1 => mb G s n + (if (n : Int) < G ∧ s n ≠ -1 then 2 ^ n else 0)
theorem mb_lt (G : Int) (s : Nat → Int) : ∀ n, mb G s n < 2 ^ n
  | 0 => by unfold mb; decide
  | n + 1 => by
    have := mb_lt G s n
    have e : 2 ^ (n + 1) = 2 ^ n + 2 ^ n := by rw [Nat.pow_succ]; omega
    unfold mb
    split <;> omega
theorem mb_stop {G : Int} {s : Nat → Int} {n : Nat} (h : G ≤ n) : ∀ k, mb G s (n + k) = mb G s n
  | 0 => rfl
  | k + 1 => by
    rw [show n + (k + 1) = (n + k) + 1 from rfl, mb, mb_stop h k, if_neg (by omega), Nat.add_zero]
/-- how many of the first n are scratched -/
def mc (s : Nat → Int) : Nat → Nat
  | 0 => 0
  | n + 1 => mc s n + (if s n ≠ -1 then 1 else 0)
theorem mc_le (s : Nat → Int) : ∀ n, mc s n ≤ n
  | 0 => Nat.le_refl 0
  | n + 1 => by
    have := mc_le s n
    unfold mc
    split <;> omega
section
variable {w : en_W} {k : Nat} {G : Int} {s : Nat → Int} {v g : Int}
theorem s_minutes {kick : Int} (hd : en_dD w k G s) (h1 : -2147483648 ≤ kick) (h2 : kick < 2147483648) : SX1_minutes [.ref k, .int (zI kick)] w = some (some (.int (zI (mn G s kick 9 0))), w) := by
  have hs9 : ∀ j, j < 9 → -1 ≤ s j ∧ s j ≤ 9 := fun j hj => (hd.2.2.2.2 j hj).2
  have hr := mp_rng (p := 0) hs9 hd.2.2.2.1
  refine en_val rfl (fun Q hQ => ?_)
  show en_Ev XX1_minutes 0 [some (.ref k), some (.int (zI kick)), none, none] [] w Q
  have loop : ∀ (d i : Nat), i + d = 9 → Q (some (.int (zI (mn G s kick d i)))) w → en_Ev XX1_minutes 4 [some (.ref k), some (.int (zI kick)), some (.int (zI (mp G s 0 i))), some (.int (zI i))] [] w Q := by
    intro d
    induction d with
    | zero =>
      intro i h3 hq
      have c1 : (9 : Int) ≤ (i : Int) := by omega
      simp (disch := omega) only [eX1_minutes_0, eX1_minutes_1, eX1_minutes_2, eX1_minutes_3, eX1_minutes_4, eX1_minutes_5, eX1_minutes_7, eX1_minutes_10, eX1_minutes_11, eX1_minutes_12, eX1_minutes_13, eX1_minutes_16, eX1_minutes_17, eX1_minutes_18, eX1_minutes_19, eX1_minutes_22, eX1_minutes_23, eX1_minutes_24, eX1_minutes_25, eX1_minutes_26, eX1_minutes_29, eX1_minutes_32, eX1_minutes_33, en_kl_0, en_kl_i, en_kl_r, en_kl_n, en_kl_l, en_Ec_some, en_Ec_void, en_rcv, en_stk, List.map_cons, List.map_nil, List.sum_cons, List.sum_nil, Value.category, Nat.reduceAdd, Nat.reduceLeDiff, decide_true, true_and, and_true, and_self, zI_add, zI_sub, zI_mul, zI_neg, zI_lt, zI_le, zI_eq, zI_cl, zI_0, zI_1, zI_m1, zI_lit, zT_0, zT_01, zI_01, zI_11, ↓reduceIte, if_true, if_false, not_false_eq_true, not_true_eq_false, Int.reduceEq, Int.reduceLT, Int.reduceLE, Classical.not_not, Bool.false_eq_true, c1]
      exact hq
    | succ d ih =>
      intro i h3 hq
      have c1 : ¬ (9 : Int) ≤ (i : Int) := by omega
      have hi := hr i
      have hi1 := hr (i + 1)
      have hdisc : en_is k 1 = true := hd.1.1
      rw [eX1_minutes_4]
      simp (disch := omega) only [eX1_minutes_0, eX1_minutes_1, eX1_minutes_2, eX1_minutes_3, eX1_minutes_5, eX1_minutes_7, eX1_minutes_10, eX1_minutes_11, eX1_minutes_12, eX1_minutes_13, eX1_minutes_16, eX1_minutes_17, eX1_minutes_18, eX1_minutes_19, eX1_minutes_22, eX1_minutes_23, eX1_minutes_24, eX1_minutes_25, eX1_minutes_26, eX1_minutes_29, eX1_minutes_32, eX1_minutes_33, en_kl_0, en_kl_i, en_kl_r, en_kl_n, en_kl_l, en_Ec_some, en_Ec_void, en_rcv, en_stk, List.map_cons, List.map_nil, List.sum_cons, List.sum_nil, Value.category, Nat.reduceAdd, Nat.reduceLeDiff, decide_true, true_and, and_true, and_self, zI_add, zI_sub, zI_mul, zI_neg, zI_lt, zI_le, zI_eq, zI_cl, zI_0, zI_1, zI_m1, zI_lit, zT_0, zT_01, zI_01, zI_11, ↓reduceIte, if_true, if_false, not_false_eq_true, not_true_eq_false, Int.reduceEq, Int.reduceLT, Int.reduceLE, Classical.not_not, Bool.false_eq_true, c1, hdisc]
      rw [show zI 0 = nI 0 from (zI_nI 0).symm, s_following hd (by omega) (by omega) (by omega)]
      have hm : mx G s 0 (mp G s 0 i) = mp G s 0 (i + 1) := rfl
      simp (disch := omega) only [eX1_minutes_0, eX1_minutes_1, eX1_minutes_2, eX1_minutes_3, eX1_minutes_5, eX1_minutes_7, eX1_minutes_10, eX1_minutes_11, eX1_minutes_12, eX1_minutes_13, eX1_minutes_16, eX1_minutes_17, eX1_minutes_18, eX1_minutes_19, eX1_minutes_22, eX1_minutes_23, eX1_minutes_24, eX1_minutes_25, eX1_minutes_26, eX1_minutes_29, eX1_minutes_32, eX1_minutes_33, en_kl_0, en_kl_i, en_kl_r, en_kl_n, en_kl_l, en_Ec_some, en_Ec_void, en_rcv, en_stk, List.map_cons, List.map_nil, List.sum_cons, List.sum_nil, Value.category, Nat.reduceAdd, Nat.reduceLeDiff, decide_true, true_and, and_true, and_self, zI_add, zI_sub, zI_mul, zI_neg, zI_lt, zI_le, zI_eq, zI_cl, zI_0, zI_1, zI_m1, zI_lit, zT_0, zT_01, zI_01, zI_11, ↓reduceIte, if_true, if_false, not_false_eq_true, not_true_eq_false, Int.reduceEq, Int.reduceLT, Int.reduceLE, Classical.not_not, Bool.false_eq_true, hm]
      unfold mn at hq
      by_cases c2 : mp G s 0 (i + 1) = -1
      · rw [if_pos c2] at hq
        simp only [c2, if_true]
        exact hq
      · rw [if_neg c2] at hq
        simp only [c2, if_false]
        exact ih (i + 1) (by omega) hq
  simp (disch := omega) only [eX1_minutes_0, eX1_minutes_1, eX1_minutes_2, eX1_minutes_3, en_kl_0, en_kl_i, en_kl_r, en_kl_n, en_kl_l, en_Ec_some, en_Ec_void, en_rcv, en_stk, List.map_cons, List.map_nil, List.sum_cons, List.sum_nil, Value.category, Nat.reduceAdd, Nat.reduceLeDiff, decide_true, true_and, and_true, and_self, zI_add, zI_sub, zI_mul, zI_neg, zI_lt, zI_le, zI_eq, zI_cl, zI_0, zI_1, zI_m1, zI_lit, zT_0, zT_01, zI_01, zI_11, ↓reduceIte, if_true, if_false, not_false_eq_true, not_true_eq_false, Int.reduceEq, Int.reduceLT, Int.reduceLE, Classical.not_not, Bool.false_eq_true]
  exact loop 9 0 rfl hQ
theorem s_goesRoundWithout {p : Nat} (hd : en_dD w k G s) (hp : p < 2147483648) : SX1_goesRoundWithout [.ref k, .int (nI p)] w = some (some (.int (zT (mp G s p 9 ≠ -1))), w) := by
  have hs9 : ∀ j, j < 9 → -1 ≤ s j ∧ s j ≤ 9 := fun j hj => (hd.2.2.2.2 j hj).2
  have hr := mp_rng (p := p) hs9 hd.2.2.2.1 9
  refine en_val rfl (fun Q hQ => ?_)
  show en_Ev XX1_goesRoundWithout 0 [some (.ref k), some (.int (nI p))] [] w Q
  have hdisc : en_is k 1 = true := hd.1.1
  simp (disch := omega) only [eX1_goesRoundWithout_0, eX1_goesRoundWithout_1, eX1_goesRoundWithout_3, eX1_goesRoundWithout_4, eX1_goesRoundWithout_7, eX1_goesRoundWithout_8, eX1_goesRoundWithout_11, eX1_goesRoundWithout_12, eX1_goesRoundWithout_15, eX1_goesRoundWithout_16, en_kl_0, en_kl_i, en_kl_r, en_kl_n, en_kl_l, en_Ec_some, en_Ec_void, en_rcv, en_stk, List.map_cons, List.map_nil, List.sum_cons, List.sum_nil, Value.category, Nat.reduceAdd, Nat.reduceLeDiff, decide_true, true_and, and_true, and_self, zI_add, zI_sub, zI_mul, zI_neg, zI_lt, zI_le, zI_eq, zI_cl, zI_0, zI_1, zI_m1, zI_lit, zT_0, zT_01, zI_01, zI_11, ↓reduceIte, if_true, if_false, not_false_eq_true, not_true_eq_false, Int.reduceEq, Int.reduceLT, Int.reduceLE, Classical.not_not, Bool.false_eq_true, hdisc]
  rw [s_arrivesAt hd hp (by omega) (by omega)]
  simp (disch := omega) only [eX1_goesRoundWithout_0, eX1_goesRoundWithout_1, eX1_goesRoundWithout_3, eX1_goesRoundWithout_4, eX1_goesRoundWithout_7, eX1_goesRoundWithout_8, eX1_goesRoundWithout_11, eX1_goesRoundWithout_12, eX1_goesRoundWithout_15, eX1_goesRoundWithout_16, en_kl_0, en_kl_i, en_kl_r, en_kl_n, en_kl_l, en_Ec_some, en_Ec_void, en_rcv, en_stk, List.map_cons, List.map_nil, List.sum_cons, List.sum_nil, Value.category, Nat.reduceAdd, Nat.reduceLeDiff, decide_true, true_and, and_true, and_self, zI_add, zI_sub, zI_mul, zI_neg, zI_lt, zI_le, zI_eq, zI_cl, zI_0, zI_1, zI_m1, zI_lit, zT_0, zT_01, zI_01, zI_11, ↓reduceIte, if_true, if_false, not_false_eq_true, not_true_eq_false, Int.reduceEq, Int.reduceLT, Int.reduceLE, Classical.not_not, Bool.false_eq_true, hdisc, Int.reduceToNat]
  repeat' (first | split | apply And.intro)
  all_goals first | omega | exact hQ | (rw [zT_t (by omega)] at hQ; exact hQ) | (rw [zT_f (by omega)] at hQ; exact hQ)
theorem s_goesRound (hd : en_dD w k G s) : SX1_goesRound [.ref k] w = some (some (.int (zT (mp G s 0 9 ≠ -1))), w) := by
  refine en_val rfl (fun Q hQ => ?_)
  show en_Ev XX1_goesRound 0 [some (.ref k)] [] w Q
  have hdisc : en_is k 1 = true := hd.1.1
  simp (disch := omega) only [eX1_goesRound_0, eX1_goesRound_1, eX1_goesRound_2, eX1_goesRound_5, en_kl_0, en_kl_i, en_kl_r, en_kl_n, en_kl_l, en_Ec_some, en_Ec_void, en_rcv, en_stk, List.map_cons, List.map_nil, List.sum_cons, List.sum_nil, Value.category, Nat.reduceAdd, Nat.reduceLeDiff, decide_true, true_and, and_true, and_self, zI_add, zI_sub, zI_mul, zI_neg, zI_lt, zI_le, zI_eq, zI_cl, zI_0, zI_1, zI_m1, zI_lit, zT_0, zT_01, zI_01, zI_11, ↓reduceIte, if_true, if_false, not_false_eq_true, not_true_eq_false, Int.reduceEq, Int.reduceLT, Int.reduceLE, Classical.not_not, Bool.false_eq_true, hdisc]
  rw [show zI 0 = nI 0 from (zI_nI 0).symm, s_goesRoundWithout hd (by omega)]
  simp (disch := omega) only [eX1_goesRound_0, eX1_goesRound_1, eX1_goesRound_2, eX1_goesRound_5, en_kl_0, en_kl_i, en_kl_r, en_kl_n, en_kl_l, en_Ec_some, en_Ec_void, en_rcv, en_stk, List.map_cons, List.map_nil, List.sum_cons, List.sum_nil, Value.category, Nat.reduceAdd, Nat.reduceLeDiff, decide_true, true_and, and_true, and_self, zI_add, zI_sub, zI_mul, zI_neg, zI_lt, zI_le, zI_eq, zI_cl, zI_0, zI_1, zI_m1, zI_lit, zT_0, zT_01, zI_01, zI_11, ↓reduceIte, if_true, if_false, not_false_eq_true, not_true_eq_false, Int.reduceEq, Int.reduceLT, Int.reduceLE, Classical.not_not, Bool.false_eq_true, hdisc]
  exact hQ
theorem mn_rng {kick : Int} (h1 : 1 ≤ kick) (h2 : kick ≤ 60) : ∀ f n : Nat, n + f ≤ 60 → 1 ≤ mn G s kick f n ∧ mn G s kick f n ≤ 60
  | 0, n, _ => ⟨h1, h2⟩
  | f + 1, n, h => by
    unfold mn
    split
    · omega
    · exact mn_rng h1 h2 f (n + 1) (by omega)
theorem s_grooveIn {kick m : Int} (hd : en_dD w k G s) (h1 : 1 ≤ kick) (h2 : kick ≤ 60) (h3 : 0 ≤ m) (h4 : m < 2147483647) : SX1_grooveIn [.ref k, .int (zI m), .int (zI kick)] w = some (some (.int (zI (if mn G s kick 9 0 ≤ m then -1 else mp G s 0 m.toNat))), w) := by
  have hk := mn_rng (G := G) (s := s) h1 h2 9 0 (by omega)
  refine en_val rfl (fun Q hQ => ?_)
  show en_Ev XX1_grooveIn 0 [some (.ref k), some (.int (zI m)), some (.int (zI kick))] [] w Q
  have hdisc : en_is k 1 = true := hd.1.1
  simp (disch := omega) only [eX1_grooveIn_0, eX1_grooveIn_1, eX1_grooveIn_2, eX1_grooveIn_3, eX1_grooveIn_6, eX1_grooveIn_9, eX1_grooveIn_10, eX1_grooveIn_11, eX1_grooveIn_12, eX1_grooveIn_15, eX1_grooveIn_18, eX1_grooveIn_19, en_kl_0, en_kl_i, en_kl_r, en_kl_n, en_kl_l, en_Ec_some, en_Ec_void, en_rcv, en_stk, List.map_cons, List.map_nil, List.sum_cons, List.sum_nil, Value.category, Nat.reduceAdd, Nat.reduceLeDiff, decide_true, true_and, and_true, and_self, zI_add, zI_sub, zI_mul, zI_neg, zI_lt, zI_le, zI_eq, zI_cl, zI_0, zI_1, zI_m1, zI_lit, zT_0, zT_01, zI_01, zI_11, ↓reduceIte, if_true, if_false, not_false_eq_true, not_true_eq_false, Int.reduceEq, Int.reduceLT, Int.reduceLE, Classical.not_not, Bool.false_eq_true, hdisc]
  rw [s_minutes hd (by omega) (by omega)]
  simp (disch := omega) only [eX1_grooveIn_0, eX1_grooveIn_1, eX1_grooveIn_2, eX1_grooveIn_3, eX1_grooveIn_6, eX1_grooveIn_9, eX1_grooveIn_10, eX1_grooveIn_11, eX1_grooveIn_12, eX1_grooveIn_15, eX1_grooveIn_18, eX1_grooveIn_19, en_kl_0, en_kl_i, en_kl_r, en_kl_n, en_kl_l, en_Ec_some, en_Ec_void, en_rcv, en_stk, List.map_cons, List.map_nil, List.sum_cons, List.sum_nil, Value.category, Nat.reduceAdd, Nat.reduceLeDiff, decide_true, true_and, and_true, and_self, zI_add, zI_sub, zI_mul, zI_neg, zI_lt, zI_le, zI_eq, zI_cl, zI_0, zI_1, zI_m1, zI_lit, zT_0, zT_01, zI_01, zI_11, ↓reduceIte, if_true, if_false, not_false_eq_true, not_true_eq_false, Int.reduceEq, Int.reduceLT, Int.reduceLE, Classical.not_not, Bool.false_eq_true, hdisc]
  by_cases c : mn G s kick 9 0 ≤ m
  · simp only [c, if_true] at hQ ⊢
    exact hQ
  · simp only [c, if_false] at hQ ⊢
    rw [show zI 0 = nI 0 from (zI_nI 0).symm, s_arrivesAt hd (by omega) h3 h4]
    simp (disch := omega) only [eX1_grooveIn_0, eX1_grooveIn_1, eX1_grooveIn_2, eX1_grooveIn_3, eX1_grooveIn_6, eX1_grooveIn_9, eX1_grooveIn_10, eX1_grooveIn_11, eX1_grooveIn_12, eX1_grooveIn_15, eX1_grooveIn_18, eX1_grooveIn_19, en_kl_0, en_kl_i, en_kl_r, en_kl_n, en_kl_l, en_Ec_some, en_Ec_void, en_rcv, en_stk, List.map_cons, List.map_nil, List.sum_cons, List.sum_nil, Value.category, Nat.reduceAdd, Nat.reduceLeDiff, decide_true, true_and, and_true, and_self, zI_add, zI_sub, zI_mul, zI_neg, zI_lt, zI_le, zI_eq, zI_cl, zI_0, zI_1, zI_m1, zI_lit, zT_0, zT_01, zI_01, zI_11, ↓reduceIte, if_true, if_false, not_false_eq_true, not_true_eq_false, Int.reduceEq, Int.reduceLT, Int.reduceLE, Classical.not_not, Bool.false_eq_true, hdisc]
    exact hQ
theorem s_scratches (hd : en_dD w k G s) : SX1_scratches [.ref k] w = some (some (.int (zI (mc s 9))), w) := by
  obtain ⟨⟨q1, q2, q3, q4⟩, hG, hG1, hG9, hs⟩ := hd
  refine en_val rfl (fun Q hQ => ?_)
  show en_Ev XX1_scratches 0 [some (.ref k), none, none] [] w Q
  have loop : ∀ (d i : Nat), i + d = 9 → en_Ev XX1_scratches 4 [some (.ref k), some (.int (zI (mc s i))), some (.int (zI i))] [] w Q := by
    intro d
    induction d with
    | zero =>
      intro i h3
      have e : i = 9 := by omega
      have c1 : (9 : Int) ≤ (i : Int) := by omega
      rw [eX1_scratches_4]
      simp (disch := omega) only [eX1_scratches_0, eX1_scratches_1, eX1_scratches_2, eX1_scratches_3, eX1_scratches_5, eX1_scratches_7, eX1_scratches_10, eX1_scratches_11, eX1_scratches_14, eX1_scratches_15, eX1_scratches_16, eX1_scratches_17, eX1_scratches_20, eX1_scratches_23, eX1_scratches_26, eX1_scratches_29, eX1_scratches_30, en_kl_0, en_kl_i, en_kl_r, en_kl_n, en_kl_l, en_Ec_some, en_Ec_void, en_rcv, en_stk, List.map_cons, List.map_nil, List.sum_cons, List.sum_nil, Value.category, Nat.reduceAdd, Nat.reduceLeDiff, decide_true, true_and, and_true, and_self, zI_add, zI_sub, zI_mul, zI_neg, zI_lt, zI_le, zI_eq, zI_cl, zI_0, zI_1, zI_m1, zI_lit, zT_0, zT_01, zI_01, zI_11, ↓reduceIte, if_true, if_false, not_false_eq_true, not_true_eq_false, Int.reduceEq, Int.reduceLT, Int.reduceLE, Classical.not_not, Bool.false_eq_true, c1]
      rw [show mc s i = mc s 9 from by rw [e]]
      exact hQ
    | succ d ih =>
      intro i h3
      have c1 : ¬ (9 : Int) ≤ (i : Int) := by omega
      have c4 : ¬ (9 : Nat) ≤ i := by omega
      have c5 : ¬ (i : Int) < 0 := by omega
      have hi := mc_le s i
      have ih' := ih (i + 1) (by omega)
      obtain ⟨hs0, hs1, hs2⟩ := hs i (by omega)
      rw [eX1_scratches_4]
      simp (disch := omega) only [eX1_scratches_0, eX1_scratches_1, eX1_scratches_2, eX1_scratches_3, eX1_scratches_5, eX1_scratches_7, eX1_scratches_10, eX1_scratches_11, eX1_scratches_14, eX1_scratches_15, eX1_scratches_16, eX1_scratches_17, eX1_scratches_20, eX1_scratches_23, eX1_scratches_26, eX1_scratches_29, eX1_scratches_30, en_kl_0, en_kl_i, en_kl_r, en_kl_n, en_kl_l, en_Ec_some, en_Ec_void, en_rcv, en_stk, List.map_cons, List.map_nil, List.sum_cons, List.sum_nil, Value.category, Nat.reduceAdd, Nat.reduceLeDiff, decide_true, true_and, and_true, and_self, zI_add, zI_sub, zI_mul, zI_neg, zI_lt, zI_le, zI_eq, zI_cl, zI_0, zI_1, zI_m1, zI_lit, zT_0, zT_01, zI_01, zI_11, ↓reduceIte, if_true, if_false, not_false_eq_true, not_true_eq_false, Int.reduceEq, Int.reduceLT, Int.reduceLE, Classical.not_not, Bool.false_eq_true, c1, c4, c5, q1, q2, en_ix_at q3 q4, hs0, Int.toNat_natCast, or_self, not_false_eq_true]
      unfold mc at ih'
      by_cases c2 : s i = -1
      · simp only [c2, if_true, ne_eq, not_true_eq_false, if_false, Nat.add_zero] at ih' ⊢
        exact ih'
      · simp only [c2, if_true, ne_eq, not_false_eq_true, if_false] at ih' ⊢
        exact ih'
  simp (disch := omega) only [eX1_scratches_0, eX1_scratches_1, eX1_scratches_2, eX1_scratches_3, en_kl_0, en_kl_i, en_kl_r, en_kl_n, en_kl_l, en_Ec_some, en_Ec_void, en_rcv, en_stk, List.map_cons, List.map_nil, List.sum_cons, List.sum_nil, Value.category, Nat.reduceAdd, Nat.reduceLeDiff, decide_true, true_and, and_true, and_self, zI_add, zI_sub, zI_mul, zI_neg, zI_lt, zI_le, zI_eq, zI_cl, zI_0, zI_1, zI_m1, zI_lit, zT_0, zT_01, zI_01, zI_11, ↓reduceIte, if_true, if_false, not_false_eq_true, not_true_eq_false, Int.reduceEq, Int.reduceLT, Int.reduceLE, Classical.not_not, Bool.false_eq_true]
  exact loop 9 0 rfl
theorem mb_or {n : Nat} (h : n < 9) : nI (mb G s n) ||| (1 <<< (nI n &&& 31)) = nI (mb G s n + 2 ^ n) := by
  have h1 := mb_lt G s n
  have h2 : (1 : Int32) = nI 1 := by decide
  rw [h2, pk_shlN (nI n &&& 31) n (by
    have : ∀ n, n < 32 → ((nI n &&& 31).toBitVec.smod 32).toNat = n := by decide +kernel
    exact this n (by omega)) (by
      have : 2 ^ n < 2 ^ 9 := Nat.pow_lt_pow_right (by decide) h
      omega)]
  have e : mb G s n ||| 1 * 2 ^ n = mb G s n + 2 ^ n := by
    rw [Nat.or_comm, Nat.one_mul]
    have := Nat.two_pow_add_eq_or_of_lt h1 1
    rw [Nat.mul_one] at this
    omega
  rw [← e]
  show Int32.ofNat _ ||| Int32.ofNat _ = Int32.ofNat _
  apply Int32.toBitVec_inj.mp
  rw [Int32.toBitVec_or]
  show BitVec.ofNat 32 _ ||| BitVec.ofNat 32 _ = BitVec.ofNat 32 _
  apply BitVec.eq_of_toNat_eq
  simp only [BitVec.toNat_or, BitVec.toNat_ofNat]
  rw [Nat.or_mod_two_pow]
theorem mb_or' {n : Nat} (h : n < 9) : nI (mb G s n) ||| (zI 1 <<< (zI (n : Int) &&& zI 31)) = nI (mb G s n + 2 ^ n) := by
  rw [show zI 1 = 1 from zI_1.symm, show zI (n : Int) = nI n from (zI_nI n).symm, show zI 31 = 31 from (zI_lit 31).symm]
  exact mb_or h
theorem s_scratchedBits (hd : en_dD w k G s) : SX1_scratchedBits [.ref k] w = some (some (.int (nI (mb G s 9))), w) := by
  obtain ⟨⟨q1, q2, q3, q4⟩, hG, hG1, hG9, hs⟩ := hd
  refine en_val rfl (fun Q hQ => ?_)
  show en_Ev XX1_scratchedBits 0 [some (.ref k), none, none] [] w Q
  have loop : ∀ (d i : Nat), i + d = 9 → en_Ev XX1_scratchedBits 4 [some (.ref k), some (.int (nI (mb G s i))), some (.int (zI i))] [] w Q := by
    intro d
    induction d with
    | zero =>
      intro i h3
      have e : i = 9 := by omega
      have c1 : (9 : Int) ≤ (i : Int) := by omega
      rw [eX1_scratchedBits_4]
      simp (disch := omega) only [eX1_scratchedBits_0, eX1_scratchedBits_1, eX1_scratchedBits_2, eX1_scratchedBits_3, eX1_scratchedBits_5, eX1_scratchedBits_7, eX1_scratchedBits_10, eX1_scratchedBits_11, eX1_scratchedBits_12, eX1_scratchedBits_15, eX1_scratchedBits_18, eX1_scratchedBits_19, eX1_scratchedBits_22, eX1_scratchedBits_23, eX1_scratchedBits_24, eX1_scratchedBits_25, eX1_scratchedBits_28, eX1_scratchedBits_29, eX1_scratchedBits_30, eX1_scratchedBits_31, eX1_scratchedBits_32, eX1_scratchedBits_33, eX1_scratchedBits_34, eX1_scratchedBits_37, eX1_scratchedBits_40, eX1_scratchedBits_41, en_kl_0, en_kl_i, en_kl_r, en_kl_n, en_kl_l, en_Ec_some, en_Ec_void, en_rcv, en_stk, List.map_cons, List.map_nil, List.sum_cons, List.sum_nil, Value.category, Nat.reduceAdd, Nat.reduceLeDiff, decide_true, true_and, and_true, and_self, zI_add, zI_sub, zI_mul, zI_neg, zI_lt, zI_le, zI_eq, zI_cl, zI_0, zI_1, zI_m1, zI_lit, zT_0, zT_01, zI_01, zI_11, ↓reduceIte, if_true, if_false, not_false_eq_true, not_true_eq_false, Int.reduceEq, Int.reduceLT, Int.reduceLE, Classical.not_not, Bool.false_eq_true, c1]
      rw [show mb G s i = mb G s 9 from by rw [e]]
      exact hQ
    | succ d ih =>
      intro i h3
      have c1 : ¬ (9 : Int) ≤ (i : Int) := by omega
      have c4 : ¬ (9 : Nat) ≤ i := by omega
      have c5 : ¬ (i : Int) < 0 := by omega
      have ih' := ih (i + 1) (by omega)
      obtain ⟨hs0, hs1, hs2⟩ := hs i (by omega)
      rw [eX1_scratchedBits_4]
      by_cases c6 : G ≤ (i : Int)
      · simp (disch := omega) only [eX1_scratchedBits_0, eX1_scratchedBits_1, eX1_scratchedBits_2, eX1_scratchedBits_3, eX1_scratchedBits_5, eX1_scratchedBits_7, eX1_scratchedBits_10, eX1_scratchedBits_11, eX1_scratchedBits_12, eX1_scratchedBits_15, eX1_scratchedBits_18, eX1_scratchedBits_19, eX1_scratchedBits_22, eX1_scratchedBits_23, eX1_scratchedBits_24, eX1_scratchedBits_25, eX1_scratchedBits_28, eX1_scratchedBits_29, eX1_scratchedBits_30, eX1_scratchedBits_31, eX1_scratchedBits_32, eX1_scratchedBits_33, eX1_scratchedBits_34, eX1_scratchedBits_37, eX1_scratchedBits_40, eX1_scratchedBits_41, en_kl_0, en_kl_i, en_kl_r, en_kl_n, en_kl_l, en_Ec_some, en_Ec_void, en_rcv, en_stk, List.map_cons, List.map_nil, List.sum_cons, List.sum_nil, Value.category, Nat.reduceAdd, Nat.reduceLeDiff, decide_true, true_and, and_true, and_self, zI_add, zI_sub, zI_mul, zI_neg, zI_lt, zI_le, zI_eq, zI_cl, zI_0, zI_1, zI_m1, zI_lit, zT_0, zT_01, zI_01, zI_11, ↓reduceIte, if_true, if_false, not_false_eq_true, not_true_eq_false, Int.reduceEq, Int.reduceLT, Int.reduceLE, Classical.not_not, Bool.false_eq_true, c1, c4, c5, c6, q1, q2, hG]
        have := mb_stop (s := s) c6 (9 - i)
        rw [show i + (9 - i) = 9 by omega] at this
        rw [this] at hQ
        exact hQ
      · have c7 : (i : Int) < G := by omega
        unfold mb at ih'
        simp (disch := omega) only [eX1_scratchedBits_0, eX1_scratchedBits_1, eX1_scratchedBits_2, eX1_scratchedBits_3, eX1_scratchedBits_5, eX1_scratchedBits_7, eX1_scratchedBits_10, eX1_scratchedBits_11, eX1_scratchedBits_12, eX1_scratchedBits_15, eX1_scratchedBits_18, eX1_scratchedBits_19, eX1_scratchedBits_22, eX1_scratchedBits_23, eX1_scratchedBits_24, eX1_scratchedBits_25, eX1_scratchedBits_28, eX1_scratchedBits_29, eX1_scratchedBits_30, eX1_scratchedBits_31, eX1_scratchedBits_32, eX1_scratchedBits_33, eX1_scratchedBits_34, eX1_scratchedBits_37, eX1_scratchedBits_40, eX1_scratchedBits_41, en_kl_0, en_kl_i, en_kl_r, en_kl_n, en_kl_l, en_Ec_some, en_Ec_void, en_rcv, en_stk, List.map_cons, List.map_nil, List.sum_cons, List.sum_nil, Value.category, Nat.reduceAdd, Nat.reduceLeDiff, decide_true, true_and, and_true, and_self, zI_add, zI_sub, zI_mul, zI_neg, zI_lt, zI_le, zI_eq, zI_cl, zI_0, zI_1, zI_m1, zI_lit, zT_0, zT_01, zI_01, zI_11, ↓reduceIte, if_true, if_false, not_false_eq_true, not_true_eq_false, Int.reduceEq, Int.reduceLT, Int.reduceLE, Classical.not_not, Bool.false_eq_true, c1, c4, c5, c6, q1, q2, hG, en_ix_at q3 q4, hs0, Int.toNat_natCast, or_self, not_false_eq_true, mb_or' (G := G) (s := s) (show i < 9 by omega)]
        by_cases c2 : s i = -1
        · simp only [c2, if_true, ne_eq, not_true_eq_false, and_false, if_false, Nat.add_zero] at ih' ⊢
          exact ih'
        · simp only [c2, c7, if_true, ne_eq, not_false_eq_true, and_self, if_false] at ih' ⊢
          exact ih'
  simp (disch := omega) only [eX1_scratchedBits_0, eX1_scratchedBits_1, eX1_scratchedBits_2, eX1_scratchedBits_3, en_kl_0, en_kl_i, en_kl_r, en_kl_n, en_kl_l, en_Ec_some, en_Ec_void, en_rcv, en_stk, List.map_cons, List.map_nil, List.sum_cons, List.sum_nil, Value.category, Nat.reduceAdd, Nat.reduceLeDiff, decide_true, true_and, and_true, and_self, zI_lit]
  exact loop 9 0 rfl
end
