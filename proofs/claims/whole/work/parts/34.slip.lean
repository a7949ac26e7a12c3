/-! ===== Slip: what changes it ===== -/
theorem en_tD.fr {w w' : en_W} {n : Nat} {tb : Nat → Int} (h : en_tD w n tb) (h0 : w' 3 2 = w 3 2) (h1 : w' 4 = w 4) : en_tD w' n tb := by
  unfold en_tD
  rw [h0, h1]
  exact h
section
variable {w : en_W} {n : Nat} {tb : Nat → Int} {z : Int}
theorem s_readAnew (hd : en_tD w n tb) : ∃ w', SX4_readAnew [.ref 3] w = some (none, w') ∧ en_slip w' n tb ∧ en_fr [3, 5, 6, 7] w w' := by
  refine en_exv rfl ?_
  show en_Ev XX4_readAnew 0 [some (.ref 3), none] [] w _
  simp only [eX4_readAnew_0, eX4_readAnew_1, eX4_readAnew_2, en_kl_0, en_kl_i, en_kl_r, en_kl_n, en_kl_l, en_Ec_some, en_Ec_void, en_rcv, en_stk, List.map_cons, List.map_nil, List.sum_cons, List.sum_nil, Value.category, Nat.reduceAdd, Nat.reduceLeDiff, decide_true, true_and, and_true, and_self, en_s3]
  rw [s_findFault hd]
  have hrg := tF_rng (n := n) (tb := tb) n 0 (by omega)
  have hrg : -1 ≤ tfault n tb ∧ tfault n tb ≤ n := hrg
  have hn80 := hd.2.1
  simp only [eX4_readAnew_5, eX4_readAnew_8, eX4_readAnew_9, eX4_readAnew_12, en_kl_0, en_kl_i, en_kl_r, en_kl_n, en_kl_l, en_Ec_some, en_Ec_void, en_rcv, en_stk, List.map_cons, List.map_nil, List.sum_cons, List.sum_nil, Value.category, Nat.reduceAdd, Nat.reduceLeDiff, decide_true, true_and, and_true, and_self, fi_0, ft_0_0, ft_0_1, ft_0_2, ft_0_3, ft_0_4, ft_0_5, fi_3, ft_3_0, ft_3_1, fi_5, ft_5_0, ft_5_1, fi_8, ft_8_0, ft_8_1, ft_8_2, ft_8_3, ft_8_4, ft_8_5, fi_14, ft_14_0, ft_14_1, fi_19, ft_19_0, ft_19_1, ft_19_2, ft_19_3, ft_19_5, ft_19_6, ft_19_7, ft_19_8, ft_19_12, ft_19_13, ft_19_14, ft_19_15, ft_19_16, ft_19_21, fx_4, fx_6, fx_7, fx_9, fx_10, fx_11, fx_12, fx_13, fx_15, fx_16, fx_17, fx_18, fx_20, fx_21, fx_22, fx_23, fx_24, fx_25, fx_26, fx_27, fx_28, fx_29, fx_30, fx_31, fx_32, fx_33]
  obtain ⟨w1, e1, c1, f1⟩ := s_clear (w := en_up w 3 3 (zI (tfault n tb))) (cm := tcm n tb) (cb := tcb n tb) en_coins_5
  rw [e1]
  have d1 : en_tD w1 n tb := hd.fr (by rw [f1 3 (by simp), en_up_eq, upd_ne (by decide)]) (by rw [f1 4 (by simp), en_up_ne (by decide)])
  have g3 : w1 3 3 = zI (tfault n tb) := by rw [f1 3 (by simp), en_up_eq, upd_eq]
  have fr1 : en_fr [3, 5, 6, 7] w w1 := (en_fr.rf.up (by simp)).tr (f1.mono (by simp))
  by_cases c2 : tfault n tb = -1
  · have hcn : tcn n tb = (n + 1) / 4 := by unfold tcn; rw [if_pos c2]
    obtain ⟨hall, hn3⟩ := tfault_m1 c2
    have loop : ∀ (d c : Nat) (v : en_W), c + d = tcn n tb → en_tD v n tb → v 3 3 = zI (tfault n tb) → en_cD v 5 c (tcm n tb) (tcb n tb) → en_fr [3, 5, 6, 7] w v → en_Ev XX4_readAnew 26 [some (.ref 3), some (.int (zI ((4 * c : Nat) : Int)))] [] v (fun r w' => r = none ∧ en_slip w' n tb ∧ en_fr [3, 5, 6, 7] w w') := by
      intro d
      induction d with
      | zero =>
        intro c v h1 h2 h3 h4 h5
        have c3 : (n : Int) ≤ ((4 * c : Nat) : Int) := by omega
        have e5 : c = tcn n tb := by omega
        rw [eX4_readAnew_26]
        simp (disch := omega) only [eX4_readAnew_0, eX4_readAnew_1, eX4_readAnew_2, eX4_readAnew_5, eX4_readAnew_8, eX4_readAnew_9, eX4_readAnew_12, eX4_readAnew_15, eX4_readAnew_16, eX4_readAnew_19, eX4_readAnew_20, eX4_readAnew_23, eX4_readAnew_24, eX4_readAnew_25, eX4_readAnew_27, eX4_readAnew_28, eX4_readAnew_31, eX4_readAnew_34, eX4_readAnew_35, eX4_readAnew_38, eX4_readAnew_39, eX4_readAnew_40, eX4_readAnew_43, eX4_readAnew_44, eX4_readAnew_45, eX4_readAnew_46, eX4_readAnew_47, eX4_readAnew_50, eX4_readAnew_53, eX4_readAnew_56, eX4_readAnew_59, en_kl_0, en_kl_i, en_kl_r, en_kl_n, en_kl_l, en_Ec_some, en_Ec_void, en_rcv, en_stk, List.map_cons, List.map_nil, List.sum_cons, List.sum_nil, Value.category, Nat.reduceAdd, Nat.reduceLeDiff, decide_true, true_and, and_true, and_self, zI_add, zI_sub, zI_mul, zI_neg, zI_lt, zI_le, zI_eq, zI_cl, zI_0, zI_1, zI_m1, zI_lit, zT_0, zT_01, zI_01, zI_11, ↓reduceIte, if_true, if_false, not_false_eq_true, not_true_eq_false, Int.reduceEq, Int.reduceLT, Int.reduceLE, Classical.not_not, Bool.false_eq_true, en_s3, h2.1, c3]
        exact ⟨⟨h2, h3, by rw [← e5]; exact h4⟩, h5⟩
      | succ d ih =>
        intro c v h1 h2 h3 h4 h5
        have c3 : ¬ (n : Int) ≤ ((4 * c : Nat) : Int) := by omega
        obtain ⟨k1, k2, k3, k4, k5⟩ := tcoin_ok c2 (c := c) (by omega)
        rw [eX4_readAnew_26]
        simp (disch := omega) only [eX4_readAnew_0, eX4_readAnew_1, eX4_readAnew_2, eX4_readAnew_5, eX4_readAnew_8, eX4_readAnew_9, eX4_readAnew_12, eX4_readAnew_15, eX4_readAnew_16, eX4_readAnew_19, eX4_readAnew_20, eX4_readAnew_23, eX4_readAnew_24, eX4_readAnew_25, eX4_readAnew_27, eX4_readAnew_28, eX4_readAnew_31, eX4_readAnew_34, eX4_readAnew_35, eX4_readAnew_38, eX4_readAnew_39, eX4_readAnew_40, eX4_readAnew_43, eX4_readAnew_44, eX4_readAnew_45, eX4_readAnew_46, eX4_readAnew_47, eX4_readAnew_50, eX4_readAnew_53, eX4_readAnew_56, eX4_readAnew_59, en_kl_0, en_kl_i, en_kl_r, en_kl_n, en_kl_l, en_Ec_some, en_Ec_void, en_rcv, en_stk, List.map_cons, List.map_nil, List.sum_cons, List.sum_nil, Value.category, Nat.reduceAdd, Nat.reduceLeDiff, decide_true, true_and, and_true, and_self, zI_add, zI_sub, zI_mul, zI_neg, zI_lt, zI_le, zI_eq, zI_cl, zI_0, zI_1, zI_m1, zI_lit, zT_0, zT_01, zI_01, zI_11, ↓reduceIte, if_true, if_false, not_false_eq_true, not_true_eq_false, Int.reduceEq, Int.reduceLT, Int.reduceLE, Classical.not_not, Bool.false_eq_true, en_s3, en_t31, h2.1, c3]
        rw [s_minuteAt h2 (by omega) (by omega)]
        simp (disch := omega) only [eX4_readAnew_0, eX4_readAnew_1, eX4_readAnew_2, eX4_readAnew_5, eX4_readAnew_8, eX4_readAnew_9, eX4_readAnew_12, eX4_readAnew_15, eX4_readAnew_16, eX4_readAnew_19, eX4_readAnew_20, eX4_readAnew_23, eX4_readAnew_24, eX4_readAnew_25, eX4_readAnew_27, eX4_readAnew_28, eX4_readAnew_31, eX4_readAnew_34, eX4_readAnew_35, eX4_readAnew_38, eX4_readAnew_39, eX4_readAnew_40, eX4_readAnew_43, eX4_readAnew_44, eX4_readAnew_45, eX4_readAnew_46, eX4_readAnew_47, eX4_readAnew_50, eX4_readAnew_53, eX4_readAnew_56, eX4_readAnew_59, en_kl_0, en_kl_i, en_kl_r, en_kl_n, en_kl_l, en_Ec_some, en_Ec_void, en_rcv, en_stk, List.map_cons, List.map_nil, List.sum_cons, List.sum_nil, Value.category, Nat.reduceAdd, Nat.reduceLeDiff, decide_true, true_and, and_true, and_self, zI_add, zI_sub, zI_mul, zI_neg, zI_lt, zI_le, zI_eq, zI_cl, zI_0, zI_1, zI_m1, zI_lit, zT_0, zT_01, zI_01, zI_11, ↓reduceIte, if_true, if_false, not_false_eq_true, not_true_eq_false, Int.reduceEq, Int.reduceLT, Int.reduceLE, Classical.not_not, Bool.false_eq_true, en_s3]
        rw [s_figureAt h2 (by omega) (by omega)]
        have ei : en_is 5 0 = true := by decide
        simp (disch := omega) only [eX4_readAnew_0, eX4_readAnew_1, eX4_readAnew_2, eX4_readAnew_5, eX4_readAnew_8, eX4_readAnew_9, eX4_readAnew_12, eX4_readAnew_15, eX4_readAnew_16, eX4_readAnew_19, eX4_readAnew_20, eX4_readAnew_23, eX4_readAnew_24, eX4_readAnew_25, eX4_readAnew_27, eX4_readAnew_28, eX4_readAnew_31, eX4_readAnew_34, eX4_readAnew_35, eX4_readAnew_38, eX4_readAnew_39, eX4_readAnew_40, eX4_readAnew_43, eX4_readAnew_44, eX4_readAnew_45, eX4_readAnew_46, eX4_readAnew_47, eX4_readAnew_50, eX4_readAnew_53, eX4_readAnew_56, eX4_readAnew_59, en_kl_0, en_kl_i, en_kl_r, en_kl_n, en_kl_l, en_Ec_some, en_Ec_void, en_rcv, en_stk, List.map_cons, List.map_nil, List.sum_cons, List.sum_nil, Value.category, Nat.reduceAdd, Nat.reduceLeDiff, decide_true, true_and, and_true, and_self, zI_add, zI_sub, zI_mul, zI_neg, zI_lt, zI_le, zI_eq, zI_cl, zI_0, zI_1, zI_m1, zI_lit, zT_0, zT_01, zI_01, zI_11, ↓reduceIte, if_true, if_false, not_false_eq_true, not_true_eq_false, Int.reduceEq, Int.reduceLT, Int.reduceLE, Classical.not_not, Bool.false_eq_true, ei]
        obtain ⟨w2, e2, c4, f2⟩ := s_add (w := v) en_coins_5 h4 (by omega) k1 k2 k3 k4
        rw [show tm n tb ((4 * c : Nat) : Int) = tcm n tb c from rfl, show tf n tb (((4 * c : Nat) : Int) + 2) = tcb n tb c from rfl, e2]
        simp (disch := omega) only [eX4_readAnew_0, eX4_readAnew_1, eX4_readAnew_2, eX4_readAnew_5, eX4_readAnew_8, eX4_readAnew_9, eX4_readAnew_12, eX4_readAnew_15, eX4_readAnew_16, eX4_readAnew_19, eX4_readAnew_20, eX4_readAnew_23, eX4_readAnew_24, eX4_readAnew_25, eX4_readAnew_27, eX4_readAnew_28, eX4_readAnew_31, eX4_readAnew_34, eX4_readAnew_35, eX4_readAnew_38, eX4_readAnew_39, eX4_readAnew_40, eX4_readAnew_43, eX4_readAnew_44, eX4_readAnew_45, eX4_readAnew_46, eX4_readAnew_47, eX4_readAnew_50, eX4_readAnew_53, eX4_readAnew_56, eX4_readAnew_59, en_kl_0, en_kl_i, en_kl_r, en_kl_n, en_kl_l, en_Ec_some, en_Ec_void, en_rcv, en_stk, List.map_cons, List.map_nil, List.sum_cons, List.sum_nil, Value.category, Nat.reduceAdd, Nat.reduceLeDiff, decide_true, true_and, and_true, and_self, zI_add, zI_sub, zI_mul, zI_neg, zI_lt, zI_le, zI_eq, zI_cl, zI_0, zI_1, zI_m1, zI_lit, zT_0, zT_01, zI_01, zI_11, ↓reduceIte, if_true, if_false, not_false_eq_true, not_true_eq_false, Int.reduceEq, Int.reduceLT, Int.reduceLE, Classical.not_not, Bool.false_eq_true]
        have e6 : ((4 * c : Nat) : Int) + 4 = ((4 * (c + 1) : Nat) : Int) := by omega
        rw [e6]
        exact ih (c + 1) w2 (by omega) (h2.fr (by rw [f2 3 (by simp)]) (by rw [f2 4 (by simp)])) (by rw [f2 3 (by simp)]; exact h3) (c4.cong (fun i hi => by
          by_cases e : i = c
          · subst e; simp
          · simp [e])) (h5.tr (f2.mono (by simp)))
    simp (disch := omega) only [eX4_readAnew_15, eX4_readAnew_16, eX4_readAnew_19, eX4_readAnew_20, eX4_readAnew_24, eX4_readAnew_25, en_kl_0, en_kl_i, en_kl_r, en_kl_n, en_kl_l, en_Ec_some, en_Ec_void, en_rcv, en_stk, List.map_cons, List.map_nil, List.sum_cons, List.sum_nil, Value.category, Nat.reduceAdd, Nat.reduceLeDiff, decide_true, true_and, and_true, and_self, zI_add, zI_sub, zI_mul, zI_neg, zI_lt, zI_le, zI_eq, zI_cl, zI_0, zI_1, zI_m1, zI_lit, zT_0, zT_01, zI_01, zI_11, ↓reduceIte, if_true, if_false, not_false_eq_true, not_true_eq_false, Int.reduceEq, Int.reduceLT, Int.reduceLE, Classical.not_not, Bool.false_eq_true, en_s3, g3, c2]
    have h0 := loop (tcn n tb) 0 w1 (by omega) d1 g3 c1 fr1
    rw [show ((4 * 0 : Nat) : Int) = 0 from rfl] at h0
    exact h0
  · simp (disch := omega) only [eX4_readAnew_15, eX4_readAnew_16, eX4_readAnew_19, eX4_readAnew_20, eX4_readAnew_23, en_kl_0, en_kl_i, en_kl_r, en_kl_n, en_kl_l, en_Ec_some, en_Ec_void, en_rcv, en_stk, List.map_cons, List.map_nil, List.sum_cons, List.sum_nil, Value.category, Nat.reduceAdd, Nat.reduceLeDiff, decide_true, true_and, and_true, and_self, zI_add, zI_sub, zI_mul, zI_neg, zI_lt, zI_le, zI_eq, zI_cl, zI_0, zI_1, zI_m1, zI_lit, zT_0, zT_01, zI_01, zI_11, ↓reduceIte, if_true, if_false, not_false_eq_true, not_true_eq_false, Int.reduceEq, Int.reduceLT, Int.reduceLE, Classical.not_not, Bool.false_eq_true, en_s3, g3, c2]
    have hcn : tcn n tb = 0 := by unfold tcn; rw [if_neg c2]
    exact ⟨⟨d1, g3, by rw [hcn]; exact c1⟩, fr1⟩
theorem s_appendFull (hd : en_slip w n tb) (hn : n = 80) {b : Int} : SX4_append [.ref 3, .int (zI b)] w = some (some (.int (zI 0)), w) := by
  refine en_val rfl (fun Q hQ => ?_)
  show en_Ev XX4_append 0 [some (.ref 3), some (.int (zI b))] [] w Q
  have c1 : ¬ (n : Int) < 0 := by omega
  have c2 : ¬ (n : Int) < 80 := by omega
  simp (disch := omega) only [eX4_append_0, eX4_append_1, eX4_append_4, eX4_append_7, eX4_append_8, eX4_append_11, eX4_append_13, eX4_append_16, eX4_append_17, eX4_append_18, eX4_append_19, eX4_append_22, eX4_append_23, eX4_append_26, eX4_append_27, eX4_append_28, eX4_append_29, eX4_append_29i, eX4_append_30, eX4_append_33, eX4_append_34, eX4_append_35, eX4_append_38, eX4_append_39, eX4_append_42, eX4_append_43, en_kl_0, en_kl_i, en_kl_r, en_kl_n, en_kl_l, en_Ec_some, en_Ec_void, en_rcv, en_stk, List.map_cons, List.map_nil, List.sum_cons, List.sum_nil, Value.category, Nat.reduceAdd, Nat.reduceLeDiff, decide_true, true_and, and_true, and_self, zI_add, zI_sub, zI_mul, zI_neg, zI_lt, zI_le, zI_eq, zI_cl, zI_0, zI_1, zI_m1, zI_lit, zT_0, zT_01, zI_01, zI_11, ↓reduceIte, if_true, if_false, not_false_eq_true, not_true_eq_false, Int.reduceEq, Int.reduceLT, Int.reduceLE, Classical.not_not, Bool.false_eq_true, en_s3, hd.1.1, c1, c2]
  exact hQ
theorem s_append (hd : en_slip w n tb) (hn : n < 80) {b : Int} (h1 : 0 ≤ b) (h2 : b ≤ 255) : ∃ w', SX4_append [.ref 3, .int (zI b)] w = some (some (.int (zI 1)), w') ∧ en_slip w' (n + 1) (fun j => if j = n then b else tb j) ∧ en_fr [3, 4, 5, 6, 7] w w' := by
  have P : en_Ev XX4_append 0 [some (.ref 3), some (.int (zI b))] [] w (fun r w' => r = some (.int (zI 1)) ∧ en_slip w' (n + 1) (fun j => if j = n then b else tb j) ∧ en_fr [3, 4, 5, 6, 7] w w') := by
    have c1 : ¬ (n : Int) < 0 := by omega
    have c2 : (n : Int) < 80 := by omega
    have c3 : ¬ 80 ≤ n := by omega
    obtain ⟨⟨t1, t2, t3⟩, t4, t5⟩ := hd
    simp (disch := omega) only [eX4_append_0, eX4_append_1, eX4_append_4, eX4_append_7, eX4_append_8, eX4_append_11, eX4_append_13, eX4_append_16, eX4_append_17, eX4_append_18, eX4_append_19, eX4_append_22, eX4_append_23, eX4_append_26, eX4_append_27, eX4_append_28, eX4_append_29, eX4_append_29i, eX4_append_30, eX4_append_33, eX4_append_34, eX4_append_35, eX4_append_38, eX4_append_39, eX4_append_42, eX4_append_43, en_kl_0, en_kl_i, en_kl_r, en_kl_n, en_kl_l, en_Ec_some, en_Ec_void, en_rcv, en_stk, List.map_cons, List.map_nil, List.sum_cons, List.sum_nil, Value.category, Nat.reduceAdd, Nat.reduceLeDiff, decide_true, true_and, and_true, and_self, zI_add, zI_sub, zI_mul, zI_neg, zI_lt, zI_le, zI_eq, zI_cl, zI_0, zI_1, zI_m1, zI_lit, zT_0, zT_01, zI_01, zI_11, ↓reduceIte, if_true, if_false, not_false_eq_true, not_true_eq_false, Int.reduceEq, Int.reduceLT, Int.reduceLE, Classical.not_not, Bool.false_eq_true, en_s3, en_t30, t1, c1, c2, c3, en_ix_at (show 4 < 62 by decide) en_a4, Int.toNat_natCast, en_up_ne, or_self]
    obtain ⟨w1, e1, g1, f1⟩ := s_readAnew (w := en_up (en_up w 4 n (zI b)) 3 2 (zI ((n : Int) + 1))) (n := n + 1) (tb := fun j => if j = n then b else tb j) ⟨by rw [en_up_eq, upd_eq]; congr 1, by omega, fun j hj => by
      rw [en_up_ne (by decide), en_up_eq]
      by_cases e : j = n
      · subst e
        rw [upd_eq]
        simp only [if_true]
        exact ⟨trivial, h1, h2⟩
      · rw [upd_ne e]
        simp only [e, if_false]
        exact t3 j (by omega)⟩
    rw [e1]
    simp (disch := omega) only [eX4_append_0, eX4_append_1, eX4_append_4, eX4_append_7, eX4_append_8, eX4_append_11, eX4_append_13, eX4_append_16, eX4_append_17, eX4_append_18, eX4_append_19, eX4_append_22, eX4_append_23, eX4_append_26, eX4_append_27, eX4_append_28, eX4_append_29, eX4_append_29i, eX4_append_30, eX4_append_33, eX4_append_34, eX4_append_35, eX4_append_38, eX4_append_39, eX4_append_42, eX4_append_43, en_kl_0, en_kl_i, en_kl_r, en_kl_n, en_kl_l, en_Ec_some, en_Ec_void, en_rcv, en_stk, List.map_cons, List.map_nil, List.sum_cons, List.sum_nil, Value.category, Nat.reduceAdd, Nat.reduceLeDiff, decide_true, true_and, and_true, and_self, zI_add, zI_sub, zI_mul, zI_neg, zI_lt, zI_le, zI_eq, zI_cl, zI_0, zI_1, zI_m1, zI_lit, zT_0, zT_01, zI_01, zI_11, ↓reduceIte, if_true, if_false, not_false_eq_true, not_true_eq_false, Int.reduceEq, Int.reduceLT, Int.reduceLE, Classical.not_not, Bool.false_eq_true]
    exact ⟨g1, ((en_fr.rf.up (by simp)).up (by simp)).tr (f1.mono (by simp))⟩
  obtain ⟨r, w', e, h3, h4⟩ := en_ex (nL := 2) (As := [.ref 3, .int (zI b)]) rfl P
  subst h3
  exact ⟨w', e, h4⟩
theorem s_slipClear (hd : en_slip w n tb) : ∃ w', SX4_clear [.ref 3] w = some (none, w') ∧ en_slip w' 0 tb ∧ en_fr [3, 5, 6, 7] w w' := by
  refine en_exv rfl ?_
  show en_Ev XX4_clear 0 [some (.ref 3)] [] w _
  simp (disch := omega) only [eX4_clear_0, eX4_clear_1, eX4_clear_2, eX4_clear_5, eX4_clear_6, eX4_clear_9, en_kl_0, en_kl_i, en_kl_r, en_kl_n, en_kl_l, en_Ec_some, en_Ec_void, en_rcv, en_stk, List.map_cons, List.map_nil, List.sum_cons, List.sum_nil, Value.category, Nat.reduceAdd, Nat.reduceLeDiff, decide_true, true_and, and_true, and_self, zI_add, zI_sub, zI_mul, zI_neg, zI_lt, zI_le, zI_eq, zI_cl, zI_0, zI_1, zI_m1, zI_lit, zT_0, zT_01, zI_01, zI_11, ↓reduceIte, if_true, if_false, not_false_eq_true, not_true_eq_false, Int.reduceEq, Int.reduceLT, Int.reduceLE, Classical.not_not, Bool.false_eq_true, en_s3]
  obtain ⟨w1, e1, g1, f1⟩ := s_readAnew (w := en_up w 3 2 (zI 0)) (n := 0) (tb := tb) ⟨by rw [en_up_eq, upd_eq]; rfl, by omega, fun j hj => absurd hj (by omega)⟩
  rw [e1]
  simp only [eX4_clear_0, eX4_clear_1, eX4_clear_2, eX4_clear_5, eX4_clear_6, eX4_clear_9, en_kl_0, en_kl_i, en_kl_r, en_kl_n, en_kl_l, en_Ec_some, en_Ec_void, en_rcv, en_stk, List.map_cons, List.map_nil, List.sum_cons, List.sum_nil, Value.category, Nat.reduceAdd, Nat.reduceLeDiff, decide_true, true_and, and_true, and_self]
  exact ⟨g1, (en_fr.rf.up (by simp)).tr f1⟩
theorem s_dropLastCoin (hd : en_slip w n tb) : ∃ w', SX4_dropLastCoin [.ref 3] w = some (none, w') ∧ en_slip w' (n - 4) tb ∧ en_fr [3, 5, 6, 7] w w' := by
  obtain ⟨⟨t1, t2, t3⟩, t4, t5⟩ := hd
  refine en_exv rfl ?_
  show en_Ev XX4_dropLastCoin 0 [some (.ref 3)] [] w _
  simp (disch := omega) only [eX4_dropLastCoin_0, eX4_dropLastCoin_1, eX4_dropLastCoin_2, eX4_dropLastCoin_5, eX4_dropLastCoin_6, eX4_dropLastCoin_7, eX4_dropLastCoin_8, eX4_dropLastCoin_11, eX4_dropLastCoin_14, eX4_dropLastCoin_15, eX4_dropLastCoin_18, en_kl_0, en_kl_i, en_kl_r, en_kl_n, en_kl_l, en_Ec_some, en_Ec_void, en_rcv, en_stk, List.map_cons, List.map_nil, List.sum_cons, List.sum_nil, Value.category, Nat.reduceAdd, Nat.reduceLeDiff, decide_true, true_and, and_true, and_self, zI_add, zI_sub, zI_mul, zI_neg, zI_lt, zI_le, zI_eq, zI_cl, zI_0, zI_1, zI_m1, zI_lit, zT_0, zT_01, zI_01, zI_11, ↓reduceIte, if_true, if_false, not_false_eq_true, not_true_eq_false, Int.reduceEq, Int.reduceLT, Int.reduceLE, Classical.not_not, Bool.false_eq_true, en_s3, t1, SJ_Jmax]
  have e : (if (n : Int) - 4 < 0 then zI 0 else zI ((n : Int) - 4)) = zI ((n - 4 : Nat) : Int) := by
    split
    · congr 1; omega
    · congr 1; omega
  rw [e]
  obtain ⟨w1, e1, g1, f1⟩ := s_readAnew (w := en_up w 3 2 (zI ((n - 4 : Nat) : Int))) (n := n - 4) (tb := tb) ⟨by rw [en_up_eq, upd_eq], by omega, fun j hj => by
    rw [en_up_ne (by decide)]
    exact t3 j (by omega)⟩
  rw [e1]
  simp only [eX4_dropLastCoin_0, eX4_dropLastCoin_1, eX4_dropLastCoin_2, eX4_dropLastCoin_5, eX4_dropLastCoin_6, eX4_dropLastCoin_7, eX4_dropLastCoin_8, eX4_dropLastCoin_11, eX4_dropLastCoin_14, eX4_dropLastCoin_15, eX4_dropLastCoin_18, en_kl_0, en_kl_i, en_kl_r, en_kl_n, en_kl_l, en_Ec_some, en_Ec_void, en_rcv, en_stk, List.map_cons, List.map_nil, List.sum_cons, List.sum_nil, Value.category, Nat.reduceAdd, Nat.reduceLeDiff, decide_true, true_and, and_true, and_self]
  exact ⟨g1, (en_fr.rf.up (by simp)).tr f1⟩
end
