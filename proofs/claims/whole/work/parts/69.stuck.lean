/-! ===== the model: ask and stuck, as called ===== -/
section
variable {w v u : en_W} {G : Nat → Int} {s : Nat → Nat → Int} {kick law life pat : Int} {n k : Nat} {tb cm cb len : Nat → Int} {t : NT} {a m r h x z : Int}
/-- the minute that may be asked first -/
def askL (n : Nat) (tb : Nat → Int) : Int := if tcn n tb = 0 then 0 else tcm n tb (tcn n tb - 1)
theorem askL_rng (hC : mC w (tcn n tb) (tcm n tb) (tcb n tb)) : 0 ≤ askL n tb ∧ askL n tb ≤ 99 := by
  unfold askL
  by_cases c : tcn n tb = 0
  · rw [if_pos c]; omega
  · rw [if_neg c]
    have := hC.2.2 (tcn n tb - 1) (by omega)
    exact ⟨this.2.2.1, this.2.2.2.1⟩
theorem okAsk_iff (hC : mC w (tcn n tb) (tcm n tb) (tcb n tb)) : okAsk n tb m r h a ↔ (askL n tb ≤ m ∧ m ≤ 99) ∧ (0 ≤ r ∧ r ≤ 9) ∧ (0 ≤ h ∧ h ≤ 199) ∧ (0 ≤ a ∧ a ≤ 2) := by
  have hL := askL_rng hC
  unfold askL at hL ⊢
  unfold okAsk
  by_cases c : tcn n tb = 0
  · rw [if_pos c, if_pos c]
    constructor
    · rintro ⟨h1, h2, h3, h4, h5⟩
      exact ⟨⟨h1.1, h1.2⟩, ⟨h2.1, by omega⟩, h3, h4⟩
    · rintro ⟨h1, h2, h3, h4⟩
      exact ⟨⟨h1.1, h1.2⟩, ⟨h2.1, by omega⟩, h3, h4, by omega⟩
  · rw [if_neg c] at hL
    rw [if_neg c, if_neg c]
    constructor
    · rintro ⟨h1, h2, h3, h4, h5⟩
      exact ⟨⟨h5, h1.2⟩, ⟨h2.1, by omega⟩, h3, h4⟩
    · rintro ⟨h1, h2, h3, h4⟩
      exact ⟨⟨by omega, h1.2⟩, ⟨h2.1, by omega⟩, h3, h4, h1.1⟩
theorem r_ask_go {w1 : en_W} (e1 : SX6_reads [.ref 19] w = some (some (.int (zI x)), w1)) (hC : mC w1 (tcn n tb) (tcm n tb) (tcb n tb)) (m1 : -2147483648 ≤ m) (m2 : m < 2147483648) (r1 : -2147483648 ≤ r) (r2 : r < 2147483648) (h1 : -2147483648 ≤ h) (h2 : h < 2147483648) (a1 : -2147483648 ≤ a) (a2 : a < 2147483648) {Q : Option Value → en_W → Prop}
    (hbad : ¬ okAsk n tb m r h a → Q (some (.int (zI (-2)))) w1)
    (hok : okAsk n tb m r h a → en_Ec XX6_ask 94 [some (.ref 19), some (.int (zI m)), some (.int (zI r)), some (.int (zI h)), some (.int (zI a)), some (.int (zI 1))] [] (SX6_askOf [.ref 19, .int (zI m), .int (zI r), .int (zI h), .int (zI a)] w1) Q) : en_Ev XX6_ask 0 [some (.ref 19), some (.int (zI m)), some (.int (zI r)), some (.int (zI h)), some (.int (zI a)), none] [] w Q := by
  have hL := askL_rng hC
  have h11 := hC.1
  have hcn := hC.2.1
  rw [okAsk_iff hC] at hbad hok
  have head : en_Ev XX6_ask 38 [some (.ref 19), some (.int (zI m)), some (.int (zI r)), some (.int (zI h)), some (.int (zI a)), none] [.int (zT (askL n tb ≤ m ∧ m ≤ 99))] w1 Q → en_Ev XX6_ask 0 [some (.ref 19), some (.int (zI m)), some (.int (zI r)), some (.int (zI h)), some (.int (zI a)), none] [] w Q := by
    intro g
    unfold askL at g hL
    by_cases c : tcn n tb = 0
    · rw [if_pos c] at g hL
      rw [c] at h11
      simp (disch := omega) only [eX6_ask_0, eX6_ask_1, eX6_ask_4, eX6_ask_5, eX6_ask_6, eX6_ask_7, eX6_ask_8, eX6_ask_11, eX6_ask_14, eX6_ask_15, eX6_ask_18, eX6_ask_19, eX6_ask_22, eX6_ask_23, eX6_ask_24, eX6_ask_27, eX6_ask_28, eX6_ask_29, eX6_ask_30, eX6_ask_31, eX6_ask_32, eX6_ask_35, eX6_ask_41, eX6_ask_42, eX6_ask_45, eX6_ask_48, eX6_ask_49, eX6_ask_50, eX6_ask_51, eX6_ask_54, eX6_ask_57, eX6_ask_60, eX6_ask_61, eX6_ask_64, eX6_ask_65, eX6_ask_67, eX6_ask_69, eX6_ask_72, eX6_ask_74, eX6_ask_75, eX6_ask_76, eX6_ask_79, eX6_ask_82, eX6_ask_85, eX6_ask_86, eX6_ask_87, eX6_ask_88, eX6_ask_89, eX6_ask_91, eX6_ask_94, eX6_ask_97, eX6_ask_99, en_kl_0, en_kl_i, en_kl_r, en_kl_n, en_kl_l, en_Ec_some, en_Ec_void, en_rcv, en_stk, List.map_cons, List.map_nil, List.sum_cons, List.sum_nil, Value.category, Nat.reduceAdd, Nat.reduceLeDiff, decide_true, true_and, and_true, and_self, zI_add, zI_sub, zI_mul, zI_neg, zI_lt, zI_le, zI_eq, zI_cl, zI_0, zI_1, zI_m1, zI_lit, zT_0, zT_01, zI_01, zI_11, ↓reduceIte, if_true, if_false, not_false_eq_true, not_true_eq_false, Int.reduceEq, Int.reduceLT, Int.reduceLE, Classical.not_not, Bool.false_eq_true, lI_of, lI_0, lI_1, lI_m1, lI_lit, lI_neg, lI_add, lI_sub, lI_mul, lc_lt, lc_gt, lc_le, lc_ge, fi_19, ft_19_0, ft_19_1, ft_19_2, ft_19_3, ft_19_5, ft_19_6, ft_19_7, ft_19_8, ft_19_12, ft_19_13, ft_19_14, ft_19_15, ft_19_16, ft_19_21, xi_20, xi_21, xi_22, xi_23, xi_24, xi_25, xi_26, xi_27, xi_28, xi_29, xi_30, xi_31, xi_32, xi_33, Int.toNat_natCast, Int.reduceToNat, e1, h11, r_in, Int.natCast_zero, Int.cast_ofNat_Int]
      exact g
    · rw [if_neg c] at g hL
      have c1 : ¬ (tcn n tb : Int) = 0 := by omega
      have x0 : (2 * (tcn n tb : Int) - 2).toNat = 2 * (tcn n tb - 1) := by omega
      have x1 : w1 28 (2 * (tcn n tb - 1)) = zI (tcm n tb (tcn n tb - 1)) := (hC.2.2 (tcn n tb - 1) (by omega)).1
      simp (disch := omega) only [eX6_ask_0, eX6_ask_1, eX6_ask_4, eX6_ask_5, eX6_ask_6, eX6_ask_7, eX6_ask_8, eX6_ask_11, eX6_ask_14, eX6_ask_15, eX6_ask_18, eX6_ask_19, eX6_ask_22, eX6_ask_23, eX6_ask_24, eX6_ask_27, eX6_ask_28, eX6_ask_29, eX6_ask_30, eX6_ask_31, eX6_ask_32, eX6_ask_35, eX6_ask_41, eX6_ask_42, eX6_ask_45, eX6_ask_48, eX6_ask_49, eX6_ask_50, eX6_ask_51, eX6_ask_54, eX6_ask_57, eX6_ask_60, eX6_ask_61, eX6_ask_64, eX6_ask_65, eX6_ask_67, eX6_ask_69, eX6_ask_72, eX6_ask_74, eX6_ask_75, eX6_ask_76, eX6_ask_79, eX6_ask_82, eX6_ask_85, eX6_ask_86, eX6_ask_87, eX6_ask_88, eX6_ask_89, eX6_ask_91, eX6_ask_94, eX6_ask_97, eX6_ask_99, en_kl_0, en_kl_i, en_kl_r, en_kl_n, en_kl_l, en_Ec_some, en_Ec_void, en_rcv, en_stk, List.map_cons, List.map_nil, List.sum_cons, List.sum_nil, Value.category, Nat.reduceAdd, Nat.reduceLeDiff, decide_true, true_and, and_true, and_self, zI_add, zI_sub, zI_mul, zI_neg, zI_lt, zI_le, zI_eq, zI_cl, zI_0, zI_1, zI_m1, zI_lit, zT_0, zT_01, zI_01, zI_11, ↓reduceIte, if_true, if_false, not_false_eq_true, not_true_eq_false, Int.reduceEq, Int.reduceLT, Int.reduceLE, Classical.not_not, Bool.false_eq_true, lI_of, lI_0, lI_1, lI_m1, lI_lit, lI_neg, lI_add, lI_sub, lI_mul, lc_lt, lc_gt, lc_le, lc_ge, fi_19, ft_19_0, ft_19_1, ft_19_2, ft_19_3, ft_19_5, ft_19_6, ft_19_7, ft_19_8, ft_19_12, ft_19_13, ft_19_14, ft_19_15, ft_19_16, ft_19_21, xi_20, xi_21, xi_22, xi_23, xi_24, xi_25, xi_26, xi_27, xi_28, xi_29, xi_30, xi_31, xi_32, xi_33, Int.toNat_natCast, Int.reduceToNat, e1, h11, c1, x0, x1, r_in]
      exact g
  apply head
  by_cases p1 : askL n tb ≤ m ∧ m ≤ 99
  · by_cases p2 : 0 ≤ r ∧ r ≤ 9
    · by_cases p3 : 0 ≤ h ∧ h ≤ 199
      · by_cases p4 : 0 ≤ a ∧ a ≤ 2
        · have g := hok ⟨p1, p2, p3, p4⟩
          simp (disch := omega) only [eX6_ask_0, eX6_ask_1, eX6_ask_4, eX6_ask_5, eX6_ask_6, eX6_ask_7, eX6_ask_8, eX6_ask_11, eX6_ask_14, eX6_ask_15, eX6_ask_18, eX6_ask_19, eX6_ask_22, eX6_ask_23, eX6_ask_24, eX6_ask_27, eX6_ask_28, eX6_ask_29, eX6_ask_30, eX6_ask_31, eX6_ask_32, eX6_ask_35, eX6_ask_38, eX6_ask_41, eX6_ask_42, eX6_ask_45, eX6_ask_48, eX6_ask_49, eX6_ask_50, eX6_ask_51, eX6_ask_54, eX6_ask_57, eX6_ask_60, eX6_ask_61, eX6_ask_64, eX6_ask_65, eX6_ask_67, eX6_ask_69, eX6_ask_72, eX6_ask_74, eX6_ask_75, eX6_ask_76, eX6_ask_79, eX6_ask_82, eX6_ask_85, eX6_ask_86, eX6_ask_87, eX6_ask_88, eX6_ask_89, eX6_ask_91, eX6_ask_97, eX6_ask_99, en_kl_0, en_kl_i, en_kl_r, en_kl_n, en_kl_l, en_Ec_some, en_Ec_void, en_rcv, en_stk, List.map_cons, List.map_nil, List.sum_cons, List.sum_nil, Value.category, Nat.reduceAdd, Nat.reduceLeDiff, decide_true, true_and, and_true, and_self, zI_add, zI_sub, zI_mul, zI_neg, zI_lt, zI_le, zI_eq, zI_cl, zI_0, zI_1, zI_m1, zI_lit, zT_0, zT_01, zI_01, zI_11, ↓reduceIte, if_true, if_false, not_false_eq_true, not_true_eq_false, Int.reduceEq, Int.reduceLT, Int.reduceLE, Classical.not_not, Bool.false_eq_true, lI_of, lI_0, lI_1, lI_m1, lI_lit, lI_neg, lI_add, lI_sub, lI_mul, lc_lt, lc_gt, lc_le, lc_ge, fi_19, ft_19_0, ft_19_1, ft_19_2, ft_19_3, ft_19_5, ft_19_6, ft_19_7, ft_19_8, ft_19_12, ft_19_13, ft_19_14, ft_19_15, ft_19_16, ft_19_21, xi_20, xi_21, xi_22, xi_23, xi_24, xi_25, xi_26, xi_27, xi_28, xi_29, xi_30, xi_31, xi_32, xi_33, Int.toNat_natCast, Int.reduceToNat, r_in, r_isRecord, zT_t p1, zT_t p2, zT_t p3, zT_t p4]
          exact g
        · have g := hbad (fun q => p4 q.2.2.2)
          simp (disch := omega) only [eX6_ask_0, eX6_ask_1, eX6_ask_4, eX6_ask_5, eX6_ask_6, eX6_ask_7, eX6_ask_8, eX6_ask_11, eX6_ask_14, eX6_ask_15, eX6_ask_18, eX6_ask_19, eX6_ask_22, eX6_ask_23, eX6_ask_24, eX6_ask_27, eX6_ask_28, eX6_ask_29, eX6_ask_30, eX6_ask_31, eX6_ask_32, eX6_ask_35, eX6_ask_38, eX6_ask_41, eX6_ask_42, eX6_ask_45, eX6_ask_48, eX6_ask_49, eX6_ask_50, eX6_ask_51, eX6_ask_54, eX6_ask_57, eX6_ask_60, eX6_ask_61, eX6_ask_64, eX6_ask_65, eX6_ask_67, eX6_ask_69, eX6_ask_72, eX6_ask_74, eX6_ask_75, eX6_ask_76, eX6_ask_79, eX6_ask_82, eX6_ask_85, eX6_ask_86, eX6_ask_87, eX6_ask_88, eX6_ask_89, eX6_ask_91, eX6_ask_94, eX6_ask_97, eX6_ask_99, en_kl_0, en_kl_i, en_kl_r, en_kl_n, en_kl_l, en_Ec_some, en_Ec_void, en_rcv, en_stk, List.map_cons, List.map_nil, List.sum_cons, List.sum_nil, Value.category, Nat.reduceAdd, Nat.reduceLeDiff, decide_true, true_and, and_true, and_self, zI_add, zI_sub, zI_mul, zI_neg, zI_lt, zI_le, zI_eq, zI_cl, zI_0, zI_1, zI_m1, zI_lit, zT_0, zT_01, zI_01, zI_11, ↓reduceIte, if_true, if_false, not_false_eq_true, not_true_eq_false, Int.reduceEq, Int.reduceLT, Int.reduceLE, Classical.not_not, Bool.false_eq_true, lI_of, lI_0, lI_1, lI_m1, lI_lit, lI_neg, lI_add, lI_sub, lI_mul, lc_lt, lc_gt, lc_le, lc_ge, fi_19, ft_19_0, ft_19_1, ft_19_2, ft_19_3, ft_19_5, ft_19_6, ft_19_7, ft_19_8, ft_19_12, ft_19_13, ft_19_14, ft_19_15, ft_19_16, ft_19_21, xi_20, xi_21, xi_22, xi_23, xi_24, xi_25, xi_26, xi_27, xi_28, xi_29, xi_30, xi_31, xi_32, xi_33, Int.toNat_natCast, Int.reduceToNat, r_in, r_isRecord, zT_t p1, zT_t p2, zT_t p3, zT_f p4]
          exact g
      · have g := hbad (fun q => p3 q.2.2.1)
        simp (disch := omega) only [eX6_ask_0, eX6_ask_1, eX6_ask_4, eX6_ask_5, eX6_ask_6, eX6_ask_7, eX6_ask_8, eX6_ask_11, eX6_ask_14, eX6_ask_15, eX6_ask_18, eX6_ask_19, eX6_ask_22, eX6_ask_23, eX6_ask_24, eX6_ask_27, eX6_ask_28, eX6_ask_29, eX6_ask_30, eX6_ask_31, eX6_ask_32, eX6_ask_35, eX6_ask_38, eX6_ask_41, eX6_ask_42, eX6_ask_45, eX6_ask_48, eX6_ask_49, eX6_ask_50, eX6_ask_51, eX6_ask_54, eX6_ask_57, eX6_ask_60, eX6_ask_61, eX6_ask_64, eX6_ask_65, eX6_ask_67, eX6_ask_69, eX6_ask_72, eX6_ask_74, eX6_ask_75, eX6_ask_76, eX6_ask_79, eX6_ask_82, eX6_ask_85, eX6_ask_86, eX6_ask_87, eX6_ask_88, eX6_ask_89, eX6_ask_91, eX6_ask_94, eX6_ask_97, eX6_ask_99, en_kl_0, en_kl_i, en_kl_r, en_kl_n, en_kl_l, en_Ec_some, en_Ec_void, en_rcv, en_stk, List.map_cons, List.map_nil, List.sum_cons, List.sum_nil, Value.category, Nat.reduceAdd, Nat.reduceLeDiff, decide_true, true_and, and_true, and_self, zI_add, zI_sub, zI_mul, zI_neg, zI_lt, zI_le, zI_eq, zI_cl, zI_0, zI_1, zI_m1, zI_lit, zT_0, zT_01, zI_01, zI_11, ↓reduceIte, if_true, if_false, not_false_eq_true, not_true_eq_false, Int.reduceEq, Int.reduceLT, Int.reduceLE, Classical.not_not, Bool.false_eq_true, lI_of, lI_0, lI_1, lI_m1, lI_lit, lI_neg, lI_add, lI_sub, lI_mul, lc_lt, lc_gt, lc_le, lc_ge, fi_19, ft_19_0, ft_19_1, ft_19_2, ft_19_3, ft_19_5, ft_19_6, ft_19_7, ft_19_8, ft_19_12, ft_19_13, ft_19_14, ft_19_15, ft_19_16, ft_19_21, xi_20, xi_21, xi_22, xi_23, xi_24, xi_25, xi_26, xi_27, xi_28, xi_29, xi_30, xi_31, xi_32, xi_33, Int.toNat_natCast, Int.reduceToNat, r_in, r_isRecord, zT_t p1, zT_t p2, zT_f p3]
        exact g
    · have g := hbad (fun q => p2 q.2.1)
      simp (disch := omega) only [eX6_ask_0, eX6_ask_1, eX6_ask_4, eX6_ask_5, eX6_ask_6, eX6_ask_7, eX6_ask_8, eX6_ask_11, eX6_ask_14, eX6_ask_15, eX6_ask_18, eX6_ask_19, eX6_ask_22, eX6_ask_23, eX6_ask_24, eX6_ask_27, eX6_ask_28, eX6_ask_29, eX6_ask_30, eX6_ask_31, eX6_ask_32, eX6_ask_35, eX6_ask_38, eX6_ask_41, eX6_ask_42, eX6_ask_45, eX6_ask_48, eX6_ask_49, eX6_ask_50, eX6_ask_51, eX6_ask_54, eX6_ask_57, eX6_ask_60, eX6_ask_61, eX6_ask_64, eX6_ask_65, eX6_ask_67, eX6_ask_69, eX6_ask_72, eX6_ask_74, eX6_ask_75, eX6_ask_76, eX6_ask_79, eX6_ask_82, eX6_ask_85, eX6_ask_86, eX6_ask_87, eX6_ask_88, eX6_ask_89, eX6_ask_91, eX6_ask_94, eX6_ask_97, eX6_ask_99, en_kl_0, en_kl_i, en_kl_r, en_kl_n, en_kl_l, en_Ec_some, en_Ec_void, en_rcv, en_stk, List.map_cons, List.map_nil, List.sum_cons, List.sum_nil, Value.category, Nat.reduceAdd, Nat.reduceLeDiff, decide_true, true_and, and_true, and_self, zI_add, zI_sub, zI_mul, zI_neg, zI_lt, zI_le, zI_eq, zI_cl, zI_0, zI_1, zI_m1, zI_lit, zT_0, zT_01, zI_01, zI_11, ↓reduceIte, if_true, if_false, not_false_eq_true, not_true_eq_false, Int.reduceEq, Int.reduceLT, Int.reduceLE, Classical.not_not, Bool.false_eq_true, lI_of, lI_0, lI_1, lI_m1, lI_lit, lI_neg, lI_add, lI_sub, lI_mul, lc_lt, lc_gt, lc_le, lc_ge, fi_19, ft_19_0, ft_19_1, ft_19_2, ft_19_3, ft_19_5, ft_19_6, ft_19_7, ft_19_8, ft_19_12, ft_19_13, ft_19_14, ft_19_15, ft_19_16, ft_19_21, xi_20, xi_21, xi_22, xi_23, xi_24, xi_25, xi_26, xi_27, xi_28, xi_29, xi_30, xi_31, xi_32, xi_33, Int.toNat_natCast, Int.reduceToNat, r_in, r_isRecord, zT_t p1, zT_f p2]
      exact g
  · have g := hbad (fun q => p1 q.1)
    simp (disch := omega) only [eX6_ask_0, eX6_ask_1, eX6_ask_4, eX6_ask_5, eX6_ask_6, eX6_ask_7, eX6_ask_8, eX6_ask_11, eX6_ask_14, eX6_ask_15, eX6_ask_18, eX6_ask_19, eX6_ask_22, eX6_ask_23, eX6_ask_24, eX6_ask_27, eX6_ask_28, eX6_ask_29, eX6_ask_30, eX6_ask_31, eX6_ask_32, eX6_ask_35, eX6_ask_38, eX6_ask_41, eX6_ask_42, eX6_ask_45, eX6_ask_48, eX6_ask_49, eX6_ask_50, eX6_ask_51, eX6_ask_54, eX6_ask_57, eX6_ask_60, eX6_ask_61, eX6_ask_64, eX6_ask_65, eX6_ask_67, eX6_ask_69, eX6_ask_72, eX6_ask_74, eX6_ask_75, eX6_ask_76, eX6_ask_79, eX6_ask_82, eX6_ask_85, eX6_ask_86, eX6_ask_87, eX6_ask_88, eX6_ask_89, eX6_ask_91, eX6_ask_94, eX6_ask_97, eX6_ask_99, en_kl_0, en_kl_i, en_kl_r, en_kl_n, en_kl_l, en_Ec_some, en_Ec_void, en_rcv, en_stk, List.map_cons, List.map_nil, List.sum_cons, List.sum_nil, Value.category, Nat.reduceAdd, Nat.reduceLeDiff, decide_true, true_and, and_true, and_self, zI_add, zI_sub, zI_mul, zI_neg, zI_lt, zI_le, zI_eq, zI_cl, zI_0, zI_1, zI_m1, zI_lit, zT_0, zT_01, zI_01, zI_11, ↓reduceIte, if_true, if_false, not_false_eq_true, not_true_eq_false, Int.reduceEq, Int.reduceLT, Int.reduceLE, Classical.not_not, Bool.false_eq_true, lI_of, lI_0, lI_1, lI_m1, lI_lit, lI_neg, lI_add, lI_sub, lI_mul, lc_lt, lc_gt, lc_le, lc_ge, fi_19, ft_19_0, ft_19_1, ft_19_2, ft_19_3, ft_19_5, ft_19_6, ft_19_7, ft_19_8, ft_19_12, ft_19_13, ft_19_14, ft_19_15, ft_19_16, ft_19_21, xi_20, xi_21, xi_22, xi_23, xi_24, xi_25, xi_26, xi_27, xi_28, xi_29, xi_30, xi_31, xi_32, xi_33, Int.toNat_natCast, Int.reduceToNat, r_in, r_isRecord, zT_f p1]
    exact g
theorem r_ask_bad (hT : bT w n tb) (hn : ¬ okAsk n tb m r h a) (m1 : -2147483648 ≤ m) (m2 : m < 2147483648) (r1 : -2147483648 ≤ r) (r2 : r < 2147483648) (h1 : -2147483648 ≤ h) (h2 : h < 2147483648) (a1 : -2147483648 ≤ a) (a2 : a < 2147483648) : ∃ w', SX6_ask [.ref 19, .int (zI m), .int (zI r), .int (zI h), .int (zI a)] w = some (some (.int (zI (-2))), w') ∧ ofr w w' := by
  obtain ⟨w1, e1, f1, c1⟩ := r_reads hT
  refine ⟨w1, en_val rfl (fun Q hQ => ?_), f1.o⟩
  show en_Ev XX6_ask 0 [some (.ref 19), some (.int (zI m)), some (.int (zI r)), some (.int (zI h)), some (.int (zI a)), none] [] w Q
  exact r_ask_go e1 c1 m1 m2 r1 r2 h1 h2 a1 a2 (fun _ => hQ) (fun q => absurd q hn)
theorem r_ask_ok (hG : bG w G s) (hP : bP w kick law life pat) (hT : bT w n tb) (ho : okAsk n tb m r h a) : ∃ w', SX6_ask [.ref 19, .int (zI m), .int (zI r), .int (zI h), .int (zI a)] w = some (some (.int (zI (tRow (aFew (tcn n tb) (tcm n tb) (tcb n tb) (ml G s kick) law life m r h) a))), w') ∧ ofr w w' := by
  obtain ⟨w1, e1, f1, c1⟩ := r_reads hT
  obtain ⟨p1, p2, p3, p4⟩ := (okAsk_iff c1).mp ho
  have hL := askL_rng c1
  have hl : ∀ i, i < tcn n tb → tcm n tb i ≤ m := fun i hi => by
    have := srt_t (n := n) (tb := tb) i (tcn n tb - 1) (by omega) (by omega)
    unfold askL at p1
    rw [if_neg (by omega)] at p1
    omega
  obtain ⟨w2, e2, f2⟩ := r_askOf (m := m) (r := r) (h := h) (a := a) (hG.o f1.o) (hP.o f1.o) c1 srt_t hl (by omega) p1.2 p2.1 p2.2 p3.1 (by omega) p4.1 p4.2
  refine ⟨w2, en_val rfl (fun Q hQ => ?_), f1.o.tr f2⟩
  show en_Ev XX6_ask 0 [some (.ref 19), some (.int (zI m)), some (.int (zI r)), some (.int (zI h)), some (.int (zI a)), none] [] w Q
  refine r_ask_go e1 c1 (by omega) (by omega) (by omega) (by omega) (by omega) (by omega) (by omega) (by omega) (fun q => absurd ho q) (fun _ => ?_)
  rw [e2]
  simp (disch := omega) only [eX6_ask_94, eX6_ask_99, en_kl_0, en_kl_i, en_kl_r, en_kl_n, en_kl_l, en_Ec_some, en_Ec_void, en_rcv, en_stk, List.map_cons, List.map_nil, List.sum_cons, List.sum_nil, Value.category, Nat.reduceAdd, Nat.reduceLeDiff, decide_true, true_and, and_true, and_self, zI_add, zI_sub, zI_mul, zI_neg, zI_lt, zI_le, zI_eq, zI_cl, zI_0, zI_1, zI_m1, zI_lit, zT_0, zT_01, zI_01, zI_11, ↓reduceIte, if_true, if_false, not_false_eq_true, not_true_eq_false, Int.reduceEq, Int.reduceLT, Int.reduceLE, Classical.not_not, Bool.false_eq_true]
  exact hQ
theorem srt_less {c : Nat} (hs : srt k cm) : srt (k - 1) (mr cm c) := fun i j hij hj => by
  unfold mr
  by_cases c1 : i < c
  · rw [if_pos c1]
    by_cases c2 : j < c
    · rw [if_pos c2]
      exact hs i j hij (by omega)
    · rw [if_neg c2]
      exact hs i (j + 1) (by omega) (by omega)
  · rw [if_neg c1, if_neg (show ¬ j < c by omega)]
    exact hs (i + 1) (j + 1) (by omega) (by omega)
/-- what stuck answers, of any coins -/
def stk (k : Nat) (cm cb len : Nat → Int) (law life pat : Int) (c : Nat) (r : Int) : Int :=
  if r = -1 then npp (k - 1) (mr cm c) (nnight law (k - 1) (mr cm c) (mr cb c) len life) pat (k - 1)
  else ntm (nnight law (k - 1) (mr cm c) (mr cb c) len life) r.toNat
theorem r_stuckOf {c : Nat} (hG : bG w G s) (hP : bP w kick law life pat) (hC : mC w k cm cb) (hs : srt k cm) (hc : c < k) (r0 : -1 ≤ r) (r1 : r ≤ 9) : ∃ w', SX6_stuckOf [.ref 19, .int (zI c), .int (zI r)] w = some (some (.int (zI (stk k cm cb (ml G s kick) law life pat c r))), w') ∧ ofr w w' := by
  have hk := hC.2.1
  refine en_exq rfl (fun Q hQ => ?_)
  show en_Ev XX6_stuckOf 0 [some (.ref 19), some (.int (zI c)), some (.int (zI r)), none] [] w Q
  have tail : ∀ (v : en_W) (l3 : Option Value), ofr w v → v 19 11 = zI k → (∀ i, i < k - 1 → v 28 (2 * i) = zI (mr cm c i) ∧ v 28 (2 * i + 1) = zI (mr cb c i)) → en_Ev XX6_stuckOf 56 [some (.ref 19), some (.int (zI c)), some (.int (zI r)), l3] [] v Q := by
    intro v l3 fv v11 v28
    obtain ⟨u, hu⟩ : ∃ u, en_up v 19 11 (zI ((k : Int) - 1)) = u := ⟨_, rfl⟩
    have fu : ofr w u := by
      refine fv.tr ⟨?_, fun j _ b _ _ _ => ?_⟩
      · rw [← hu]; exact en_fr.rf.up (by simp)
      · rw [← hu, en_up_eq, upd_ne b]
    have uC : mC u (k - 1) (mr cm c) (mr cb c) := by
      have e : ((k - 1 : Nat) : Int) = (k : Int) - 1 := by omega
      refine ⟨by rw [e, ← hu, en_up_eq, upd_eq], by omega, fun i hi => ?_⟩
      have g := v28 i hi
      have e28 : u 28 = v 28 := by rw [← hu, en_up_ne (by decide)]
      rw [e28]
      have h1 := hC.2.2 i (by omega)
      have h2 := hC.2.2 (i + 1) (by omega)
      refine ⟨g.1, g.2, ?_⟩
      unfold mr
      by_cases q : i < c
      · rw [if_pos q, if_pos q]; exact h1.2.2
      · rw [if_neg q, if_neg q]; exact h2.2.2
    obtain ⟨u2, e2, hN, hF, f2⟩ := r_nightNow (hG.o fu) (hP.o fu) uC (srt_less hs)
    have g := hQ u2 (fu.tr f2.o)
    unfold stk at g
    by_cases c1 : r = -1
    · rw [if_pos c1] at g
      have e3 := r_pleased ((hP.o fu).nf f2) (uC.nf f2) hN hF
      subst c1
      simp (disch := omega) only [eX6_stuckOf_0, eX6_stuckOf_1, eX6_stuckOf_3, eX6_stuckOf_4, eX6_stuckOf_5, eX6_stuckOf_6, eX6_stuckOf_9, eX6_stuckOf_12, eX6_stuckOf_13, eX6_stuckOf_16, eX6_stuckOf_17, eX6_stuckOf_18, eX6_stuckOf_19, eX6_stuckOf_20, eX6_stuckOf_23, eX6_stuckOf_24, eX6_stuckOf_25, eX6_stuckOf_26, eX6_stuckOf_27, eX6_stuckOf_28, eX6_stuckOf_29, eX6_stuckOf_30, eX6_stuckOf_31, eX6_stuckOf_34, eX6_stuckOf_35, eX6_stuckOf_36, eX6_stuckOf_37, eX6_stuckOf_38, eX6_stuckOf_39, eX6_stuckOf_40, eX6_stuckOf_43, eX6_stuckOf_44, eX6_stuckOf_45, eX6_stuckOf_46, eX6_stuckOf_47, eX6_stuckOf_48, eX6_stuckOf_49, eX6_stuckOf_50, eX6_stuckOf_53, eX6_stuckOf_56, eX6_stuckOf_57, eX6_stuckOf_57i, eX6_stuckOf_58, eX6_stuckOf_61, eX6_stuckOf_62, eX6_stuckOf_63, eX6_stuckOf_66, eX6_stuckOf_67, eX6_stuckOf_70, eX6_stuckOf_71, eX6_stuckOf_72, eX6_stuckOf_75, eX6_stuckOf_76, eX6_stuckOf_79, eX6_stuckOf_82, eX6_stuckOf_83, eX6_stuckOf_86, eX6_stuckOf_87, eX6_stuckOf_88, en_kl_0, en_kl_i, en_kl_r, en_kl_n, en_kl_l, en_Ec_some, en_Ec_void, en_rcv, en_stk, List.map_cons, List.map_nil, List.sum_cons, List.sum_nil, Value.category, Nat.reduceAdd, Nat.reduceLeDiff, decide_true, true_and, and_true, and_self, zI_add, zI_sub, zI_mul, zI_neg, zI_lt, zI_le, zI_eq, zI_cl, zI_0, zI_1, zI_m1, zI_lit, zT_0, zT_01, zI_01, zI_11, ↓reduceIte, if_true, if_false, not_false_eq_true, not_true_eq_false, Int.reduceEq, Int.reduceLT, Int.reduceLE, Classical.not_not, Bool.false_eq_true, fi_19, ft_19_0, ft_19_1, ft_19_2, ft_19_3, ft_19_5, ft_19_6, ft_19_7, ft_19_8, ft_19_12, ft_19_13, ft_19_14, ft_19_15, ft_19_16, ft_19_21, xi_20, xi_21, xi_22, xi_23, xi_24, xi_25, xi_26, xi_27, xi_28, xi_29, xi_30, xi_31, xi_32, xi_33, Int.toNat_natCast, Int.reduceToNat, v11, hu, e2, e3]
      exact g
    · rw [if_neg c1] at g
      have x1 := hN.2.1 r.toNat (by omega)
      simp (disch := omega) only [eX6_stuckOf_0, eX6_stuckOf_1, eX6_stuckOf_3, eX6_stuckOf_4, eX6_stuckOf_5, eX6_stuckOf_6, eX6_stuckOf_9, eX6_stuckOf_12, eX6_stuckOf_13, eX6_stuckOf_16, eX6_stuckOf_17, eX6_stuckOf_18, eX6_stuckOf_19, eX6_stuckOf_20, eX6_stuckOf_23, eX6_stuckOf_24, eX6_stuckOf_25, eX6_stuckOf_26, eX6_stuckOf_27, eX6_stuckOf_28, eX6_stuckOf_29, eX6_stuckOf_30, eX6_stuckOf_31, eX6_stuckOf_34, eX6_stuckOf_35, eX6_stuckOf_36, eX6_stuckOf_37, eX6_stuckOf_38, eX6_stuckOf_39, eX6_stuckOf_40, eX6_stuckOf_43, eX6_stuckOf_44, eX6_stuckOf_45, eX6_stuckOf_46, eX6_stuckOf_47, eX6_stuckOf_48, eX6_stuckOf_49, eX6_stuckOf_50, eX6_stuckOf_53, eX6_stuckOf_56, eX6_stuckOf_57, eX6_stuckOf_57i, eX6_stuckOf_58, eX6_stuckOf_61, eX6_stuckOf_62, eX6_stuckOf_63, eX6_stuckOf_66, eX6_stuckOf_67, eX6_stuckOf_70, eX6_stuckOf_71, eX6_stuckOf_72, eX6_stuckOf_75, eX6_stuckOf_76, eX6_stuckOf_79, eX6_stuckOf_82, eX6_stuckOf_83, eX6_stuckOf_86, eX6_stuckOf_87, eX6_stuckOf_88, en_kl_0, en_kl_i, en_kl_r, en_kl_n, en_kl_l, en_Ec_some, en_Ec_void, en_rcv, en_stk, List.map_cons, List.map_nil, List.sum_cons, List.sum_nil, Value.category, Nat.reduceAdd, Nat.reduceLeDiff, decide_true, true_and, and_true, and_self, zI_add, zI_sub, zI_mul, zI_neg, zI_lt, zI_le, zI_eq, zI_cl, zI_0, zI_1, zI_m1, zI_lit, zT_0, zT_01, zI_01, zI_11, ↓reduceIte, if_true, if_false, not_false_eq_true, not_true_eq_false, Int.reduceEq, Int.reduceLT, Int.reduceLE, Classical.not_not, Bool.false_eq_true, fi_19, ft_19_0, ft_19_1, ft_19_2, ft_19_3, ft_19_5, ft_19_6, ft_19_7, ft_19_8, ft_19_12, ft_19_13, ft_19_14, ft_19_15, ft_19_16, ft_19_21, xi_20, xi_21, xi_22, xi_23, xi_24, xi_25, xi_26, xi_27, xi_28, xi_29, xi_30, xi_31, xi_32, xi_33, Int.toNat_natCast, Int.reduceToNat, v11, hu, e2, x1, c1]
      exact g
  have loop : ∀ (d i : Nat) (v : en_W), i + 1 + d = k → c ≤ i → ofr w v → v 19 11 = zI k → (∀ j, j < k → v 28 (2 * j) = zI (if j < i then mr cm c j else cm j) ∧ v 28 (2 * j + 1) = zI (if j < i then mr cb c j else cb j)) → en_Ev XX6_stuckOf 2 [some (.ref 19), some (.int (zI c)), some (.int (zI r)), some (.int (zI i))] [] v Q := by
    intro d
    induction d with
    | zero =>
      intro i v hi hci fv v11 v28
      have x1 : (k : Int) ≤ (i : Int) + 1 := by omega
      rw [eX6_stuckOf_2]
      simp (disch := omega) only [eX6_stuckOf_3, eX6_stuckOf_4, eX6_stuckOf_5, eX6_stuckOf_6, eX6_stuckOf_9, en_kl_0, en_kl_i, en_kl_r, en_kl_n, en_kl_l, en_Ec_some, en_Ec_void, en_rcv, en_stk, List.map_cons, List.map_nil, List.sum_cons, List.sum_nil, Value.category, Nat.reduceAdd, Nat.reduceLeDiff, decide_true, true_and, and_true, and_self, zI_add, zI_sub, zI_mul, zI_neg, zI_lt, zI_le, zI_eq, zI_cl, zI_0, zI_1, zI_m1, zI_lit, zT_0, zT_01, zI_01, zI_11, ↓reduceIte, if_true, if_false, not_false_eq_true, not_true_eq_false, Int.reduceEq, Int.reduceLT, Int.reduceLE, Classical.not_not, Bool.false_eq_true, fi_19, ft_19_0, ft_19_1, ft_19_2, ft_19_3, ft_19_5, ft_19_6, ft_19_7, ft_19_8, ft_19_12, ft_19_13, ft_19_14, ft_19_15, ft_19_16, ft_19_21, xi_20, xi_21, xi_22, xi_23, xi_24, xi_25, xi_26, xi_27, xi_28, xi_29, xi_30, xi_31, xi_32, xi_33, Int.toNat_natCast, Int.reduceToNat, v11, x1]
      refine tail v _ fv v11 (fun j hj => ?_)
      have := v28 j (by omega)
      rw [if_pos (by omega), if_pos (by omega)] at this
      exact this
    | succ d ih =>
      intro i v hi hci fv v11 v28
      have x1 : ¬ (k : Int) ≤ (i : Int) + 1 := by omega
      have x2 : (2 * (i : Int)).toNat = 2 * i := by omega
      have x3 : (2 * (i : Int) + 1).toNat = 2 * i + 1 := by omega
      have x4 : (2 * (i : Int) + 2).toNat = 2 * (i + 1) := by omega
      have x5 : (2 * (i : Int) + 3).toNat = 2 * (i + 1) + 1 := by omega
      obtain ⟨g1, g2⟩ := v28 (i + 1) (by omega)
      rw [if_neg (by omega)] at g1 g2
      have g2' : en_up v 28 (2 * i) (zI (cm (i + 1))) 28 (2 * (i + 1) + 1) = zI (cb (i + 1)) := by rw [en_up_eq, upd_ne (by omega)]; exact g2
      obtain ⟨u, hu⟩ : ∃ u, en_up (en_up v 28 (2 * i) (zI (cm (i + 1)))) 28 (2 * i + 1) (zI (cb (i + 1))) = u := ⟨_, rfl⟩
      have u11 : u 19 11 = zI k := by rw [← hu, en_up_ne (by decide), en_up_ne (by decide)]; exact v11
      have u28 : u 28 = upd (upd (v 28) (2 * i) (zI (cm (i + 1)))) (2 * i + 1) (zI (cb (i + 1))) := by rw [← hu, en_up_eq, en_up_eq]
      have fu : ofr w u := by
        refine fv.tr ⟨?_, fun j _ b _ _ _ => ?_⟩
        · rw [← hu]; exact (en_fr.rf.up (by simp)).up (by simp)
        · rw [← hu, en_up_ne (by decide), en_up_ne (by decide)]
      rw [eX6_stuckOf_2]
      simp (disch := omega) only [eX6_stuckOf_0, eX6_stuckOf_1, eX6_stuckOf_3, eX6_stuckOf_4, eX6_stuckOf_5, eX6_stuckOf_6, eX6_stuckOf_9, eX6_stuckOf_12, eX6_stuckOf_13, eX6_stuckOf_16, eX6_stuckOf_17, eX6_stuckOf_18, eX6_stuckOf_19, eX6_stuckOf_20, eX6_stuckOf_23, eX6_stuckOf_24, eX6_stuckOf_25, eX6_stuckOf_26, eX6_stuckOf_27, eX6_stuckOf_28, eX6_stuckOf_29, eX6_stuckOf_30, eX6_stuckOf_31, eX6_stuckOf_34, eX6_stuckOf_35, eX6_stuckOf_36, eX6_stuckOf_37, eX6_stuckOf_38, eX6_stuckOf_39, eX6_stuckOf_40, eX6_stuckOf_43, eX6_stuckOf_44, eX6_stuckOf_45, eX6_stuckOf_46, eX6_stuckOf_47, eX6_stuckOf_48, eX6_stuckOf_49, eX6_stuckOf_50, eX6_stuckOf_53, eX6_stuckOf_57, eX6_stuckOf_57i, eX6_stuckOf_58, eX6_stuckOf_61, eX6_stuckOf_62, eX6_stuckOf_63, eX6_stuckOf_66, eX6_stuckOf_67, eX6_stuckOf_70, eX6_stuckOf_71, eX6_stuckOf_72, eX6_stuckOf_75, eX6_stuckOf_76, eX6_stuckOf_79, eX6_stuckOf_82, eX6_stuckOf_83, eX6_stuckOf_86, eX6_stuckOf_87, eX6_stuckOf_88, en_kl_0, en_kl_i, en_kl_r, en_kl_n, en_kl_l, en_Ec_some, en_Ec_void, en_rcv, en_stk, List.map_cons, List.map_nil, List.sum_cons, List.sum_nil, Value.category, Nat.reduceAdd, Nat.reduceLeDiff, decide_true, true_and, and_true, and_self, zI_add, zI_sub, zI_mul, zI_neg, zI_lt, zI_le, zI_eq, zI_cl, zI_0, zI_1, zI_m1, zI_lit, zT_0, zT_01, zI_01, zI_11, ↓reduceIte, if_true, if_false, not_false_eq_true, not_true_eq_false, Int.reduceEq, Int.reduceLT, Int.reduceLE, Classical.not_not, Bool.false_eq_true, fi_19, ft_19_0, ft_19_1, ft_19_2, ft_19_3, ft_19_5, ft_19_6, ft_19_7, ft_19_8, ft_19_12, ft_19_13, ft_19_14, ft_19_15, ft_19_16, ft_19_21, xi_20, xi_21, xi_22, xi_23, xi_24, xi_25, xi_26, xi_27, xi_28, xi_29, xi_30, xi_31, xi_32, xi_33, Int.toNat_natCast, Int.reduceToNat, v11, x1, x2, x3, x4, x5, g1, g2', hu]
      refine ih (i + 1) u (by omega) (by omega) fu u11 (fun j hj => ?_)
      obtain ⟨q1, q2⟩ := v28 j hj
      rw [u28]
      by_cases e : j = i
      · subst e
        rw [upd_ne (by omega), upd_eq, upd_eq, if_pos (by omega), if_pos (by omega)]
        unfold mr
        rw [if_neg (by omega), if_neg (by omega)]
        exact ⟨rfl, rfl⟩
      · rw [upd_ne (by omega), upd_ne (by omega), upd_ne (by omega), upd_ne (by omega), q1, q2]
        by_cases q : j < i
        · rw [if_pos q, if_pos q, if_pos (by omega), if_pos (by omega)]
          exact ⟨rfl, rfl⟩
        · rw [if_neg q, if_neg q, if_neg (by omega), if_neg (by omega)]
          exact ⟨rfl, rfl⟩
  simp (disch := omega) only [eX6_stuckOf_0, eX6_stuckOf_1, en_kl_0, en_kl_i, en_kl_r, en_kl_n, en_kl_l, en_Ec_some, en_Ec_void, en_rcv, en_stk, List.map_cons, List.map_nil, List.sum_cons, List.sum_nil, Value.category, Nat.reduceAdd, Nat.reduceLeDiff, decide_true, true_and, and_true, and_self, zI_add, zI_sub, zI_mul, zI_neg, zI_lt, zI_le, zI_eq, zI_cl, zI_0, zI_1, zI_m1, zI_lit, zT_0, zT_01, zI_01, zI_11, ↓reduceIte, if_true, if_false, not_false_eq_true, not_true_eq_false, Int.reduceEq, Int.reduceLT, Int.reduceLE, Classical.not_not, Bool.false_eq_true]
  refine loop (k - (c + 1)) c w (by omega) (Nat.le_refl c) ofr.rf hC.1 (fun j hj => ?_)
  have h1 := hC.2.2 j hj
  by_cases q : j < c
  · rw [if_pos q, if_pos q]
    unfold mr
    rw [if_pos q, if_pos q]
    exact ⟨h1.1, h1.2.1⟩
  · rw [if_neg q, if_neg q]
    exact ⟨h1.1, h1.2.1⟩
theorem r_stuck_bad (hT : bT w n tb) (hh : ¬ ((0 ≤ z ∧ z < tcn n tb) ∧ (-1 ≤ r ∧ r ≤ 9))) (c1 : -2147483648 ≤ z) (c2 : z < 2147483648) (r1 : -2147483648 ≤ r) (r2 : r < 2147483648) : ∃ w', SX6_stuck [.ref 19, .int (zI z), .int (zI r)] w = some (some (.int (zI (-2))), w') ∧ ofr w w' := by
  obtain ⟨w1, e1, f1, hm⟩ := r_isCoin (v := z) hT c1 c2
  refine ⟨w1, en_val rfl (fun Q hQ => ?_), f1.o⟩
  show en_Ev XX6_stuck 0 [some (.ref 19), some (.int (zI z)), some (.int (zI r))] [] w Q
  by_cases d1 : 0 ≤ z ∧ z ≤ (tcn n tb : Int) - 1
  · have d2 : ¬ (-1 ≤ r ∧ r ≤ 9) := fun q => hh ⟨by omega, q⟩
    rw [zT_t d1] at e1
    simp (disch := omega) only [eX6_stuck_0, eX6_stuck_1, eX6_stuck_2, eX6_stuck_5, eX6_stuck_8, eX6_stuck_9, eX6_stuck_10, eX6_stuck_13, eX6_stuck_16, eX6_stuck_19, eX6_stuck_22, eX6_stuck_23, eX6_stuck_24, eX6_stuck_25, eX6_stuck_28, eX6_stuck_31, eX6_stuck_33, en_kl_0, en_kl_i, en_kl_r, en_kl_n, en_kl_l, en_Ec_some, en_Ec_void, en_rcv, en_stk, List.map_cons, List.map_nil, List.sum_cons, List.sum_nil, Value.category, Nat.reduceAdd, Nat.reduceLeDiff, decide_true, true_and, and_true, and_self, zI_add, zI_sub, zI_mul, zI_neg, zI_lt, zI_le, zI_eq, zI_cl, zI_0, zI_1, zI_m1, zI_lit, zT_0, zT_01, zI_01, zI_11, ↓reduceIte, if_true, if_false, not_false_eq_true, not_true_eq_false, Int.reduceEq, Int.reduceLT, Int.reduceLE, Classical.not_not, Bool.false_eq_true, lI_of, lI_0, lI_1, lI_m1, lI_lit, lI_neg, lI_add, lI_sub, lI_mul, lc_lt, lc_gt, lc_le, lc_ge, fi_19, ft_19_0, ft_19_1, ft_19_2, ft_19_3, ft_19_5, ft_19_6, ft_19_7, ft_19_8, ft_19_12, ft_19_13, ft_19_14, ft_19_15, ft_19_16, ft_19_21, xi_20, xi_21, xi_22, xi_23, xi_24, xi_25, xi_26, xi_27, xi_28, xi_29, xi_30, xi_31, xi_32, xi_33, Int.toNat_natCast, Int.reduceToNat, e1, r_in, zT_f d2]
    exact hQ
  · rw [zT_f d1] at e1
    simp (disch := omega) only [eX6_stuck_0, eX6_stuck_1, eX6_stuck_2, eX6_stuck_5, eX6_stuck_8, eX6_stuck_9, eX6_stuck_10, eX6_stuck_13, eX6_stuck_16, eX6_stuck_19, eX6_stuck_22, eX6_stuck_23, eX6_stuck_24, eX6_stuck_25, eX6_stuck_28, eX6_stuck_31, eX6_stuck_33, en_kl_0, en_kl_i, en_kl_r, en_kl_n, en_kl_l, en_Ec_some, en_Ec_void, en_rcv, en_stk, List.map_cons, List.map_nil, List.sum_cons, List.sum_nil, Value.category, Nat.reduceAdd, Nat.reduceLeDiff, decide_true, true_and, and_true, and_self, zI_add, zI_sub, zI_mul, zI_neg, zI_lt, zI_le, zI_eq, zI_cl, zI_0, zI_1, zI_m1, zI_lit, zT_0, zT_01, zI_01, zI_11, ↓reduceIte, if_true, if_false, not_false_eq_true, not_true_eq_false, Int.reduceEq, Int.reduceLT, Int.reduceLE, Classical.not_not, Bool.false_eq_true, lI_of, lI_0, lI_1, lI_m1, lI_lit, lI_neg, lI_add, lI_sub, lI_mul, lc_lt, lc_gt, lc_le, lc_ge, fi_19, ft_19_0, ft_19_1, ft_19_2, ft_19_3, ft_19_5, ft_19_6, ft_19_7, ft_19_8, ft_19_12, ft_19_13, ft_19_14, ft_19_15, ft_19_16, ft_19_21, xi_20, xi_21, xi_22, xi_23, xi_24, xi_25, xi_26, xi_27, xi_28, xi_29, xi_30, xi_31, xi_32, xi_33, Int.toNat_natCast, Int.reduceToNat, e1]
    exact hQ
theorem r_stuck_ok (hG : bG w G s) (hP : bP w kick law life pat) (hT : bT w n tb) (c1 : 0 ≤ z) (c2 : z < tcn n tb) (r1 : -1 ≤ r) (r2 : r ≤ 9) : ∃ w', SX6_stuck [.ref 19, .int (zI z), .int (zI r)] w = some (some (.int (zI (aStk G s n tb kick law life pat z r))), w') ∧ ofr w w' := by
  have hcn := tcn_le (tb := tb) hT.2.1
  obtain ⟨w1, e1, f1, hm⟩ := r_isCoin (v := z) hT (by omega) (by omega)
  rw [zT_t (by omega)] at e1
  obtain ⟨c, hc⟩ : ∃ c : Nat, z = (c : Int) := ⟨z.toNat, by omega⟩
  subst hc
  obtain ⟨w2, e2, f2⟩ := r_stuckOf (c := c) (r := r) (hG.o f1.o) (hP.o f1.o) hm srt_t (by omega) r1 r2
  refine ⟨w2, en_val rfl (fun Q hQ => ?_), f1.o.tr f2⟩
  show en_Ev XX6_stuck 0 [some (.ref 19), some (.int (zI c)), some (.int (zI r))] [] w Q
  simp (disch := omega) only [eX6_stuck_0, eX6_stuck_1, eX6_stuck_2, eX6_stuck_5, eX6_stuck_8, eX6_stuck_9, eX6_stuck_10, eX6_stuck_13, eX6_stuck_16, eX6_stuck_19, eX6_stuck_22, eX6_stuck_23, eX6_stuck_24, eX6_stuck_25, eX6_stuck_28, eX6_stuck_31, eX6_stuck_33, en_kl_0, en_kl_i, en_kl_r, en_kl_n, en_kl_l, en_Ec_some, en_Ec_void, en_rcv, en_stk, List.map_cons, List.map_nil, List.sum_cons, List.sum_nil, Value.category, Nat.reduceAdd, Nat.reduceLeDiff, decide_true, true_and, and_true, and_self, zI_add, zI_sub, zI_mul, zI_neg, zI_lt, zI_le, zI_eq, zI_cl, zI_0, zI_1, zI_m1, zI_lit, zT_0, zT_01, zI_01, zI_11, ↓reduceIte, if_true, if_false, not_false_eq_true, not_true_eq_false, Int.reduceEq, Int.reduceLT, Int.reduceLE, Classical.not_not, Bool.false_eq_true, lI_of, lI_0, lI_1, lI_m1, lI_lit, lI_neg, lI_add, lI_sub, lI_mul, lc_lt, lc_gt, lc_le, lc_ge, fi_19, ft_19_0, ft_19_1, ft_19_2, ft_19_3, ft_19_5, ft_19_6, ft_19_7, ft_19_8, ft_19_12, ft_19_13, ft_19_14, ft_19_15, ft_19_16, ft_19_21, xi_20, xi_21, xi_22, xi_23, xi_24, xi_25, xi_26, xi_27, xi_28, xi_29, xi_30, xi_31, xi_32, xi_33, Int.toNat_natCast, Int.reduceToNat, e1, r_in, zT_t (And.intro r1 r2), e2]
  exact hQ
end
