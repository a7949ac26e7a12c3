/-! ===== the model's reading; the text's calls ===== -/
section
variable {w : en_W} {n c a : Nat} {tb : Nat → Int} {v x : Int}
theorem r_none {z : Int} (h : w 19 10 = zI z) : SX6_none [.ref 19] w = some (some (.int (zI z)), en_up w 19 11 (zI 0)) := by
  refine en_val rfl (fun Q hQ => ?_)
  show en_Ev XX6_none 0 [some (.ref 19)] [] w Q
  have e : en_up w 19 11 (zI 0) 19 10 = zI z := by rw [en_up_eq, upd_ne (by decide)]; exact h
  simp (disch := omega) only [eX6_none_0, eX6_none_1, eX6_none_2, eX6_none_5, eX6_none_6, eX6_none_9, en_kl_0, en_kl_i, en_kl_r, en_kl_n, en_kl_l, en_Ec_some, en_Ec_void, en_rcv, en_stk, List.map_cons, List.map_nil, List.sum_cons, List.sum_nil, Value.category, Nat.reduceAdd, Nat.reduceLeDiff, decide_true, true_and, and_true, and_self, zI_add, zI_sub, zI_mul, zI_neg, zI_lt, zI_le, zI_eq, zI_cl, zI_0, zI_1, zI_m1, zI_lit, zT_0, zT_01, zI_01, zI_11, ↓reduceIte, if_true, if_false, not_false_eq_true, not_true_eq_false, Int.reduceEq, Int.reduceLT, Int.reduceLE, Classical.not_not, Bool.false_eq_true, fi_19, ft_19_0, ft_19_1, ft_19_2, ft_19_3, ft_19_5, ft_19_6, ft_19_7, ft_19_8, ft_19_12, ft_19_13, ft_19_14, ft_19_15, ft_19_16, ft_19_21, xi_20, xi_21, xi_22, xi_23, xi_24, xi_25, xi_26, xi_27, xi_28, xi_29, xi_30, xi_31, xi_32, xi_33, Int.toNat_natCast, Int.reduceToNat, e]
  exact hQ
theorem mC_0 {cm cb : Nat → Int} (h : w 19 11 = zI 0) : mC w 0 cm cb := ⟨h, by omega, fun i hi => absurd hi (by omega)⟩
theorem r_reads (hT : bT w n tb) : ∃ w', SX6_reads [.ref 19] w = some (some (.int (zI (tfault n tb))), w') ∧ rfr w w' ∧ mC w' (tcn n tb) (tcm n tb) (tcb n tb) := by
  refine en_exq rfl (fun Q hQ => ?_)
  show en_Ev XX6_reads 0 [some (.ref 19), none] [] w Q
  have hn80 := hT.2.1
  -- a fault: no coins
  have fail : ∀ w1, rfr w w1 → tfault n tb ≠ -1 → w1 19 10 = zI (tfault n tb) → ∀ w2, w2 = en_up w1 19 11 (zI 0) → Q (some (.int (zI (tfault n tb)))) w2 := by
    intro w1 h1 h2 h3 w2 hw2
    refine hQ w2 ⟨hw2 ▸ h1.up (.inr rfl), ?_⟩
    have : tcn n tb = 0 := if_neg h2
    rw [this]
    exact mC_0 (by rw [hw2, en_up_eq, upd_eq])
  have loop : ∀ (d c : Nat) (w1 : en_W), c + d = 21 → c ≤ 20 → n ≠ 0 → 4 * c ≤ n → rfr w w1 → w1 19 10 = zI (4 * c : Nat) → w1 19 11 = zI c → (∀ j, j < 4 * c → tok n tb j) → (∀ i, i < c → w1 28 (2 * i) = zI (tcm n tb i) ∧ w1 28 (2 * i + 1) = zI (tcb n tb i)) → en_Ev XX6_reads 23 [some (.ref 19), some (.int (zI 1))] [] w1 Q := by
    intro d
    induction d with
    | zero => intro c w1 h1 h2; omega
    | succ d ih =>
      intro c w1 h1 h2 hn0 h4 hr ha hc hok hcs
      have hT1 := hT.rfr hr
      have part := fun Q' => r_readsPart (Q := Q') hT1 ha hc h2 h4 hn0 (fun z => by
        have := (hcs (c - 1) (by omega)).1
        rw [show 2 * (c - 1) = 2 * c - 2 by omega] at this
        exact this) hok
      rw [eX6_reads_23]
      simp (disch := omega) only [eX6_reads_24, eX6_reads_27, eX6_reads_28, en_kl_0, en_kl_i, en_kl_r, en_kl_n, en_kl_l, en_Ec_some, en_Ec_void, en_rcv, en_stk, List.map_cons, List.map_nil, List.sum_cons, List.sum_nil, Value.category, Nat.reduceAdd, Nat.reduceLeDiff, decide_true, true_and, and_true, and_self, zI_add, zI_sub, zI_mul, zI_neg, zI_lt, zI_le, zI_eq, zI_cl, zI_0, zI_1, zI_m1, zI_lit, zT_0, zT_01, zI_01, zI_11, ↓reduceIte, if_true, if_false, not_false_eq_true, not_true_eq_false, Int.reduceEq, Int.reduceLT, Int.reduceLE, Classical.not_not, Bool.false_eq_true, fi_19, ft_19_0, ft_19_1, ft_19_2, ft_19_3, ft_19_5, ft_19_6, ft_19_7, ft_19_8, ft_19_12, ft_19_13, ft_19_14, ft_19_15, ft_19_16, ft_19_21, xi_20, xi_21, xi_22, xi_23, xi_24, xi_25, xi_26, xi_27, xi_28, xi_29, xi_30, xi_31, xi_32, xi_33, Int.toNat_natCast, Int.reduceToNat]
      -- the part, read
      obtain ⟨r2, w2, e2, hP⟩ := en_ex (X := XX6_readsPart) (nL := 4) (As := [.ref 19]) (w := w1) rfl (P := fun r w' => (r = some (.int (zI 1)) ∧ rfr w1 w' ∧ c < 20 ∧ 4 * c + 2 < n ∧ (∀ j, j < 4 * c + 3 → tok n tb j) ∧ w' 19 10 = zI (4 * c + 3 : Nat) ∧ w' 19 11 = zI (c + 1 : Nat) ∧ w' 28 (2 * c) = zI (tcm n tb c) ∧ w' 28 (2 * c + 1) = zI (tcb n tb c) ∧ (∀ j, j < 2 * c → w' 28 j = w1 28 j)) ∨ (r = some (.int (zI 0)) ∧ rfr w1 w' ∧ tfault n tb ≠ -1 ∧ w' 19 10 = zI (tfault n tb))) (part _ (fun w' a1 a2 a3 a4 a5 a6 a7 a8 a9 => .inl ⟨rfl, a1, a2, a3, a4, a5, a6, a7, a8, a9⟩) (fun w' a1 a2 a3 => .inr ⟨rfl, a1, a2, a3⟩))
      change SX6_readsPart [.ref 19] w1 = _ at e2
      rcases hP with ⟨hr1, a1, a2, a3, a4, a5, a6, a7, a8, a9⟩ | ⟨hr1, a1, a2, a3⟩
      · rw [hr1] at e2
        have hT2 := hT1.rfr a1
        have t9 := hT2.1
        by_cases more : 4 * c + 3 < n
        · have m1 : ¬ (n : Int) ≤ ((4 * c + 3 : Nat) : Int) := by omega
          have hh := r_here (a := 4 * c + 3) hT2 a5 (by omega)
          have hv3 : hv n tb (4 * c + 3) = tb (4 * c + 3) := if_pos more
          have hrg := hv_rng (a := 4 * c + 3) hT2
          by_cases semi : tb (4 * c + 3) = 59
          · have s1 : hv n tb (4 * c + 3) = 59 := by rw [hv3]; exact semi
            rw [s1] at hh
            simp (disch := omega) only [eX6_reads_0, eX6_reads_1, eX6_reads_2, eX6_reads_5, eX6_reads_6, eX6_reads_7, eX6_reads_10, eX6_reads_11, eX6_reads_14, eX6_reads_17, eX6_reads_18, eX6_reads_21, eX6_reads_22, eX6_reads_24, eX6_reads_27, eX6_reads_28, eX6_reads_31, eX6_reads_34, eX6_reads_35, eX6_reads_38, eX6_reads_39, eX6_reads_40, eX6_reads_43, eX6_reads_44, eX6_reads_47, eX6_reads_50, eX6_reads_51, eX6_reads_54, eX6_reads_55, eX6_reads_56, eX6_reads_57, eX6_reads_60, eX6_reads_61, eX6_reads_64, eX6_reads_66, eX6_reads_69, eX6_reads_70, eX6_reads_73, eX6_reads_74, eX6_reads_75, eX6_reads_75i, eX6_reads_76, eX6_reads_79, eX6_reads_80, eX6_reads_83, eX6_reads_84, eX6_reads_87, eX6_reads_88, eX6_reads_89, eX6_reads_92, eX6_reads_95, eX6_reads_96, en_kl_0, en_kl_i, en_kl_r, en_kl_n, en_kl_l, en_Ec_some, en_Ec_void, en_rcv, en_stk, List.map_cons, List.map_nil, List.sum_cons, List.sum_nil, Value.category, Nat.reduceAdd, Nat.reduceLeDiff, decide_true, true_and, and_true, and_self, zI_add, zI_sub, zI_mul, zI_neg, zI_lt, zI_le, zI_eq, zI_cl, zI_0, zI_1, zI_m1, zI_lit, zT_0, zT_01, zI_01, zI_11, ↓reduceIte, if_true, if_false, not_false_eq_true, not_true_eq_false, Int.reduceEq, Int.reduceLT, Int.reduceLE, Classical.not_not, Bool.false_eq_true, fi_19, ft_19_0, ft_19_1, ft_19_2, ft_19_3, ft_19_5, ft_19_6, ft_19_7, ft_19_8, ft_19_12, ft_19_13, ft_19_14, ft_19_15, ft_19_16, ft_19_21, xi_20, xi_21, xi_22, xi_23, xi_24, xi_25, xi_26, xi_27, xi_28, xi_29, xi_30, xi_31, xi_32, xi_33, Int.toNat_natCast, Int.reduceToNat, e2, a5, t9, m1, hh]
            refine ih (c + 1) _ (by omega) (by omega) hn0 (by omega) ((hr.tr a1).up (.inl rfl)) ?_ ?_ (fun j hj => ?_) (fun i hi => ?_)
            · rw [en_up_eq, upd_eq]
              rw [show ((4 * (c + 1) : Nat) : Int) = ((4 * c + 3 : Nat) : Int) + 1 by omega]
            · rw [en_up_eq, upd_ne (by decide)]; exact a6
            · by_cases z : j = 4 * c + 3
              · rw [z, tok_3 (by omega)]; exact semi
              · exact a4 j (by omega)
            · rw [en_up_ne (by decide)]
              by_cases z : i = c
              · rw [z]; exact ⟨a7, a8⟩
              · rw [a9 (2 * i) (by omega), a9 (2 * i + 1) (by omega)]; exact hcs i (by omega)
          · have s1 : ¬ hv n tb (4 * c + 3) = 59 := by rw [hv3]; exact semi
            have hf := tfault_at more a4 (fun h => semi ((tok_3 (by omega)).mp h))
            have hno := r_none a5
            simp (disch := omega) only [eX6_reads_0, eX6_reads_1, eX6_reads_2, eX6_reads_5, eX6_reads_6, eX6_reads_7, eX6_reads_10, eX6_reads_11, eX6_reads_14, eX6_reads_17, eX6_reads_18, eX6_reads_21, eX6_reads_22, eX6_reads_24, eX6_reads_27, eX6_reads_28, eX6_reads_31, eX6_reads_34, eX6_reads_35, eX6_reads_38, eX6_reads_39, eX6_reads_40, eX6_reads_43, eX6_reads_44, eX6_reads_47, eX6_reads_50, eX6_reads_51, eX6_reads_54, eX6_reads_55, eX6_reads_56, eX6_reads_57, eX6_reads_60, eX6_reads_61, eX6_reads_64, eX6_reads_66, eX6_reads_69, eX6_reads_70, eX6_reads_73, eX6_reads_74, eX6_reads_75, eX6_reads_75i, eX6_reads_76, eX6_reads_79, eX6_reads_80, eX6_reads_83, eX6_reads_84, eX6_reads_87, eX6_reads_88, eX6_reads_89, eX6_reads_92, eX6_reads_95, eX6_reads_96, en_kl_0, en_kl_i, en_kl_r, en_kl_n, en_kl_l, en_Ec_some, en_Ec_void, en_rcv, en_stk, List.map_cons, List.map_nil, List.sum_cons, List.sum_nil, Value.category, Nat.reduceAdd, Nat.reduceLeDiff, decide_true, true_and, and_true, and_self, zI_add, zI_sub, zI_mul, zI_neg, zI_lt, zI_le, zI_eq, zI_cl, zI_0, zI_1, zI_m1, zI_lit, zT_0, zT_01, zI_01, zI_11, ↓reduceIte, if_true, if_false, not_false_eq_true, not_true_eq_false, Int.reduceEq, Int.reduceLT, Int.reduceLE, Classical.not_not, Bool.false_eq_true, fi_19, ft_19_0, ft_19_1, ft_19_2, ft_19_3, ft_19_5, ft_19_6, ft_19_7, ft_19_8, ft_19_12, ft_19_13, ft_19_14, ft_19_15, ft_19_16, ft_19_21, xi_20, xi_21, xi_22, xi_23, xi_24, xi_25, xi_26, xi_27, xi_28, xi_29, xi_30, xi_31, xi_32, xi_33, Int.toNat_natCast, Int.reduceToNat, e2, a5, t9, m1, hh, s1, hno]
            rw [← hf]
            exact fail w2 (hr.tr a1) (by omega) (by rw [hf]; exact a5) _ rfl
        · have m1 : (n : Int) ≤ ((4 * c + 3 : Nat) : Int) := by omega
          have hf := tfault_no (n := n) (tb := tb) (.inr (by omega)) (fun j hj => a4 j (by omega))
          have hcn : tcn n tb = c + 1 := by
            unfold tcn
            rw [if_pos hf]
            omega
          simp (disch := omega) only [eX6_reads_0, eX6_reads_1, eX6_reads_2, eX6_reads_5, eX6_reads_6, eX6_reads_7, eX6_reads_10, eX6_reads_11, eX6_reads_14, eX6_reads_17, eX6_reads_18, eX6_reads_21, eX6_reads_22, eX6_reads_24, eX6_reads_27, eX6_reads_28, eX6_reads_31, eX6_reads_34, eX6_reads_35, eX6_reads_38, eX6_reads_39, eX6_reads_40, eX6_reads_43, eX6_reads_44, eX6_reads_47, eX6_reads_50, eX6_reads_51, eX6_reads_54, eX6_reads_55, eX6_reads_56, eX6_reads_57, eX6_reads_60, eX6_reads_61, eX6_reads_64, eX6_reads_66, eX6_reads_69, eX6_reads_70, eX6_reads_73, eX6_reads_74, eX6_reads_75, eX6_reads_75i, eX6_reads_76, eX6_reads_79, eX6_reads_80, eX6_reads_83, eX6_reads_84, eX6_reads_87, eX6_reads_88, eX6_reads_89, eX6_reads_92, eX6_reads_95, eX6_reads_96, en_kl_0, en_kl_i, en_kl_r, en_kl_n, en_kl_l, en_Ec_some, en_Ec_void, en_rcv, en_stk, List.map_cons, List.map_nil, List.sum_cons, List.sum_nil, Value.category, Nat.reduceAdd, Nat.reduceLeDiff, decide_true, true_and, and_true, and_self, zI_add, zI_sub, zI_mul, zI_neg, zI_lt, zI_le, zI_eq, zI_cl, zI_0, zI_1, zI_m1, zI_lit, zT_0, zT_01, zI_01, zI_11, ↓reduceIte, if_true, if_false, not_false_eq_true, not_true_eq_false, Int.reduceEq, Int.reduceLT, Int.reduceLE, Classical.not_not, Bool.false_eq_true, fi_19, ft_19_0, ft_19_1, ft_19_2, ft_19_3, ft_19_5, ft_19_6, ft_19_7, ft_19_8, ft_19_12, ft_19_13, ft_19_14, ft_19_15, ft_19_16, ft_19_21, xi_20, xi_21, xi_22, xi_23, xi_24, xi_25, xi_26, xi_27, xi_28, xi_29, xi_30, xi_31, xi_32, xi_33, Int.toNat_natCast, Int.reduceToNat, e2, a5, t9, m1]
          rw [eX6_reads_23]
          simp (disch := omega) only [eX6_reads_0, eX6_reads_1, eX6_reads_2, eX6_reads_5, eX6_reads_6, eX6_reads_7, eX6_reads_10, eX6_reads_11, eX6_reads_14, eX6_reads_17, eX6_reads_18, eX6_reads_21, eX6_reads_22, eX6_reads_24, eX6_reads_27, eX6_reads_28, eX6_reads_31, eX6_reads_34, eX6_reads_35, eX6_reads_38, eX6_reads_39, eX6_reads_40, eX6_reads_43, eX6_reads_44, eX6_reads_47, eX6_reads_50, eX6_reads_51, eX6_reads_54, eX6_reads_55, eX6_reads_56, eX6_reads_57, eX6_reads_60, eX6_reads_61, eX6_reads_64, eX6_reads_66, eX6_reads_69, eX6_reads_70, eX6_reads_73, eX6_reads_74, eX6_reads_75, eX6_reads_75i, eX6_reads_76, eX6_reads_79, eX6_reads_80, eX6_reads_83, eX6_reads_84, eX6_reads_87, eX6_reads_88, eX6_reads_89, eX6_reads_92, eX6_reads_95, eX6_reads_96, en_kl_0, en_kl_i, en_kl_r, en_kl_n, en_kl_l, en_Ec_some, en_Ec_void, en_rcv, en_stk, List.map_cons, List.map_nil, List.sum_cons, List.sum_nil, Value.category, Nat.reduceAdd, Nat.reduceLeDiff, decide_true, true_and, and_true, and_self, zI_add, zI_sub, zI_mul, zI_neg, zI_lt, zI_le, zI_eq, zI_cl, zI_0, zI_1, zI_m1, zI_lit, zT_0, zT_01, zI_01, zI_11, ↓reduceIte, if_true, if_false, not_false_eq_true, not_true_eq_false, Int.reduceEq, Int.reduceLT, Int.reduceLE, Classical.not_not, Bool.false_eq_true, fi_19, ft_19_0, ft_19_1, ft_19_2, ft_19_3, ft_19_5, ft_19_6, ft_19_7, ft_19_8, ft_19_12, ft_19_13, ft_19_14, ft_19_15, ft_19_16, ft_19_21, xi_20, xi_21, xi_22, xi_23, xi_24, xi_25, xi_26, xi_27, xi_28, xi_29, xi_30, xi_31, xi_32, xi_33, Int.toNat_natCast, Int.reduceToNat]
          rw [hf, hcn] at hQ
          refine hQ _ ⟨(hr.tr a1).up (.inl rfl), ?_, by omega, fun i hi => ?_⟩
          · rw [en_up_eq, upd_ne (by decide)]; exact a6
          · rw [en_up_ne (by decide)]
            have hco := tcoin_ok hf (c := i) (by omega)
            refine (and_assoc (b := _)).mp ⟨?_, hco.1, hco.2.1, hco.2.2.1, hco.2.2.2.1⟩
            by_cases z : i = c
            · rw [z]; exact ⟨a7, a8⟩
            · rw [a9 (2 * i) (by omega), a9 (2 * i + 1) (by omega)]; exact hcs i (by omega)
      · rw [hr1] at e2
        have hno := r_none a3
        simp (disch := omega) only [eX6_reads_0, eX6_reads_1, eX6_reads_2, eX6_reads_5, eX6_reads_6, eX6_reads_7, eX6_reads_10, eX6_reads_11, eX6_reads_14, eX6_reads_17, eX6_reads_18, eX6_reads_21, eX6_reads_22, eX6_reads_24, eX6_reads_27, eX6_reads_28, eX6_reads_31, eX6_reads_34, eX6_reads_35, eX6_reads_38, eX6_reads_39, eX6_reads_40, eX6_reads_43, eX6_reads_44, eX6_reads_47, eX6_reads_50, eX6_reads_51, eX6_reads_54, eX6_reads_55, eX6_reads_56, eX6_reads_57, eX6_reads_60, eX6_reads_61, eX6_reads_64, eX6_reads_66, eX6_reads_69, eX6_reads_70, eX6_reads_73, eX6_reads_74, eX6_reads_75, eX6_reads_75i, eX6_reads_76, eX6_reads_79, eX6_reads_80, eX6_reads_83, eX6_reads_84, eX6_reads_87, eX6_reads_88, eX6_reads_89, eX6_reads_92, eX6_reads_95, eX6_reads_96, en_kl_0, en_kl_i, en_kl_r, en_kl_n, en_kl_l, en_Ec_some, en_Ec_void, en_rcv, en_stk, List.map_cons, List.map_nil, List.sum_cons, List.sum_nil, Value.category, Nat.reduceAdd, Nat.reduceLeDiff, decide_true, true_and, and_true, and_self, zI_add, zI_sub, zI_mul, zI_neg, zI_lt, zI_le, zI_eq, zI_cl, zI_0, zI_1, zI_m1, zI_lit, zT_0, zT_01, zI_01, zI_11, ↓reduceIte, if_true, if_false, not_false_eq_true, not_true_eq_false, Int.reduceEq, Int.reduceLT, Int.reduceLE, Classical.not_not, Bool.false_eq_true, fi_19, ft_19_0, ft_19_1, ft_19_2, ft_19_3, ft_19_5, ft_19_6, ft_19_7, ft_19_8, ft_19_12, ft_19_13, ft_19_14, ft_19_15, ft_19_16, ft_19_21, xi_20, xi_21, xi_22, xi_23, xi_24, xi_25, xi_26, xi_27, xi_28, xi_29, xi_30, xi_31, xi_32, xi_33, Int.toNat_natCast, Int.reduceToNat, e2, hno]
        exact fail w2 (hr.tr a1) a2 a3 _ rfl
  have t9 := hT.1
  obtain ⟨w0, hw0⟩ : ∃ w0, en_up (en_up w 19 10 (zI 0)) 19 11 (zI 0) = w0 := ⟨_, rfl⟩
  have r0 : rfr w w0 := hw0 ▸ (rfr.rf.up (.inl rfl)).up (.inr rfl)
  have t0 := (hT.rfr r0).1
  have h10 : w0 19 10 = zI 0 := by rw [← hw0, en_up_eq, upd_ne (by decide), en_up_eq, upd_eq]
  have h11 : w0 19 11 = zI 0 := by rw [← hw0, en_up_eq, upd_eq]
  by_cases n0 : n = 0
  · have c1 : (n : Int) ≤ 0 := by omega
    have hf := tfault_no (n := n) (tb := tb) (.inl n0) (fun j hj => by omega)
    simp (disch := omega) only [eX6_reads_0, eX6_reads_1, eX6_reads_2, eX6_reads_5, eX6_reads_6, eX6_reads_7, eX6_reads_10, eX6_reads_11, eX6_reads_14, eX6_reads_17, eX6_reads_18, eX6_reads_21, eX6_reads_22, eX6_reads_24, eX6_reads_27, eX6_reads_28, eX6_reads_31, eX6_reads_34, eX6_reads_35, eX6_reads_38, eX6_reads_39, eX6_reads_40, eX6_reads_43, eX6_reads_44, eX6_reads_47, eX6_reads_50, eX6_reads_51, eX6_reads_54, eX6_reads_55, eX6_reads_56, eX6_reads_57, eX6_reads_60, eX6_reads_61, eX6_reads_64, eX6_reads_66, eX6_reads_69, eX6_reads_70, eX6_reads_73, eX6_reads_74, eX6_reads_75, eX6_reads_75i, eX6_reads_76, eX6_reads_79, eX6_reads_80, eX6_reads_83, eX6_reads_84, eX6_reads_87, eX6_reads_88, eX6_reads_89, eX6_reads_92, eX6_reads_95, eX6_reads_96, en_kl_0, en_kl_i, en_kl_r, en_kl_n, en_kl_l, en_Ec_some, en_Ec_void, en_rcv, en_stk, List.map_cons, List.map_nil, List.sum_cons, List.sum_nil, Value.category, Nat.reduceAdd, Nat.reduceLeDiff, decide_true, true_and, and_true, and_self, zI_add, zI_sub, zI_mul, zI_neg, zI_lt, zI_le, zI_eq, zI_cl, zI_0, zI_1, zI_m1, zI_lit, zT_0, zT_01, zI_01, zI_11, ↓reduceIte, if_true, if_false, not_false_eq_true, not_true_eq_false, Int.reduceEq, Int.reduceLT, Int.reduceLE, Classical.not_not, Bool.false_eq_true, fi_19, ft_19_0, ft_19_1, ft_19_2, ft_19_3, ft_19_5, ft_19_6, ft_19_7, ft_19_8, ft_19_12, ft_19_13, ft_19_14, ft_19_15, ft_19_16, ft_19_21, xi_20, xi_21, xi_22, xi_23, xi_24, xi_25, xi_26, xi_27, xi_28, xi_29, xi_30, xi_31, xi_32, xi_33, Int.toNat_natCast, Int.reduceToNat, hw0, t0, c1]
    rw [eX6_reads_23]
    simp (disch := omega) only [eX6_reads_0, eX6_reads_1, eX6_reads_2, eX6_reads_5, eX6_reads_6, eX6_reads_7, eX6_reads_10, eX6_reads_11, eX6_reads_14, eX6_reads_17, eX6_reads_18, eX6_reads_21, eX6_reads_22, eX6_reads_24, eX6_reads_27, eX6_reads_28, eX6_reads_31, eX6_reads_34, eX6_reads_35, eX6_reads_38, eX6_reads_39, eX6_reads_40, eX6_reads_43, eX6_reads_44, eX6_reads_47, eX6_reads_50, eX6_reads_51, eX6_reads_54, eX6_reads_55, eX6_reads_56, eX6_reads_57, eX6_reads_60, eX6_reads_61, eX6_reads_64, eX6_reads_66, eX6_reads_69, eX6_reads_70, eX6_reads_73, eX6_reads_74, eX6_reads_75, eX6_reads_75i, eX6_reads_76, eX6_reads_79, eX6_reads_80, eX6_reads_83, eX6_reads_84, eX6_reads_87, eX6_reads_88, eX6_reads_89, eX6_reads_92, eX6_reads_95, eX6_reads_96, en_kl_0, en_kl_i, en_kl_r, en_kl_n, en_kl_l, en_Ec_some, en_Ec_void, en_rcv, en_stk, List.map_cons, List.map_nil, List.sum_cons, List.sum_nil, Value.category, Nat.reduceAdd, Nat.reduceLeDiff, decide_true, true_and, and_true, and_self, zI_add, zI_sub, zI_mul, zI_neg, zI_lt, zI_le, zI_eq, zI_cl, zI_0, zI_1, zI_m1, zI_lit, zT_0, zT_01, zI_01, zI_11, ↓reduceIte, if_true, if_false, not_false_eq_true, not_true_eq_false, Int.reduceEq, Int.reduceLT, Int.reduceLE, Classical.not_not, Bool.false_eq_true, fi_19, ft_19_0, ft_19_1, ft_19_2, ft_19_3, ft_19_5, ft_19_6, ft_19_7, ft_19_8, ft_19_12, ft_19_13, ft_19_14, ft_19_15, ft_19_16, ft_19_21, xi_20, xi_21, xi_22, xi_23, xi_24, xi_25, xi_26, xi_27, xi_28, xi_29, xi_30, xi_31, xi_32, xi_33, Int.toNat_natCast, Int.reduceToNat]
    rw [hf] at hQ
    refine hQ w0 ⟨r0, ?_⟩
    have : tcn n tb = 0 := by
      unfold tcn
      rw [if_pos hf, n0]
    rw [this]
    exact mC_0 h11
  · have c1 : ¬ (n : Int) ≤ 0 := by omega
    simp (disch := omega) only [eX6_reads_0, eX6_reads_1, eX6_reads_2, eX6_reads_5, eX6_reads_6, eX6_reads_7, eX6_reads_10, eX6_reads_11, eX6_reads_14, eX6_reads_17, eX6_reads_18, eX6_reads_21, eX6_reads_22, eX6_reads_24, eX6_reads_27, eX6_reads_28, eX6_reads_31, eX6_reads_34, eX6_reads_35, eX6_reads_38, eX6_reads_39, eX6_reads_40, eX6_reads_43, eX6_reads_44, eX6_reads_47, eX6_reads_50, eX6_reads_51, eX6_reads_54, eX6_reads_55, eX6_reads_56, eX6_reads_57, eX6_reads_60, eX6_reads_61, eX6_reads_64, eX6_reads_66, eX6_reads_69, eX6_reads_70, eX6_reads_73, eX6_reads_74, eX6_reads_75, eX6_reads_75i, eX6_reads_76, eX6_reads_79, eX6_reads_80, eX6_reads_83, eX6_reads_84, eX6_reads_87, eX6_reads_88, eX6_reads_89, eX6_reads_92, eX6_reads_95, eX6_reads_96, en_kl_0, en_kl_i, en_kl_r, en_kl_n, en_kl_l, en_Ec_some, en_Ec_void, en_rcv, en_stk, List.map_cons, List.map_nil, List.sum_cons, List.sum_nil, Value.category, Nat.reduceAdd, Nat.reduceLeDiff, decide_true, true_and, and_true, and_self, zI_add, zI_sub, zI_mul, zI_neg, zI_lt, zI_le, zI_eq, zI_cl, zI_0, zI_1, zI_m1, zI_lit, zT_0, zT_01, zI_01, zI_11, ↓reduceIte, if_true, if_false, not_false_eq_true, not_true_eq_false, Int.reduceEq, Int.reduceLT, Int.reduceLE, Classical.not_not, Bool.false_eq_true, fi_19, ft_19_0, ft_19_1, ft_19_2, ft_19_3, ft_19_5, ft_19_6, ft_19_7, ft_19_8, ft_19_12, ft_19_13, ft_19_14, ft_19_15, ft_19_16, ft_19_21, xi_20, xi_21, xi_22, xi_23, xi_24, xi_25, xi_26, xi_27, xi_28, xi_29, xi_30, xi_31, xi_32, xi_33, Int.toNat_natCast, Int.reduceToNat, hw0, t0, c1]
    exact loop 21 0 w0 rfl (by omega) n0 (by omega) r0 h10 h11 (fun j hj => absurd hj (by omega)) (fun i hi => absurd hi (by omega))
theorem r_fault (hT : bT w n tb) : ∃ w', SX6_fault [.ref 19] w = some (some (.int (zI (tfault n tb))), w') ∧ rfr w w' := by
  obtain ⟨w1, e1, r1, -⟩ := r_reads hT
  refine ⟨w1, en_val rfl (fun Q hQ => ?_), r1⟩
  show en_Ev XX6_fault 0 [some (.ref 19)] [] w Q
  simp (disch := omega) only [eX6_fault_0, eX6_fault_1, eX6_fault_4, en_kl_0, en_kl_i, en_kl_r, en_kl_n, en_kl_l, en_Ec_some, en_Ec_void, en_rcv, en_stk, List.map_cons, List.map_nil, List.sum_cons, List.sum_nil, Value.category, Nat.reduceAdd, Nat.reduceLeDiff, decide_true, true_and, and_true, and_self, zI_add, zI_sub, zI_mul, zI_neg, zI_lt, zI_le, zI_eq, zI_cl, zI_0, zI_1, zI_m1, zI_lit, zT_0, zT_01, zI_01, zI_11, ↓reduceIte, if_true, if_false, not_false_eq_true, not_true_eq_false, Int.reduceEq, Int.reduceLT, Int.reduceLE, Classical.not_not, Bool.false_eq_true, fi_19, ft_19_0, ft_19_1, ft_19_2, ft_19_3, ft_19_5, ft_19_6, ft_19_7, ft_19_8, ft_19_12, ft_19_13, ft_19_14, ft_19_15, ft_19_16, ft_19_21, xi_20, xi_21, xi_22, xi_23, xi_24, xi_25, xi_26, xi_27, xi_28, xi_29, xi_30, xi_31, xi_32, xi_33, Int.toNat_natCast, Int.reduceToNat, e1]
  exact hQ
theorem r_type_bad (h : ¬ (0 ≤ v ∧ v ≤ 255)) (h1 : -2147483648 ≤ v) (h2 : v < 2147483648) : SX6_type [.ref 19, .int (zI v)] w = some (some (.int (zI (-2))), w) := by
  refine en_val rfl (fun Q hQ => ?_)
  show en_Ev XX6_type 0 [some (.ref 19), some (.int (zI v))] [] w Q
  simp (disch := omega) only [eX6_type_0, eX6_type_1, eX6_type_2, eX6_type_3, eX6_type_6, eX6_type_9, eX6_type_12, eX6_type_14, eX6_type_15, eX6_type_16, eX6_type_19, eX6_type_21, eX6_type_24, eX6_type_26, eX6_type_27, eX6_type_28, eX6_type_31, eX6_type_32, eX6_type_35, eX6_type_36, eX6_type_37, eX6_type_38, eX6_type_38i, eX6_type_39, eX6_type_42, eX6_type_43, eX6_type_44, eX6_type_47, eX6_type_48, eX6_type_51, en_kl_0, en_kl_i, en_kl_r, en_kl_n, en_kl_l, en_Ec_some, en_Ec_void, en_rcv, en_stk, List.map_cons, List.map_nil, List.sum_cons, List.sum_nil, Value.category, Nat.reduceAdd, Nat.reduceLeDiff, decide_true, true_and, and_true, and_self, zI_add, zI_sub, zI_mul, zI_neg, zI_lt, zI_le, zI_eq, zI_cl, zI_0, zI_1, zI_m1, zI_lit, zT_0, zT_01, zI_01, zI_11, ↓reduceIte, if_true, if_false, not_false_eq_true, not_true_eq_false, Int.reduceEq, Int.reduceLT, Int.reduceLE, Classical.not_not, Bool.false_eq_true, lI_of, lI_0, lI_1, lI_m1, lI_lit, lI_neg, lI_add, lI_sub, lI_mul, lc_lt, lc_gt, lc_le, lc_ge, fi_19, ft_19_0, ft_19_1, ft_19_2, ft_19_3, ft_19_5, ft_19_6, ft_19_7, ft_19_8, ft_19_12, ft_19_13, ft_19_14, ft_19_15, ft_19_16, ft_19_21, xi_20, xi_21, xi_22, xi_23, xi_24, xi_25, xi_26, xi_27, xi_28, xi_29, xi_30, xi_31, xi_32, xi_33, Int.toNat_natCast, Int.reduceToNat, r_in, zT_f h]
  exact hQ
theorem r_type_full (hT : bT w n tb) (hn : n = 80) (h1 : 0 ≤ v) (h2 : v ≤ 255) : SX6_type [.ref 19, .int (zI v)] w = some (some (.int (zI (-4))), w) := by
  have t9 := hT.1
  have c1 : (n : Int) = 80 := by omega
  refine en_val rfl (fun Q hQ => ?_)
  show en_Ev XX6_type 0 [some (.ref 19), some (.int (zI v))] [] w Q
  simp (disch := omega) only [eX6_type_0, eX6_type_1, eX6_type_2, eX6_type_3, eX6_type_6, eX6_type_9, eX6_type_12, eX6_type_14, eX6_type_15, eX6_type_16, eX6_type_19, eX6_type_21, eX6_type_24, eX6_type_26, eX6_type_27, eX6_type_28, eX6_type_31, eX6_type_32, eX6_type_35, eX6_type_36, eX6_type_37, eX6_type_38, eX6_type_38i, eX6_type_39, eX6_type_42, eX6_type_43, eX6_type_44, eX6_type_47, eX6_type_48, eX6_type_51, en_kl_0, en_kl_i, en_kl_r, en_kl_n, en_kl_l, en_Ec_some, en_Ec_void, en_rcv, en_stk, List.map_cons, List.map_nil, List.sum_cons, List.sum_nil, Value.category, Nat.reduceAdd, Nat.reduceLeDiff, decide_true, true_and, and_true, and_self, zI_add, zI_sub, zI_mul, zI_neg, zI_lt, zI_le, zI_eq, zI_cl, zI_0, zI_1, zI_m1, zI_lit, zT_0, zT_01, zI_01, zI_11, ↓reduceIte, if_true, if_false, not_false_eq_true, not_true_eq_false, Int.reduceEq, Int.reduceLT, Int.reduceLE, Classical.not_not, Bool.false_eq_true, lI_of, lI_0, lI_1, lI_m1, lI_lit, lI_neg, lI_add, lI_sub, lI_mul, lc_lt, lc_gt, lc_le, lc_ge, fi_19, ft_19_0, ft_19_1, ft_19_2, ft_19_3, ft_19_5, ft_19_6, ft_19_7, ft_19_8, ft_19_12, ft_19_13, ft_19_14, ft_19_15, ft_19_16, ft_19_21, xi_20, xi_21, xi_22, xi_23, xi_24, xi_25, xi_26, xi_27, xi_28, xi_29, xi_30, xi_31, xi_32, xi_33, Int.toNat_natCast, Int.reduceToNat, r_in, zT_t (show 0 ≤ v ∧ v ≤ 255 from ⟨h1, h2⟩), t9, c1]
  exact hQ
theorem r_type_ok (hT : bT w n tb) (hn : n < 80) (h1 : 0 ≤ v) (h2 : v ≤ 255) : ∃ w', SX6_type [.ref 19, .int (zI v)] w = some (some (.int (zI ((n : Int) + 1))), w') ∧ bT w' (n + 1) (fun j => if j = n then v else tb j) ∧ w' = en_up (en_up w 27 n (zI v)) 19 9 (zI ((n : Int) + 1)) := by
  obtain ⟨t9, t8, t7⟩ := hT
  have c1 : ¬ (n : Int) = 80 := by omega
  have e0 : en_up w 27 n (zI v) 19 9 = zI n := by rw [en_up_ne (by decide)]; exact t9
  have e1 : en_up (en_up w 27 n (zI v)) 19 9 (zI ((n : Int) + 1)) 19 9 = zI ((n : Int) + 1) := by rw [en_up_eq, upd_eq]
  refine ⟨_, en_val rfl (fun Q hQ => ?_), ⟨?_, by omega, fun j hj => ?_⟩, rfl⟩
  · show en_Ev XX6_type 0 [some (.ref 19), some (.int (zI v))] [] w Q
    simp (disch := omega) only [eX6_type_0, eX6_type_1, eX6_type_2, eX6_type_3, eX6_type_6, eX6_type_9, eX6_type_12, eX6_type_14, eX6_type_15, eX6_type_16, eX6_type_19, eX6_type_21, eX6_type_24, eX6_type_26, eX6_type_27, eX6_type_28, eX6_type_31, eX6_type_32, eX6_type_35, eX6_type_36, eX6_type_37, eX6_type_38, eX6_type_38i, eX6_type_39, eX6_type_42, eX6_type_43, eX6_type_44, eX6_type_47, eX6_type_48, eX6_type_51, en_kl_0, en_kl_i, en_kl_r, en_kl_n, en_kl_l, en_Ec_some, en_Ec_void, en_rcv, en_stk, List.map_cons, List.map_nil, List.sum_cons, List.sum_nil, Value.category, Nat.reduceAdd, Nat.reduceLeDiff, decide_true, true_and, and_true, and_self, zI_add, zI_sub, zI_mul, zI_neg, zI_lt, zI_le, zI_eq, zI_cl, zI_0, zI_1, zI_m1, zI_lit, zT_0, zT_01, zI_01, zI_11, ↓reduceIte, if_true, if_false, not_false_eq_true, not_true_eq_false, Int.reduceEq, Int.reduceLT, Int.reduceLE, Classical.not_not, Bool.false_eq_true, lI_of, lI_0, lI_1, lI_m1, lI_lit, lI_neg, lI_add, lI_sub, lI_mul, lc_lt, lc_gt, lc_le, lc_ge, fi_19, ft_19_0, ft_19_1, ft_19_2, ft_19_3, ft_19_5, ft_19_6, ft_19_7, ft_19_8, ft_19_12, ft_19_13, ft_19_14, ft_19_15, ft_19_16, ft_19_21, xi_20, xi_21, xi_22, xi_23, xi_24, xi_25, xi_26, xi_27, xi_28, xi_29, xi_30, xi_31, xi_32, xi_33, Int.toNat_natCast, Int.reduceToNat, r_in, zT_t (show 0 ≤ v ∧ v ≤ 255 from ⟨h1, h2⟩), t9, c1, e0, e1]
    exact hQ
  · rw [en_up_eq, upd_eq]; rfl
  · rw [en_up_ne (by decide), en_up_eq]
    dsimp only
    by_cases e : j = n
    · rw [e, upd_eq, if_pos rfl]; exact ⟨rfl, h1, h2⟩
    · rw [upd_ne e, if_neg e]; exact t7 j (by omega)
theorem r_wipe (hT : bT w n tb) : SX6_wipe [.ref 19] w = some (some (.int (zI n)), en_up w 19 9 (zI 0)) := by
  have t9 := hT.1
  refine en_val rfl (fun Q hQ => ?_)
  show en_Ev XX6_wipe 0 [some (.ref 19), none] [] w Q
  simp (disch := omega) only [eX6_wipe_0, eX6_wipe_1, eX6_wipe_4, eX6_wipe_5, eX6_wipe_6, eX6_wipe_7, eX6_wipe_10, eX6_wipe_11, en_kl_0, en_kl_i, en_kl_r, en_kl_n, en_kl_l, en_Ec_some, en_Ec_void, en_rcv, en_stk, List.map_cons, List.map_nil, List.sum_cons, List.sum_nil, Value.category, Nat.reduceAdd, Nat.reduceLeDiff, decide_true, true_and, and_true, and_self, zI_add, zI_sub, zI_mul, zI_neg, zI_lt, zI_le, zI_eq, zI_cl, zI_0, zI_1, zI_m1, zI_lit, zT_0, zT_01, zI_01, zI_11, ↓reduceIte, if_true, if_false, not_false_eq_true, not_true_eq_false, Int.reduceEq, Int.reduceLT, Int.reduceLE, Classical.not_not, Bool.false_eq_true, fi_19, ft_19_0, ft_19_1, ft_19_2, ft_19_3, ft_19_5, ft_19_6, ft_19_7, ft_19_8, ft_19_12, ft_19_13, ft_19_14, ft_19_15, ft_19_16, ft_19_21, xi_20, xi_21, xi_22, xi_23, xi_24, xi_25, xi_26, xi_27, xi_28, xi_29, xi_30, xi_31, xi_32, xi_33, Int.toNat_natCast, Int.reduceToNat, t9]
  exact hQ
theorem r_undo_not (hT : bT w n tb) (h : tcn n tb = 0) : ∃ w', SX6_undo [.ref 19] w = some (some (.int (zI (-3))), w') ∧ rfr w w' := by
  obtain ⟨w1, e1, r1, hm⟩ := r_reads hT
  have h11 := hm.1
  rw [h] at h11
  refine ⟨w1, en_val rfl (fun Q hQ => ?_), r1⟩
  show en_Ev XX6_undo 0 [some (.ref 19)] [] w Q
  simp (disch := omega) only [eX6_undo_0, eX6_undo_1, eX6_undo_4, eX6_undo_5, eX6_undo_6, eX6_undo_9, eX6_undo_12, eX6_undo_14, eX6_undo_15, eX6_undo_16, eX6_undo_16i, eX6_undo_17, eX6_undo_20, eX6_undo_21, eX6_undo_24, eX6_undo_25, eX6_undo_28, eX6_undo_29, eX6_undo_32, eX6_undo_33, eX6_undo_34, eX6_undo_37, eX6_undo_38, eX6_undo_41, eX6_undo_42, eX6_undo_43, en_kl_0, en_kl_i, en_kl_r, en_kl_n, en_kl_l, en_Ec_some, en_Ec_void, en_rcv, en_stk, List.map_cons, List.map_nil, List.sum_cons, List.sum_nil, Value.category, Nat.reduceAdd, Nat.reduceLeDiff, decide_true, true_and, and_true, and_self, zI_add, zI_sub, zI_mul, zI_neg, zI_lt, zI_le, zI_eq, zI_cl, zI_0, zI_1, zI_m1, zI_lit, zT_0, zT_01, zI_01, zI_11, ↓reduceIte, if_true, if_false, not_false_eq_true, not_true_eq_false, Int.reduceEq, Int.reduceLT, Int.reduceLE, Classical.not_not, Bool.false_eq_true, fi_19, ft_19_0, ft_19_1, ft_19_2, ft_19_3, ft_19_5, ft_19_6, ft_19_7, ft_19_8, ft_19_12, ft_19_13, ft_19_14, ft_19_15, ft_19_16, ft_19_21, xi_20, xi_21, xi_22, xi_23, xi_24, xi_25, xi_26, xi_27, xi_28, xi_29, xi_30, xi_31, xi_32, xi_33, Int.toNat_natCast, Int.reduceToNat, e1, h11, Int.natCast_zero, Int.cast_ofNat_Int]
  exact hQ
theorem r_undo_ok (hT : bT w n tb) (h : tcn n tb ≠ 0) : ∃ w', SX6_undo [.ref 19] w = some (some (.int (zI ((tcn n tb : Int) - 1))), w') ∧ bT w' (n - 4) tb ∧ (en_fr [19, 28] w w' ∧ ∀ j, j ≠ 10 → j ≠ 11 → j ≠ 9 → w' 19 j = w 19 j) := by
  obtain ⟨w1, e1, r1, hm⟩ := r_reads hT
  have hT1 := hT.rfr r1
  have h11 := hm.1
  have t9 := hT1.1
  have hcn := hm.2.1
  obtain ⟨u1, u2, u3⟩ := tcn_undo h
  have hn80 := hT.2.1
  have e3 : tcn n tb = (n + 1) / 4 := if_pos u2
  have c1 : ¬ (tcn n tb : Int) = 0 := by omega
  have e4 : en_up w1 19 9 (zI ((n - 4 : Nat) : Int)) 19 11 = zI (tcn n tb) := by rw [en_up_eq, upd_ne (by decide)]; exact h11
  refine ⟨en_up w1 19 9 (zI ((n - 4 : Nat) : Int)), en_val rfl (fun Q hQ => ?_), ⟨?_, by omega, fun j hj => ?_⟩, r1.1.up (by simp), fun j a b c => ?_⟩
  · show en_Ev XX6_undo 0 [some (.ref 19)] [] w Q
    by_cases c2 : (tcn n tb : Int) = 1
    · have e5 : (n : Int) - 3 = ((n - 4 : Nat) : Int) := by omega
      simp (disch := omega) only [eX6_undo_0, eX6_undo_1, eX6_undo_4, eX6_undo_5, eX6_undo_6, eX6_undo_9, eX6_undo_12, eX6_undo_14, eX6_undo_15, eX6_undo_16, eX6_undo_16i, eX6_undo_17, eX6_undo_20, eX6_undo_21, eX6_undo_24, eX6_undo_25, eX6_undo_28, eX6_undo_29, eX6_undo_32, eX6_undo_33, eX6_undo_34, eX6_undo_37, eX6_undo_38, eX6_undo_41, eX6_undo_42, eX6_undo_43, en_kl_0, en_kl_i, en_kl_r, en_kl_n, en_kl_l, en_Ec_some, en_Ec_void, en_rcv, en_stk, List.map_cons, List.map_nil, List.sum_cons, List.sum_nil, Value.category, Nat.reduceAdd, Nat.reduceLeDiff, decide_true, true_and, and_true, and_self, zI_add, zI_sub, zI_mul, zI_neg, zI_lt, zI_le, zI_eq, zI_cl, zI_0, zI_1, zI_m1, zI_lit, zT_0, zT_01, zI_01, zI_11, ↓reduceIte, if_true, if_false, not_false_eq_true, not_true_eq_false, Int.reduceEq, Int.reduceLT, Int.reduceLE, Classical.not_not, Bool.false_eq_true, fi_19, ft_19_0, ft_19_1, ft_19_2, ft_19_3, ft_19_5, ft_19_6, ft_19_7, ft_19_8, ft_19_12, ft_19_13, ft_19_14, ft_19_15, ft_19_16, ft_19_21, xi_20, xi_21, xi_22, xi_23, xi_24, xi_25, xi_26, xi_27, xi_28, xi_29, xi_30, xi_31, xi_32, xi_33, Int.toNat_natCast, Int.reduceToNat, e1, h11, c1, t9]
      rw [if_pos c2]
      simp (disch := omega) only [eX6_undo_0, eX6_undo_1, eX6_undo_4, eX6_undo_5, eX6_undo_6, eX6_undo_9, eX6_undo_12, eX6_undo_14, eX6_undo_15, eX6_undo_16, eX6_undo_16i, eX6_undo_17, eX6_undo_20, eX6_undo_21, eX6_undo_24, eX6_undo_25, eX6_undo_28, eX6_undo_29, eX6_undo_32, eX6_undo_33, eX6_undo_34, eX6_undo_37, eX6_undo_38, eX6_undo_41, eX6_undo_42, eX6_undo_43, en_kl_0, en_kl_i, en_kl_r, en_kl_n, en_kl_l, en_Ec_some, en_Ec_void, en_rcv, en_stk, List.map_cons, List.map_nil, List.sum_cons, List.sum_nil, Value.category, Nat.reduceAdd, Nat.reduceLeDiff, decide_true, true_and, and_true, and_self, zI_add, zI_sub, zI_mul, zI_neg, zI_lt, zI_le, zI_eq, zI_cl, zI_0, zI_1, zI_m1, zI_lit, zT_0, zT_01, zI_01, zI_11, ↓reduceIte, if_true, if_false, not_false_eq_true, not_true_eq_false, Int.reduceEq, Int.reduceLT, Int.reduceLE, Classical.not_not, Bool.false_eq_true, fi_19, ft_19_0, ft_19_1, ft_19_2, ft_19_3, ft_19_5, ft_19_6, ft_19_7, ft_19_8, ft_19_12, ft_19_13, ft_19_14, ft_19_15, ft_19_16, ft_19_21, xi_20, xi_21, xi_22, xi_23, xi_24, xi_25, xi_26, xi_27, xi_28, xi_29, xi_30, xi_31, xi_32, xi_33, Int.toNat_natCast, Int.reduceToNat, t9, e5, e4]
      exact hQ
    · have e5 : (n : Int) - 4 = ((n - 4 : Nat) : Int) := by omega
      simp (disch := omega) only [eX6_undo_0, eX6_undo_1, eX6_undo_4, eX6_undo_5, eX6_undo_6, eX6_undo_9, eX6_undo_12, eX6_undo_14, eX6_undo_15, eX6_undo_16, eX6_undo_16i, eX6_undo_17, eX6_undo_20, eX6_undo_21, eX6_undo_24, eX6_undo_25, eX6_undo_28, eX6_undo_29, eX6_undo_32, eX6_undo_33, eX6_undo_34, eX6_undo_37, eX6_undo_38, eX6_undo_41, eX6_undo_42, eX6_undo_43, en_kl_0, en_kl_i, en_kl_r, en_kl_n, en_kl_l, en_Ec_some, en_Ec_void, en_rcv, en_stk, List.map_cons, List.map_nil, List.sum_cons, List.sum_nil, Value.category, Nat.reduceAdd, Nat.reduceLeDiff, decide_true, true_and, and_true, and_self, zI_add, zI_sub, zI_mul, zI_neg, zI_lt, zI_le, zI_eq, zI_cl, zI_0, zI_1, zI_m1, zI_lit, zT_0, zT_01, zI_01, zI_11, ↓reduceIte, if_true, if_false, not_false_eq_true, not_true_eq_false, Int.reduceEq, Int.reduceLT, Int.reduceLE, Classical.not_not, Bool.false_eq_true, fi_19, ft_19_0, ft_19_1, ft_19_2, ft_19_3, ft_19_5, ft_19_6, ft_19_7, ft_19_8, ft_19_12, ft_19_13, ft_19_14, ft_19_15, ft_19_16, ft_19_21, xi_20, xi_21, xi_22, xi_23, xi_24, xi_25, xi_26, xi_27, xi_28, xi_29, xi_30, xi_31, xi_32, xi_33, Int.toNat_natCast, Int.reduceToNat, e1, h11, c1, c2, t9, e5, e4]
      exact hQ
  · rw [en_up_eq, upd_eq]
  · rw [en_up_ne (by decide)]; exact hT1.2.2 j (by omega)
  · rw [en_up_eq, upd_ne c]; exact r1.2 j a b
theorem r_isCoin (hT : bT w n tb) (h1 : -2147483648 ≤ v) (h2 : v < 2147483648) : ∃ w', SX6_isCoin [.ref 19, .int (zI v)] w = some (some (.int (zT (0 ≤ v ∧ v ≤ (tcn n tb : Int) - 1))), w') ∧ rfr w w' ∧ mC w' (tcn n tb) (tcm n tb) (tcb n tb) := by
  obtain ⟨w1, e1, r1, hm⟩ := r_reads hT
  have h11 := hm.1
  have hcn := hm.2.1
  refine ⟨w1, en_val rfl (fun Q hQ => ?_), r1, hm⟩
  show en_Ev XX6_isCoin 0 [some (.ref 19), some (.int (zI v))] [] w Q
  simp (disch := omega) only [eX6_isCoin_0, eX6_isCoin_1, eX6_isCoin_4, eX6_isCoin_5, eX6_isCoin_6, eX6_isCoin_7, eX6_isCoin_8, eX6_isCoin_9, eX6_isCoin_12, eX6_isCoin_13, eX6_isCoin_14, eX6_isCoin_15, eX6_isCoin_18, en_kl_0, en_kl_i, en_kl_r, en_kl_n, en_kl_l, en_Ec_some, en_Ec_void, en_rcv, en_stk, List.map_cons, List.map_nil, List.sum_cons, List.sum_nil, Value.category, Nat.reduceAdd, Nat.reduceLeDiff, decide_true, true_and, and_true, and_self, zI_add, zI_sub, zI_mul, zI_neg, zI_lt, zI_le, zI_eq, zI_cl, zI_0, zI_1, zI_m1, zI_lit, zT_0, zT_01, zI_01, zI_11, ↓reduceIte, if_true, if_false, not_false_eq_true, not_true_eq_false, Int.reduceEq, Int.reduceLT, Int.reduceLE, Classical.not_not, Bool.false_eq_true, lI_of, lI_0, lI_1, lI_m1, lI_lit, lI_neg, lI_add, lI_sub, lI_mul, lc_lt, lc_gt, lc_le, lc_ge, fi_19, ft_19_0, ft_19_1, ft_19_2, ft_19_3, ft_19_5, ft_19_6, ft_19_7, ft_19_8, ft_19_12, ft_19_13, ft_19_14, ft_19_15, ft_19_16, ft_19_21, xi_20, xi_21, xi_22, xi_23, xi_24, xi_25, xi_26, xi_27, xi_28, xi_29, xi_30, xi_31, xi_32, xi_33, Int.toNat_natCast, Int.reduceToNat, e1, h11, r_in]
  exact hQ
theorem r_coin (hT : bT w n tb) (h1 : -2147483648 ≤ v) (h2 : v < 2147483648) (h3 : -2147483648 ≤ x) (h4 : x < 2147483648) : ∃ w', SX6_coin [.ref 19, .int (zI v), .int (zI x)] w = some (some (.int (zI (if (0 ≤ v ∧ v < tcn n tb) ∧ (0 ≤ x ∧ x ≤ 1) then (if x = 0 then tcm n tb v.toNat else tcb n tb v.toNat) else -2))), w') ∧ rfr w w' := by
  obtain ⟨w1, e1, r1, hm⟩ := r_isCoin (v := v) hT h1 h2
  have hcn := hm.2.1
  refine ⟨w1, en_val rfl (fun Q hQ => ?_), r1⟩
  show en_Ev XX6_coin 0 [some (.ref 19), some (.int (zI v)), some (.int (zI x))] [] w Q
  by_cases c1 : 0 ≤ v ∧ v ≤ (tcn n tb : Int) - 1
  · rw [zT_t c1] at e1
    by_cases c2 : 0 ≤ x ∧ x ≤ 1
    · rw [if_pos ⟨by omega, c2⟩] at hQ
      obtain ⟨g1, g2, -⟩ := hm.2.2 v.toNat (by omega)
      by_cases c3 : x = 0
      · subst c3
        rw [if_pos rfl] at hQ
        have e5 : (2 * v + 0).toNat = 2 * v.toNat := by omega
        simp (disch := omega) only [eX6_coin_0, eX6_coin_1, eX6_coin_2, eX6_coin_5, eX6_coin_8, eX6_coin_9, eX6_coin_12, eX6_coin_15, eX6_coin_16, eX6_coin_19, eX6_coin_20, eX6_coin_21, eX6_coin_22, eX6_coin_23, eX6_coin_24, eX6_coin_25, eX6_coin_28, eX6_coin_30, en_kl_0, en_kl_i, en_kl_r, en_kl_n, en_kl_l, en_Ec_some, en_Ec_void, en_rcv, en_stk, List.map_cons, List.map_nil, List.sum_cons, List.sum_nil, Value.category, Nat.reduceAdd, Nat.reduceLeDiff, decide_true, true_and, and_true, and_self, zI_add, zI_sub, zI_mul, zI_neg, zI_lt, zI_le, zI_eq, zI_cl, zI_0, zI_1, zI_m1, zI_lit, zT_0, zT_01, zI_01, zI_11, ↓reduceIte, if_true, if_false, not_false_eq_true, not_true_eq_false, Int.reduceEq, Int.reduceLT, Int.reduceLE, Classical.not_not, Bool.false_eq_true, fi_19, ft_19_0, ft_19_1, ft_19_2, ft_19_3, ft_19_5, ft_19_6, ft_19_7, ft_19_8, ft_19_12, ft_19_13, ft_19_14, ft_19_15, ft_19_16, ft_19_21, xi_20, xi_21, xi_22, xi_23, xi_24, xi_25, xi_26, xi_27, xi_28, xi_29, xi_30, xi_31, xi_32, xi_33, Int.toNat_natCast, Int.reduceToNat, e1, r_isTwo, zT_t c2, e5, g1]
        exact hQ
      · have c4 : x = 1 := by omega
        subst c4
        rw [if_neg c3] at hQ
        have e5 : (2 * v + 1).toNat = 2 * v.toNat + 1 := by omega
        simp (disch := omega) only [eX6_coin_0, eX6_coin_1, eX6_coin_2, eX6_coin_5, eX6_coin_8, eX6_coin_9, eX6_coin_12, eX6_coin_15, eX6_coin_16, eX6_coin_19, eX6_coin_20, eX6_coin_21, eX6_coin_22, eX6_coin_23, eX6_coin_24, eX6_coin_25, eX6_coin_28, eX6_coin_30, en_kl_0, en_kl_i, en_kl_r, en_kl_n, en_kl_l, en_Ec_some, en_Ec_void, en_rcv, en_stk, List.map_cons, List.map_nil, List.sum_cons, List.sum_nil, Value.category, Nat.reduceAdd, Nat.reduceLeDiff, decide_true, true_and, and_true, and_self, zI_add, zI_sub, zI_mul, zI_neg, zI_lt, zI_le, zI_eq, zI_cl, zI_0, zI_1, zI_m1, zI_lit, zT_0, zT_01, zI_01, zI_11, ↓reduceIte, if_true, if_false, not_false_eq_true, not_true_eq_false, Int.reduceEq, Int.reduceLT, Int.reduceLE, Classical.not_not, Bool.false_eq_true, fi_19, ft_19_0, ft_19_1, ft_19_2, ft_19_3, ft_19_5, ft_19_6, ft_19_7, ft_19_8, ft_19_12, ft_19_13, ft_19_14, ft_19_15, ft_19_16, ft_19_21, xi_20, xi_21, xi_22, xi_23, xi_24, xi_25, xi_26, xi_27, xi_28, xi_29, xi_30, xi_31, xi_32, xi_33, Int.toNat_natCast, Int.reduceToNat, e1, r_isTwo, zT_t c2, e5, g2]
        exact hQ
    · rw [if_neg (fun z => c2 z.2)] at hQ
      simp (disch := omega) only [eX6_coin_0, eX6_coin_1, eX6_coin_2, eX6_coin_5, eX6_coin_8, eX6_coin_9, eX6_coin_12, eX6_coin_15, eX6_coin_16, eX6_coin_19, eX6_coin_20, eX6_coin_21, eX6_coin_22, eX6_coin_23, eX6_coin_24, eX6_coin_25, eX6_coin_28, eX6_coin_30, en_kl_0, en_kl_i, en_kl_r, en_kl_n, en_kl_l, en_Ec_some, en_Ec_void, en_rcv, en_stk, List.map_cons, List.map_nil, List.sum_cons, List.sum_nil, Value.category, Nat.reduceAdd, Nat.reduceLeDiff, decide_true, true_and, and_true, and_self, zI_add, zI_sub, zI_mul, zI_neg, zI_lt, zI_le, zI_eq, zI_cl, zI_0, zI_1, zI_m1, zI_lit, zT_0, zT_01, zI_01, zI_11, ↓reduceIte, if_true, if_false, not_false_eq_true, not_true_eq_false, Int.reduceEq, Int.reduceLT, Int.reduceLE, Classical.not_not, Bool.false_eq_true, fi_19, ft_19_0, ft_19_1, ft_19_2, ft_19_3, ft_19_5, ft_19_6, ft_19_7, ft_19_8, ft_19_12, ft_19_13, ft_19_14, ft_19_15, ft_19_16, ft_19_21, xi_20, xi_21, xi_22, xi_23, xi_24, xi_25, xi_26, xi_27, xi_28, xi_29, xi_30, xi_31, xi_32, xi_33, Int.toNat_natCast, Int.reduceToNat, e1, r_isTwo, zT_f c2]
      exact hQ
  · rw [zT_f c1] at e1
    rw [if_neg (by omega)] at hQ
    simp (disch := omega) only [eX6_coin_0, eX6_coin_1, eX6_coin_2, eX6_coin_5, eX6_coin_8, eX6_coin_9, eX6_coin_12, eX6_coin_15, eX6_coin_16, eX6_coin_19, eX6_coin_20, eX6_coin_21, eX6_coin_22, eX6_coin_23, eX6_coin_24, eX6_coin_25, eX6_coin_28, eX6_coin_30, en_kl_0, en_kl_i, en_kl_r, en_kl_n, en_kl_l, en_Ec_some, en_Ec_void, en_rcv, en_stk, List.map_cons, List.map_nil, List.sum_cons, List.sum_nil, Value.category, Nat.reduceAdd, Nat.reduceLeDiff, decide_true, true_and, and_true, and_self, zI_add, zI_sub, zI_mul, zI_neg, zI_lt, zI_le, zI_eq, zI_cl, zI_0, zI_1, zI_m1, zI_lit, zT_0, zT_01, zI_01, zI_11, ↓reduceIte, if_true, if_false, not_false_eq_true, not_true_eq_false, Int.reduceEq, Int.reduceLT, Int.reduceLE, Classical.not_not, Bool.false_eq_true, fi_19, ft_19_0, ft_19_1, ft_19_2, ft_19_3, ft_19_5, ft_19_6, ft_19_7, ft_19_8, ft_19_12, ft_19_13, ft_19_14, ft_19_15, ft_19_16, ft_19_21, xi_20, xi_21, xi_22, xi_23, xi_24, xi_25, xi_26, xi_27, xi_28, xi_29, xi_30, xi_31, xi_32, xi_33, Int.toNat_natCast, Int.reduceToNat, e1]
    exact hQ
end
