/-! ===== the model reads the text ===== -/
theorem tF_at {n : Nat} {tb : Nat → Int} : ∀ d i m : Nat, i ≤ m → m < i + d → (∀ j, i ≤ j → j < m → tok n tb j) → ¬ tok n tb m → tF n tb d i = (m : Int)
  | 0, i, m, h1, h2, _, _ => by omega
  | d + 1, i, m, h1, h2, h3, h4 => by
    unfold tF
    by_cases e : i = m
    · subst e; rw [if_neg h4]
    · rw [if_pos (h3 i (by omega) (by omega))]
      exact tF_at d (i + 1) m (by omega) (by omega) (fun j k1 k2 => h3 j (by omega) k2) h4
theorem tF_end {n : Nat} {tb : Nat → Int} (hn : n ≠ 0) (h4 : n % 4 ≠ 3) : ∀ d i : Nat, (∀ j, i ≤ j → j < i + d → tok n tb j) → tF n tb d i = (n : Int)
  | 0, i, _ => by
    unfold tF
    rw [if_neg (by omega)]
  | d + 1, i, h => by
    unfold tF
    rw [if_pos (h i (by omega) (by omega))]
    exact tF_end hn h4 d (i + 1) (fun j k1 k2 => h j (by omega) (by omega))
theorem tfault_at {n m : Nat} {tb : Nat → Int} (hm : m < n) (h : ∀ j, j < m → tok n tb j) (h4 : ¬ tok n tb m) : tfault n tb = (m : Int) := tF_at n 0 m (by omega) (by omega) (fun j _ k => h j k) h4
theorem tfault_end {n : Nat} {tb : Nat → Int} (hn : n ≠ 0) (h4 : n % 4 ≠ 3) (h : ∀ j, j < n → tok n tb j) : tfault n tb = (n : Int) := tF_end hn h4 n 0 (fun j _ k => h j (by omega))
theorem tfault_no {n : Nat} {tb : Nat → Int} (hn : n = 0 ∨ n % 4 = 3) (h : ∀ j, j < n → tok n tb j) : tfault n tb = -1 := tF_all hn n 0 (fun j _ k => h j (by omega))
/-- what the model sees at place a -/
def hv (n : Nat) (tb : Nat → Int) (a : Nat) : Int := if a < n then tb a else -1
theorem hv_tf {n : Nat} {tb : Nat → Int} {a : Nat} : tf n tb (a : Int) = if 0 ≤ hv n tb a - 48 ∧ hv n tb a - 48 ≤ 9 then hv n tb a - 48 else -1 := by
  unfold tf hv
  rw [Int.toNat_natCast]
  by_cases c : a < n
  · rw [if_pos c]
    by_cases c2 : 48 ≤ tb a ∧ tb a ≤ 57
    · rw [if_pos (by omega), if_pos (by omega)]
    · rw [if_neg (by omega), if_neg (by omega)]
  · rw [if_neg c, if_neg (by omega), if_neg (by omega)]
/-- only the reading's own places changed -/
def rfr (w w' : en_W) : Prop := en_fr [19, 28] w w' ∧ ∀ j, j ≠ 10 → j ≠ 11 → w' 19 j = w 19 j
theorem rfr.rf {w : en_W} : rfr w w := ⟨en_fr.rf, fun _ _ _ => rfl⟩
theorem rfr.tr {w w1 w2 : en_W} (h : rfr w w1) (h2 : rfr w1 w2) : rfr w w2 := ⟨h.1.tr h2.1, fun j a b => (h2.2 j a b).trans (h.2 j a b)⟩
theorem rfr.up {w w1 : en_W} {j : Nat} {x : Int32} (h : rfr w w1) (hj : j = 10 ∨ j = 11) : rfr w (en_up w1 19 j x) := ⟨h.1.up (by simp), fun i a b => by rw [en_up_eq, upd_ne (by omega)]; exact h.2 i a b⟩
theorem rfr.up28 {w w1 : en_W} {j : Nat} {x : Int32} (h : rfr w w1) : rfr w (en_up w1 28 j x) := ⟨h.1.up (by simp), fun i a b => by rw [en_up_ne (by decide)]; exact h.2 i a b⟩
theorem bT.rfr {w w' : en_W} {n : Nat} {tb : Nat → Int} (h : bT w n tb) (hf : rfr w w') : bT w' n tb := ⟨by rw [hf.2 9 (by decide) (by decide)]; exact h.1, h.2.1, fun j hj => by rw [hf.1 27 (by decide)]; exact h.2.2 j hj⟩
/-- the coins that the model has read -/
def mC (w : en_W) (cn : Nat) (cm cb : Nat → Int) : Prop := w 19 11 = zI cn ∧ cn ≤ 20 ∧ ∀ i, i < cn → w 28 (2 * i) = zI (cm i) ∧ w 28 (2 * i + 1) = zI (cb i) ∧ 0 ≤ cm i ∧ cm i ≤ 99 ∧ 0 ≤ cb i ∧ cb i ≤ 9
section
variable {w : en_W} {n c a : Nat} {tb : Nat → Int}
theorem r_here (hT : bT w n tb) (ha : w 19 10 = zI a) (h1 : a ≤ 80) : SX6_here [.ref 19] w = some (some (.int (zI (hv n tb a))), w) := by
  obtain ⟨t1, t2, t3⟩ := hT
  refine en_val rfl (fun Q hQ => ?_)
  show en_Ev XX6_here 0 [some (.ref 19)] [] w Q
  unfold hv at hQ
  by_cases c : a < n
  · rw [if_pos c] at hQ
    have c1 : ¬ (n : Int) ≤ (a : Int) := by omega
    have e := (t3 a c).1
    simp (disch := omega) only [eX6_here_0, eX6_here_1, eX6_here_4, eX6_here_5, eX6_here_8, eX6_here_11, eX6_here_12, eX6_here_15, eX6_here_16, eX6_here_19, eX6_here_20, eX6_here_23, eX6_here_24, en_kl_0, en_kl_i, en_kl_r, en_kl_n, en_kl_l, en_Ec_some, en_Ec_void, en_rcv, en_stk, List.map_cons, List.map_nil, List.sum_cons, List.sum_nil, Value.category, Nat.reduceAdd, Nat.reduceLeDiff, decide_true, true_and, and_true, and_self, zI_add, zI_sub, zI_mul, zI_neg, zI_lt, zI_le, zI_eq, zI_cl, zI_0, zI_1, zI_m1, zI_lit, zT_0, zT_01, zI_01, zI_11, ↓reduceIte, if_true, if_false, not_false_eq_true, not_true_eq_false, Int.reduceEq, Int.reduceLT, Int.reduceLE, Classical.not_not, Bool.false_eq_true, fi_19, ft_19_0, ft_19_1, ft_19_2, ft_19_3, ft_19_5, ft_19_6, ft_19_7, ft_19_8, ft_19_12, ft_19_13, ft_19_14, ft_19_15, ft_19_16, ft_19_21, xi_20, xi_21, xi_22, xi_23, xi_24, xi_25, xi_26, xi_27, xi_28, xi_29, xi_30, xi_31, xi_32, xi_33, Int.toNat_natCast, ha, t1, c1, e]
    exact hQ
  · rw [if_neg c] at hQ
    have c1 : (n : Int) ≤ (a : Int) := by omega
    simp (disch := omega) only [eX6_here_0, eX6_here_1, eX6_here_4, eX6_here_5, eX6_here_8, eX6_here_11, eX6_here_12, eX6_here_15, eX6_here_16, eX6_here_19, eX6_here_20, eX6_here_23, eX6_here_24, en_kl_0, en_kl_i, en_kl_r, en_kl_n, en_kl_l, en_Ec_some, en_Ec_void, en_rcv, en_stk, List.map_cons, List.map_nil, List.sum_cons, List.sum_nil, Value.category, Nat.reduceAdd, Nat.reduceLeDiff, decide_true, true_and, and_true, and_self, zI_add, zI_sub, zI_mul, zI_neg, zI_lt, zI_le, zI_eq, zI_cl, zI_0, zI_1, zI_m1, zI_lit, zT_0, zT_01, zI_01, zI_11, ↓reduceIte, if_true, if_false, not_false_eq_true, not_true_eq_false, Int.reduceEq, Int.reduceLT, Int.reduceLE, Classical.not_not, Bool.false_eq_true, fi_19, ft_19_0, ft_19_1, ft_19_2, ft_19_3, ft_19_5, ft_19_6, ft_19_7, ft_19_8, ft_19_12, ft_19_13, ft_19_14, ft_19_15, ft_19_16, ft_19_21, xi_20, xi_21, xi_22, xi_23, xi_24, xi_25, xi_26, xi_27, xi_28, xi_29, xi_30, xi_31, xi_32, xi_33, Int.toNat_natCast, ha, t1, c1]
    exact hQ
theorem hv_rng (hT : bT w n tb) : -1 ≤ hv n tb a ∧ hv n tb a ≤ 255 := by
  unfold hv
  split
  next h => have := (hT.2.2 a h).2; omega
  next => omega
theorem r_readsPart (hT : bT w n tb) (ha : w 19 10 = zI (4 * c : Nat)) (hc : w 19 11 = zI c) (hc20 : c ≤ 20) (h4 : 4 * c ≤ n) (hn0 : n ≠ 0) (hp : 0 < c → w 28 (2 * c - 2) = zI (tcm n tb (c - 1))) (hok : ∀ j, j < 4 * c → tok n tb j) (Q : Option Value → en_W → Prop)
    (hA : ∀ w', rfr w w' → c < 20 → 4 * c + 2 < n → (∀ j, j < 4 * c + 3 → tok n tb j) → w' 19 10 = zI (4 * c + 3 : Nat) → w' 19 11 = zI (c + 1 : Nat) → w' 28 (2 * c) = zI (tcm n tb c) → w' 28 (2 * c + 1) = zI (tcb n tb c) → (∀ j, j < 2 * c → w' 28 j = w 28 j) → Q (some (.int (zI 1))) w')
    (hB : ∀ w', rfr w w' → tfault n tb ≠ -1 → w' 19 10 = zI (tfault n tb) → Q (some (.int (zI 0))) w') : en_Ev XX6_readsPart 0 [some (.ref 19), none, none, none] [] w Q := by
  have hn80 := hT.2.1
  by_cases e20 : c = 20
  · have c1 : (c : Int) = 20 := by omega
    have hf : tfault n tb = (n : Int) := tfault_end hn0 (by omega) (fun j hj => hok j (by omega))
    have hn : (4 * c : Nat) = n := by omega
    simp (disch := omega) only [eX6_readsPart_0, eX6_readsPart_1, eX6_readsPart_4, eX6_readsPart_6, eX6_readsPart_9, eX6_readsPart_10, eX6_readsPart_11, eX6_readsPart_12, eX6_readsPart_13, eX6_readsPart_14, eX6_readsPart_16, eX6_readsPart_17, eX6_readsPart_20, eX6_readsPart_21, eX6_readsPart_24, eX6_readsPart_26, eX6_readsPart_27, eX6_readsPart_28, eX6_readsPart_29, eX6_readsPart_30, eX6_readsPart_31, eX6_readsPart_34, eX6_readsPart_37, eX6_readsPart_40, eX6_readsPart_41, eX6_readsPart_42, eX6_readsPart_43, eX6_readsPart_44, eX6_readsPart_47, eX6_readsPart_49, eX6_readsPart_50, eX6_readsPart_51, eX6_readsPart_52, eX6_readsPart_53, eX6_readsPart_56, eX6_readsPart_57, eX6_readsPart_58, eX6_readsPart_59, eX6_readsPart_60, eX6_readsPart_63, eX6_readsPart_64, eX6_readsPart_67, eX6_readsPart_70, eX6_readsPart_71, eX6_readsPart_72, eX6_readsPart_75, eX6_readsPart_76, eX6_readsPart_77, eX6_readsPart_80, eX6_readsPart_81, eX6_readsPart_82, eX6_readsPart_83, eX6_readsPart_84, eX6_readsPart_87, eX6_readsPart_88, eX6_readsPart_89, eX6_readsPart_90, eX6_readsPart_93, eX6_readsPart_94, eX6_readsPart_95, eX6_readsPart_98, eX6_readsPart_99, eX6_readsPart_100, eX6_readsPart_101, eX6_readsPart_104, eX6_readsPart_105, eX6_readsPart_108, eX6_readsPart_109, eX6_readsPart_110, eX6_readsPart_111, eX6_readsPart_112, eX6_readsPart_115, eX6_readsPart_116, eX6_readsPart_119, eX6_readsPart_120, eX6_readsPart_121, eX6_readsPart_122, eX6_readsPart_122i, eX6_readsPart_123, eX6_readsPart_126, eX6_readsPart_127, eX6_readsPart_128, eX6_readsPart_131, eX6_readsPart_134, eX6_readsPart_137, eX6_readsPart_138, eX6_readsPart_138i, eX6_readsPart_139, eX6_readsPart_142, eX6_readsPart_143, eX6_readsPart_144, eX6_readsPart_147, eX6_readsPart_148, en_kl_0, en_kl_i, en_kl_r, en_kl_n, en_kl_l, en_Ec_some, en_Ec_void, en_rcv, en_stk, List.map_cons, List.map_nil, List.sum_cons, List.sum_nil, Value.category, Nat.reduceAdd, Nat.reduceLeDiff, decide_true, true_and, and_true, and_self, zI_add, zI_sub, zI_mul, zI_neg, zI_lt, zI_le, zI_eq, zI_cl, zI_0, zI_1, zI_m1, zI_lit, zT_0, zT_01, zI_01, zI_11, ↓reduceIte, if_true, if_false, not_false_eq_true, not_true_eq_false, Int.reduceEq, Int.reduceLT, Int.reduceLE, Classical.not_not, Bool.false_eq_true, fi_19, ft_19_0, ft_19_1, ft_19_2, ft_19_3, ft_19_5, ft_19_6, ft_19_7, ft_19_8, ft_19_12, ft_19_13, ft_19_14, ft_19_15, ft_19_16, ft_19_21, xi_20, xi_21, xi_22, xi_23, xi_24, xi_25, xi_26, xi_27, xi_28, xi_29, xi_30, xi_31, xi_32, xi_33, Int.toNat_natCast, hc, c1]
    exact hB w rfr.rf (by omega) (by rw [hf, ha, hn])
  · have c1 : ¬ (c : Int) = 20 := by omega
    -- the three figures' places
    have f0 := hv_tf (n := n) (tb := tb) (a := 4 * c)
    have f1 := hv_tf (n := n) (tb := tb) (a := 4 * c + 1)
    have f2 := hv_tf (n := n) (tb := tb) (a := 4 * c + 2)
    have g0 := hv_rng (a := 4 * c) hT
    have g1 := hv_rng (a := 4 * c + 1) hT
    have g2 := hv_rng (a := 4 * c + 2) hT
    -- a place where no figure stands is the fault
    have bad : ∀ k, k < 3 → (∀ j, j < 4 * c + k → tok n tb j) → ¬ (0 ≤ hv n tb (4 * c + k) - 48 ∧ hv n tb (4 * c + k) - 48 ≤ 9) → tfault n tb = ((4 * c + k : Nat) : Int) := by
      intro k hk hj hv'
      have hle : 4 * c + k ≤ n := by
        by_cases z : 4 * c + k ≤ n
        · exact z
        · exfalso
          have h1 := hj n (by omega)
          have h3 : ¬ n % 4 = 3 := by omega
          have h2 := (tok_n h3).mp h1
          exact h2.1 (by unfold tf; rw [if_neg (by omega)])
      by_cases z : 4 * c + k < n
      · refine tfault_at z hj ?_
        rw [tok_n (by omega), hv_tf, if_neg hv']
        exact fun z => z.1 rfl
      · have e : 4 * c + k = n := by omega
        rw [e]
        exact tfault_end hn0 (by omega) (fun j hj' => hj j (by omega))
    have hh0 := r_here (a := 4 * c) hT ha (by omega)
    simp (disch := omega) only [eX6_readsPart_0, eX6_readsPart_1, eX6_readsPart_4, eX6_readsPart_6, eX6_readsPart_9, eX6_readsPart_10, eX6_readsPart_11, eX6_readsPart_12, eX6_readsPart_13, eX6_readsPart_14, eX6_readsPart_16, eX6_readsPart_17, eX6_readsPart_20, eX6_readsPart_21, eX6_readsPart_24, eX6_readsPart_26, eX6_readsPart_27, eX6_readsPart_28, eX6_readsPart_29, eX6_readsPart_30, eX6_readsPart_31, eX6_readsPart_34, eX6_readsPart_37, eX6_readsPart_40, eX6_readsPart_41, eX6_readsPart_42, eX6_readsPart_43, eX6_readsPart_44, eX6_readsPart_47, eX6_readsPart_49, eX6_readsPart_50, eX6_readsPart_51, eX6_readsPart_52, eX6_readsPart_53, eX6_readsPart_56, eX6_readsPart_57, eX6_readsPart_58, eX6_readsPart_59, eX6_readsPart_60, eX6_readsPart_63, eX6_readsPart_64, eX6_readsPart_67, eX6_readsPart_70, eX6_readsPart_71, eX6_readsPart_72, eX6_readsPart_75, eX6_readsPart_76, eX6_readsPart_77, eX6_readsPart_80, eX6_readsPart_81, eX6_readsPart_82, eX6_readsPart_83, eX6_readsPart_84, eX6_readsPart_87, eX6_readsPart_88, eX6_readsPart_89, eX6_readsPart_90, eX6_readsPart_93, eX6_readsPart_94, eX6_readsPart_95, eX6_readsPart_98, eX6_readsPart_99, eX6_readsPart_100, eX6_readsPart_101, eX6_readsPart_104, eX6_readsPart_105, eX6_readsPart_108, eX6_readsPart_109, eX6_readsPart_110, eX6_readsPart_111, eX6_readsPart_112, eX6_readsPart_115, eX6_readsPart_116, eX6_readsPart_119, eX6_readsPart_120, eX6_readsPart_121, eX6_readsPart_122, eX6_readsPart_122i, eX6_readsPart_123, eX6_readsPart_126, eX6_readsPart_127, eX6_readsPart_128, eX6_readsPart_131, eX6_readsPart_134, eX6_readsPart_137, eX6_readsPart_138, eX6_readsPart_138i, eX6_readsPart_139, eX6_readsPart_142, eX6_readsPart_143, eX6_readsPart_144, eX6_readsPart_147, eX6_readsPart_148, en_kl_0, en_kl_i, en_kl_r, en_kl_n, en_kl_l, en_Ec_some, en_Ec_void, en_rcv, en_stk, List.map_cons, List.map_nil, List.sum_cons, List.sum_nil, Value.category, Nat.reduceAdd, Nat.reduceLeDiff, decide_true, true_and, and_true, and_self, zI_add, zI_sub, zI_mul, zI_neg, zI_lt, zI_le, zI_eq, zI_cl, zI_0, zI_1, zI_m1, zI_lit, zT_0, zT_01, zI_01, zI_11, ↓reduceIte, if_true, if_false, not_false_eq_true, not_true_eq_false, Int.reduceEq, Int.reduceLT, Int.reduceLE, Classical.not_not, Bool.false_eq_true, fi_19, ft_19_0, ft_19_1, ft_19_2, ft_19_3, ft_19_5, ft_19_6, ft_19_7, ft_19_8, ft_19_12, ft_19_13, ft_19_14, ft_19_15, ft_19_16, ft_19_21, xi_20, xi_21, xi_22, xi_23, xi_24, xi_25, xi_26, xi_27, xi_28, xi_29, xi_30, xi_31, xi_32, xi_33, Int.toNat_natCast, hc, c1]
    rw [eX6_readsPart_15]
    by_cases b0 : 0 ≤ hv n tb (4 * c) - 48 ∧ hv n tb (4 * c) - 48 ≤ 9
    · rw [if_pos b0] at f0
      have t0 : tok n tb (4 * c) := by
        rw [tok_n (by omega), f0]
        exact ⟨by omega, by omega⟩
      simp (disch := omega) only [eX6_readsPart_0, eX6_readsPart_1, eX6_readsPart_4, eX6_readsPart_6, eX6_readsPart_9, eX6_readsPart_10, eX6_readsPart_11, eX6_readsPart_12, eX6_readsPart_13, eX6_readsPart_14, eX6_readsPart_16, eX6_readsPart_17, eX6_readsPart_20, eX6_readsPart_21, eX6_readsPart_24, eX6_readsPart_26, eX6_readsPart_27, eX6_readsPart_28, eX6_readsPart_29, eX6_readsPart_30, eX6_readsPart_31, eX6_readsPart_34, eX6_readsPart_37, eX6_readsPart_40, eX6_readsPart_41, eX6_readsPart_42, eX6_readsPart_43, eX6_readsPart_44, eX6_readsPart_47, eX6_readsPart_49, eX6_readsPart_50, eX6_readsPart_51, eX6_readsPart_52, eX6_readsPart_53, eX6_readsPart_56, eX6_readsPart_57, eX6_readsPart_58, eX6_readsPart_59, eX6_readsPart_60, eX6_readsPart_63, eX6_readsPart_64, eX6_readsPart_67, eX6_readsPart_70, eX6_readsPart_71, eX6_readsPart_72, eX6_readsPart_75, eX6_readsPart_76, eX6_readsPart_77, eX6_readsPart_80, eX6_readsPart_81, eX6_readsPart_82, eX6_readsPart_83, eX6_readsPart_84, eX6_readsPart_87, eX6_readsPart_88, eX6_readsPart_89, eX6_readsPart_90, eX6_readsPart_93, eX6_readsPart_94, eX6_readsPart_95, eX6_readsPart_98, eX6_readsPart_99, eX6_readsPart_100, eX6_readsPart_101, eX6_readsPart_104, eX6_readsPart_105, eX6_readsPart_108, eX6_readsPart_109, eX6_readsPart_110, eX6_readsPart_111, eX6_readsPart_112, eX6_readsPart_115, eX6_readsPart_116, eX6_readsPart_119, eX6_readsPart_120, eX6_readsPart_121, eX6_readsPart_122, eX6_readsPart_122i, eX6_readsPart_123, eX6_readsPart_126, eX6_readsPart_127, eX6_readsPart_128, eX6_readsPart_131, eX6_readsPart_134, eX6_readsPart_137, eX6_readsPart_138, eX6_readsPart_138i, eX6_readsPart_139, eX6_readsPart_142, eX6_readsPart_143, eX6_readsPart_144, eX6_readsPart_147, eX6_readsPart_148, en_kl_0, en_kl_i, en_kl_r, en_kl_n, en_kl_l, en_Ec_some, en_Ec_void, en_rcv, en_stk, List.map_cons, List.map_nil, List.sum_cons, List.sum_nil, Value.category, Nat.reduceAdd, Nat.reduceLeDiff, decide_true, true_and, and_true, and_self, zI_add, zI_sub, zI_mul, zI_neg, zI_lt, zI_le, zI_eq, zI_cl, zI_0, zI_1, zI_m1, zI_lit, zT_0, zT_01, zI_01, zI_11, ↓reduceIte, if_true, if_false, not_false_eq_true, not_true_eq_false, Int.reduceEq, Int.reduceLT, Int.reduceLE, Classical.not_not, Bool.false_eq_true, lI_of, lI_0, lI_1, lI_m1, lI_lit, lI_neg, lI_add, lI_sub, lI_mul, lc_lt, lc_gt, lc_le, lc_ge, fi_19, ft_19_0, ft_19_1, ft_19_2, ft_19_3, ft_19_5, ft_19_6, ft_19_7, ft_19_8, ft_19_12, ft_19_13, ft_19_14, ft_19_15, ft_19_16, ft_19_21, xi_20, xi_21, xi_22, xi_23, xi_24, xi_25, xi_26, xi_27, xi_28, xi_29, xi_30, xi_31, xi_32, xi_33, Int.toNat_natCast, hh0, r_in, zT_t b0, hc, ha, en_up_ne, Int.reduceMul, Int.zero_add]
      rw [eX6_readsPart_15]
      have e1 : (2 * (c : Int) + 0).toNat = 2 * c := by omega
      rw [e1]
      -- the world after the first figure
      obtain ⟨w1, hw1⟩ : ∃ w1, en_up (en_up w 28 (2 * c) (zI (hv n tb (4 * c) - 48))) 19 10 (zI (((4 * c : Nat) : Int) + 1)) = w1 := ⟨_, rfl⟩
      rw [hw1]
      have r1 : rfr w w1 := hw1 ▸ (rfr.rf.up28).up (.inl rfl)
      have ha1 : w1 19 10 = zI (4 * c + 1 : Nat) := by rw [← hw1, en_up_eq, upd_eq]; rfl
      have hc1 : w1 19 11 = zI c := by rw [← hw1, en_up_eq, upd_ne (by decide), en_up_ne (by decide)]; exact hc
      have h28 : ∀ j, j ≠ 2 * c → w1 28 j = w 28 j := fun j hj => by rw [← hw1, en_up_ne (by decide), en_up_eq, upd_ne hj]
      have hh1 := r_here (a := 4 * c + 1) (hT.rfr r1) ha1 (by omega)
      by_cases b1 : 0 ≤ hv n tb (4 * c + 1) - 48 ∧ hv n tb (4 * c + 1) - 48 ≤ 9
      · rw [if_pos b1] at f1
        have em : tcm n tb c = 10 * (hv n tb (4 * c) - 48) + (hv n tb (4 * c + 1) - 48) := by
          unfold tcm tm
          rw [f0, show ((4 * c : Nat) : Int) + 1 = ((4 * c + 1 : Nat) : Int) from rfl, f1]
        have tm1 : tm n tb (((4 * c + 1 : Nat) : Int) - 1) = tcm n tb c := by
          unfold tcm
          rw [show ((4 * c + 1 : Nat) : Int) - 1 = ((4 * c : Nat) : Int) by omega]
        have tok1 : tok n tb (4 * c + 1) ↔ ¬ (0 < c ∧ tcm n tb c < tcm n tb (c - 1)) := by
          rw [tok_n (by omega), f1, tm1]
          by_cases z : 0 < c
          · have tm2 : tm n tb (((4 * c + 1 : Nat) : Int) - 1 - 4) = tcm n tb (c - 1) := by
              unfold tcm
              rw [show ((4 * c + 1 : Nat) : Int) - 1 - 4 = ((4 * (c - 1) : Nat) : Int) by omega]
            rw [tm2]
            constructor
            · rintro ⟨-, h⟩ ⟨-, h2⟩
              exact h ⟨by omega, by omega, h2⟩
            · intro h
              exact ⟨by omega, fun ⟨_, _, h2⟩ => h ⟨z, h2⟩⟩
          · constructor
            · intro _ h
              exact z h.1
            · intro _
              exact ⟨by omega, fun ⟨_, h2, _⟩ => by omega⟩
        have hlt1 : 4 * c + 1 < n := by
          by_cases z : 4 * c + 1 < n
          · exact z
          · exfalso
            have : hv n tb (4 * c + 1) = -1 := if_neg z
            omega
        have ok1 : ∀ j, j < 4 * c + 1 → tok n tb j := fun j hj => by
          by_cases z : j = 4 * c
          · rw [z]; exact t0
          · exact hok j (by omega)
        have hmr := @tm_rng n tb ((4 * (c - 1) : Nat) : Int)
        change -11 ≤ tcm n tb (c - 1) ∧ tcm n tb (c - 1) ≤ 99 at hmr
        -- what follows when the minute is not too early
        have go : tok n tb (4 * c + 1) → en_Ev XX6_readsPart 89 [some (.ref 19), some (.int (zI (tcm n tb c))), some (.int (zI 1)), some (.int (zI (hv n tb (4 * c + 1) - 48)))] [] w1 Q := by
          intro t1
          have ok2 : ∀ j, j < 4 * c + 2 → tok n tb j := fun j hj => by
            by_cases z : j = 4 * c + 1
            · rw [z]; exact t1
            · exact ok1 j (by omega)
          simp (disch := omega) only [eX6_readsPart_0, eX6_readsPart_1, eX6_readsPart_4, eX6_readsPart_6, eX6_readsPart_9, eX6_readsPart_10, eX6_readsPart_11, eX6_readsPart_12, eX6_readsPart_13, eX6_readsPart_14, eX6_readsPart_16, eX6_readsPart_17, eX6_readsPart_20, eX6_readsPart_21, eX6_readsPart_24, eX6_readsPart_26, eX6_readsPart_27, eX6_readsPart_28, eX6_readsPart_29, eX6_readsPart_30, eX6_readsPart_31, eX6_readsPart_34, eX6_readsPart_37, eX6_readsPart_40, eX6_readsPart_41, eX6_readsPart_42, eX6_readsPart_43, eX6_readsPart_44, eX6_readsPart_47, eX6_readsPart_49, eX6_readsPart_50, eX6_readsPart_51, eX6_readsPart_52, eX6_readsPart_53, eX6_readsPart_56, eX6_readsPart_57, eX6_readsPart_58, eX6_readsPart_59, eX6_readsPart_60, eX6_readsPart_63, eX6_readsPart_64, eX6_readsPart_67, eX6_readsPart_70, eX6_readsPart_71, eX6_readsPart_72, eX6_readsPart_75, eX6_readsPart_76, eX6_readsPart_77, eX6_readsPart_80, eX6_readsPart_81, eX6_readsPart_82, eX6_readsPart_83, eX6_readsPart_84, eX6_readsPart_87, eX6_readsPart_88, eX6_readsPart_89, eX6_readsPart_90, eX6_readsPart_93, eX6_readsPart_94, eX6_readsPart_95, eX6_readsPart_98, eX6_readsPart_99, eX6_readsPart_100, eX6_readsPart_101, eX6_readsPart_104, eX6_readsPart_105, eX6_readsPart_108, eX6_readsPart_109, eX6_readsPart_110, eX6_readsPart_111, eX6_readsPart_112, eX6_readsPart_115, eX6_readsPart_116, eX6_readsPart_119, eX6_readsPart_120, eX6_readsPart_121, eX6_readsPart_122, eX6_readsPart_122i, eX6_readsPart_123, eX6_readsPart_126, eX6_readsPart_127, eX6_readsPart_128, eX6_readsPart_131, eX6_readsPart_134, eX6_readsPart_137, eX6_readsPart_138, eX6_readsPart_138i, eX6_readsPart_139, eX6_readsPart_142, eX6_readsPart_143, eX6_readsPart_144, eX6_readsPart_147, eX6_readsPart_148, en_kl_0, en_kl_i, en_kl_r, en_kl_n, en_kl_l, en_Ec_some, en_Ec_void, en_rcv, en_stk, List.map_cons, List.map_nil, List.sum_cons, List.sum_nil, Value.category, Nat.reduceAdd, Nat.reduceLeDiff, decide_true, true_and, and_true, and_self, zI_add, zI_sub, zI_mul, zI_neg, zI_lt, zI_le, zI_eq, zI_cl, zI_0, zI_1, zI_m1, zI_lit, zT_0, zT_01, zI_01, zI_11, ↓reduceIte, if_true, if_false, not_false_eq_true, not_true_eq_false, Int.reduceEq, Int.reduceLT, Int.reduceLE, Classical.not_not, Bool.false_eq_true, lI_of, lI_0, lI_1, lI_m1, lI_lit, lI_neg, lI_add, lI_sub, lI_mul, lc_lt, lc_gt, lc_le, lc_ge, fi_19, ft_19_0, ft_19_1, ft_19_2, ft_19_3, ft_19_5, ft_19_6, ft_19_7, ft_19_8, ft_19_12, ft_19_13, ft_19_14, ft_19_15, ft_19_16, ft_19_21, xi_20, xi_21, xi_22, xi_23, xi_24, xi_25, xi_26, xi_27, xi_28, xi_29, xi_30, xi_31, xi_32, xi_33, Int.toNat_natCast, hc1, ha1, en_up_ne, Int.reduceMul, e1]
          rw [eX6_readsPart_15]
          obtain ⟨w2, hw2⟩ : ∃ w2, en_up (en_up w1 28 (2 * c) (zI (tcm n tb c))) 19 10 (zI (((4 * c + 1 : Nat) : Int) + 1)) = w2 := ⟨_, rfl⟩
          rw [hw2]
          have r2 : rfr w w2 := hw2 ▸ (r1.up28).up (.inl rfl)
          have ha2 : w2 19 10 = zI (4 * c + 2 : Nat) := by rw [← hw2, en_up_eq, upd_eq]; rfl
          have hc2 : w2 19 11 = zI c := by rw [← hw2, en_up_eq, upd_ne (by decide), en_up_ne (by decide)]; exact hc1
          have h28b : ∀ j, j ≠ 2 * c → w2 28 j = w 28 j := fun j hj => by rw [← hw2, en_up_ne (by decide), en_up_eq, upd_ne hj]; exact h28 j hj
          have h28c : w2 28 (2 * c) = zI (tcm n tb c) := by rw [← hw2, en_up_ne (by decide), en_up_eq, upd_eq]
          have hh2 := r_here (a := 4 * c + 2) (hT.rfr r2) ha2 (by omega)
          by_cases b2 : 0 ≤ hv n tb (4 * c + 2) - 48 ∧ hv n tb (4 * c + 2) - 48 ≤ 9
          · rw [if_pos b2] at f2
            have eb : tcb n tb c = hv n tb (4 * c + 2) - 48 := by
              unfold tcb
              rw [show ((4 * c : Nat) : Int) + 2 = ((4 * c + 2 : Nat) : Int) from rfl]
              exact f2
            have t2 : tok n tb (4 * c + 2) := by
              rw [tok_n (by omega), f2]
              exact ⟨by omega, fun z => by omega⟩
            have hlt2 : 4 * c + 2 < n := by
              by_cases z : 4 * c + 2 < n
              · exact z
              · exfalso
                have : hv n tb (4 * c + 2) = -1 := if_neg z
                omega
            have e3 : (2 * (c : Int) + 1).toNat = 2 * c + 1 := by omega
            simp (maxSteps := 1000000) (disch := omega) only [eX6_readsPart_0, eX6_readsPart_1, eX6_readsPart_4, eX6_readsPart_6, eX6_readsPart_9, eX6_readsPart_10, eX6_readsPart_11, eX6_readsPart_12, eX6_readsPart_13, eX6_readsPart_14, eX6_readsPart_16, eX6_readsPart_17, eX6_readsPart_20, eX6_readsPart_21, eX6_readsPart_24, eX6_readsPart_26, eX6_readsPart_27, eX6_readsPart_28, eX6_readsPart_29, eX6_readsPart_30, eX6_readsPart_31, eX6_readsPart_34, eX6_readsPart_37, eX6_readsPart_40, eX6_readsPart_41, eX6_readsPart_42, eX6_readsPart_43, eX6_readsPart_44, eX6_readsPart_47, eX6_readsPart_49, eX6_readsPart_50, eX6_readsPart_51, eX6_readsPart_52, eX6_readsPart_53, eX6_readsPart_56, eX6_readsPart_57, eX6_readsPart_58, eX6_readsPart_59, eX6_readsPart_60, eX6_readsPart_63, eX6_readsPart_64, eX6_readsPart_67, eX6_readsPart_70, eX6_readsPart_71, eX6_readsPart_72, eX6_readsPart_75, eX6_readsPart_76, eX6_readsPart_77, eX6_readsPart_80, eX6_readsPart_81, eX6_readsPart_82, eX6_readsPart_83, eX6_readsPart_84, eX6_readsPart_87, eX6_readsPart_88, eX6_readsPart_89, eX6_readsPart_90, eX6_readsPart_93, eX6_readsPart_94, eX6_readsPart_95, eX6_readsPart_98, eX6_readsPart_99, eX6_readsPart_100, eX6_readsPart_101, eX6_readsPart_104, eX6_readsPart_105, eX6_readsPart_108, eX6_readsPart_109, eX6_readsPart_110, eX6_readsPart_111, eX6_readsPart_112, eX6_readsPart_115, eX6_readsPart_116, eX6_readsPart_119, eX6_readsPart_120, eX6_readsPart_121, eX6_readsPart_122, eX6_readsPart_122i, eX6_readsPart_123, eX6_readsPart_126, eX6_readsPart_127, eX6_readsPart_128, eX6_readsPart_131, eX6_readsPart_134, eX6_readsPart_137, eX6_readsPart_138, eX6_readsPart_138i, eX6_readsPart_139, eX6_readsPart_142, eX6_readsPart_143, eX6_readsPart_144, eX6_readsPart_147, eX6_readsPart_148, en_kl_0, en_kl_i, en_kl_r, en_kl_n, en_kl_l, en_Ec_some, en_Ec_void, en_rcv, en_stk, List.map_cons, List.map_nil, List.sum_cons, List.sum_nil, Value.category, Nat.reduceAdd, Nat.reduceLeDiff, decide_true, true_and, and_true, and_self, zI_add, zI_sub, zI_mul, zI_neg, zI_lt, zI_le, zI_eq, zI_cl, zI_0, zI_1, zI_m1, zI_lit, zT_0, zT_01, zI_01, zI_11, ↓reduceIte, if_true, if_false, not_false_eq_true, not_true_eq_false, Int.reduceEq, Int.reduceLT, Int.reduceLE, Classical.not_not, Bool.false_eq_true, lI_of, lI_0, lI_1, lI_m1, lI_lit, lI_neg, lI_add, lI_sub, lI_mul, lc_lt, lc_gt, lc_le, lc_ge, fi_19, ft_19_0, ft_19_1, ft_19_2, ft_19_3, ft_19_5, ft_19_6, ft_19_7, ft_19_8, ft_19_12, ft_19_13, ft_19_14, ft_19_15, ft_19_16, ft_19_21, xi_20, xi_21, xi_22, xi_23, xi_24, xi_25, xi_26, xi_27, xi_28, xi_29, xi_30, xi_31, xi_32, xi_33, Int.toNat_natCast, hh2, r_in, zT_t b2, hc2, ha2, en_up_ne, Int.reduceMul, e3]
            rw [eX6_readsPart_15]
            simp (maxSteps := 1000000) (disch := omega) only [eX6_readsPart_0, eX6_readsPart_1, eX6_readsPart_4, eX6_readsPart_6, eX6_readsPart_9, eX6_readsPart_10, eX6_readsPart_11, eX6_readsPart_12, eX6_readsPart_13, eX6_readsPart_14, eX6_readsPart_16, eX6_readsPart_17, eX6_readsPart_20, eX6_readsPart_21, eX6_readsPart_24, eX6_readsPart_26, eX6_readsPart_27, eX6_readsPart_28, eX6_readsPart_29, eX6_readsPart_30, eX6_readsPart_31, eX6_readsPart_34, eX6_readsPart_37, eX6_readsPart_40, eX6_readsPart_41, eX6_readsPart_42, eX6_readsPart_43, eX6_readsPart_44, eX6_readsPart_47, eX6_readsPart_49, eX6_readsPart_50, eX6_readsPart_51, eX6_readsPart_52, eX6_readsPart_53, eX6_readsPart_56, eX6_readsPart_57, eX6_readsPart_58, eX6_readsPart_59, eX6_readsPart_60, eX6_readsPart_63, eX6_readsPart_64, eX6_readsPart_67, eX6_readsPart_70, eX6_readsPart_71, eX6_readsPart_72, eX6_readsPart_75, eX6_readsPart_76, eX6_readsPart_77, eX6_readsPart_80, eX6_readsPart_81, eX6_readsPart_82, eX6_readsPart_83, eX6_readsPart_84, eX6_readsPart_87, eX6_readsPart_88, eX6_readsPart_89, eX6_readsPart_90, eX6_readsPart_93, eX6_readsPart_94, eX6_readsPart_95, eX6_readsPart_98, eX6_readsPart_99, eX6_readsPart_100, eX6_readsPart_101, eX6_readsPart_104, eX6_readsPart_105, eX6_readsPart_108, eX6_readsPart_109, eX6_readsPart_110, eX6_readsPart_111, eX6_readsPart_112, eX6_readsPart_115, eX6_readsPart_116, eX6_readsPart_119, eX6_readsPart_120, eX6_readsPart_121, eX6_readsPart_122, eX6_readsPart_122i, eX6_readsPart_123, eX6_readsPart_126, eX6_readsPart_127, eX6_readsPart_128, eX6_readsPart_131, eX6_readsPart_134, eX6_readsPart_137, eX6_readsPart_138, eX6_readsPart_138i, eX6_readsPart_139, eX6_readsPart_142, eX6_readsPart_143, eX6_readsPart_144, eX6_readsPart_147, eX6_readsPart_148, en_kl_0, en_kl_i, en_kl_r, en_kl_n, en_kl_l, en_Ec_some, en_Ec_void, en_rcv, en_stk, List.map_cons, List.map_nil, List.sum_cons, List.sum_nil, Value.category, Nat.reduceAdd, Nat.reduceLeDiff, decide_true, true_and, and_true, and_self, zI_add, zI_sub, zI_mul, zI_neg, zI_lt, zI_le, zI_eq, zI_cl, zI_0, zI_1, zI_m1, zI_lit, zT_0, zT_01, zI_01, zI_11, ↓reduceIte, if_true, if_false, not_false_eq_true, not_true_eq_false, Int.reduceEq, Int.reduceLT, Int.reduceLE, Classical.not_not, Bool.false_eq_true, lI_of, lI_0, lI_1, lI_m1, lI_lit, lI_neg, lI_add, lI_sub, lI_mul, lc_lt, lc_gt, lc_le, lc_ge, fi_19, ft_19_0, ft_19_1, ft_19_2, ft_19_3, ft_19_5, ft_19_6, ft_19_7, ft_19_8, ft_19_12, ft_19_13, ft_19_14, ft_19_15, ft_19_16, ft_19_21, xi_20, xi_21, xi_22, xi_23, xi_24, xi_25, xi_26, xi_27, xi_28, xi_29, xi_30, xi_31, xi_32, xi_33, Int.toNat_natCast, hc2, ha2, en_up_ne, en_up_eq, upd_ne]
            refine hA _ (((r2.up28).up (.inl rfl)).up (.inr rfl)) (by omega) hlt2 (fun j hj => ?_) ?_ ?_ ?_ ?_ (fun j hj => ?_)
            · by_cases z : j = 4 * c + 2
              · rw [z]; exact t2
              · exact ok2 j (by omega)
            · rw [en_up_eq, upd_ne (by decide), en_up_eq, upd_eq]; rfl
            · rw [en_up_eq, upd_eq]; rfl
            · rw [en_up_ne (by decide), en_up_ne (by decide), en_up_eq, upd_ne (by omega)]; exact h28c
            · rw [en_up_ne (by decide), en_up_ne (by decide), en_up_eq, upd_eq, eb]
            · rw [en_up_ne (by decide), en_up_ne (by decide), en_up_eq, upd_ne (by omega)]; exact h28b j (by omega)
          · have hf := bad 2 (by omega) ok2 b2
            simp (disch := omega) only [eX6_readsPart_0, eX6_readsPart_1, eX6_readsPart_4, eX6_readsPart_6, eX6_readsPart_9, eX6_readsPart_10, eX6_readsPart_11, eX6_readsPart_12, eX6_readsPart_13, eX6_readsPart_14, eX6_readsPart_16, eX6_readsPart_17, eX6_readsPart_20, eX6_readsPart_21, eX6_readsPart_24, eX6_readsPart_26, eX6_readsPart_27, eX6_readsPart_28, eX6_readsPart_29, eX6_readsPart_30, eX6_readsPart_31, eX6_readsPart_34, eX6_readsPart_37, eX6_readsPart_40, eX6_readsPart_41, eX6_readsPart_42, eX6_readsPart_43, eX6_readsPart_44, eX6_readsPart_47, eX6_readsPart_49, eX6_readsPart_50, eX6_readsPart_51, eX6_readsPart_52, eX6_readsPart_53, eX6_readsPart_56, eX6_readsPart_57, eX6_readsPart_58, eX6_readsPart_59, eX6_readsPart_60, eX6_readsPart_63, eX6_readsPart_64, eX6_readsPart_67, eX6_readsPart_70, eX6_readsPart_71, eX6_readsPart_72, eX6_readsPart_75, eX6_readsPart_76, eX6_readsPart_77, eX6_readsPart_80, eX6_readsPart_81, eX6_readsPart_82, eX6_readsPart_83, eX6_readsPart_84, eX6_readsPart_87, eX6_readsPart_88, eX6_readsPart_89, eX6_readsPart_90, eX6_readsPart_93, eX6_readsPart_94, eX6_readsPart_95, eX6_readsPart_98, eX6_readsPart_99, eX6_readsPart_100, eX6_readsPart_101, eX6_readsPart_104, eX6_readsPart_105, eX6_readsPart_108, eX6_readsPart_109, eX6_readsPart_110, eX6_readsPart_111, eX6_readsPart_112, eX6_readsPart_115, eX6_readsPart_116, eX6_readsPart_119, eX6_readsPart_120, eX6_readsPart_121, eX6_readsPart_122, eX6_readsPart_122i, eX6_readsPart_123, eX6_readsPart_126, eX6_readsPart_127, eX6_readsPart_128, eX6_readsPart_131, eX6_readsPart_134, eX6_readsPart_137, eX6_readsPart_138, eX6_readsPart_138i, eX6_readsPart_139, eX6_readsPart_142, eX6_readsPart_143, eX6_readsPart_144, eX6_readsPart_147, eX6_readsPart_148, en_kl_0, en_kl_i, en_kl_r, en_kl_n, en_kl_l, en_Ec_some, en_Ec_void, en_rcv, en_stk, List.map_cons, List.map_nil, List.sum_cons, List.sum_nil, Value.category, Nat.reduceAdd, Nat.reduceLeDiff, decide_true, true_and, and_true, and_self, zI_add, zI_sub, zI_mul, zI_neg, zI_lt, zI_le, zI_eq, zI_cl, zI_0, zI_1, zI_m1, zI_lit, zT_0, zT_01, zI_01, zI_11, ↓reduceIte, if_true, if_false, not_false_eq_true, not_true_eq_false, Int.reduceEq, Int.reduceLT, Int.reduceLE, Classical.not_not, Bool.false_eq_true, lI_of, lI_0, lI_1, lI_m1, lI_lit, lI_neg, lI_add, lI_sub, lI_mul, lc_lt, lc_gt, lc_le, lc_ge, fi_19, ft_19_0, ft_19_1, ft_19_2, ft_19_3, ft_19_5, ft_19_6, ft_19_7, ft_19_8, ft_19_12, ft_19_13, ft_19_14, ft_19_15, ft_19_16, ft_19_21, xi_20, xi_21, xi_22, xi_23, xi_24, xi_25, xi_26, xi_27, xi_28, xi_29, xi_30, xi_31, xi_32, xi_33, Int.toNat_natCast, hh2, r_in, zT_f b2]
            exact hB w2 r2 (by omega) (by rw [hf]; exact ha2)
        by_cases z : 0 < c
        · have cz : ¬ (c : Int) ≤ 0 := by omega
          have e4 : (2 * (c : Int) - 2).toNat = 2 * c - 2 := by omega
          have hpv : w1 28 (2 * c - 2) = zI (tcm n tb (c - 1)) := by rw [h28 _ (by omega)]; exact hp z
          by_cases z2 : tcm n tb c < tcm n tb (c - 1)
          · have hf := tfault_at hlt1 ok1 (fun h => tok1.mp h ⟨z, z2⟩)
            have z3 : ¬ tcm n tb (c - 1) ≤ tcm n tb c := by omega
            simp (disch := omega) only [eX6_readsPart_0, eX6_readsPart_1, eX6_readsPart_4, eX6_readsPart_6, eX6_readsPart_9, eX6_readsPart_10, eX6_readsPart_11, eX6_readsPart_12, eX6_readsPart_13, eX6_readsPart_14, eX6_readsPart_16, eX6_readsPart_17, eX6_readsPart_20, eX6_readsPart_21, eX6_readsPart_24, eX6_readsPart_26, eX6_readsPart_27, eX6_readsPart_28, eX6_readsPart_29, eX6_readsPart_30, eX6_readsPart_31, eX6_readsPart_34, eX6_readsPart_37, eX6_readsPart_40, eX6_readsPart_41, eX6_readsPart_42, eX6_readsPart_43, eX6_readsPart_44, eX6_readsPart_47, eX6_readsPart_49, eX6_readsPart_50, eX6_readsPart_51, eX6_readsPart_52, eX6_readsPart_53, eX6_readsPart_56, eX6_readsPart_57, eX6_readsPart_58, eX6_readsPart_59, eX6_readsPart_60, eX6_readsPart_63, eX6_readsPart_64, eX6_readsPart_67, eX6_readsPart_70, eX6_readsPart_71, eX6_readsPart_72, eX6_readsPart_75, eX6_readsPart_76, eX6_readsPart_77, eX6_readsPart_80, eX6_readsPart_81, eX6_readsPart_82, eX6_readsPart_83, eX6_readsPart_84, eX6_readsPart_87, eX6_readsPart_88, eX6_readsPart_89, eX6_readsPart_90, eX6_readsPart_93, eX6_readsPart_94, eX6_readsPart_95, eX6_readsPart_98, eX6_readsPart_99, eX6_readsPart_100, eX6_readsPart_101, eX6_readsPart_104, eX6_readsPart_105, eX6_readsPart_108, eX6_readsPart_109, eX6_readsPart_110, eX6_readsPart_111, eX6_readsPart_112, eX6_readsPart_115, eX6_readsPart_116, eX6_readsPart_119, eX6_readsPart_120, eX6_readsPart_121, eX6_readsPart_122, eX6_readsPart_122i, eX6_readsPart_123, eX6_readsPart_126, eX6_readsPart_127, eX6_readsPart_128, eX6_readsPart_131, eX6_readsPart_134, eX6_readsPart_137, eX6_readsPart_138, eX6_readsPart_138i, eX6_readsPart_139, eX6_readsPart_142, eX6_readsPart_143, eX6_readsPart_144, eX6_readsPart_147, eX6_readsPart_148, en_kl_0, en_kl_i, en_kl_r, en_kl_n, en_kl_l, en_Ec_some, en_Ec_void, en_rcv, en_stk, List.map_cons, List.map_nil, List.sum_cons, List.sum_nil, Value.category, Nat.reduceAdd, Nat.reduceLeDiff, decide_true, true_and, and_true, and_self, zI_add, zI_sub, zI_mul, zI_neg, zI_lt, zI_le, zI_eq, zI_cl, zI_0, zI_1, zI_m1, zI_lit, zT_0, zT_01, zI_01, zI_11, ↓reduceIte, if_true, if_false, not_false_eq_true, not_true_eq_false, Int.reduceEq, Int.reduceLT, Int.reduceLE, Classical.not_not, Bool.false_eq_true, lI_of, lI_0, lI_1, lI_m1, lI_lit, lI_neg, lI_add, lI_sub, lI_mul, lc_lt, lc_gt, lc_le, lc_ge, fi_19, ft_19_0, ft_19_1, ft_19_2, ft_19_3, ft_19_5, ft_19_6, ft_19_7, ft_19_8, ft_19_12, ft_19_13, ft_19_14, ft_19_15, ft_19_16, ft_19_21, xi_20, xi_21, xi_22, xi_23, xi_24, xi_25, xi_26, xi_27, xi_28, xi_29, xi_30, xi_31, xi_32, xi_33, Int.toNat_natCast, hh1, r_in, zT_t b1, hc1, ha1, Int.reduceMul, ← em, cz, e4, hpv, z3]
            exact hB w1 r1 (by omega) (by rw [hf]; exact ha1)
          · have z3 : tcm n tb (c - 1) ≤ tcm n tb c := by omega
            have := go (tok1.mpr (fun h => z2 h.2))
            simp (disch := omega) only [eX6_readsPart_0, eX6_readsPart_1, eX6_readsPart_4, eX6_readsPart_6, eX6_readsPart_9, eX6_readsPart_10, eX6_readsPart_11, eX6_readsPart_12, eX6_readsPart_13, eX6_readsPart_14, eX6_readsPart_16, eX6_readsPart_17, eX6_readsPart_20, eX6_readsPart_21, eX6_readsPart_24, eX6_readsPart_26, eX6_readsPart_27, eX6_readsPart_28, eX6_readsPart_29, eX6_readsPart_30, eX6_readsPart_31, eX6_readsPart_34, eX6_readsPart_37, eX6_readsPart_40, eX6_readsPart_41, eX6_readsPart_42, eX6_readsPart_43, eX6_readsPart_44, eX6_readsPart_47, eX6_readsPart_49, eX6_readsPart_50, eX6_readsPart_51, eX6_readsPart_52, eX6_readsPart_53, eX6_readsPart_56, eX6_readsPart_57, eX6_readsPart_58, eX6_readsPart_59, eX6_readsPart_60, eX6_readsPart_63, eX6_readsPart_64, eX6_readsPart_67, eX6_readsPart_70, eX6_readsPart_71, eX6_readsPart_72, eX6_readsPart_75, eX6_readsPart_76, eX6_readsPart_77, eX6_readsPart_80, eX6_readsPart_81, eX6_readsPart_82, eX6_readsPart_83, eX6_readsPart_84, eX6_readsPart_87, eX6_readsPart_88, eX6_readsPart_90, eX6_readsPart_93, eX6_readsPart_94, eX6_readsPart_95, eX6_readsPart_98, eX6_readsPart_99, eX6_readsPart_100, eX6_readsPart_101, eX6_readsPart_104, eX6_readsPart_105, eX6_readsPart_108, eX6_readsPart_109, eX6_readsPart_110, eX6_readsPart_111, eX6_readsPart_112, eX6_readsPart_115, eX6_readsPart_116, eX6_readsPart_119, eX6_readsPart_120, eX6_readsPart_121, eX6_readsPart_122, eX6_readsPart_122i, eX6_readsPart_123, eX6_readsPart_126, eX6_readsPart_127, eX6_readsPart_128, eX6_readsPart_131, eX6_readsPart_134, eX6_readsPart_137, eX6_readsPart_138, eX6_readsPart_138i, eX6_readsPart_139, eX6_readsPart_142, eX6_readsPart_143, eX6_readsPart_144, eX6_readsPart_147, eX6_readsPart_148, en_kl_0, en_kl_i, en_kl_r, en_kl_n, en_kl_l, en_Ec_some, en_Ec_void, en_rcv, en_stk, List.map_cons, List.map_nil, List.sum_cons, List.sum_nil, Value.category, Nat.reduceAdd, Nat.reduceLeDiff, decide_true, true_and, and_true, and_self, zI_add, zI_sub, zI_mul, zI_neg, zI_lt, zI_le, zI_eq, zI_cl, zI_0, zI_1, zI_m1, zI_lit, zT_0, zT_01, zI_01, zI_11, ↓reduceIte, if_true, if_false, not_false_eq_true, not_true_eq_false, Int.reduceEq, Int.reduceLT, Int.reduceLE, Classical.not_not, Bool.false_eq_true, lI_of, lI_0, lI_1, lI_m1, lI_lit, lI_neg, lI_add, lI_sub, lI_mul, lc_lt, lc_gt, lc_le, lc_ge, fi_19, ft_19_0, ft_19_1, ft_19_2, ft_19_3, ft_19_5, ft_19_6, ft_19_7, ft_19_8, ft_19_12, ft_19_13, ft_19_14, ft_19_15, ft_19_16, ft_19_21, xi_20, xi_21, xi_22, xi_23, xi_24, xi_25, xi_26, xi_27, xi_28, xi_29, xi_30, xi_31, xi_32, xi_33, Int.toNat_natCast, hh1, r_in, zT_t b1, hc1, ha1, Int.reduceMul, ← em, cz, e4, hpv, z3]
            exact this
        · have cz : (c : Int) ≤ 0 := by omega
          have := go (tok1.mpr (fun h => z h.1))
          simp (disch := omega) only [eX6_readsPart_0, eX6_readsPart_1, eX6_readsPart_4, eX6_readsPart_6, eX6_readsPart_9, eX6_readsPart_10, eX6_readsPart_11, eX6_readsPart_12, eX6_readsPart_13, eX6_readsPart_14, eX6_readsPart_16, eX6_readsPart_17, eX6_readsPart_20, eX6_readsPart_21, eX6_readsPart_24, eX6_readsPart_26, eX6_readsPart_27, eX6_readsPart_28, eX6_readsPart_29, eX6_readsPart_30, eX6_readsPart_31, eX6_readsPart_34, eX6_readsPart_37, eX6_readsPart_40, eX6_readsPart_41, eX6_readsPart_42, eX6_readsPart_43, eX6_readsPart_44, eX6_readsPart_47, eX6_readsPart_49, eX6_readsPart_50, eX6_readsPart_51, eX6_readsPart_52, eX6_readsPart_53, eX6_readsPart_56, eX6_readsPart_57, eX6_readsPart_58, eX6_readsPart_59, eX6_readsPart_60, eX6_readsPart_63, eX6_readsPart_64, eX6_readsPart_67, eX6_readsPart_70, eX6_readsPart_71, eX6_readsPart_72, eX6_readsPart_75, eX6_readsPart_76, eX6_readsPart_77, eX6_readsPart_80, eX6_readsPart_81, eX6_readsPart_82, eX6_readsPart_83, eX6_readsPart_84, eX6_readsPart_87, eX6_readsPart_88, eX6_readsPart_90, eX6_readsPart_93, eX6_readsPart_94, eX6_readsPart_95, eX6_readsPart_98, eX6_readsPart_99, eX6_readsPart_100, eX6_readsPart_101, eX6_readsPart_104, eX6_readsPart_105, eX6_readsPart_108, eX6_readsPart_109, eX6_readsPart_110, eX6_readsPart_111, eX6_readsPart_112, eX6_readsPart_115, eX6_readsPart_116, eX6_readsPart_119, eX6_readsPart_120, eX6_readsPart_121, eX6_readsPart_122, eX6_readsPart_122i, eX6_readsPart_123, eX6_readsPart_126, eX6_readsPart_127, eX6_readsPart_128, eX6_readsPart_131, eX6_readsPart_134, eX6_readsPart_137, eX6_readsPart_138, eX6_readsPart_138i, eX6_readsPart_139, eX6_readsPart_142, eX6_readsPart_143, eX6_readsPart_144, eX6_readsPart_147, eX6_readsPart_148, en_kl_0, en_kl_i, en_kl_r, en_kl_n, en_kl_l, en_Ec_some, en_Ec_void, en_rcv, en_stk, List.map_cons, List.map_nil, List.sum_cons, List.sum_nil, Value.category, Nat.reduceAdd, Nat.reduceLeDiff, decide_true, true_and, and_true, and_self, zI_add, zI_sub, zI_mul, zI_neg, zI_lt, zI_le, zI_eq, zI_cl, zI_0, zI_1, zI_m1, zI_lit, zT_0, zT_01, zI_01, zI_11, ↓reduceIte, if_true, if_false, not_false_eq_true, not_true_eq_false, Int.reduceEq, Int.reduceLT, Int.reduceLE, Classical.not_not, Bool.false_eq_true, lI_of, lI_0, lI_1, lI_m1, lI_lit, lI_neg, lI_add, lI_sub, lI_mul, lc_lt, lc_gt, lc_le, lc_ge, fi_19, ft_19_0, ft_19_1, ft_19_2, ft_19_3, ft_19_5, ft_19_6, ft_19_7, ft_19_8, ft_19_12, ft_19_13, ft_19_14, ft_19_15, ft_19_16, ft_19_21, xi_20, xi_21, xi_22, xi_23, xi_24, xi_25, xi_26, xi_27, xi_28, xi_29, xi_30, xi_31, xi_32, xi_33, Int.toNat_natCast, hh1, r_in, zT_t b1, hc1, ha1, Int.reduceMul, ← em, cz]
          exact this
      · have hf := bad 1 (by omega) (fun j hj => by
          by_cases z : j = 4 * c
          · rw [z]; exact t0
          · exact hok j (by omega)) b1
        simp (disch := omega) only [eX6_readsPart_0, eX6_readsPart_1, eX6_readsPart_4, eX6_readsPart_6, eX6_readsPart_9, eX6_readsPart_10, eX6_readsPart_11, eX6_readsPart_12, eX6_readsPart_13, eX6_readsPart_14, eX6_readsPart_16, eX6_readsPart_17, eX6_readsPart_20, eX6_readsPart_21, eX6_readsPart_24, eX6_readsPart_26, eX6_readsPart_27, eX6_readsPart_28, eX6_readsPart_29, eX6_readsPart_30, eX6_readsPart_31, eX6_readsPart_34, eX6_readsPart_37, eX6_readsPart_40, eX6_readsPart_41, eX6_readsPart_42, eX6_readsPart_43, eX6_readsPart_44, eX6_readsPart_47, eX6_readsPart_49, eX6_readsPart_50, eX6_readsPart_51, eX6_readsPart_52, eX6_readsPart_53, eX6_readsPart_56, eX6_readsPart_57, eX6_readsPart_58, eX6_readsPart_59, eX6_readsPart_60, eX6_readsPart_63, eX6_readsPart_64, eX6_readsPart_67, eX6_readsPart_70, eX6_readsPart_71, eX6_readsPart_72, eX6_readsPart_75, eX6_readsPart_76, eX6_readsPart_77, eX6_readsPart_80, eX6_readsPart_81, eX6_readsPart_82, eX6_readsPart_83, eX6_readsPart_84, eX6_readsPart_87, eX6_readsPart_88, eX6_readsPart_89, eX6_readsPart_90, eX6_readsPart_93, eX6_readsPart_94, eX6_readsPart_95, eX6_readsPart_98, eX6_readsPart_99, eX6_readsPart_100, eX6_readsPart_101, eX6_readsPart_104, eX6_readsPart_105, eX6_readsPart_108, eX6_readsPart_109, eX6_readsPart_110, eX6_readsPart_111, eX6_readsPart_112, eX6_readsPart_115, eX6_readsPart_116, eX6_readsPart_119, eX6_readsPart_120, eX6_readsPart_121, eX6_readsPart_122, eX6_readsPart_122i, eX6_readsPart_123, eX6_readsPart_126, eX6_readsPart_127, eX6_readsPart_128, eX6_readsPart_131, eX6_readsPart_134, eX6_readsPart_137, eX6_readsPart_138, eX6_readsPart_138i, eX6_readsPart_139, eX6_readsPart_142, eX6_readsPart_143, eX6_readsPart_144, eX6_readsPart_147, eX6_readsPart_148, en_kl_0, en_kl_i, en_kl_r, en_kl_n, en_kl_l, en_Ec_some, en_Ec_void, en_rcv, en_stk, List.map_cons, List.map_nil, List.sum_cons, List.sum_nil, Value.category, Nat.reduceAdd, Nat.reduceLeDiff, decide_true, true_and, and_true, and_self, zI_add, zI_sub, zI_mul, zI_neg, zI_lt, zI_le, zI_eq, zI_cl, zI_0, zI_1, zI_m1, zI_lit, zT_0, zT_01, zI_01, zI_11, ↓reduceIte, if_true, if_false, not_false_eq_true, not_true_eq_false, Int.reduceEq, Int.reduceLT, Int.reduceLE, Classical.not_not, Bool.false_eq_true, lI_of, lI_0, lI_1, lI_m1, lI_lit, lI_neg, lI_add, lI_sub, lI_mul, lc_lt, lc_gt, lc_le, lc_ge, fi_19, ft_19_0, ft_19_1, ft_19_2, ft_19_3, ft_19_5, ft_19_6, ft_19_7, ft_19_8, ft_19_12, ft_19_13, ft_19_14, ft_19_15, ft_19_16, ft_19_21, xi_20, xi_21, xi_22, xi_23, xi_24, xi_25, xi_26, xi_27, xi_28, xi_29, xi_30, xi_31, xi_32, xi_33, Int.toNat_natCast, hh1, r_in, zT_f b1]
        exact hB w1 r1 (by omega) (by rw [hf]; exact ha1)
    · have hf := bad 0 (by omega) hok b0
      simp (disch := omega) only [eX6_readsPart_0, eX6_readsPart_1, eX6_readsPart_4, eX6_readsPart_6, eX6_readsPart_9, eX6_readsPart_10, eX6_readsPart_11, eX6_readsPart_12, eX6_readsPart_13, eX6_readsPart_14, eX6_readsPart_16, eX6_readsPart_17, eX6_readsPart_20, eX6_readsPart_21, eX6_readsPart_24, eX6_readsPart_26, eX6_readsPart_27, eX6_readsPart_28, eX6_readsPart_29, eX6_readsPart_30, eX6_readsPart_31, eX6_readsPart_34, eX6_readsPart_37, eX6_readsPart_40, eX6_readsPart_41, eX6_readsPart_42, eX6_readsPart_43, eX6_readsPart_44, eX6_readsPart_47, eX6_readsPart_49, eX6_readsPart_50, eX6_readsPart_51, eX6_readsPart_52, eX6_readsPart_53, eX6_readsPart_56, eX6_readsPart_57, eX6_readsPart_58, eX6_readsPart_59, eX6_readsPart_60, eX6_readsPart_63, eX6_readsPart_64, eX6_readsPart_67, eX6_readsPart_70, eX6_readsPart_71, eX6_readsPart_72, eX6_readsPart_75, eX6_readsPart_76, eX6_readsPart_77, eX6_readsPart_80, eX6_readsPart_81, eX6_readsPart_82, eX6_readsPart_83, eX6_readsPart_84, eX6_readsPart_87, eX6_readsPart_88, eX6_readsPart_89, eX6_readsPart_90, eX6_readsPart_93, eX6_readsPart_94, eX6_readsPart_95, eX6_readsPart_98, eX6_readsPart_99, eX6_readsPart_100, eX6_readsPart_101, eX6_readsPart_104, eX6_readsPart_105, eX6_readsPart_108, eX6_readsPart_109, eX6_readsPart_110, eX6_readsPart_111, eX6_readsPart_112, eX6_readsPart_115, eX6_readsPart_116, eX6_readsPart_119, eX6_readsPart_120, eX6_readsPart_121, eX6_readsPart_122, eX6_readsPart_122i, eX6_readsPart_123, eX6_readsPart_126, eX6_readsPart_127, eX6_readsPart_128, eX6_readsPart_131, eX6_readsPart_134, eX6_readsPart_137, eX6_readsPart_138, eX6_readsPart_138i, eX6_readsPart_139, eX6_readsPart_142, eX6_readsPart_143, eX6_readsPart_144, eX6_readsPart_147, eX6_readsPart_148, en_kl_0, en_kl_i, en_kl_r, en_kl_n, en_kl_l, en_Ec_some, en_Ec_void, en_rcv, en_stk, List.map_cons, List.map_nil, List.sum_cons, List.sum_nil, Value.category, Nat.reduceAdd, Nat.reduceLeDiff, decide_true, true_and, and_true, and_self, zI_add, zI_sub, zI_mul, zI_neg, zI_lt, zI_le, zI_eq, zI_cl, zI_0, zI_1, zI_m1, zI_lit, zT_0, zT_01, zI_01, zI_11, ↓reduceIte, if_true, if_false, not_false_eq_true, not_true_eq_false, Int.reduceEq, Int.reduceLT, Int.reduceLE, Classical.not_not, Bool.false_eq_true, lI_of, lI_0, lI_1, lI_m1, lI_lit, lI_neg, lI_add, lI_sub, lI_mul, lc_lt, lc_gt, lc_le, lc_ge, fi_19, ft_19_0, ft_19_1, ft_19_2, ft_19_3, ft_19_5, ft_19_6, ft_19_7, ft_19_8, ft_19_12, ft_19_13, ft_19_14, ft_19_15, ft_19_16, ft_19_21, xi_20, xi_21, xi_22, xi_23, xi_24, xi_25, xi_26, xi_27, xi_28, xi_29, xi_30, xi_31, xi_32, xi_33, Int.toNat_natCast, hh0, r_in, zT_f b0]
      exact hB w rfr.rf (by omega) (by rw [hf]; exact ha)
end
