/-! ===== the model chooses ===== -/
/-- whom the model has chosen -/
def mK (w : en_W) (n : Nat) (ch : Nat → Int) : Prop := ∀ i, i < n → w 29 i = zI (ch i) ∧ -1 ≤ ch i ∧ ch i ≤ 199
section
variable {w : en_W} {n : Nat} {cm cb ch : Nat → Int} {m law : Int}
theorem r_mostAsked {a : Nat} (hC : mC w n cm cb) (hK : mK w n ch) (m1 : 0 ≤ m) (m2 : m < 1000) (ha : wai cm ch m a) (han : a < n) : SX6_mostAsked [.ref 19, .int (zI m)] w = some (some (.int (zI (nma n cm cb ch m a))), w) := by
  obtain ⟨c1, c2, c3⟩ := hC
  refine en_val rfl (fun Q hQ => ?_)
  show en_Ev XX6_mostAsked 0 [some (.ref 19), some (.int (zI m)), none, none, none, none, none, none] [] w Q
  obtain ⟨q, hq⟩ : ∃ q : Nat → Nat, q = fun b => nqc n cm cb ch m b n := ⟨_, rfl⟩
  have hq' : ∀ b, q b = nqc n cm cb ch m b n := fun b => by rw [hq]
  have hq20 : ∀ b, q b ≤ 20 := fun b => by rw [hq']; have := nqc_le (n := n) (cm := cm) (cb := cb) (ch := ch) (m := m) (b := b) n; omega
  -- the inner look: many and first of button b
  have inner : ∀ (b : Nat) (l2 l3 : Int32) (P : Option Value → en_W → Prop), b ≤ 9 →
      (∀ f : Int, (q b = 0 → f = -1) → (0 < q b → f = nfi n cm cb ch m a b n 0) → -1 ≤ f → f ≤ 20 → ∀ l7, en_Ev XX6_mostAsked 85 [some (.ref 19), some (.int (zI m)), some (.int l2), some (.int l3), some (.int (zI b)), some (.int (zI (q b))), some (.int (zI f)), l7] [] w P) →
      ∀ l5 l6 l7, en_Ev XX6_mostAsked 13 [some (.ref 19), some (.int (zI m)), some (.int l2), some (.int l3), some (.int (zI b)), l5, l6, l7] [] w P := by
    intro b l2 l3 P hb9 hP l5 l6 l7
    have loop : ∀ (d : Nat) (many : Nat) (f : Int), d ≤ n → many + nqc n cm cb ch m b d = q b → (many = 0 ∧ f = -1 ∨ 0 < many ∧ ∃ g : Nat, g < n ∧ d ≤ g ∧ f = g ∧ wab cm cb ch m b g ∧ ∀ j, d ≤ j → j < g → ¬ wab cm cb ch m b j) → (many = 0 → ∀ j, d ≤ j → j < n → ¬ wab cm cb ch m b j) → en_Ev XX6_mostAsked 27 [some (.ref 19), some (.int (zI m)), some (.int l2), some (.int l3), some (.int (zI b)), some (.int (zI many)), some (.int (zI f)), some (.int (zI ((d : Int) - 1)))] [] w P := by
      intro d
      induction d with
      | zero =>
        intro many f h0 h1 h2 h3
        have e : many = q b := by
          have : nqc n cm cb ch m b 0 = 0 := rfl
          omega
        have x1 : ((0 : Nat) : Int) - 1 < 0 := by omega
        rw [eX6_mostAsked_27]
        simp (disch := omega) only [eX6_mostAsked_29, en_kl_0, en_kl_i, en_kl_r, en_kl_n, en_kl_l, en_Ec_some, en_Ec_void, en_rcv, en_stk, List.map_cons, List.map_nil, List.sum_cons, List.sum_nil, Value.category, Nat.reduceAdd, Nat.reduceLeDiff, decide_true, true_and, and_true, and_self, zI_add, zI_sub, zI_mul, zI_neg, zI_lt, zI_le, zI_eq, zI_cl, zI_0, zI_1, zI_m1, zI_lit, zT_0, zT_01, zI_01, zI_11, ↓reduceIte, if_true, if_false, not_false_eq_true, not_true_eq_false, Int.reduceEq, Int.reduceLT, Int.reduceLE, Classical.not_not, Bool.false_eq_true, x1]
        rw [e]
        refine hP f (fun z => ?_) (fun z => ?_) ?_ ?_ _
        · rcases h2 with ⟨-, h⟩ | ⟨h, -⟩
          · exact h
          · omega
        · rcases h2 with ⟨h, -⟩ | ⟨-, g, g1, g2, g3, g4, g5⟩
          · omega
          · obtain ⟨f', k1, k2, k3, k4, k5⟩ := nfi_spec (n := n) (cm := cm) (cb := cb) (ch := ch) (m := m) (ahead := a) (b := b) n 0 (by omega) ⟨g, by omega, by omega, g4⟩
            have : ¬ f' < g := fun z => g5 f' (by omega) z k4
            have : ¬ g < f' := fun z => k5 g (by omega) z g4
            rw [g3, k3]
            omega
        · rcases h2 with ⟨-, h⟩ | ⟨-, g, g1, g2, g3, -⟩ <;> omega
        · rcases h2 with ⟨-, h⟩ | ⟨-, g, g1, g2, g3, -⟩ <;> omega
      | succ d ih =>
        intro many f h0 h1 h2 h3
        obtain ⟨i1, i2, i3, i4, i5, i6⟩ := c3 d (by omega)
        obtain ⟨k1, k2, k3⟩ := hK d (by omega)
        have x1 : ¬ ((d + 1 : Nat) : Int) - 1 < 0 := by omega
        have x0 : ((d + 1 : Nat) : Int) - 1 = (d : Int) := by omega
        have e1 : (2 * (d : Int)).toNat = 2 * d := by omega
        have e2 : (2 * (d : Int) + 1).toNat = 2 * d + 1 := by omega
        have hm20 : many ≤ 20 := by have := hq20 b; omega
        have x0' : ¬ (d : Int) < 0 := by omega
        have hun : nqc n cm cb ch m b (d + 1) = nqc n cm cb ch m b d + (if nw n cm ch m (d : Int) ∧ cb d = (b : Int) then 1 else 0) := rfl
        rw [hun] at h1
        rw [x0, eX6_mostAsked_27]
        by_cases w1 : ch d = -1
        · by_cases w2 : cm d ≤ m
          · have w2' : ¬ m < cm d := by omega
            by_cases w3 : cb d = (b : Int)
            · have hw : wab cm cb ch m b d := ⟨⟨w1, w2⟩, w3⟩
              rw [if_pos ⟨(nw_wai (by omega)).mpr hw.1, w3⟩] at h1
              simp (disch := omega) only [eX6_mostAsked_0, eX6_mostAsked_1, eX6_mostAsked_2, eX6_mostAsked_3, eX6_mostAsked_4, eX6_mostAsked_6, eX6_mostAsked_10, eX6_mostAsked_13, eX6_mostAsked_14, eX6_mostAsked_16, eX6_mostAsked_17, eX6_mostAsked_19, eX6_mostAsked_20, eX6_mostAsked_23, eX6_mostAsked_24, eX6_mostAsked_25, eX6_mostAsked_29, eX6_mostAsked_32, eX6_mostAsked_33, eX6_mostAsked_36, eX6_mostAsked_38, eX6_mostAsked_39, eX6_mostAsked_40, eX6_mostAsked_43, eX6_mostAsked_44, eX6_mostAsked_47, eX6_mostAsked_48, eX6_mostAsked_50, eX6_mostAsked_51, eX6_mostAsked_52, eX6_mostAsked_53, eX6_mostAsked_56, eX6_mostAsked_57, eX6_mostAsked_60, eX6_mostAsked_61, eX6_mostAsked_63, eX6_mostAsked_64, eX6_mostAsked_65, eX6_mostAsked_66, eX6_mostAsked_67, eX6_mostAsked_69, eX6_mostAsked_72, eX6_mostAsked_75, eX6_mostAsked_77, eX6_mostAsked_79, eX6_mostAsked_82, eX6_mostAsked_85, eX6_mostAsked_87, eX6_mostAsked_90, eX6_mostAsked_92, eX6_mostAsked_93, eX6_mostAsked_96, eX6_mostAsked_98, eX6_mostAsked_101, eX6_mostAsked_102, eX6_mostAsked_103, eX6_mostAsked_105, eX6_mostAsked_106, eX6_mostAsked_109, eX6_mostAsked_111, eX6_mostAsked_114, eX6_mostAsked_115, eX6_mostAsked_116, eX6_mostAsked_119, eX6_mostAsked_122, eX6_mostAsked_123, en_kl_0, en_kl_i, en_kl_r, en_kl_n, en_kl_l, en_Ec_some, en_Ec_void, en_rcv, en_stk, List.map_cons, List.map_nil, List.sum_cons, List.sum_nil, Value.category, Nat.reduceAdd, Nat.reduceLeDiff, decide_true, true_and, and_true, and_self, zI_add, zI_sub, zI_mul, zI_neg, zI_lt, zI_le, zI_eq, zI_cl, zI_0, zI_1, zI_m1, zI_lit, zT_0, zT_01, zI_01, zI_11, ↓reduceIte, if_true, if_false, not_false_eq_true, not_true_eq_false, Int.reduceEq, Int.reduceLT, Int.reduceLE, Classical.not_not, Bool.false_eq_true, fi_19, ft_19_0, ft_19_1, ft_19_2, ft_19_3, ft_19_5, ft_19_6, ft_19_7, ft_19_8, ft_19_12, ft_19_13, ft_19_14, ft_19_15, ft_19_16, ft_19_21, xi_20, xi_21, xi_22, xi_23, xi_24, xi_25, xi_26, xi_27, xi_28, xi_29, xi_30, xi_31, xi_32, xi_33, Int.toNat_natCast, Int.reduceToNat, x0', k1, w1, e1, i1, w2', e2, i2, w3]
              have e3 : (d : Int) + -1 = (d : Int) - 1 := by omega
              first | rw [e3] | skip
              exact ih (many + 1) d (by omega) (by omega) (.inr ⟨by omega, d, by omega, Nat.le_refl d, rfl, hw, fun j a1 a2 => by omega⟩) (fun z => by omega)
            · have hw : ¬ wab cm cb ch m b d := fun z => w3 z.2
              rw [if_neg (fun z => w3 z.2), Nat.add_zero] at h1
              simp (disch := omega) only [eX6_mostAsked_0, eX6_mostAsked_1, eX6_mostAsked_2, eX6_mostAsked_3, eX6_mostAsked_4, eX6_mostAsked_6, eX6_mostAsked_10, eX6_mostAsked_13, eX6_mostAsked_14, eX6_mostAsked_16, eX6_mostAsked_17, eX6_mostAsked_19, eX6_mostAsked_20, eX6_mostAsked_23, eX6_mostAsked_24, eX6_mostAsked_25, eX6_mostAsked_29, eX6_mostAsked_32, eX6_mostAsked_33, eX6_mostAsked_36, eX6_mostAsked_38, eX6_mostAsked_39, eX6_mostAsked_40, eX6_mostAsked_43, eX6_mostAsked_44, eX6_mostAsked_47, eX6_mostAsked_48, eX6_mostAsked_50, eX6_mostAsked_51, eX6_mostAsked_52, eX6_mostAsked_53, eX6_mostAsked_56, eX6_mostAsked_57, eX6_mostAsked_60, eX6_mostAsked_61, eX6_mostAsked_63, eX6_mostAsked_64, eX6_mostAsked_65, eX6_mostAsked_66, eX6_mostAsked_67, eX6_mostAsked_69, eX6_mostAsked_72, eX6_mostAsked_75, eX6_mostAsked_77, eX6_mostAsked_79, eX6_mostAsked_82, eX6_mostAsked_85, eX6_mostAsked_87, eX6_mostAsked_90, eX6_mostAsked_92, eX6_mostAsked_93, eX6_mostAsked_96, eX6_mostAsked_98, eX6_mostAsked_101, eX6_mostAsked_102, eX6_mostAsked_103, eX6_mostAsked_105, eX6_mostAsked_106, eX6_mostAsked_109, eX6_mostAsked_111, eX6_mostAsked_114, eX6_mostAsked_115, eX6_mostAsked_116, eX6_mostAsked_119, eX6_mostAsked_122, eX6_mostAsked_123, en_kl_0, en_kl_i, en_kl_r, en_kl_n, en_kl_l, en_Ec_some, en_Ec_void, en_rcv, en_stk, List.map_cons, List.map_nil, List.sum_cons, List.sum_nil, Value.category, Nat.reduceAdd, Nat.reduceLeDiff, decide_true, true_and, and_true, and_self, zI_add, zI_sub, zI_mul, zI_neg, zI_lt, zI_le, zI_eq, zI_cl, zI_0, zI_1, zI_m1, zI_lit, zT_0, zT_01, zI_01, zI_11, ↓reduceIte, if_true, if_false, not_false_eq_true, not_true_eq_false, Int.reduceEq, Int.reduceLT, Int.reduceLE, Classical.not_not, Bool.false_eq_true, fi_19, ft_19_0, ft_19_1, ft_19_2, ft_19_3, ft_19_5, ft_19_6, ft_19_7, ft_19_8, ft_19_12, ft_19_13, ft_19_14, ft_19_15, ft_19_16, ft_19_21, xi_20, xi_21, xi_22, xi_23, xi_24, xi_25, xi_26, xi_27, xi_28, xi_29, xi_30, xi_31, xi_32, xi_33, Int.toNat_natCast, Int.reduceToNat, x0', k1, w1, e1, i1, w2', e2, i2, w3]
              have e3 : (d : Int) + -1 = (d : Int) - 1 := by omega
              first | rw [e3] | skip
              refine ih many f (by omega) h1 ?_ (fun z j a1 a2 => ?_)
              · rcases h2 with h | ⟨hx, g, g1, g2, g3, g4, g5⟩
                · exact .inl h
                · refine .inr ⟨hx, g, g1, by omega, g3, g4, fun j a1 a2 => ?_⟩
                  by_cases e : j = d
                  · rw [e]; exact hw
                  · exact g5 j (by omega) a2
              · by_cases e : j = d
                · rw [e]; exact hw
                · exact h3 z j (by omega) a2
          · have w2' : m < cm d := by omega
            have hw : ¬ wab cm cb ch m b d := fun z => w2 z.1.2
            rw [if_neg (fun z => w2 ((nw_wai (by omega)).mp z.1).2), Nat.add_zero] at h1
            simp (disch := omega) only [eX6_mostAsked_0, eX6_mostAsked_1, eX6_mostAsked_2, eX6_mostAsked_3, eX6_mostAsked_4, eX6_mostAsked_6, eX6_mostAsked_10, eX6_mostAsked_13, eX6_mostAsked_14, eX6_mostAsked_16, eX6_mostAsked_17, eX6_mostAsked_19, eX6_mostAsked_20, eX6_mostAsked_23, eX6_mostAsked_24, eX6_mostAsked_25, eX6_mostAsked_29, eX6_mostAsked_32, eX6_mostAsked_33, eX6_mostAsked_36, eX6_mostAsked_38, eX6_mostAsked_39, eX6_mostAsked_40, eX6_mostAsked_43, eX6_mostAsked_44, eX6_mostAsked_47, eX6_mostAsked_48, eX6_mostAsked_50, eX6_mostAsked_51, eX6_mostAsked_52, eX6_mostAsked_53, eX6_mostAsked_56, eX6_mostAsked_57, eX6_mostAsked_60, eX6_mostAsked_61, eX6_mostAsked_63, eX6_mostAsked_64, eX6_mostAsked_65, eX6_mostAsked_66, eX6_mostAsked_67, eX6_mostAsked_69, eX6_mostAsked_72, eX6_mostAsked_75, eX6_mostAsked_77, eX6_mostAsked_79, eX6_mostAsked_82, eX6_mostAsked_85, eX6_mostAsked_87, eX6_mostAsked_90, eX6_mostAsked_92, eX6_mostAsked_93, eX6_mostAsked_96, eX6_mostAsked_98, eX6_mostAsked_101, eX6_mostAsked_102, eX6_mostAsked_103, eX6_mostAsked_105, eX6_mostAsked_106, eX6_mostAsked_109, eX6_mostAsked_111, eX6_mostAsked_114, eX6_mostAsked_115, eX6_mostAsked_116, eX6_mostAsked_119, eX6_mostAsked_122, eX6_mostAsked_123, en_kl_0, en_kl_i, en_kl_r, en_kl_n, en_kl_l, en_Ec_some, en_Ec_void, en_rcv, en_stk, List.map_cons, List.map_nil, List.sum_cons, List.sum_nil, Value.category, Nat.reduceAdd, Nat.reduceLeDiff, decide_true, true_and, and_true, and_self, zI_add, zI_sub, zI_mul, zI_neg, zI_lt, zI_le, zI_eq, zI_cl, zI_0, zI_1, zI_m1, zI_lit, zT_0, zT_01, zI_01, zI_11, ↓reduceIte, if_true, if_false, not_false_eq_true, not_true_eq_false, Int.reduceEq, Int.reduceLT, Int.reduceLE, Classical.not_not, Bool.false_eq_true, fi_19, ft_19_0, ft_19_1, ft_19_2, ft_19_3, ft_19_5, ft_19_6, ft_19_7, ft_19_8, ft_19_12, ft_19_13, ft_19_14, ft_19_15, ft_19_16, ft_19_21, xi_20, xi_21, xi_22, xi_23, xi_24, xi_25, xi_26, xi_27, xi_28, xi_29, xi_30, xi_31, xi_32, xi_33, Int.toNat_natCast, Int.reduceToNat, x0', k1, w1, e1, i1, w2']
            have e3 : (d : Int) + -1 = (d : Int) - 1 := by omega
            first | rw [e3] | skip
            refine ih many f (by omega) h1 ?_ (fun z j a1 a2 => ?_)
            · rcases h2 with h | ⟨hx, g, g1, g2, g3, g4, g5⟩
              · exact .inl h
              · refine .inr ⟨hx, g, g1, by omega, g3, g4, fun j a1 a2 => ?_⟩
                by_cases e : j = d
                · rw [e]; exact hw
                · exact g5 j (by omega) a2
            · by_cases e : j = d
              · rw [e]; exact hw
              · exact h3 z j (by omega) a2
        · have hw : ¬ wab cm cb ch m b d := fun z => w1 z.1.1
          rw [if_neg (fun z => w1 ((nw_wai (by omega)).mp z.1).1), Nat.add_zero] at h1
          simp (disch := omega) only [eX6_mostAsked_0, eX6_mostAsked_1, eX6_mostAsked_2, eX6_mostAsked_3, eX6_mostAsked_4, eX6_mostAsked_6, eX6_mostAsked_10, eX6_mostAsked_13, eX6_mostAsked_14, eX6_mostAsked_16, eX6_mostAsked_17, eX6_mostAsked_19, eX6_mostAsked_20, eX6_mostAsked_23, eX6_mostAsked_24, eX6_mostAsked_25, eX6_mostAsked_29, eX6_mostAsked_32, eX6_mostAsked_33, eX6_mostAsked_36, eX6_mostAsked_38, eX6_mostAsked_39, eX6_mostAsked_40, eX6_mostAsked_43, eX6_mostAsked_44, eX6_mostAsked_47, eX6_mostAsked_48, eX6_mostAsked_50, eX6_mostAsked_51, eX6_mostAsked_52, eX6_mostAsked_53, eX6_mostAsked_56, eX6_mostAsked_57, eX6_mostAsked_60, eX6_mostAsked_61, eX6_mostAsked_63, eX6_mostAsked_64, eX6_mostAsked_65, eX6_mostAsked_66, eX6_mostAsked_67, eX6_mostAsked_69, eX6_mostAsked_72, eX6_mostAsked_75, eX6_mostAsked_77, eX6_mostAsked_79, eX6_mostAsked_82, eX6_mostAsked_85, eX6_mostAsked_87, eX6_mostAsked_90, eX6_mostAsked_92, eX6_mostAsked_93, eX6_mostAsked_96, eX6_mostAsked_98, eX6_mostAsked_101, eX6_mostAsked_102, eX6_mostAsked_103, eX6_mostAsked_105, eX6_mostAsked_106, eX6_mostAsked_109, eX6_mostAsked_111, eX6_mostAsked_114, eX6_mostAsked_115, eX6_mostAsked_116, eX6_mostAsked_119, eX6_mostAsked_122, eX6_mostAsked_123, en_kl_0, en_kl_i, en_kl_r, en_kl_n, en_kl_l, en_Ec_some, en_Ec_void, en_rcv, en_stk, List.map_cons, List.map_nil, List.sum_cons, List.sum_nil, Value.category, Nat.reduceAdd, Nat.reduceLeDiff, decide_true, true_and, and_true, and_self, zI_add, zI_sub, zI_mul, zI_neg, zI_lt, zI_le, zI_eq, zI_cl, zI_0, zI_1, zI_m1, zI_lit, zT_0, zT_01, zI_01, zI_11, ↓reduceIte, if_true, if_false, not_false_eq_true, not_true_eq_false, Int.reduceEq, Int.reduceLT, Int.reduceLE, Classical.not_not, Bool.false_eq_true, fi_19, ft_19_0, ft_19_1, ft_19_2, ft_19_3, ft_19_5, ft_19_6, ft_19_7, ft_19_8, ft_19_12, ft_19_13, ft_19_14, ft_19_15, ft_19_16, ft_19_21, xi_20, xi_21, xi_22, xi_23, xi_24, xi_25, xi_26, xi_27, xi_28, xi_29, xi_30, xi_31, xi_32, xi_33, Int.toNat_natCast, Int.reduceToNat, x0', k1, w1]
          have e3 : (d : Int) + -1 = (d : Int) - 1 := by omega
          first | rw [e3] | skip
          refine ih many f (by omega) h1 ?_ (fun z j a1 a2 => ?_)
          · rcases h2 with h | ⟨hx, g, g1, g2, g3, g4, g5⟩
            · exact .inl h
            · refine .inr ⟨hx, g, g1, by omega, g3, g4, fun j a1 a2 => ?_⟩
              by_cases e : j = d
              · rw [e]; exact hw
              · exact g5 j (by omega) a2
          · by_cases e : j = d
            · rw [e]; exact hw
            · exact h3 z j (by omega) a2
    simp (disch := omega) only [eX6_mostAsked_13, eX6_mostAsked_14, eX6_mostAsked_16, eX6_mostAsked_17, eX6_mostAsked_19, eX6_mostAsked_20, eX6_mostAsked_23, eX6_mostAsked_24, eX6_mostAsked_25, en_kl_0, en_kl_i, en_kl_r, en_kl_n, en_kl_l, en_Ec_some, en_Ec_void, en_rcv, en_stk, List.map_cons, List.map_nil, List.sum_cons, List.sum_nil, Value.category, Nat.reduceAdd, Nat.reduceLeDiff, decide_true, true_and, and_true, and_self, zI_add, zI_sub, zI_mul, zI_neg, zI_lt, zI_le, zI_eq, zI_cl, zI_0, zI_1, zI_m1, zI_lit, zT_0, zT_01, zI_01, zI_11, ↓reduceIte, if_true, if_false, not_false_eq_true, not_true_eq_false, Int.reduceEq, Int.reduceLT, Int.reduceLE, Classical.not_not, Bool.false_eq_true, fi_19, ft_19_0, ft_19_1, ft_19_2, ft_19_3, ft_19_5, ft_19_6, ft_19_7, ft_19_8, ft_19_12, ft_19_13, ft_19_14, ft_19_15, ft_19_16, ft_19_21, xi_20, xi_21, xi_22, xi_23, xi_24, xi_25, xi_26, xi_27, xi_28, xi_29, xi_30, xi_31, xi_32, xi_33, Int.toNat_natCast, Int.reduceToNat, c1]
    exact loop n 0 (-1) (Nat.le_refl n) (by rw [hq']; omega) (.inl ⟨rfl, rfl⟩) (fun _ j a1 a2 => by omega)
  -- the outer look
  have hab : ∃ b1 : Nat, b1 ≤ 9 ∧ cb a = (b1 : Int) ∧ 0 < q b1 := by
    obtain ⟨i1, i2, i3, i4, i5, i6⟩ := c3 a han
    refine ⟨(cb a).toNat, by omega, by omega, ?_⟩
    rcases Nat.eq_zero_or_pos (q (cb a).toNat) with z | z
    · rw [hq'] at z
      exact absurd ⟨ha, by omega⟩ ((nqc_zero n (Nat.le_refl n)).mp z a han)
    · exact z
  obtain ⟨b1, hb1, -, hb3⟩ := hab
  have outer : ∀ (j : Nat) (best : Int) (most : Nat) (l5 l6 l7 : Option Value), j ≤ 10 → mok q (fun b => nfi n cm cb ch m a b n 0) j best most → -1 ≤ best → best ≤ 20 → most ≤ 20 → en_Ev XX6_mostAsked 8 [some (.ref 19), some (.int (zI m)), some (.int (zI best)), some (.int (zI most)), some (.int (zI ((j : Int) - 1))), l5, l6, l7] [] w Q := by
    intro j
    induction j with
    | zero =>
      intro best most l5 l6 l7 h1 h2 h3 h4 h5
      have x1 : ((0 : Nat) : Int) - 1 < 0 := by omega
      have he := (mok_end h2 hb1 hb3).1
      rw [eX6_mostAsked_8]
      simp (disch := omega) only [eX6_mostAsked_10, eX6_mostAsked_122, eX6_mostAsked_123, en_kl_0, en_kl_i, en_kl_r, en_kl_n, en_kl_l, en_Ec_some, en_Ec_void, en_rcv, en_stk, List.map_cons, List.map_nil, List.sum_cons, List.sum_nil, Value.category, Nat.reduceAdd, Nat.reduceLeDiff, decide_true, true_and, and_true, and_self, zI_add, zI_sub, zI_mul, zI_neg, zI_lt, zI_le, zI_eq, zI_cl, zI_0, zI_1, zI_m1, zI_lit, zT_0, zT_01, zI_01, zI_11, ↓reduceIte, if_true, if_false, not_false_eq_true, not_true_eq_false, Int.reduceEq, Int.reduceLT, Int.reduceLE, Classical.not_not, Bool.false_eq_true, x1]
      rw [he, hq]
      exact hQ
    | succ j ih =>
      intro best most l5 l6 l7 h1 h2 h3 h4 h5
      have x0 : ((j + 1 : Nat) : Int) - 1 = (j : Int) := by omega
      have x1 : ¬ (j : Int) < 0 := by omega
      rw [x0, eX6_mostAsked_8]
      simp (disch := omega) only [eX6_mostAsked_10, en_kl_0, en_kl_i, en_kl_r, en_kl_n, en_kl_l, en_Ec_some, en_Ec_void, en_rcv, en_stk, List.map_cons, List.map_nil, List.sum_cons, List.sum_nil, Value.category, Nat.reduceAdd, Nat.reduceLeDiff, decide_true, true_and, and_true, and_self, zI_add, zI_sub, zI_mul, zI_neg, zI_lt, zI_le, zI_eq, zI_cl, zI_0, zI_1, zI_m1, zI_lit, zT_0, zT_01, zI_01, zI_11, ↓reduceIte, if_true, if_false, not_false_eq_true, not_true_eq_false, Int.reduceEq, Int.reduceLT, Int.reduceLE, Classical.not_not, Bool.false_eq_true, x1]
      refine inner j _ _ Q (by omega) (fun f f1 f2 f3 f4 l7' => ?_) _ _ _
      have hst := mok_step (show j ≤ 9 by omega) h2
      have hqj := hq20 j
      by_cases y1 : 0 < q j
      · have y1' : ¬ (q j : Int) ≤ 0 := by omega
        rw [← f2 y1] at hst
        by_cases y2 : most ≤ q j
        · have y2' : ¬ (q j : Int) < (most : Int) := by omega
          rw [if_pos ⟨y1, y2⟩] at hst
          by_cases y3 : most < q j
          · have y3' : ¬ (q j : Int) ≤ (most : Int) := by omega
            rw [if_pos y3] at hst
            simp (disch := omega) only [eX6_mostAsked_0, eX6_mostAsked_1, eX6_mostAsked_2, eX6_mostAsked_3, eX6_mostAsked_4, eX6_mostAsked_6, eX6_mostAsked_10, eX6_mostAsked_13, eX6_mostAsked_14, eX6_mostAsked_16, eX6_mostAsked_17, eX6_mostAsked_19, eX6_mostAsked_20, eX6_mostAsked_23, eX6_mostAsked_24, eX6_mostAsked_25, eX6_mostAsked_29, eX6_mostAsked_32, eX6_mostAsked_33, eX6_mostAsked_36, eX6_mostAsked_38, eX6_mostAsked_39, eX6_mostAsked_40, eX6_mostAsked_43, eX6_mostAsked_44, eX6_mostAsked_47, eX6_mostAsked_48, eX6_mostAsked_50, eX6_mostAsked_51, eX6_mostAsked_52, eX6_mostAsked_53, eX6_mostAsked_56, eX6_mostAsked_57, eX6_mostAsked_60, eX6_mostAsked_61, eX6_mostAsked_63, eX6_mostAsked_64, eX6_mostAsked_65, eX6_mostAsked_66, eX6_mostAsked_67, eX6_mostAsked_69, eX6_mostAsked_72, eX6_mostAsked_75, eX6_mostAsked_77, eX6_mostAsked_79, eX6_mostAsked_82, eX6_mostAsked_85, eX6_mostAsked_87, eX6_mostAsked_90, eX6_mostAsked_92, eX6_mostAsked_93, eX6_mostAsked_96, eX6_mostAsked_98, eX6_mostAsked_101, eX6_mostAsked_102, eX6_mostAsked_103, eX6_mostAsked_105, eX6_mostAsked_106, eX6_mostAsked_109, eX6_mostAsked_111, eX6_mostAsked_114, eX6_mostAsked_115, eX6_mostAsked_116, eX6_mostAsked_119, eX6_mostAsked_122, eX6_mostAsked_123, en_kl_0, en_kl_i, en_kl_r, en_kl_n, en_kl_l, en_Ec_some, en_Ec_void, en_rcv, en_stk, List.map_cons, List.map_nil, List.sum_cons, List.sum_nil, Value.category, Nat.reduceAdd, Nat.reduceLeDiff, decide_true, true_and, and_true, and_self, zI_add, zI_sub, zI_mul, zI_neg, zI_lt, zI_le, zI_eq, zI_cl, zI_0, zI_1, zI_m1, zI_lit, zT_0, zT_01, zI_01, zI_11, ↓reduceIte, if_true, if_false, not_false_eq_true, not_true_eq_false, Int.reduceEq, Int.reduceLT, Int.reduceLE, Classical.not_not, Bool.false_eq_true, y1', y2', y3']
            have e3 : (j : Int) + -1 = (j : Int) - 1 := by omega
            first | rw [e3] | skip
            exact ih _ _ _ _ _ (by omega) hst (by omega) (by omega) (by omega)
          · have y3' : (q j : Int) ≤ (most : Int) := by omega
            rw [if_neg y3] at hst
            simp (disch := omega) only [eX6_mostAsked_0, eX6_mostAsked_1, eX6_mostAsked_2, eX6_mostAsked_3, eX6_mostAsked_4, eX6_mostAsked_6, eX6_mostAsked_10, eX6_mostAsked_13, eX6_mostAsked_14, eX6_mostAsked_16, eX6_mostAsked_17, eX6_mostAsked_19, eX6_mostAsked_20, eX6_mostAsked_23, eX6_mostAsked_24, eX6_mostAsked_25, eX6_mostAsked_29, eX6_mostAsked_32, eX6_mostAsked_33, eX6_mostAsked_36, eX6_mostAsked_38, eX6_mostAsked_39, eX6_mostAsked_40, eX6_mostAsked_43, eX6_mostAsked_44, eX6_mostAsked_47, eX6_mostAsked_48, eX6_mostAsked_50, eX6_mostAsked_51, eX6_mostAsked_52, eX6_mostAsked_53, eX6_mostAsked_56, eX6_mostAsked_57, eX6_mostAsked_60, eX6_mostAsked_61, eX6_mostAsked_63, eX6_mostAsked_64, eX6_mostAsked_65, eX6_mostAsked_66, eX6_mostAsked_67, eX6_mostAsked_69, eX6_mostAsked_72, eX6_mostAsked_75, eX6_mostAsked_77, eX6_mostAsked_79, eX6_mostAsked_82, eX6_mostAsked_85, eX6_mostAsked_87, eX6_mostAsked_90, eX6_mostAsked_92, eX6_mostAsked_93, eX6_mostAsked_96, eX6_mostAsked_98, eX6_mostAsked_101, eX6_mostAsked_102, eX6_mostAsked_103, eX6_mostAsked_105, eX6_mostAsked_106, eX6_mostAsked_109, eX6_mostAsked_111, eX6_mostAsked_114, eX6_mostAsked_115, eX6_mostAsked_116, eX6_mostAsked_119, eX6_mostAsked_122, eX6_mostAsked_123, en_kl_0, en_kl_i, en_kl_r, en_kl_n, en_kl_l, en_Ec_some, en_Ec_void, en_rcv, en_stk, List.map_cons, List.map_nil, List.sum_cons, List.sum_nil, Value.category, Nat.reduceAdd, Nat.reduceLeDiff, decide_true, true_and, and_true, and_self, zI_add, zI_sub, zI_mul, zI_neg, zI_lt, zI_le, zI_eq, zI_cl, zI_0, zI_1, zI_m1, zI_lit, zT_0, zT_01, zI_01, zI_11, ↓reduceIte, if_true, if_false, not_false_eq_true, not_true_eq_false, Int.reduceEq, Int.reduceLT, Int.reduceLE, Classical.not_not, Bool.false_eq_true, y1', y2', y3']
            have e3 : (j : Int) + -1 = (j : Int) - 1 := by omega
            first | rw [e3] | skip
            exact ih _ _ _ _ _ (by omega) hst (by omega) (by omega) (by omega)
        · have y2' : (q j : Int) < (most : Int) := by omega
          have y3' : (q j : Int) ≤ (most : Int) := by omega
          rw [if_neg (fun z => y2 z.2), if_neg (by omega)] at hst
          simp (disch := omega) only [eX6_mostAsked_0, eX6_mostAsked_1, eX6_mostAsked_2, eX6_mostAsked_3, eX6_mostAsked_4, eX6_mostAsked_6, eX6_mostAsked_10, eX6_mostAsked_13, eX6_mostAsked_14, eX6_mostAsked_16, eX6_mostAsked_17, eX6_mostAsked_19, eX6_mostAsked_20, eX6_mostAsked_23, eX6_mostAsked_24, eX6_mostAsked_25, eX6_mostAsked_29, eX6_mostAsked_32, eX6_mostAsked_33, eX6_mostAsked_36, eX6_mostAsked_38, eX6_mostAsked_39, eX6_mostAsked_40, eX6_mostAsked_43, eX6_mostAsked_44, eX6_mostAsked_47, eX6_mostAsked_48, eX6_mostAsked_50, eX6_mostAsked_51, eX6_mostAsked_52, eX6_mostAsked_53, eX6_mostAsked_56, eX6_mostAsked_57, eX6_mostAsked_60, eX6_mostAsked_61, eX6_mostAsked_63, eX6_mostAsked_64, eX6_mostAsked_65, eX6_mostAsked_66, eX6_mostAsked_67, eX6_mostAsked_69, eX6_mostAsked_72, eX6_mostAsked_75, eX6_mostAsked_77, eX6_mostAsked_79, eX6_mostAsked_82, eX6_mostAsked_85, eX6_mostAsked_87, eX6_mostAsked_90, eX6_mostAsked_92, eX6_mostAsked_93, eX6_mostAsked_96, eX6_mostAsked_98, eX6_mostAsked_101, eX6_mostAsked_102, eX6_mostAsked_103, eX6_mostAsked_105, eX6_mostAsked_106, eX6_mostAsked_109, eX6_mostAsked_111, eX6_mostAsked_114, eX6_mostAsked_115, eX6_mostAsked_116, eX6_mostAsked_119, eX6_mostAsked_122, eX6_mostAsked_123, en_kl_0, en_kl_i, en_kl_r, en_kl_n, en_kl_l, en_Ec_some, en_Ec_void, en_rcv, en_stk, List.map_cons, List.map_nil, List.sum_cons, List.sum_nil, Value.category, Nat.reduceAdd, Nat.reduceLeDiff, decide_true, true_and, and_true, and_self, zI_add, zI_sub, zI_mul, zI_neg, zI_lt, zI_le, zI_eq, zI_cl, zI_0, zI_1, zI_m1, zI_lit, zT_0, zT_01, zI_01, zI_11, ↓reduceIte, if_true, if_false, not_false_eq_true, not_true_eq_false, Int.reduceEq, Int.reduceLT, Int.reduceLE, Classical.not_not, Bool.false_eq_true, y1', y2', y3']
          have e3 : (j : Int) + -1 = (j : Int) - 1 := by omega
          first | rw [e3] | skip
          exact ih _ _ _ _ _ (by omega) hst (by omega) (by omega) (by omega)
      · have y1' : (q j : Int) ≤ 0 := by omega
        have y3' : (q j : Int) ≤ (most : Int) := by omega
        rw [if_neg (fun z => y1 z.1), if_neg (by omega)] at hst
        simp (disch := omega) only [eX6_mostAsked_0, eX6_mostAsked_1, eX6_mostAsked_2, eX6_mostAsked_3, eX6_mostAsked_4, eX6_mostAsked_6, eX6_mostAsked_10, eX6_mostAsked_13, eX6_mostAsked_14, eX6_mostAsked_16, eX6_mostAsked_17, eX6_mostAsked_19, eX6_mostAsked_20, eX6_mostAsked_23, eX6_mostAsked_24, eX6_mostAsked_25, eX6_mostAsked_29, eX6_mostAsked_32, eX6_mostAsked_33, eX6_mostAsked_36, eX6_mostAsked_38, eX6_mostAsked_39, eX6_mostAsked_40, eX6_mostAsked_43, eX6_mostAsked_44, eX6_mostAsked_47, eX6_mostAsked_48, eX6_mostAsked_50, eX6_mostAsked_51, eX6_mostAsked_52, eX6_mostAsked_53, eX6_mostAsked_56, eX6_mostAsked_57, eX6_mostAsked_60, eX6_mostAsked_61, eX6_mostAsked_63, eX6_mostAsked_64, eX6_mostAsked_65, eX6_mostAsked_66, eX6_mostAsked_67, eX6_mostAsked_69, eX6_mostAsked_72, eX6_mostAsked_75, eX6_mostAsked_77, eX6_mostAsked_79, eX6_mostAsked_82, eX6_mostAsked_85, eX6_mostAsked_87, eX6_mostAsked_90, eX6_mostAsked_92, eX6_mostAsked_93, eX6_mostAsked_96, eX6_mostAsked_98, eX6_mostAsked_101, eX6_mostAsked_102, eX6_mostAsked_103, eX6_mostAsked_105, eX6_mostAsked_106, eX6_mostAsked_109, eX6_mostAsked_111, eX6_mostAsked_114, eX6_mostAsked_115, eX6_mostAsked_116, eX6_mostAsked_119, eX6_mostAsked_122, eX6_mostAsked_123, en_kl_0, en_kl_i, en_kl_r, en_kl_n, en_kl_l, en_Ec_some, en_Ec_void, en_rcv, en_stk, List.map_cons, List.map_nil, List.sum_cons, List.sum_nil, Value.category, Nat.reduceAdd, Nat.reduceLeDiff, decide_true, true_and, and_true, and_self, zI_add, zI_sub, zI_mul, zI_neg, zI_lt, zI_le, zI_eq, zI_cl, zI_0, zI_1, zI_m1, zI_lit, zT_0, zT_01, zI_01, zI_11, ↓reduceIte, if_true, if_false, not_false_eq_true, not_true_eq_false, Int.reduceEq, Int.reduceLT, Int.reduceLE, Classical.not_not, Bool.false_eq_true, y1', y3']
        have e3 : (j : Int) + -1 = (j : Int) - 1 := by omega
        first | rw [e3] | skip
        exact ih _ _ _ _ _ (by omega) hst (by omega) (by omega) (by omega)
  have h0 := outer 10 (-1) 0 none none none (Nat.le_refl _) (.inl ⟨rfl, rfl, fun b k1 k2 => by omega⟩) (by omega) (by omega) (by omega)
  simp (disch := omega) only [eX6_mostAsked_0, eX6_mostAsked_1, eX6_mostAsked_2, eX6_mostAsked_3, eX6_mostAsked_4, eX6_mostAsked_6, en_kl_0, en_kl_i, en_kl_r, en_kl_n, en_kl_l, en_Ec_some, en_Ec_void, en_rcv, en_stk, List.map_cons, List.map_nil, List.sum_cons, List.sum_nil, Value.category, Nat.reduceAdd, Nat.reduceLeDiff, decide_true, true_and, and_true, and_self, zI_add, zI_sub, zI_mul, zI_neg, zI_lt, zI_le, zI_eq, zI_cl, zI_0, zI_1, zI_m1, zI_lit, zT_0, zT_01, zI_01, zI_11, ↓reduceIte, if_true, if_false, not_false_eq_true, not_true_eq_false, Int.reduceEq, Int.reduceLT, Int.reduceLE, Classical.not_not, Bool.false_eq_true]
  exact h0
theorem wf_rng (h : n ≤ 20) : -1 ≤ wf cm ch m n ∧ wf cm ch m n ≤ 20 := by
  rcases wf_spec (cm := cm) (ch := ch) (m := m) n with ⟨h1, -⟩ | ⟨a, h1, h2, -⟩ <;> omega
theorem wl_rng (h : n ≤ 20) : -1 ≤ wl cm ch m n ∧ wl cm ch m n ≤ 20 := by
  rcases wl_spec (cm := cm) (ch := ch) (m := m) n with ⟨h1, -⟩ | ⟨a, h1, h2, -⟩ <;> omega
/-- whom the model chooses in minute m -/
theorem r_chooses (hC : mC w n cm cb) (hK : mK w n ch) (m1 : 0 ≤ m) (m2 : m < 1000) (l1 : 0 ≤ law) (l2 : law ≤ 3) : SX6_chooses [.ref 19, .int (zI m), .int (zI law)] w = some (some (.int (zI (if wf cm ch m n = -1 then -1 else npk law n cm cb ch m (wf cm ch m n)))), w) := by
  have hC' := hC
  obtain ⟨c1, c2, c3⟩ := hC
  refine en_val rfl (fun Q hQ => ?_)
  show en_Ev XX6_chooses 0 [some (.ref 19), some (.int (zI m)), some (.int (zI law)), none, none, none] [] w Q
  have loop : ∀ d i : Nat, i + d = n → en_Ev XX6_chooses 8 [some (.ref 19), some (.int (zI m)), some (.int (zI law)), some (.int (zI (wf cm ch m i))), some (.int (zI (wl cm ch m i))), some (.int (zI i))] [] w Q := by
    intro d
    induction d with
    | zero =>
      intro i hi
      have e : i = n := by omega
      have x1 : (n : Int) ≤ (i : Int) := by omega
      rw [eX6_chooses_8]
      simp (disch := omega) only [eX6_chooses_0, eX6_chooses_1, eX6_chooses_2, eX6_chooses_3, eX6_chooses_5, eX6_chooses_6, eX6_chooses_10, eX6_chooses_11, eX6_chooses_14, eX6_chooses_17, eX6_chooses_18, eX6_chooses_21, eX6_chooses_23, eX6_chooses_24, eX6_chooses_25, eX6_chooses_28, eX6_chooses_29, eX6_chooses_32, eX6_chooses_33, eX6_chooses_35, eX6_chooses_36, eX6_chooses_37, eX6_chooses_38, eX6_chooses_41, eX6_chooses_42, eX6_chooses_43, eX6_chooses_46, eX6_chooses_48, eX6_chooses_51, eX6_chooses_52, eX6_chooses_53, eX6_chooses_55, eX6_chooses_57, eX6_chooses_60, eX6_chooses_63, eX6_chooses_64, eX6_chooses_65, eX6_chooses_68, eX6_chooses_69, eX6_chooses_70, eX6_chooses_73, eX6_chooses_74, eX6_chooses_75, eX6_chooses_76, eX6_chooses_77, eX6_chooses_80, eX6_chooses_82, eX6_chooses_85, eX6_chooses_86, eX6_chooses_87, eX6_chooses_90, en_kl_0, en_kl_i, en_kl_r, en_kl_n, en_kl_l, en_Ec_some, en_Ec_void, en_rcv, en_stk, List.map_cons, List.map_nil, List.sum_cons, List.sum_nil, Value.category, Nat.reduceAdd, Nat.reduceLeDiff, decide_true, true_and, and_true, and_self, zI_add, zI_sub, zI_mul, zI_neg, zI_lt, zI_le, zI_eq, zI_cl, zI_0, zI_1, zI_m1, zI_lit, zT_0, zT_01, zI_01, zI_11, ↓reduceIte, if_true, if_false, not_false_eq_true, not_true_eq_false, Int.reduceEq, Int.reduceLT, Int.reduceLE, Classical.not_not, Bool.false_eq_true, fi_19, ft_19_0, ft_19_1, ft_19_2, ft_19_3, ft_19_5, ft_19_6, ft_19_7, ft_19_8, ft_19_12, ft_19_13, ft_19_14, ft_19_15, ft_19_16, ft_19_21, xi_20, xi_21, xi_22, xi_23, xi_24, xi_25, xi_26, xi_27, xi_28, xi_29, xi_30, xi_31, xi_32, xi_33, Int.toNat_natCast, Int.reduceToNat, c1, x1]
      rw [e]
      have hwr := wf_rng (cm := cm) (ch := ch) (m := m) c2
      rcases wf_spec (cm := cm) (ch := ch) (m := m) n with ⟨h1, h2⟩ | ⟨a, h1, h2, h3, h4⟩
      · rw [if_pos h1] at hQ
        simp (disch := omega) only [h1, zI_add, zI_sub, zI_mul, zI_neg, zI_lt, zI_le, zI_eq, zI_cl, zI_0, zI_1, zI_m1, zI_lit, zT_0, zT_01, zI_01, zI_11, ↓reduceIte, if_true, if_false, not_false_eq_true, not_true_eq_false, Int.reduceEq, Int.reduceLT, Int.reduceLE, Classical.not_not, Bool.false_eq_true]
        exact hQ
      · rw [if_neg (by omega)] at hQ
        have hna : ¬ wf cm ch m n = -1 := by omega
        have hpick : npk law n cm cb ch m (wf cm ch m n) = if law = 2 then nma n cm cb ch m a else if law = 3 then nla n cm ch m a n else (a : Int) := by
          unfold npk
          rw [h2]
        rw [hpick] at hQ
        have hma := r_mostAsked (a := a) hC' hK m1 m2 h3 h1
        have hwl := wl_nla h3 h1
        by_cases x2 : law < 2
        · rw [if_neg (by omega), if_neg (by omega)] at hQ
          have x2' : ¬ 2 ≤ law := by omega
          simp (disch := omega) only [hna, x2', zI_add, zI_sub, zI_mul, zI_neg, zI_lt, zI_le, zI_eq, zI_cl, zI_0, zI_1, zI_m1, zI_lit, zT_0, zT_01, zI_01, zI_11, ↓reduceIte, if_true, if_false, not_false_eq_true, not_true_eq_false, Int.reduceEq, Int.reduceLT, Int.reduceLE, Classical.not_not, Bool.false_eq_true]
          rw [h2]
          exact hQ
        · have x2' : 2 ≤ law := by omega
          by_cases x3 : law = 3
          · rw [if_neg (by omega), if_pos x3] at hQ
            rw [← hwl] at hQ
            simp (disch := omega) only [hna, x2', x3, zI_add, zI_sub, zI_mul, zI_neg, zI_lt, zI_le, zI_eq, zI_cl, zI_0, zI_1, zI_m1, zI_lit, zT_0, zT_01, zI_01, zI_11, ↓reduceIte, if_true, if_false, not_false_eq_true, not_true_eq_false, Int.reduceEq, Int.reduceLT, Int.reduceLE, Classical.not_not, Bool.false_eq_true]
            exact hQ
          · rw [if_pos (by omega)] at hQ
            simp (disch := omega) only [hna, x2', x3, zI_add, zI_sub, zI_mul, zI_neg, zI_lt, zI_le, zI_eq, zI_cl, zI_0, zI_1, zI_m1, zI_lit, zT_0, zT_01, zI_01, zI_11, ↓reduceIte, if_true, if_false, not_false_eq_true, not_true_eq_false, Int.reduceEq, Int.reduceLT, Int.reduceLE, Classical.not_not, Bool.false_eq_true, eX6_chooses_0, eX6_chooses_1, eX6_chooses_2, eX6_chooses_3, eX6_chooses_5, eX6_chooses_6, eX6_chooses_10, eX6_chooses_11, eX6_chooses_14, eX6_chooses_17, eX6_chooses_18, eX6_chooses_21, eX6_chooses_23, eX6_chooses_24, eX6_chooses_25, eX6_chooses_28, eX6_chooses_29, eX6_chooses_32, eX6_chooses_33, eX6_chooses_35, eX6_chooses_36, eX6_chooses_37, eX6_chooses_38, eX6_chooses_41, eX6_chooses_42, eX6_chooses_43, eX6_chooses_46, eX6_chooses_48, eX6_chooses_51, eX6_chooses_52, eX6_chooses_53, eX6_chooses_55, eX6_chooses_57, eX6_chooses_60, eX6_chooses_63, eX6_chooses_64, eX6_chooses_65, eX6_chooses_68, eX6_chooses_69, eX6_chooses_70, eX6_chooses_73, eX6_chooses_74, eX6_chooses_75, eX6_chooses_76, eX6_chooses_77, eX6_chooses_80, eX6_chooses_82, eX6_chooses_85, eX6_chooses_86, eX6_chooses_87, eX6_chooses_90, en_kl_0, en_kl_i, en_kl_r, en_kl_n, en_kl_l, en_Ec_some, en_Ec_void, en_rcv, en_stk, List.map_cons, List.map_nil, List.sum_cons, List.sum_nil, Value.category, Nat.reduceAdd, Nat.reduceLeDiff, decide_true, true_and, and_true, and_self, fi_19, ft_19_0, ft_19_1, ft_19_2, ft_19_3, ft_19_5, ft_19_6, ft_19_7, ft_19_8, ft_19_12, ft_19_13, ft_19_14, ft_19_15, ft_19_16, ft_19_21, xi_20, xi_21, xi_22, xi_23, xi_24, xi_25, xi_26, xi_27, xi_28, xi_29, xi_30, xi_31, xi_32, xi_33, Int.toNat_natCast, Int.reduceToNat, hma]
            exact hQ
    | succ d ih =>
      intro i hi
      have x1 : ¬ (n : Int) ≤ (i : Int) := by omega
      obtain ⟨i1, i2, i3, i4, i5, i6⟩ := c3 i (by omega)
      obtain ⟨k1, k2, k3⟩ := hK i (by omega)
      have e1 : (2 * (i : Int)).toNat = 2 * i := by omega
      have hwr := wf_rng (cm := cm) (ch := ch) (m := m) (show i ≤ 20 by omega)
      have hnx := ih (i + 1) (by omega)
      unfold wf wl at hnx
      rw [eX6_chooses_8]
      by_cases w1 : ch i = -1
      · by_cases w2 : cm i ≤ m
        · have w2' : ¬ m < cm i := by omega
          have hw : wai cm ch m i := ⟨w1, w2⟩
          simp only [if_pos hw] at hnx
          by_cases w3 : wf cm ch m i = -1
          · rw [if_pos w3] at hnx
            simp (disch := omega) only [eX6_chooses_0, eX6_chooses_1, eX6_chooses_2, eX6_chooses_3, eX6_chooses_5, eX6_chooses_6, eX6_chooses_10, eX6_chooses_11, eX6_chooses_14, eX6_chooses_17, eX6_chooses_18, eX6_chooses_21, eX6_chooses_23, eX6_chooses_24, eX6_chooses_25, eX6_chooses_28, eX6_chooses_29, eX6_chooses_32, eX6_chooses_33, eX6_chooses_35, eX6_chooses_36, eX6_chooses_37, eX6_chooses_38, eX6_chooses_41, eX6_chooses_42, eX6_chooses_43, eX6_chooses_46, eX6_chooses_48, eX6_chooses_51, eX6_chooses_52, eX6_chooses_53, eX6_chooses_55, eX6_chooses_57, eX6_chooses_60, eX6_chooses_63, eX6_chooses_64, eX6_chooses_65, eX6_chooses_68, eX6_chooses_69, eX6_chooses_70, eX6_chooses_73, eX6_chooses_74, eX6_chooses_75, eX6_chooses_76, eX6_chooses_77, eX6_chooses_80, eX6_chooses_82, eX6_chooses_85, eX6_chooses_86, eX6_chooses_87, eX6_chooses_90, en_kl_0, en_kl_i, en_kl_r, en_kl_n, en_kl_l, en_Ec_some, en_Ec_void, en_rcv, en_stk, List.map_cons, List.map_nil, List.sum_cons, List.sum_nil, Value.category, Nat.reduceAdd, Nat.reduceLeDiff, decide_true, true_and, and_true, and_self, zI_add, zI_sub, zI_mul, zI_neg, zI_lt, zI_le, zI_eq, zI_cl, zI_0, zI_1, zI_m1, zI_lit, zT_0, zT_01, zI_01, zI_11, ↓reduceIte, if_true, if_false, not_false_eq_true, not_true_eq_false, Int.reduceEq, Int.reduceLT, Int.reduceLE, Classical.not_not, Bool.false_eq_true, fi_19, ft_19_0, ft_19_1, ft_19_2, ft_19_3, ft_19_5, ft_19_6, ft_19_7, ft_19_8, ft_19_12, ft_19_13, ft_19_14, ft_19_15, ft_19_16, ft_19_21, xi_20, xi_21, xi_22, xi_23, xi_24, xi_25, xi_26, xi_27, xi_28, xi_29, xi_30, xi_31, xi_32, xi_33, Int.toNat_natCast, Int.reduceToNat, c1, x1, k1, w1, e1, i1, w2', w3]
            exact hnx
          · rw [if_neg w3] at hnx
            simp (disch := omega) only [eX6_chooses_0, eX6_chooses_1, eX6_chooses_2, eX6_chooses_3, eX6_chooses_5, eX6_chooses_6, eX6_chooses_10, eX6_chooses_11, eX6_chooses_14, eX6_chooses_17, eX6_chooses_18, eX6_chooses_21, eX6_chooses_23, eX6_chooses_24, eX6_chooses_25, eX6_chooses_28, eX6_chooses_29, eX6_chooses_32, eX6_chooses_33, eX6_chooses_35, eX6_chooses_36, eX6_chooses_37, eX6_chooses_38, eX6_chooses_41, eX6_chooses_42, eX6_chooses_43, eX6_chooses_46, eX6_chooses_48, eX6_chooses_51, eX6_chooses_52, eX6_chooses_53, eX6_chooses_55, eX6_chooses_57, eX6_chooses_60, eX6_chooses_63, eX6_chooses_64, eX6_chooses_65, eX6_chooses_68, eX6_chooses_69, eX6_chooses_70, eX6_chooses_73, eX6_chooses_74, eX6_chooses_75, eX6_chooses_76, eX6_chooses_77, eX6_chooses_80, eX6_chooses_82, eX6_chooses_85, eX6_chooses_86, eX6_chooses_87, eX6_chooses_90, en_kl_0, en_kl_i, en_kl_r, en_kl_n, en_kl_l, en_Ec_some, en_Ec_void, en_rcv, en_stk, List.map_cons, List.map_nil, List.sum_cons, List.sum_nil, Value.category, Nat.reduceAdd, Nat.reduceLeDiff, decide_true, true_and, and_true, and_self, zI_add, zI_sub, zI_mul, zI_neg, zI_lt, zI_le, zI_eq, zI_cl, zI_0, zI_1, zI_m1, zI_lit, zT_0, zT_01, zI_01, zI_11, ↓reduceIte, if_true, if_false, not_false_eq_true, not_true_eq_false, Int.reduceEq, Int.reduceLT, Int.reduceLE, Classical.not_not, Bool.false_eq_true, fi_19, ft_19_0, ft_19_1, ft_19_2, ft_19_3, ft_19_5, ft_19_6, ft_19_7, ft_19_8, ft_19_12, ft_19_13, ft_19_14, ft_19_15, ft_19_16, ft_19_21, xi_20, xi_21, xi_22, xi_23, xi_24, xi_25, xi_26, xi_27, xi_28, xi_29, xi_30, xi_31, xi_32, xi_33, Int.toNat_natCast, Int.reduceToNat, c1, x1, k1, w1, e1, i1, w2', w3]
            exact hnx
        · have w2' : m < cm i := by omega
          have hw : ¬ wai cm ch m i := fun z => w2 z.2
          simp only [if_neg hw] at hnx
          simp (disch := omega) only [eX6_chooses_0, eX6_chooses_1, eX6_chooses_2, eX6_chooses_3, eX6_chooses_5, eX6_chooses_6, eX6_chooses_10, eX6_chooses_11, eX6_chooses_14, eX6_chooses_17, eX6_chooses_18, eX6_chooses_21, eX6_chooses_23, eX6_chooses_24, eX6_chooses_25, eX6_chooses_28, eX6_chooses_29, eX6_chooses_32, eX6_chooses_33, eX6_chooses_35, eX6_chooses_36, eX6_chooses_37, eX6_chooses_38, eX6_chooses_41, eX6_chooses_42, eX6_chooses_43, eX6_chooses_46, eX6_chooses_48, eX6_chooses_51, eX6_chooses_52, eX6_chooses_53, eX6_chooses_55, eX6_chooses_57, eX6_chooses_60, eX6_chooses_63, eX6_chooses_64, eX6_chooses_65, eX6_chooses_68, eX6_chooses_69, eX6_chooses_70, eX6_chooses_73, eX6_chooses_74, eX6_chooses_75, eX6_chooses_76, eX6_chooses_77, eX6_chooses_80, eX6_chooses_82, eX6_chooses_85, eX6_chooses_86, eX6_chooses_87, eX6_chooses_90, en_kl_0, en_kl_i, en_kl_r, en_kl_n, en_kl_l, en_Ec_some, en_Ec_void, en_rcv, en_stk, List.map_cons, List.map_nil, List.sum_cons, List.sum_nil, Value.category, Nat.reduceAdd, Nat.reduceLeDiff, decide_true, true_and, and_true, and_self, zI_add, zI_sub, zI_mul, zI_neg, zI_lt, zI_le, zI_eq, zI_cl, zI_0, zI_1, zI_m1, zI_lit, zT_0, zT_01, zI_01, zI_11, ↓reduceIte, if_true, if_false, not_false_eq_true, not_true_eq_false, Int.reduceEq, Int.reduceLT, Int.reduceLE, Classical.not_not, Bool.false_eq_true, fi_19, ft_19_0, ft_19_1, ft_19_2, ft_19_3, ft_19_5, ft_19_6, ft_19_7, ft_19_8, ft_19_12, ft_19_13, ft_19_14, ft_19_15, ft_19_16, ft_19_21, xi_20, xi_21, xi_22, xi_23, xi_24, xi_25, xi_26, xi_27, xi_28, xi_29, xi_30, xi_31, xi_32, xi_33, Int.toNat_natCast, Int.reduceToNat, c1, x1, k1, w1, e1, i1, w2']
          exact hnx
      · have hw : ¬ wai cm ch m i := fun z => w1 z.1
        simp only [if_neg hw] at hnx
        simp (disch := omega) only [eX6_chooses_0, eX6_chooses_1, eX6_chooses_2, eX6_chooses_3, eX6_chooses_5, eX6_chooses_6, eX6_chooses_10, eX6_chooses_11, eX6_chooses_14, eX6_chooses_17, eX6_chooses_18, eX6_chooses_21, eX6_chooses_23, eX6_chooses_24, eX6_chooses_25, eX6_chooses_28, eX6_chooses_29, eX6_chooses_32, eX6_chooses_33, eX6_chooses_35, eX6_chooses_36, eX6_chooses_37, eX6_chooses_38, eX6_chooses_41, eX6_chooses_42, eX6_chooses_43, eX6_chooses_46, eX6_chooses_48, eX6_chooses_51, eX6_chooses_52, eX6_chooses_53, eX6_chooses_55, eX6_chooses_57, eX6_chooses_60, eX6_chooses_63, eX6_chooses_64, eX6_chooses_65, eX6_chooses_68, eX6_chooses_69, eX6_chooses_70, eX6_chooses_73, eX6_chooses_74, eX6_chooses_75, eX6_chooses_76, eX6_chooses_77, eX6_chooses_80, eX6_chooses_82, eX6_chooses_85, eX6_chooses_86, eX6_chooses_87, eX6_chooses_90, en_kl_0, en_kl_i, en_kl_r, en_kl_n, en_kl_l, en_Ec_some, en_Ec_void, en_rcv, en_stk, List.map_cons, List.map_nil, List.sum_cons, List.sum_nil, Value.category, Nat.reduceAdd, Nat.reduceLeDiff, decide_true, true_and, and_true, and_self, zI_add, zI_sub, zI_mul, zI_neg, zI_lt, zI_le, zI_eq, zI_cl, zI_0, zI_1, zI_m1, zI_lit, zT_0, zT_01, zI_01, zI_11, ↓reduceIte, if_true, if_false, not_false_eq_true, not_true_eq_false, Int.reduceEq, Int.reduceLT, Int.reduceLE, Classical.not_not, Bool.false_eq_true, fi_19, ft_19_0, ft_19_1, ft_19_2, ft_19_3, ft_19_5, ft_19_6, ft_19_7, ft_19_8, ft_19_12, ft_19_13, ft_19_14, ft_19_15, ft_19_16, ft_19_21, xi_20, xi_21, xi_22, xi_23, xi_24, xi_25, xi_26, xi_27, xi_28, xi_29, xi_30, xi_31, xi_32, xi_33, Int.toNat_natCast, Int.reduceToNat, c1, x1, k1, w1]
        exact hnx
  have h0 := loop n 0 (by omega)
  simp (disch := omega) only [eX6_chooses_0, eX6_chooses_1, eX6_chooses_2, eX6_chooses_3, eX6_chooses_5, eX6_chooses_6, en_kl_0, en_kl_i, en_kl_r, en_kl_n, en_kl_l, en_Ec_some, en_Ec_void, en_rcv, en_stk, List.map_cons, List.map_nil, List.sum_cons, List.sum_nil, Value.category, Nat.reduceAdd, Nat.reduceLeDiff, decide_true, true_and, and_true, and_self, zI_add, zI_sub, zI_mul, zI_neg, zI_lt, zI_le, zI_eq, zI_cl, zI_0, zI_1, zI_m1, zI_lit, zT_0, zT_01, zI_01, zI_11, ↓reduceIte, if_true, if_false, not_false_eq_true, not_true_eq_false, Int.reduceEq, Int.reduceLT, Int.reduceLE, Classical.not_not, Bool.false_eq_true]
  exact h0
/-- the minute of the first that is left; 200: none -/
def nnx (cm ch : Nat → Int) (n : Nat) : Int := if nfl ch n 0 = -1 then 200 else cm (nfl ch n 0).toNat
theorem r_nextCoin (hC : mC w n cm cb) (hK : mK w n ch) : SX6_nextCoin [.ref 19] w = some (some (.int (zI (nnx cm ch n))), w) := by
  obtain ⟨c1, c2, c3⟩ := hC
  refine en_val rfl (fun Q hQ => ?_)
  show en_Ev XX6_nextCoin 0 [some (.ref 19), none, none] [] w Q
  have loop : ∀ (d : Nat) (v : Int), d ≤ n → ((v = 200 ∧ ∀ j, d ≤ j → j < n → ch j ≠ -1) ∨ ∃ a, d ≤ a ∧ a < n ∧ v = cm a ∧ ch a = -1 ∧ ∀ j, d ≤ j → j < a → ch j ≠ -1) → en_Ev XX6_nextCoin 11 [some (.ref 19), some (.int (zI v)), some (.int (zI ((d : Int) - 1)))] [] w Q := by
    intro d
    induction d with
    | zero =>
      intro v h1 h2
      have x1 : ((0 : Nat) : Int) - 1 < 0 := by omega
      have hv : v = nnx cm ch n := by
        unfold nnx
        rcases nfl_n (ch := ch) (n := n) with ⟨k1, k2⟩ | ⟨b, k1, k2, k3, k4⟩
        · rw [if_pos k1]
          rcases h2 with ⟨h, -⟩ | ⟨a, -, a2, -, a4, -⟩
          · exact h
          · exact absurd a4 (k2 a a2)
        · rw [if_neg (by omega), k2, Int.toNat_natCast]
          rcases h2 with ⟨-, h⟩ | ⟨a, a1, a2, a3, a4, a5⟩
          · exact absurd k3 (h b (by omega) k1)
          · have : ¬ a < b := fun z => k4 a z a4
            have : ¬ b < a := fun z => a5 b (by omega) z k3
            have : a = b := by omega
            rw [a3, this]
      rw [eX6_nextCoin_11]
      simp (disch := omega) only [eX6_nextCoin_0, eX6_nextCoin_3, eX6_nextCoin_4, eX6_nextCoin_5, eX6_nextCoin_8, eX6_nextCoin_9, eX6_nextCoin_10, eX6_nextCoin_12, eX6_nextCoin_15, eX6_nextCoin_16, eX6_nextCoin_19, eX6_nextCoin_20, eX6_nextCoin_21, eX6_nextCoin_22, eX6_nextCoin_25, eX6_nextCoin_26, eX6_nextCoin_29, eX6_nextCoin_30, eX6_nextCoin_31, eX6_nextCoin_32, eX6_nextCoin_33, eX6_nextCoin_36, eX6_nextCoin_37, eX6_nextCoin_38, eX6_nextCoin_41, eX6_nextCoin_44, eX6_nextCoin_45, en_kl_0, en_kl_i, en_kl_r, en_kl_n, en_kl_l, en_Ec_some, en_Ec_void, en_rcv, en_stk, List.map_cons, List.map_nil, List.sum_cons, List.sum_nil, Value.category, Nat.reduceAdd, Nat.reduceLeDiff, decide_true, true_and, and_true, and_self, zI_add, zI_sub, zI_mul, zI_neg, zI_lt, zI_le, zI_eq, zI_cl, zI_0, zI_1, zI_m1, zI_lit, zT_0, zT_01, zI_01, zI_11, ↓reduceIte, if_true, if_false, not_false_eq_true, not_true_eq_false, Int.reduceEq, Int.reduceLT, Int.reduceLE, Classical.not_not, Bool.false_eq_true, x1]
      rw [hv]
      exact hQ
    | succ d ih =>
      intro v h1 h2
      obtain ⟨i1, i2, i3, i4, i5, i6⟩ := c3 d (by omega)
      obtain ⟨k1, k2, k3⟩ := hK d (by omega)
      have x0 : ((d + 1 : Nat) : Int) - 1 = (d : Int) := by omega
      have x1 : ¬ (d : Int) < 0 := by omega
      have e1 : (2 * (d : Int)).toNat = 2 * d := by omega
      rw [x0, eX6_nextCoin_11]
      by_cases w1 : ch d = -1
      · simp (disch := omega) only [eX6_nextCoin_0, eX6_nextCoin_3, eX6_nextCoin_4, eX6_nextCoin_5, eX6_nextCoin_8, eX6_nextCoin_9, eX6_nextCoin_10, eX6_nextCoin_12, eX6_nextCoin_15, eX6_nextCoin_16, eX6_nextCoin_19, eX6_nextCoin_20, eX6_nextCoin_21, eX6_nextCoin_22, eX6_nextCoin_25, eX6_nextCoin_26, eX6_nextCoin_29, eX6_nextCoin_30, eX6_nextCoin_31, eX6_nextCoin_32, eX6_nextCoin_33, eX6_nextCoin_36, eX6_nextCoin_37, eX6_nextCoin_38, eX6_nextCoin_41, eX6_nextCoin_44, eX6_nextCoin_45, en_kl_0, en_kl_i, en_kl_r, en_kl_n, en_kl_l, en_Ec_some, en_Ec_void, en_rcv, en_stk, List.map_cons, List.map_nil, List.sum_cons, List.sum_nil, Value.category, Nat.reduceAdd, Nat.reduceLeDiff, decide_true, true_and, and_true, and_self, zI_add, zI_sub, zI_mul, zI_neg, zI_lt, zI_le, zI_eq, zI_cl, zI_0, zI_1, zI_m1, zI_lit, zT_0, zT_01, zI_01, zI_11, ↓reduceIte, if_true, if_false, not_false_eq_true, not_true_eq_false, Int.reduceEq, Int.reduceLT, Int.reduceLE, Classical.not_not, Bool.false_eq_true, fi_19, ft_19_0, ft_19_1, ft_19_2, ft_19_3, ft_19_5, ft_19_6, ft_19_7, ft_19_8, ft_19_12, ft_19_13, ft_19_14, ft_19_15, ft_19_16, ft_19_21, xi_20, xi_21, xi_22, xi_23, xi_24, xi_25, xi_26, xi_27, xi_28, xi_29, xi_30, xi_31, xi_32, xi_33, Int.toNat_natCast, Int.reduceToNat, x1, k1, w1, e1, i1]
        have e3 : (d : Int) + -1 = (d : Int) - 1 := by omega
        first | rw [e3] | skip
        exact ih _ (by omega) (.inr ⟨d, Nat.le_refl d, by omega, rfl, w1, fun j a1 a2 => by omega⟩)
      · simp (disch := omega) only [eX6_nextCoin_0, eX6_nextCoin_3, eX6_nextCoin_4, eX6_nextCoin_5, eX6_nextCoin_8, eX6_nextCoin_9, eX6_nextCoin_10, eX6_nextCoin_12, eX6_nextCoin_15, eX6_nextCoin_16, eX6_nextCoin_19, eX6_nextCoin_20, eX6_nextCoin_21, eX6_nextCoin_22, eX6_nextCoin_25, eX6_nextCoin_26, eX6_nextCoin_29, eX6_nextCoin_30, eX6_nextCoin_31, eX6_nextCoin_32, eX6_nextCoin_33, eX6_nextCoin_36, eX6_nextCoin_37, eX6_nextCoin_38, eX6_nextCoin_41, eX6_nextCoin_44, eX6_nextCoin_45, en_kl_0, en_kl_i, en_kl_r, en_kl_n, en_kl_l, en_Ec_some, en_Ec_void, en_rcv, en_stk, List.map_cons, List.map_nil, List.sum_cons, List.sum_nil, Value.category, Nat.reduceAdd, Nat.reduceLeDiff, decide_true, true_and, and_true, and_self, zI_add, zI_sub, zI_mul, zI_neg, zI_lt, zI_le, zI_eq, zI_cl, zI_0, zI_1, zI_m1, zI_lit, zT_0, zT_01, zI_01, zI_11, ↓reduceIte, if_true, if_false, not_false_eq_true, not_true_eq_false, Int.reduceEq, Int.reduceLT, Int.reduceLE, Classical.not_not, Bool.false_eq_true, fi_19, ft_19_0, ft_19_1, ft_19_2, ft_19_3, ft_19_5, ft_19_6, ft_19_7, ft_19_8, ft_19_12, ft_19_13, ft_19_14, ft_19_15, ft_19_16, ft_19_21, xi_20, xi_21, xi_22, xi_23, xi_24, xi_25, xi_26, xi_27, xi_28, xi_29, xi_30, xi_31, xi_32, xi_33, Int.toNat_natCast, Int.reduceToNat, x1, k1, w1]
        have e3 : (d : Int) + -1 = (d : Int) - 1 := by omega
        first | rw [e3] | skip
        refine ih _ (by omega) ?_
        rcases h2 with ⟨h, h'⟩ | ⟨a, a1, a2, a3, a4, a5⟩
        · refine .inl ⟨h, fun j b1 b2 => ?_⟩
          by_cases e : j = d
          · rw [e]; exact w1
          · exact h' j (by omega) b2
        · refine .inr ⟨a, by omega, a2, a3, a4, fun j b1 b2 => ?_⟩
          by_cases e : j = d
          · rw [e]; exact w1
          · exact a5 j (by omega) b2
  have h0 := loop n 200 (Nat.le_refl n) (.inl ⟨rfl, fun j a1 a2 => by omega⟩)
  simp (disch := omega) only [eX6_nextCoin_0, eX6_nextCoin_3, eX6_nextCoin_4, eX6_nextCoin_5, eX6_nextCoin_8, eX6_nextCoin_9, eX6_nextCoin_10, en_kl_0, en_kl_i, en_kl_r, en_kl_n, en_kl_l, en_Ec_some, en_Ec_void, en_rcv, en_stk, List.map_cons, List.map_nil, List.sum_cons, List.sum_nil, Value.category, Nat.reduceAdd, Nat.reduceLeDiff, decide_true, true_and, and_true, and_self, zI_add, zI_sub, zI_mul, zI_neg, zI_lt, zI_le, zI_eq, zI_cl, zI_0, zI_1, zI_m1, zI_lit, zT_0, zT_01, zI_01, zI_11, ↓reduceIte, if_true, if_false, not_false_eq_true, not_true_eq_false, Int.reduceEq, Int.reduceLT, Int.reduceLE, Classical.not_not, Bool.false_eq_true, fi_19, ft_19_0, ft_19_1, ft_19_2, ft_19_3, ft_19_5, ft_19_6, ft_19_7, ft_19_8, ft_19_12, ft_19_13, ft_19_14, ft_19_15, ft_19_16, ft_19_21, xi_20, xi_21, xi_22, xi_23, xi_24, xi_25, xi_26, xi_27, xi_28, xi_29, xi_30, xi_31, xi_32, xi_33, Int.toNat_natCast, Int.reduceToNat, c1]
  exact h0
end
