/-! ===== Night: what its methods do ===== -/
section
variable {w : en_W}
theorem s_isRecord {r : Int} (h1 : -2147483648 ≤ r) (h2 : r < 2147483648) : SX5_isRecord [.int (zI r)] w = some (some (.int (zT (0 ≤ r ∧ r < 10))), w) := by
  refine en_val rfl (fun Q hQ => ?_)
  show en_Ev XX5_isRecord 0 [some (.int (zI r))] [] w Q
  simp (disch := omega) only [eX5_isRecord_0, eX5_isRecord_1, eX5_isRecord_4, eX5_isRecord_5, eX5_isRecord_7, eX5_isRecord_10, eX5_isRecord_11, eX5_isRecord_14, eX5_isRecord_15, en_kl_0, en_kl_i, en_kl_r, en_kl_n, en_kl_l, en_Ec_some, en_Ec_void, en_rcv, en_stk, List.map_cons, List.map_nil, List.sum_cons, List.sum_nil, Value.category, Nat.reduceAdd, Nat.reduceLeDiff, decide_true, true_and, and_true, and_self, zI_add, zI_sub, zI_mul, zI_neg, zI_lt, zI_le, zI_eq, zI_cl, zI_0, zI_1, zI_m1, zI_lit, zT_0, zT_01, zI_01, zI_11, ↓reduceIte, if_true, if_false, not_false_eq_true, not_true_eq_false, Int.reduceEq, Int.reduceLT, Int.reduceLE, Classical.not_not, Bool.false_eq_true]
  repeat' (first | split | apply And.intro)
  all_goals first | omega | exact hQ | (rw [zT_t (by omega)] at hQ; exact hQ) | (rw [zT_f (by omega)] at hQ; exact hQ)
theorem s_fill {k n : Nat} {v : Int32} (hk : k < 62) (ha : en_al k = some n) (hn : n < 2147483647) : ∃ w', SJ7_fill_53178 [.ref k, .int v] w = some (none, w') ∧ (∀ j, j < n → w' k j = v) ∧ en_fr [k] w w' := by
  refine en_exv rfl ?_
  show en_Ev XJ7_fill_53178 0 [some (.ref k), some (.int v), none, none] [] w _
  have hal : en_alen XJ7_fill_53178 k = some (zI n) := by
    unfold en_alen
    rw [if_neg (by omega), if_pos hk, en_al_kd ha]
    show some (Int32.ofNat n) = _
    rw [zI_ofNat]
    rfl
  have loop : ∀ (d i : Nat) (u : en_W), i + d = n → (∀ j, j < i → u k j = v) → en_fr [k] w u → en_Ev XJ7_fill_53178 5 [some (.ref k), some (.int v), some (.int (zI i)), some (.int (zI n))] [] u (fun r w' => r = none ∧ (∀ j, j < n → w' k j = v) ∧ en_fr [k] w w') := by
    intro d
    induction d with
    | zero =>
      intro i u h1 h2 h3
      have c1 : (n : Int) ≤ (i : Int) := by omega
      rw [eJ7_fill_53178_5]
      simp (disch := omega) only [eJ7_fill_53178_0, eJ7_fill_53178_1, eJ7_fill_53178_2, eJ7_fill_53178_3, eJ7_fill_53178_4, eJ7_fill_53178_6, eJ7_fill_53178_7, eJ7_fill_53178_10, eJ7_fill_53178_11, eJ7_fill_53178_12, eJ7_fill_53178_13, eJ7_fill_53178_14, eJ7_fill_53178_17, eJ7_fill_53178_20, en_kl_0, en_kl_i, en_kl_r, en_kl_n, en_kl_l, en_Ec_some, en_Ec_void, en_rcv, en_stk, List.map_cons, List.map_nil, List.sum_cons, List.sum_nil, Value.category, Nat.reduceAdd, Nat.reduceLeDiff, decide_true, true_and, and_true, and_self, zI_add, zI_sub, zI_mul, zI_neg, zI_lt, zI_le, zI_eq, zI_cl, zI_0, zI_1, zI_m1, zI_lit, zT_0, zT_01, zI_01, zI_11, ↓reduceIte, if_true, if_false, not_false_eq_true, not_true_eq_false, Int.reduceEq, Int.reduceLT, Int.reduceLE, Classical.not_not, Bool.false_eq_true, c1]
      exact ⟨fun j hj => h2 j (by omega), h3⟩
    | succ d ih =>
      intro i u h1 h2 h3
      have c1 : ¬ (n : Int) ≤ (i : Int) := by omega
      have c2 : ¬ (i : Int) < 0 := by omega
      have c3 : ¬ n ≤ i := by omega
      rw [eJ7_fill_53178_5]
      simp (disch := omega) only [eJ7_fill_53178_0, eJ7_fill_53178_1, eJ7_fill_53178_2, eJ7_fill_53178_3, eJ7_fill_53178_4, eJ7_fill_53178_6, eJ7_fill_53178_7, eJ7_fill_53178_10, eJ7_fill_53178_11, eJ7_fill_53178_12, eJ7_fill_53178_13, eJ7_fill_53178_14, eJ7_fill_53178_17, eJ7_fill_53178_20, en_kl_0, en_kl_i, en_kl_r, en_kl_n, en_kl_l, en_Ec_some, en_Ec_void, en_rcv, en_stk, List.map_cons, List.map_nil, List.sum_cons, List.sum_nil, Value.category, Nat.reduceAdd, Nat.reduceLeDiff, decide_true, true_and, and_true, and_self, zI_add, zI_sub, zI_mul, zI_neg, zI_lt, zI_le, zI_eq, zI_cl, zI_0, zI_1, zI_m1, zI_lit, zT_0, zT_01, zI_01, zI_11, ↓reduceIte, if_true, if_false, not_false_eq_true, not_true_eq_false, Int.reduceEq, Int.reduceLT, Int.reduceLE, Classical.not_not, Bool.false_eq_true, c1, c2, c3, en_ix_at hk ha, Int.toNat_natCast, or_self]
      exact ih (i + 1) (en_up u k i v) (by omega) (fun j hj => by
        rw [en_up_eq]
        by_cases e : j = i
        · subst e; rw [upd_eq]
        · rw [upd_ne e]; exact h2 j (by omega)) (h3.up (by simp))
  simp only [eJ7_fill_53178_0, eJ7_fill_53178_1, eJ7_fill_53178_2, eJ7_fill_53178_3, en_kl_0, en_kl_i, en_kl_r, en_kl_n, en_kl_l, en_Ec_some, en_Ec_void, en_rcv, en_stk, List.map_cons, List.map_nil, List.sum_cons, List.sum_nil, Value.category, Nat.reduceAdd, Nat.reduceLeDiff, decide_true, true_and, and_true, and_self, hal, Option.some.injEq, exists_eq_left', eJ7_fill_53178_4]
  have h0 := loop n 0 w (by omega) (fun j hj => absurd hj (by omega)) en_fr.rf
  rw [show ((0 : Nat) : Int) = 0 from rfl, ← zI_0] at h0
  exact h0
/-- the night's cells: coins, lengths, and a night's numbers (not more than B choices behind it) -/
def en_nD (w : en_W) (n : Nat) (cm cb len : Nat → Int) (t : NT) : Prop := en_cD w 14 n cm cb ∧ (∀ r, r < 10 → w 9 r = zI (len r) ∧ 1 ≤ len r ∧ len r ≤ 60) ∧ (∀ i, i < 20 → w 12 i = zI (nch t i) ∧ w 13 i = zI (npl t i)) ∧ (∀ r, r < 10 → w 10 r = zI (ntm t r)) ∧ w 8 6 = zI (nps t) ∧ w 8 7 = zI (npm t) ∧ w 8 8 = zI (nle t) ∧ w 8 9 = zI (nwo t) ∧ nB 21 t
/-- coins and lengths alone -/
def en_nE (w : en_W) (n : Nat) (cm cb len : Nat → Int) : Prop := en_cD w 14 n cm cb ∧ (∀ r, r < 10 → w 9 r = zI (len r) ∧ 1 ≤ len r ∧ len r ≤ 60)
theorem en_nE.fr {w w' : en_W} {n : Nat} {cm cb len : Nat → Int} (h : en_nE w n cm cb len) (h0 : w' 9 = w 9) (h1 : w' 14 = w 14) (h2 : w' 15 = w 15) (h3 : w' 16 = w 16) : en_nE w' n cm cb len :=
  ⟨h.1.fr h1 h2 h3, by rw [h0]; exact h.2⟩
variable {n : Nat} {cm cb len : Nat → Int} {t : NT} {c m : Int}
theorem s_begin (h : en_nE w n cm cb len) : ∃ w', SX2_begin [.ref 8] w = some (none, w') ∧ en_nD w' n cm cb len nt0 ∧ en_fr [8, 10, 12, 13] w w' := by
  refine en_exv rfl ?_
  show en_Ev XX2_begin 0 [some (.ref 8)] [] w _
  simp only [eX2_begin_0, eX2_begin_1, eX2_begin_4, eX2_begin_5, eX2_begin_8, eX2_begin_9, eX2_begin_12, eX2_begin_13, eX2_begin_16, eX2_begin_17, eX2_begin_20, eX2_begin_21, eX2_begin_24, eX2_begin_25, eX2_begin_26, eX2_begin_29, eX2_begin_30, eX2_begin_31, eX2_begin_34, eX2_begin_35, eX2_begin_36, eX2_begin_39, eX2_begin_40, eX2_begin_41, eX2_begin_44, en_kl_0, en_kl_i, en_kl_r, en_kl_n, en_kl_l, en_Ec_some, en_Ec_void, en_rcv, en_stk, List.map_cons, List.map_nil, List.sum_cons, List.sum_nil, Value.category, Nat.reduceAdd, Nat.reduceLeDiff, decide_true, true_and, and_true, and_self, fi_0, ft_0_0, ft_0_1, ft_0_2, ft_0_3, ft_0_4, ft_0_5, fi_3, ft_3_0, ft_3_1, fi_5, ft_5_0, ft_5_1, fi_8, ft_8_0, ft_8_1, ft_8_2, ft_8_3, ft_8_4, ft_8_5, fi_14, ft_14_0, ft_14_1, fi_19, ft_19_0, ft_19_1, ft_19_2, ft_19_3, ft_19_5, ft_19_6, ft_19_7, ft_19_8, ft_19_12, ft_19_13, ft_19_14, ft_19_15, ft_19_16, ft_19_21, fx_4, fx_6, fx_7, fx_9, fx_10, fx_11, fx_12, fx_13, fx_15, fx_16, fx_17, fx_18, fx_20, fx_21, fx_22, fx_23, fx_24, fx_25, fx_26, fx_27, fx_28, fx_29, fx_30, fx_31, fx_32, fx_33]
  obtain ⟨w1, e1, g1, f1⟩ := s_fill (w := w) (k := 10) (v := 0) (by decide) fa_10 (by decide)
  rw [e1]
  simp only [eX2_begin_0, eX2_begin_1, eX2_begin_4, eX2_begin_5, eX2_begin_8, eX2_begin_9, eX2_begin_12, eX2_begin_13, eX2_begin_16, eX2_begin_17, eX2_begin_20, eX2_begin_21, eX2_begin_24, eX2_begin_25, eX2_begin_26, eX2_begin_29, eX2_begin_30, eX2_begin_31, eX2_begin_34, eX2_begin_35, eX2_begin_36, eX2_begin_39, eX2_begin_40, eX2_begin_41, eX2_begin_44, en_kl_0, en_kl_i, en_kl_r, en_kl_n, en_kl_l, en_Ec_some, en_Ec_void, en_rcv, en_stk, List.map_cons, List.map_nil, List.sum_cons, List.sum_nil, Value.category, Nat.reduceAdd, Nat.reduceLeDiff, decide_true, true_and, and_true, and_self, fi_0, ft_0_0, ft_0_1, ft_0_2, ft_0_3, ft_0_4, ft_0_5, fi_3, ft_3_0, ft_3_1, fi_5, ft_5_0, ft_5_1, fi_8, ft_8_0, ft_8_1, ft_8_2, ft_8_3, ft_8_4, ft_8_5, fi_14, ft_14_0, ft_14_1, fi_19, ft_19_0, ft_19_1, ft_19_2, ft_19_3, ft_19_5, ft_19_6, ft_19_7, ft_19_8, ft_19_12, ft_19_13, ft_19_14, ft_19_15, ft_19_16, ft_19_21, fx_4, fx_6, fx_7, fx_9, fx_10, fx_11, fx_12, fx_13, fx_15, fx_16, fx_17, fx_18, fx_20, fx_21, fx_22, fx_23, fx_24, fx_25, fx_26, fx_27, fx_28, fx_29, fx_30, fx_31, fx_32, fx_33]
  obtain ⟨w2, e2, g2, f2⟩ := s_fill (w := w1) (k := 12) (v := -1) (by decide) fa_12 (by decide)
  rw [e2]
  simp only [eX2_begin_0, eX2_begin_1, eX2_begin_4, eX2_begin_5, eX2_begin_8, eX2_begin_9, eX2_begin_12, eX2_begin_13, eX2_begin_16, eX2_begin_17, eX2_begin_20, eX2_begin_21, eX2_begin_24, eX2_begin_25, eX2_begin_26, eX2_begin_29, eX2_begin_30, eX2_begin_31, eX2_begin_34, eX2_begin_35, eX2_begin_36, eX2_begin_39, eX2_begin_40, eX2_begin_41, eX2_begin_44, en_kl_0, en_kl_i, en_kl_r, en_kl_n, en_kl_l, en_Ec_some, en_Ec_void, en_rcv, en_stk, List.map_cons, List.map_nil, List.sum_cons, List.sum_nil, Value.category, Nat.reduceAdd, Nat.reduceLeDiff, decide_true, true_and, and_true, and_self, fi_0, ft_0_0, ft_0_1, ft_0_2, ft_0_3, ft_0_4, ft_0_5, fi_3, ft_3_0, ft_3_1, fi_5, ft_5_0, ft_5_1, fi_8, ft_8_0, ft_8_1, ft_8_2, ft_8_3, ft_8_4, ft_8_5, fi_14, ft_14_0, ft_14_1, fi_19, ft_19_0, ft_19_1, ft_19_2, ft_19_3, ft_19_5, ft_19_6, ft_19_7, ft_19_8, ft_19_12, ft_19_13, ft_19_14, ft_19_15, ft_19_16, ft_19_21, fx_4, fx_6, fx_7, fx_9, fx_10, fx_11, fx_12, fx_13, fx_15, fx_16, fx_17, fx_18, fx_20, fx_21, fx_22, fx_23, fx_24, fx_25, fx_26, fx_27, fx_28, fx_29, fx_30, fx_31, fx_32, fx_33]
  obtain ⟨w3, e3, g3, f3⟩ := s_fill (w := w2) (k := 13) (v := -1) (by decide) fa_13 (by decide)
  rw [e3]
  simp only [eX2_begin_0, eX2_begin_1, eX2_begin_4, eX2_begin_5, eX2_begin_8, eX2_begin_9, eX2_begin_12, eX2_begin_13, eX2_begin_16, eX2_begin_17, eX2_begin_20, eX2_begin_21, eX2_begin_24, eX2_begin_25, eX2_begin_26, eX2_begin_29, eX2_begin_30, eX2_begin_31, eX2_begin_34, eX2_begin_35, eX2_begin_36, eX2_begin_39, eX2_begin_40, eX2_begin_41, eX2_begin_44, en_kl_0, en_kl_i, en_kl_r, en_kl_n, en_kl_l, en_Ec_some, en_Ec_void, en_rcv, en_stk, List.map_cons, List.map_nil, List.sum_cons, List.sum_nil, Value.category, Nat.reduceAdd, Nat.reduceLeDiff, decide_true, true_and, and_true, and_self, fi_0, ft_0_0, ft_0_1, ft_0_2, ft_0_3, ft_0_4, ft_0_5, fi_3, ft_3_0, ft_3_1, fi_5, ft_5_0, ft_5_1, fi_8, ft_8_0, ft_8_1, ft_8_2, ft_8_3, ft_8_4, ft_8_5, fi_14, ft_14_0, ft_14_1, fi_19, ft_19_0, ft_19_1, ft_19_2, ft_19_3, ft_19_5, ft_19_6, ft_19_7, ft_19_8, ft_19_12, ft_19_13, ft_19_14, ft_19_15, ft_19_16, ft_19_21, fx_4, fx_6, fx_7, fx_9, fx_10, fx_11, fx_12, fx_13, fx_15, fx_16, fx_17, fx_18, fx_20, fx_21, fx_22, fx_23, fx_24, fx_25, fx_26, fx_27, fx_28, fx_29, fx_30, fx_31, fx_32, fx_33]
  have fr : en_fr [8, 10, 12, 13] w w3 := ((f1.mono (by simp)).tr (f2.mono (by simp))).tr (f3.mono (by simp))
  refine ⟨⟨?_, ?_, ?_, ?_, ?_, ?_, ?_, ?_, nB_mono nB_0 (by decide)⟩, ((((fr.up (by simp)).up (by simp)).up (by simp)).up (by simp))⟩
  · exact h.1.fr (by simp only [en_up_ne (show 14 ≠ 8 by decide)]; exact fr 14 (by decide)) (by simp only [en_up_ne (show 15 ≠ 8 by decide)]; exact fr 15 (by decide)) (by simp only [en_up_ne (show 16 ≠ 8 by decide)]; exact fr 16 (by decide))
  · intro r hr
    simp only [en_up_ne (show 9 ≠ 8 by decide)]
    rw [fr 9 (by decide)]
    exact h.2 r hr
  · intro i hi
    simp only [en_up_ne (show 12 ≠ 8 by decide), en_up_ne (show 13 ≠ 8 by decide)]
    rw [g3 i hi, f3 12 (by decide), g2 i hi]
    have e : (-1 : Int32) = zI (-1) := by decide
    exact ⟨e, e⟩
  · intro r hr
    simp only [en_up_ne (show 10 ≠ 8 by decide)]
    rw [f3 10 (by decide), f2 10 (by decide), g1 r hr]
    show (0 : Int32) = zI 0
    decide
  · simp (disch := decide) only [en_up_eq, upd_eq, upd_ne]
    show (0 : Int32) = zI 0
    decide
  · simp (disch := decide) only [en_up_eq, upd_eq, upd_ne]
    show (0 : Int32) = zI 0
    decide
  · simp (disch := decide) only [en_up_eq, upd_eq, upd_ne]
    show (0 : Int32) = zI 0
    decide
  · simp (disch := decide) only [en_up_eq, upd_eq, upd_ne]
    show (-1 : Int32) = zI (-1)
    decide
theorem s_chosenIn (h : en_nD w n cm cb len t) (h1 : -2147483648 ≤ c) (h2 : c < 2147483648) : SX2_chosenIn [.ref 8, .int (zI c)] w = some (some (.int (zI (nat1 n (nch t) c))), w) := by
  obtain ⟨⟨d1, d2, d3⟩, -, g3, -⟩ := h
  refine en_val rfl (fun Q hQ => ?_)
  show en_Ev XX2_chosenIn 0 [some (.ref 8), some (.int (zI c))] [] w Q
  unfold nat1 at hQ
  by_cases c1 : 0 ≤ c ∧ c < n
  · rw [if_pos c1] at hQ
    have c2 : ¬ c < 0 := by omega
    have c3 : ¬ (n : Int) ≤ c := by omega
    have c4 : ¬ 20 ≤ c.toNat := by omega
    obtain ⟨e1, -⟩ := g3 c.toNat (by omega)
    simp (disch := omega) only [eX2_chosenIn_0, eX2_chosenIn_1, eX2_chosenIn_4, eX2_chosenIn_5, eX2_chosenIn_6, eX2_chosenIn_9, eX2_chosenIn_12, eX2_chosenIn_15, eX2_chosenIn_16, eX2_chosenIn_19, eX2_chosenIn_20, eX2_chosenIn_21, eX2_chosenIn_24, eX2_chosenIn_25, en_kl_0, en_kl_i, en_kl_r, en_kl_n, en_kl_l, en_Ec_some, en_Ec_void, en_rcv, en_stk, List.map_cons, List.map_nil, List.sum_cons, List.sum_nil, Value.category, Nat.reduceAdd, Nat.reduceLeDiff, decide_true, true_and, and_true, and_self, zI_add, zI_sub, zI_mul, zI_neg, zI_lt, zI_le, zI_eq, zI_cl, zI_0, zI_1, zI_m1, zI_lit, zT_0, zT_01, zI_01, zI_11, ↓reduceIte, if_true, if_false, not_false_eq_true, not_true_eq_false, Int.reduceEq, Int.reduceLT, Int.reduceLE, Classical.not_not, Bool.false_eq_true, fi_0, ft_0_0, ft_0_1, ft_0_2, ft_0_3, ft_0_4, ft_0_5, fi_3, ft_3_0, ft_3_1, fi_5, ft_5_0, ft_5_1, fi_8, ft_8_0, ft_8_1, ft_8_2, ft_8_3, ft_8_4, ft_8_5, fi_14, ft_14_0, ft_14_1, fi_19, ft_19_0, ft_19_1, ft_19_2, ft_19_3, ft_19_5, ft_19_6, ft_19_7, ft_19_8, ft_19_12, ft_19_13, ft_19_14, ft_19_15, ft_19_16, ft_19_21, fx_4, fx_6, fx_7, fx_9, fx_10, fx_11, fx_12, fx_13, fx_15, fx_16, fx_17, fx_18, fx_20, fx_21, fx_22, fx_23, fx_24, fx_25, fx_26, fx_27, fx_28, fx_29, fx_30, fx_31, fx_32, fx_33, d1, c2, c3, c4, e1, or_self]
    exact hQ
  · rw [if_neg c1] at hQ
    by_cases c2 : c < 0
    · simp (disch := omega) only [eX2_chosenIn_0, eX2_chosenIn_1, eX2_chosenIn_4, eX2_chosenIn_5, eX2_chosenIn_6, eX2_chosenIn_9, eX2_chosenIn_12, eX2_chosenIn_15, eX2_chosenIn_16, eX2_chosenIn_19, eX2_chosenIn_20, eX2_chosenIn_21, eX2_chosenIn_24, eX2_chosenIn_25, en_kl_0, en_kl_i, en_kl_r, en_kl_n, en_kl_l, en_Ec_some, en_Ec_void, en_rcv, en_stk, List.map_cons, List.map_nil, List.sum_cons, List.sum_nil, Value.category, Nat.reduceAdd, Nat.reduceLeDiff, decide_true, true_and, and_true, and_self, zI_add, zI_sub, zI_mul, zI_neg, zI_lt, zI_le, zI_eq, zI_cl, zI_0, zI_1, zI_m1, zI_lit, zT_0, zT_01, zI_01, zI_11, ↓reduceIte, if_true, if_false, not_false_eq_true, not_true_eq_false, Int.reduceEq, Int.reduceLT, Int.reduceLE, Classical.not_not, Bool.false_eq_true, fi_0, ft_0_0, ft_0_1, ft_0_2, ft_0_3, ft_0_4, ft_0_5, fi_3, ft_3_0, ft_3_1, fi_5, ft_5_0, ft_5_1, fi_8, ft_8_0, ft_8_1, ft_8_2, ft_8_3, ft_8_4, ft_8_5, fi_14, ft_14_0, ft_14_1, fi_19, ft_19_0, ft_19_1, ft_19_2, ft_19_3, ft_19_5, ft_19_6, ft_19_7, ft_19_8, ft_19_12, ft_19_13, ft_19_14, ft_19_15, ft_19_16, ft_19_21, fx_4, fx_6, fx_7, fx_9, fx_10, fx_11, fx_12, fx_13, fx_15, fx_16, fx_17, fx_18, fx_20, fx_21, fx_22, fx_23, fx_24, fx_25, fx_26, fx_27, fx_28, fx_29, fx_30, fx_31, fx_32, fx_33, d1, c2]; exact hQ
    · have c3 : (n : Int) ≤ c := by omega
      simp (disch := omega) only [eX2_chosenIn_0, eX2_chosenIn_1, eX2_chosenIn_4, eX2_chosenIn_5, eX2_chosenIn_6, eX2_chosenIn_9, eX2_chosenIn_12, eX2_chosenIn_15, eX2_chosenIn_16, eX2_chosenIn_19, eX2_chosenIn_20, eX2_chosenIn_21, eX2_chosenIn_24, eX2_chosenIn_25, en_kl_0, en_kl_i, en_kl_r, en_kl_n, en_kl_l, en_Ec_some, en_Ec_void, en_rcv, en_stk, List.map_cons, List.map_nil, List.sum_cons, List.sum_nil, Value.category, Nat.reduceAdd, Nat.reduceLeDiff, decide_true, true_and, and_true, and_self, zI_add, zI_sub, zI_mul, zI_neg, zI_lt, zI_le, zI_eq, zI_cl, zI_0, zI_1, zI_m1, zI_lit, zT_0, zT_01, zI_01, zI_11, ↓reduceIte, if_true, if_false, not_false_eq_true, not_true_eq_false, Int.reduceEq, Int.reduceLT, Int.reduceLE, Classical.not_not, Bool.false_eq_true, fi_0, ft_0_0, ft_0_1, ft_0_2, ft_0_3, ft_0_4, ft_0_5, fi_3, ft_3_0, ft_3_1, fi_5, ft_5_0, ft_5_1, fi_8, ft_8_0, ft_8_1, ft_8_2, ft_8_3, ft_8_4, ft_8_5, fi_14, ft_14_0, ft_14_1, fi_19, ft_19_0, ft_19_1, ft_19_2, ft_19_3, ft_19_5, ft_19_6, ft_19_7, ft_19_8, ft_19_12, ft_19_13, ft_19_14, ft_19_15, ft_19_16, ft_19_21, fx_4, fx_6, fx_7, fx_9, fx_10, fx_11, fx_12, fx_13, fx_15, fx_16, fx_17, fx_18, fx_20, fx_21, fx_22, fx_23, fx_24, fx_25, fx_26, fx_27, fx_28, fx_29, fx_30, fx_31, fx_32, fx_33, d1, c2, c3]; exact hQ
theorem s_playedFor (h : en_nD w n cm cb len t) (h1 : -2147483648 ≤ c) (h2 : c < 2147483648) : SX2_playedFor [.ref 8, .int (zI c)] w = some (some (.int (zI (nat1 n (npl t) c))), w) := by
  obtain ⟨⟨d1, d2, d3⟩, -, g3, -⟩ := h
  refine en_val rfl (fun Q hQ => ?_)
  show en_Ev XX2_playedFor 0 [some (.ref 8), some (.int (zI c))] [] w Q
  unfold nat1 at hQ
  by_cases c1 : 0 ≤ c ∧ c < n
  · rw [if_pos c1] at hQ
    have c2 : ¬ c < 0 := by omega
    have c3 : ¬ (n : Int) ≤ c := by omega
    have c4 : ¬ 20 ≤ c.toNat := by omega
    obtain ⟨-, e1⟩ := g3 c.toNat (by omega)
    simp (disch := omega) only [eX2_playedFor_0, eX2_playedFor_1, eX2_playedFor_4, eX2_playedFor_5, eX2_playedFor_6, eX2_playedFor_9, eX2_playedFor_12, eX2_playedFor_15, eX2_playedFor_16, eX2_playedFor_19, eX2_playedFor_20, eX2_playedFor_21, eX2_playedFor_24, eX2_playedFor_25, en_kl_0, en_kl_i, en_kl_r, en_kl_n, en_kl_l, en_Ec_some, en_Ec_void, en_rcv, en_stk, List.map_cons, List.map_nil, List.sum_cons, List.sum_nil, Value.category, Nat.reduceAdd, Nat.reduceLeDiff, decide_true, true_and, and_true, and_self, zI_add, zI_sub, zI_mul, zI_neg, zI_lt, zI_le, zI_eq, zI_cl, zI_0, zI_1, zI_m1, zI_lit, zT_0, zT_01, zI_01, zI_11, ↓reduceIte, if_true, if_false, not_false_eq_true, not_true_eq_false, Int.reduceEq, Int.reduceLT, Int.reduceLE, Classical.not_not, Bool.false_eq_true, fi_0, ft_0_0, ft_0_1, ft_0_2, ft_0_3, ft_0_4, ft_0_5, fi_3, ft_3_0, ft_3_1, fi_5, ft_5_0, ft_5_1, fi_8, ft_8_0, ft_8_1, ft_8_2, ft_8_3, ft_8_4, ft_8_5, fi_14, ft_14_0, ft_14_1, fi_19, ft_19_0, ft_19_1, ft_19_2, ft_19_3, ft_19_5, ft_19_6, ft_19_7, ft_19_8, ft_19_12, ft_19_13, ft_19_14, ft_19_15, ft_19_16, ft_19_21, fx_4, fx_6, fx_7, fx_9, fx_10, fx_11, fx_12, fx_13, fx_15, fx_16, fx_17, fx_18, fx_20, fx_21, fx_22, fx_23, fx_24, fx_25, fx_26, fx_27, fx_28, fx_29, fx_30, fx_31, fx_32, fx_33, d1, c2, c3, c4, e1, or_self]
    exact hQ
  · rw [if_neg c1] at hQ
    by_cases c2 : c < 0
    · simp (disch := omega) only [eX2_playedFor_0, eX2_playedFor_1, eX2_playedFor_4, eX2_playedFor_5, eX2_playedFor_6, eX2_playedFor_9, eX2_playedFor_12, eX2_playedFor_15, eX2_playedFor_16, eX2_playedFor_19, eX2_playedFor_20, eX2_playedFor_21, eX2_playedFor_24, eX2_playedFor_25, en_kl_0, en_kl_i, en_kl_r, en_kl_n, en_kl_l, en_Ec_some, en_Ec_void, en_rcv, en_stk, List.map_cons, List.map_nil, List.sum_cons, List.sum_nil, Value.category, Nat.reduceAdd, Nat.reduceLeDiff, decide_true, true_and, and_true, and_self, zI_add, zI_sub, zI_mul, zI_neg, zI_lt, zI_le, zI_eq, zI_cl, zI_0, zI_1, zI_m1, zI_lit, zT_0, zT_01, zI_01, zI_11, ↓reduceIte, if_true, if_false, not_false_eq_true, not_true_eq_false, Int.reduceEq, Int.reduceLT, Int.reduceLE, Classical.not_not, Bool.false_eq_true, fi_0, ft_0_0, ft_0_1, ft_0_2, ft_0_3, ft_0_4, ft_0_5, fi_3, ft_3_0, ft_3_1, fi_5, ft_5_0, ft_5_1, fi_8, ft_8_0, ft_8_1, ft_8_2, ft_8_3, ft_8_4, ft_8_5, fi_14, ft_14_0, ft_14_1, fi_19, ft_19_0, ft_19_1, ft_19_2, ft_19_3, ft_19_5, ft_19_6, ft_19_7, ft_19_8, ft_19_12, ft_19_13, ft_19_14, ft_19_15, ft_19_16, ft_19_21, fx_4, fx_6, fx_7, fx_9, fx_10, fx_11, fx_12, fx_13, fx_15, fx_16, fx_17, fx_18, fx_20, fx_21, fx_22, fx_23, fx_24, fx_25, fx_26, fx_27, fx_28, fx_29, fx_30, fx_31, fx_32, fx_33, d1, c2]; exact hQ
    · have c3 : (n : Int) ≤ c := by omega
      simp (disch := omega) only [eX2_playedFor_0, eX2_playedFor_1, eX2_playedFor_4, eX2_playedFor_5, eX2_playedFor_6, eX2_playedFor_9, eX2_playedFor_12, eX2_playedFor_15, eX2_playedFor_16, eX2_playedFor_19, eX2_playedFor_20, eX2_playedFor_21, eX2_playedFor_24, eX2_playedFor_25, en_kl_0, en_kl_i, en_kl_r, en_kl_n, en_kl_l, en_Ec_some, en_Ec_void, en_rcv, en_stk, List.map_cons, List.map_nil, List.sum_cons, List.sum_nil, Value.category, Nat.reduceAdd, Nat.reduceLeDiff, decide_true, true_and, and_true, and_self, zI_add, zI_sub, zI_mul, zI_neg, zI_lt, zI_le, zI_eq, zI_cl, zI_0, zI_1, zI_m1, zI_lit, zT_0, zT_01, zI_01, zI_11, ↓reduceIte, if_true, if_false, not_false_eq_true, not_true_eq_false, Int.reduceEq, Int.reduceLT, Int.reduceLE, Classical.not_not, Bool.false_eq_true, fi_0, ft_0_0, ft_0_1, ft_0_2, ft_0_3, ft_0_4, ft_0_5, fi_3, ft_3_0, ft_3_1, fi_5, ft_5_0, ft_5_1, fi_8, ft_8_0, ft_8_1, ft_8_2, ft_8_3, ft_8_4, ft_8_5, fi_14, ft_14_0, ft_14_1, fi_19, ft_19_0, ft_19_1, ft_19_2, ft_19_3, ft_19_5, ft_19_6, ft_19_7, ft_19_8, ft_19_12, ft_19_13, ft_19_14, ft_19_15, ft_19_16, ft_19_21, fx_4, fx_6, fx_7, fx_9, fx_10, fx_11, fx_12, fx_13, fx_15, fx_16, fx_17, fx_18, fx_20, fx_21, fx_22, fx_23, fx_24, fx_25, fx_26, fx_27, fx_28, fx_29, fx_30, fx_31, fx_32, fx_33, d1, c2, c3]; exact hQ
theorem nat1_nch (h : nB 21 t) : -1 ≤ nat1 n (nch t) c ∧ nat1 n (nch t) c ≤ 199 := by
  unfold nat1
  split
  · exact h.1 _
  · omega
theorem nat1_npl (h : nB 21 t) : -1 ≤ nat1 n (npl t) c ∧ nat1 n (npl t) c ≤ 9 := by
  unfold nat1
  split
  · exact h.2.1 _
  · omega
theorem nat1_cm (h : en_cD w 14 n cm cb) : -1 ≤ nat1 n cm c ∧ nat1 n cm c ≤ 99 := by
  unfold nat1
  split
  · have := h.2.2 c.toNat (by omega)
    omega
  · omega
theorem nat1_cb (h : en_cD w 14 n cm cb) : -1 ≤ nat1 n cb c ∧ nat1 n cb c ≤ 9 := by
  unfold nat1
  split
  · have := h.2.2 c.toNat (by omega)
    omega
  · omega
theorem s_firstLeft (h : en_nD w n cm cb len t) : SX2_firstLeft [.ref 8] w = some (some (.int (zI (nfl (nch t) n 0))), w) := by
  have h' := h
  obtain ⟨hcd, -, g3, -, -, -, -, -, hB⟩ := h
  have hn := hcd.2.1
  refine en_val rfl (fun Q hQ => ?_)
  show en_Ev XX2_firstLeft 0 [some (.ref 8), none, none] [] w Q
  have loop : ∀ (d i : Nat), i + d = n → Q (some (.int (zI (nfl (nch t) d i)))) w → en_Ev XX2_firstLeft 10 [some (.ref 8), some (.int (zI n)), some (.int (zI i))] [] w Q := by
    intro d
    induction d with
    | zero =>
      intro i h1 hq
      have c1 : (n : Int) ≤ (i : Int) := by omega
      rw [eX2_firstLeft_10]
      simp (disch := omega) only [eX2_firstLeft_0, eX2_firstLeft_1, eX2_firstLeft_4, eX2_firstLeft_7, eX2_firstLeft_8, eX2_firstLeft_9, eX2_firstLeft_11, eX2_firstLeft_12, eX2_firstLeft_15, eX2_firstLeft_16, eX2_firstLeft_17, eX2_firstLeft_20, eX2_firstLeft_21, eX2_firstLeft_24, eX2_firstLeft_25, eX2_firstLeft_26, eX2_firstLeft_29, eX2_firstLeft_32, eX2_firstLeft_33, en_kl_0, en_kl_i, en_kl_r, en_kl_n, en_kl_l, en_Ec_some, en_Ec_void, en_rcv, en_stk, List.map_cons, List.map_nil, List.sum_cons, List.sum_nil, Value.category, Nat.reduceAdd, Nat.reduceLeDiff, decide_true, true_and, and_true, and_self, zI_add, zI_sub, zI_mul, zI_neg, zI_lt, zI_le, zI_eq, zI_cl, zI_0, zI_1, zI_m1, zI_lit, zT_0, zT_01, zI_01, zI_11, ↓reduceIte, if_true, if_false, not_false_eq_true, not_true_eq_false, Int.reduceEq, Int.reduceLT, Int.reduceLE, Classical.not_not, Bool.false_eq_true, c1]
      exact hq
    | succ d ih =>
      intro i h1 hq
      have c1 : ¬ (n : Int) ≤ (i : Int) := by omega
      have g := hB.1 i
      rw [eX2_firstLeft_10]
      simp (disch := omega) only [eX2_firstLeft_0, eX2_firstLeft_1, eX2_firstLeft_4, eX2_firstLeft_7, eX2_firstLeft_8, eX2_firstLeft_9, eX2_firstLeft_11, eX2_firstLeft_12, eX2_firstLeft_15, eX2_firstLeft_16, eX2_firstLeft_17, eX2_firstLeft_20, eX2_firstLeft_21, eX2_firstLeft_24, eX2_firstLeft_25, eX2_firstLeft_26, eX2_firstLeft_29, eX2_firstLeft_32, eX2_firstLeft_33, en_kl_0, en_kl_i, en_kl_r, en_kl_n, en_kl_l, en_Ec_some, en_Ec_void, en_rcv, en_stk, List.map_cons, List.map_nil, List.sum_cons, List.sum_nil, Value.category, Nat.reduceAdd, Nat.reduceLeDiff, decide_true, true_and, and_true, and_self, zI_add, zI_sub, zI_mul, zI_neg, zI_lt, zI_le, zI_eq, zI_cl, zI_0, zI_1, zI_m1, zI_lit, zT_0, zT_01, zI_01, zI_11, ↓reduceIte, if_true, if_false, not_false_eq_true, not_true_eq_false, Int.reduceEq, Int.reduceLT, Int.reduceLE, Classical.not_not, Bool.false_eq_true, fi_0, ft_0_0, ft_0_1, ft_0_2, ft_0_3, ft_0_4, ft_0_5, fi_3, ft_3_0, ft_3_1, fi_5, ft_5_0, ft_5_1, fi_8, ft_8_0, ft_8_1, ft_8_2, ft_8_3, ft_8_4, ft_8_5, fi_14, ft_14_0, ft_14_1, fi_19, ft_19_0, ft_19_1, ft_19_2, ft_19_3, ft_19_5, ft_19_6, ft_19_7, ft_19_8, ft_19_12, ft_19_13, ft_19_14, ft_19_15, ft_19_16, ft_19_21, fx_4, fx_6, fx_7, fx_9, fx_10, fx_11, fx_12, fx_13, fx_15, fx_16, fx_17, fx_18, fx_20, fx_21, fx_22, fx_23, fx_24, fx_25, fx_26, fx_27, fx_28, fx_29, fx_30, fx_31, fx_32, fx_33, c1]
      rw [s_chosenIn h' (by omega) (by omega)]
      have e1 : nat1 n (nch t) (i : Int) = nch t i := by unfold nat1; rw [if_pos (by omega), Int.toNat_natCast]
      rw [e1]
      unfold nfl at hq
      by_cases c2 : nch t i = -1
      · rw [if_pos c2] at hq
        simp (disch := omega) only [eX2_firstLeft_0, eX2_firstLeft_1, eX2_firstLeft_4, eX2_firstLeft_7, eX2_firstLeft_8, eX2_firstLeft_9, eX2_firstLeft_11, eX2_firstLeft_12, eX2_firstLeft_15, eX2_firstLeft_16, eX2_firstLeft_17, eX2_firstLeft_20, eX2_firstLeft_21, eX2_firstLeft_24, eX2_firstLeft_25, eX2_firstLeft_26, eX2_firstLeft_29, eX2_firstLeft_32, eX2_firstLeft_33, en_kl_0, en_kl_i, en_kl_r, en_kl_n, en_kl_l, en_Ec_some, en_Ec_void, en_rcv, en_stk, List.map_cons, List.map_nil, List.sum_cons, List.sum_nil, Value.category, Nat.reduceAdd, Nat.reduceLeDiff, decide_true, true_and, and_true, and_self, zI_add, zI_sub, zI_mul, zI_neg, zI_lt, zI_le, zI_eq, zI_cl, zI_0, zI_1, zI_m1, zI_lit, zT_0, zT_01, zI_01, zI_11, ↓reduceIte, if_true, if_false, not_false_eq_true, not_true_eq_false, Int.reduceEq, Int.reduceLT, Int.reduceLE, Classical.not_not, Bool.false_eq_true, fi_0, ft_0_0, ft_0_1, ft_0_2, ft_0_3, ft_0_4, ft_0_5, fi_3, ft_3_0, ft_3_1, fi_5, ft_5_0, ft_5_1, fi_8, ft_8_0, ft_8_1, ft_8_2, ft_8_3, ft_8_4, ft_8_5, fi_14, ft_14_0, ft_14_1, fi_19, ft_19_0, ft_19_1, ft_19_2, ft_19_3, ft_19_5, ft_19_6, ft_19_7, ft_19_8, ft_19_12, ft_19_13, ft_19_14, ft_19_15, ft_19_16, ft_19_21, fx_4, fx_6, fx_7, fx_9, fx_10, fx_11, fx_12, fx_13, fx_15, fx_16, fx_17, fx_18, fx_20, fx_21, fx_22, fx_23, fx_24, fx_25, fx_26, fx_27, fx_28, fx_29, fx_30, fx_31, fx_32, fx_33, c2]
        exact hq
      · rw [if_neg c2] at hq
        simp (disch := omega) only [eX2_firstLeft_0, eX2_firstLeft_1, eX2_firstLeft_4, eX2_firstLeft_7, eX2_firstLeft_8, eX2_firstLeft_9, eX2_firstLeft_11, eX2_firstLeft_12, eX2_firstLeft_15, eX2_firstLeft_16, eX2_firstLeft_17, eX2_firstLeft_20, eX2_firstLeft_21, eX2_firstLeft_24, eX2_firstLeft_25, eX2_firstLeft_26, eX2_firstLeft_29, eX2_firstLeft_32, eX2_firstLeft_33, en_kl_0, en_kl_i, en_kl_r, en_kl_n, en_kl_l, en_Ec_some, en_Ec_void, en_rcv, en_stk, List.map_cons, List.map_nil, List.sum_cons, List.sum_nil, Value.category, Nat.reduceAdd, Nat.reduceLeDiff, decide_true, true_and, and_true, and_self, zI_add, zI_sub, zI_mul, zI_neg, zI_lt, zI_le, zI_eq, zI_cl, zI_0, zI_1, zI_m1, zI_lit, zT_0, zT_01, zI_01, zI_11, ↓reduceIte, if_true, if_false, not_false_eq_true, not_true_eq_false, Int.reduceEq, Int.reduceLT, Int.reduceLE, Classical.not_not, Bool.false_eq_true, fi_0, ft_0_0, ft_0_1, ft_0_2, ft_0_3, ft_0_4, ft_0_5, fi_3, ft_3_0, ft_3_1, fi_5, ft_5_0, ft_5_1, fi_8, ft_8_0, ft_8_1, ft_8_2, ft_8_3, ft_8_4, ft_8_5, fi_14, ft_14_0, ft_14_1, fi_19, ft_19_0, ft_19_1, ft_19_2, ft_19_3, ft_19_5, ft_19_6, ft_19_7, ft_19_8, ft_19_12, ft_19_13, ft_19_14, ft_19_15, ft_19_16, ft_19_21, fx_4, fx_6, fx_7, fx_9, fx_10, fx_11, fx_12, fx_13, fx_15, fx_16, fx_17, fx_18, fx_20, fx_21, fx_22, fx_23, fx_24, fx_25, fx_26, fx_27, fx_28, fx_29, fx_30, fx_31, fx_32, fx_33, c2]
        exact ih (i + 1) (by omega) hq
  simp (disch := omega) only [eX2_firstLeft_0, eX2_firstLeft_1, eX2_firstLeft_4, en_kl_0, en_kl_i, en_kl_r, en_kl_n, en_kl_l, en_Ec_some, en_Ec_void, en_rcv, en_stk, List.map_cons, List.map_nil, List.sum_cons, List.sum_nil, Value.category, Nat.reduceAdd, Nat.reduceLeDiff, decide_true, true_and, and_true, and_self, zI_add, zI_sub, zI_mul, zI_neg, zI_lt, zI_le, zI_eq, zI_cl, zI_0, zI_1, zI_m1, zI_lit, zT_0, zT_01, zI_01, zI_11, ↓reduceIte, if_true, if_false, not_false_eq_true, not_true_eq_false, Int.reduceEq, Int.reduceLT, Int.reduceLE, Classical.not_not, Bool.false_eq_true, fi_0, ft_0_0, ft_0_1, ft_0_2, ft_0_3, ft_0_4, ft_0_5, fi_3, ft_3_0, ft_3_1, fi_5, ft_5_0, ft_5_1, fi_8, ft_8_0, ft_8_1, ft_8_2, ft_8_3, ft_8_4, ft_8_5, fi_14, ft_14_0, ft_14_1, fi_19, ft_19_0, ft_19_1, ft_19_2, ft_19_3, ft_19_5, ft_19_6, ft_19_7, ft_19_8, ft_19_12, ft_19_13, ft_19_14, ft_19_15, ft_19_16, ft_19_21, fx_4, fx_6, fx_7, fx_9, fx_10, fx_11, fx_12, fx_13, fx_15, fx_16, fx_17, fx_18, fx_20, fx_21, fx_22, fx_23, fx_24, fx_25, fx_26, fx_27, fx_28, fx_29, fx_30, fx_31, fx_32, fx_33]
  rw [s_number en_coins_14 hcd]
  simp (disch := omega) only [eX2_firstLeft_7, eX2_firstLeft_8, eX2_firstLeft_9, en_kl_0, en_kl_i, en_kl_r, en_kl_n, en_kl_l, en_Ec_some, en_Ec_void, en_rcv, en_stk, List.map_cons, List.map_nil, List.sum_cons, List.sum_nil, Value.category, Nat.reduceAdd, Nat.reduceLeDiff, decide_true, true_and, and_true, and_self, zI_add, zI_sub, zI_mul, zI_neg, zI_lt, zI_le, zI_eq, zI_cl, zI_0, zI_1, zI_m1, zI_lit, zT_0, zT_01, zI_01, zI_11, ↓reduceIte, if_true, if_false, not_false_eq_true, not_true_eq_false, Int.reduceEq, Int.reduceLT, Int.reduceLE, Classical.not_not, Bool.false_eq_true, fi_0, ft_0_0, ft_0_1, ft_0_2, ft_0_3, ft_0_4, ft_0_5, fi_3, ft_3_0, ft_3_1, fi_5, ft_5_0, ft_5_1, fi_8, ft_8_0, ft_8_1, ft_8_2, ft_8_3, ft_8_4, ft_8_5, fi_14, ft_14_0, ft_14_1, fi_19, ft_19_0, ft_19_1, ft_19_2, ft_19_3, ft_19_5, ft_19_6, ft_19_7, ft_19_8, ft_19_12, ft_19_13, ft_19_14, ft_19_15, ft_19_16, ft_19_21, fx_4, fx_6, fx_7, fx_9, fx_10, fx_11, fx_12, fx_13, fx_15, fx_16, fx_17, fx_18, fx_20, fx_21, fx_22, fx_23, fx_24, fx_25, fx_26, fx_27, fx_28, fx_29, fx_30, fx_31, fx_32, fx_33]
  exact loop n 0 (by omega) hQ
theorem s_waits (h : en_nD w n cm cb len t) (h1 : -2147483648 ≤ c) (h2 : c < 2147483648) (h3 : 0 ≤ m) (h4 : m < 2147483648) : SX2_waits [.ref 8, .int (zI c), .int (zI m)] w = some (some (.int (zT (nw n cm (nch t) m c))), w) := by
  obtain ⟨⟨d1, d2, d3⟩, -, g3, -, -, -, -, -, hB⟩ := h
  refine en_val rfl (fun Q hQ => ?_)
  show en_Ev XX2_waits 0 [some (.ref 8), some (.int (zI c)), some (.int (zI m))] [] w Q
  by_cases c1 : 0 ≤ c ∧ c < n
  · have c2 : ¬ c < 0 := by omega
    have c3 : ¬ (n : Int) ≤ c := by omega
    have c4 : ¬ 20 ≤ c.toNat := by omega
    obtain ⟨e1, -⟩ := g3 c.toNat (by omega)
    obtain ⟨e2, -, e3, e4, -⟩ := d3 c.toNat (by omega)
    have e2 : w 15 c.toNat = zI (cm c.toNat) := e2
    have g := hB.1 c.toNat
    simp (disch := omega) only [eX2_waits_0, eX2_waits_1, eX2_waits_4, eX2_waits_5, eX2_waits_6, eX2_waits_9, eX2_waits_12, eX2_waits_15, eX2_waits_16, eX2_waits_19, eX2_waits_20, eX2_waits_21, eX2_waits_22, eX2_waits_25, eX2_waits_26, eX2_waits_29, eX2_waits_32, eX2_waits_33, eX2_waits_34, eX2_waits_35, eX2_waits_38, eX2_waits_39, eX2_waits_42, eX2_waits_43, en_kl_0, en_kl_i, en_kl_r, en_kl_n, en_kl_l, en_Ec_some, en_Ec_void, en_rcv, en_stk, List.map_cons, List.map_nil, List.sum_cons, List.sum_nil, Value.category, Nat.reduceAdd, Nat.reduceLeDiff, decide_true, true_and, and_true, and_self, zI_add, zI_sub, zI_mul, zI_neg, zI_lt, zI_le, zI_eq, zI_cl, zI_0, zI_1, zI_m1, zI_lit, zT_0, zT_01, zI_01, zI_11, ↓reduceIte, if_true, if_false, not_false_eq_true, not_true_eq_false, Int.reduceEq, Int.reduceLT, Int.reduceLE, Classical.not_not, Bool.false_eq_true, fi_0, ft_0_0, ft_0_1, ft_0_2, ft_0_3, ft_0_4, ft_0_5, fi_3, ft_3_0, ft_3_1, fi_5, ft_5_0, ft_5_1, fi_8, ft_8_0, ft_8_1, ft_8_2, ft_8_3, ft_8_4, ft_8_5, fi_14, ft_14_0, ft_14_1, fi_19, ft_19_0, ft_19_1, ft_19_2, ft_19_3, ft_19_5, ft_19_6, ft_19_7, ft_19_8, ft_19_12, ft_19_13, ft_19_14, ft_19_15, ft_19_16, ft_19_21, fx_4, fx_6, fx_7, fx_9, fx_10, fx_11, fx_12, fx_13, fx_15, fx_16, fx_17, fx_18, fx_20, fx_21, fx_22, fx_23, fx_24, fx_25, fx_26, fx_27, fx_28, fx_29, fx_30, fx_31, fx_32, fx_33, d1, c2, c3, c4, e1, e2, or_self]
    by_cases c5 : nch t c.toNat = -1
    · by_cases c6 : m < cm c.toNat
      · rw [zT_f (by omega)] at hQ
        simp only [c5, c6, if_true, if_false]; exact hQ
      · rw [zT_t ⟨c1.1, c1.2, c5, by omega⟩] at hQ
        simp only [c5, c6, if_true, if_false]; exact hQ
    · rw [zT_f (by omega)] at hQ
      simp only [c5, if_true, if_false]; exact hQ
  · rw [zT_f (by omega)] at hQ
    by_cases c2 : c < 0
    · simp (disch := omega) only [eX2_waits_0, eX2_waits_1, eX2_waits_4, eX2_waits_5, eX2_waits_6, eX2_waits_9, eX2_waits_12, eX2_waits_15, eX2_waits_16, eX2_waits_19, eX2_waits_20, eX2_waits_21, eX2_waits_22, eX2_waits_25, eX2_waits_26, eX2_waits_29, eX2_waits_32, eX2_waits_33, eX2_waits_34, eX2_waits_35, eX2_waits_38, eX2_waits_39, eX2_waits_42, eX2_waits_43, en_kl_0, en_kl_i, en_kl_r, en_kl_n, en_kl_l, en_Ec_some, en_Ec_void, en_rcv, en_stk, List.map_cons, List.map_nil, List.sum_cons, List.sum_nil, Value.category, Nat.reduceAdd, Nat.reduceLeDiff, decide_true, true_and, and_true, and_self, zI_add, zI_sub, zI_mul, zI_neg, zI_lt, zI_le, zI_eq, zI_cl, zI_0, zI_1, zI_m1, zI_lit, zT_0, zT_01, zI_01, zI_11, ↓reduceIte, if_true, if_false, not_false_eq_true, not_true_eq_false, Int.reduceEq, Int.reduceLT, Int.reduceLE, Classical.not_not, Bool.false_eq_true, fi_0, ft_0_0, ft_0_1, ft_0_2, ft_0_3, ft_0_4, ft_0_5, fi_3, ft_3_0, ft_3_1, fi_5, ft_5_0, ft_5_1, fi_8, ft_8_0, ft_8_1, ft_8_2, ft_8_3, ft_8_4, ft_8_5, fi_14, ft_14_0, ft_14_1, fi_19, ft_19_0, ft_19_1, ft_19_2, ft_19_3, ft_19_5, ft_19_6, ft_19_7, ft_19_8, ft_19_12, ft_19_13, ft_19_14, ft_19_15, ft_19_16, ft_19_21, fx_4, fx_6, fx_7, fx_9, fx_10, fx_11, fx_12, fx_13, fx_15, fx_16, fx_17, fx_18, fx_20, fx_21, fx_22, fx_23, fx_24, fx_25, fx_26, fx_27, fx_28, fx_29, fx_30, fx_31, fx_32, fx_33, d1, c2]; exact hQ
    · have c3 : (n : Int) ≤ c := by omega
      simp (disch := omega) only [eX2_waits_0, eX2_waits_1, eX2_waits_4, eX2_waits_5, eX2_waits_6, eX2_waits_9, eX2_waits_12, eX2_waits_15, eX2_waits_16, eX2_waits_19, eX2_waits_20, eX2_waits_21, eX2_waits_22, eX2_waits_25, eX2_waits_26, eX2_waits_29, eX2_waits_32, eX2_waits_33, eX2_waits_34, eX2_waits_35, eX2_waits_38, eX2_waits_39, eX2_waits_42, eX2_waits_43, en_kl_0, en_kl_i, en_kl_r, en_kl_n, en_kl_l, en_Ec_some, en_Ec_void, en_rcv, en_stk, List.map_cons, List.map_nil, List.sum_cons, List.sum_nil, Value.category, Nat.reduceAdd, Nat.reduceLeDiff, decide_true, true_and, and_true, and_self, zI_add, zI_sub, zI_mul, zI_neg, zI_lt, zI_le, zI_eq, zI_cl, zI_0, zI_1, zI_m1, zI_lit, zT_0, zT_01, zI_01, zI_11, ↓reduceIte, if_true, if_false, not_false_eq_true, not_true_eq_false, Int.reduceEq, Int.reduceLT, Int.reduceLE, Classical.not_not, Bool.false_eq_true, fi_0, ft_0_0, ft_0_1, ft_0_2, ft_0_3, ft_0_4, ft_0_5, fi_3, ft_3_0, ft_3_1, fi_5, ft_5_0, ft_5_1, fi_8, ft_8_0, ft_8_1, ft_8_2, ft_8_3, ft_8_4, ft_8_5, fi_14, ft_14_0, ft_14_1, fi_19, ft_19_0, ft_19_1, ft_19_2, ft_19_3, ft_19_5, ft_19_6, ft_19_7, ft_19_8, ft_19_12, ft_19_13, ft_19_14, ft_19_15, ft_19_16, ft_19_21, fx_4, fx_6, fx_7, fx_9, fx_10, fx_11, fx_12, fx_13, fx_15, fx_16, fx_17, fx_18, fx_20, fx_21, fx_22, fx_23, fx_24, fx_25, fx_26, fx_27, fx_28, fx_29, fx_30, fx_31, fx_32, fx_33, d1, c2, c3]; exact hQ
theorem s_latestAsked {a : Int} (h : en_nD w n cm cb len t) (h3 : 0 ≤ m) (h4 : m < 2147483648) (h5 : -1 ≤ a) (h6 : a < 20) : SX2_latestAsked [.ref 8, .int (zI m), .int (zI a)] w = some (some (.int (zI (nla n cm (nch t) m a n))), w) := by
  have hcd := h.1
  have hn := hcd.2.1
  refine en_val rfl (fun Q hQ => ?_)
  show en_Ev XX2_latestAsked 0 [some (.ref 8), some (.int (zI m)), some (.int (zI a)), none] [] w Q
  have loop : ∀ (i : Nat), i ≤ n → Q (some (.int (zI (nla n cm (nch t) m a i)))) w → en_Ev XX2_latestAsked 10 [some (.ref 8), some (.int (zI m)), some (.int (zI a)), some (.int (zI ((i : Int) - 1)))] [] w Q := by
    intro i
    induction i with
    | zero =>
      intro h1 hq
      have c1 : ((0 : Nat) : Int) - 1 ≤ a := by omega
      rw [eX2_latestAsked_10]
      simp (disch := omega) only [eX2_latestAsked_0, eX2_latestAsked_1, eX2_latestAsked_4, eX2_latestAsked_7, eX2_latestAsked_8, eX2_latestAsked_9, eX2_latestAsked_11, eX2_latestAsked_12, eX2_latestAsked_15, eX2_latestAsked_16, eX2_latestAsked_17, eX2_latestAsked_18, eX2_latestAsked_21, eX2_latestAsked_24, eX2_latestAsked_25, eX2_latestAsked_26, eX2_latestAsked_29, eX2_latestAsked_32, eX2_latestAsked_33, en_kl_0, en_kl_i, en_kl_r, en_kl_n, en_kl_l, en_Ec_some, en_Ec_void, en_rcv, en_stk, List.map_cons, List.map_nil, List.sum_cons, List.sum_nil, Value.category, Nat.reduceAdd, Nat.reduceLeDiff, decide_true, true_and, and_true, and_self, zI_add, zI_sub, zI_mul, zI_neg, zI_lt, zI_le, zI_eq, zI_cl, zI_0, zI_1, zI_m1, zI_lit, zT_0, zT_01, zI_01, zI_11, ↓reduceIte, if_true, if_false, not_false_eq_true, not_true_eq_false, Int.reduceEq, Int.reduceLT, Int.reduceLE, Classical.not_not, Bool.false_eq_true, c1]
      exact hq
    | succ i ih =>
      intro h1 hq
      have e1 : ((i + 1 : Nat) : Int) - 1 = i := by omega
      rw [e1, eX2_latestAsked_10]
      unfold nla at hq
      by_cases c1 : (i : Int) ≤ a
      · rw [if_pos c1] at hq
        simp (disch := omega) only [eX2_latestAsked_0, eX2_latestAsked_1, eX2_latestAsked_4, eX2_latestAsked_7, eX2_latestAsked_8, eX2_latestAsked_9, eX2_latestAsked_11, eX2_latestAsked_12, eX2_latestAsked_15, eX2_latestAsked_16, eX2_latestAsked_17, eX2_latestAsked_18, eX2_latestAsked_21, eX2_latestAsked_24, eX2_latestAsked_25, eX2_latestAsked_26, eX2_latestAsked_29, eX2_latestAsked_32, eX2_latestAsked_33, en_kl_0, en_kl_i, en_kl_r, en_kl_n, en_kl_l, en_Ec_some, en_Ec_void, en_rcv, en_stk, List.map_cons, List.map_nil, List.sum_cons, List.sum_nil, Value.category, Nat.reduceAdd, Nat.reduceLeDiff, decide_true, true_and, and_true, and_self, zI_add, zI_sub, zI_mul, zI_neg, zI_lt, zI_le, zI_eq, zI_cl, zI_0, zI_1, zI_m1, zI_lit, zT_0, zT_01, zI_01, zI_11, ↓reduceIte, if_true, if_false, not_false_eq_true, not_true_eq_false, Int.reduceEq, Int.reduceLT, Int.reduceLE, Classical.not_not, Bool.false_eq_true, c1]
        exact hq
      · rw [if_neg c1] at hq
        simp (disch := omega) only [eX2_latestAsked_0, eX2_latestAsked_1, eX2_latestAsked_4, eX2_latestAsked_7, eX2_latestAsked_8, eX2_latestAsked_9, eX2_latestAsked_11, eX2_latestAsked_12, eX2_latestAsked_15, eX2_latestAsked_16, eX2_latestAsked_17, eX2_latestAsked_18, eX2_latestAsked_21, eX2_latestAsked_24, eX2_latestAsked_25, eX2_latestAsked_26, eX2_latestAsked_29, eX2_latestAsked_32, eX2_latestAsked_33, en_kl_0, en_kl_i, en_kl_r, en_kl_n, en_kl_l, en_Ec_some, en_Ec_void, en_rcv, en_stk, List.map_cons, List.map_nil, List.sum_cons, List.sum_nil, Value.category, Nat.reduceAdd, Nat.reduceLeDiff, decide_true, true_and, and_true, and_self, zI_add, zI_sub, zI_mul, zI_neg, zI_lt, zI_le, zI_eq, zI_cl, zI_0, zI_1, zI_m1, zI_lit, zT_0, zT_01, zI_01, zI_11, ↓reduceIte, if_true, if_false, not_false_eq_true, not_true_eq_false, Int.reduceEq, Int.reduceLT, Int.reduceLE, Classical.not_not, Bool.false_eq_true, fi_0, ft_0_0, ft_0_1, ft_0_2, ft_0_3, ft_0_4, ft_0_5, fi_3, ft_3_0, ft_3_1, fi_5, ft_5_0, ft_5_1, fi_8, ft_8_0, ft_8_1, ft_8_2, ft_8_3, ft_8_4, ft_8_5, fi_14, ft_14_0, ft_14_1, fi_19, ft_19_0, ft_19_1, ft_19_2, ft_19_3, ft_19_5, ft_19_6, ft_19_7, ft_19_8, ft_19_12, ft_19_13, ft_19_14, ft_19_15, ft_19_16, ft_19_21, fx_4, fx_6, fx_7, fx_9, fx_10, fx_11, fx_12, fx_13, fx_15, fx_16, fx_17, fx_18, fx_20, fx_21, fx_22, fx_23, fx_24, fx_25, fx_26, fx_27, fx_28, fx_29, fx_30, fx_31, fx_32, fx_33, c1]
        rw [s_waits h (by omega) (by omega) h3 h4]
        by_cases c2 : nw n cm (nch t) m i
        · rw [if_pos c2] at hq
          rw [zT_t c2]
          simp (disch := omega) only [eX2_latestAsked_0, eX2_latestAsked_1, eX2_latestAsked_4, eX2_latestAsked_7, eX2_latestAsked_8, eX2_latestAsked_9, eX2_latestAsked_11, eX2_latestAsked_12, eX2_latestAsked_15, eX2_latestAsked_16, eX2_latestAsked_17, eX2_latestAsked_18, eX2_latestAsked_21, eX2_latestAsked_24, eX2_latestAsked_25, eX2_latestAsked_26, eX2_latestAsked_29, eX2_latestAsked_32, eX2_latestAsked_33, en_kl_0, en_kl_i, en_kl_r, en_kl_n, en_kl_l, en_Ec_some, en_Ec_void, en_rcv, en_stk, List.map_cons, List.map_nil, List.sum_cons, List.sum_nil, Value.category, Nat.reduceAdd, Nat.reduceLeDiff, decide_true, true_and, and_true, and_self, zI_add, zI_sub, zI_mul, zI_neg, zI_lt, zI_le, zI_eq, zI_cl, zI_0, zI_1, zI_m1, zI_lit, zT_0, zT_01, zI_01, zI_11, ↓reduceIte, if_true, if_false, not_false_eq_true, not_true_eq_false, Int.reduceEq, Int.reduceLT, Int.reduceLE, Classical.not_not, Bool.false_eq_true, fi_0, ft_0_0, ft_0_1, ft_0_2, ft_0_3, ft_0_4, ft_0_5, fi_3, ft_3_0, ft_3_1, fi_5, ft_5_0, ft_5_1, fi_8, ft_8_0, ft_8_1, ft_8_2, ft_8_3, ft_8_4, ft_8_5, fi_14, ft_14_0, ft_14_1, fi_19, ft_19_0, ft_19_1, ft_19_2, ft_19_3, ft_19_5, ft_19_6, ft_19_7, ft_19_8, ft_19_12, ft_19_13, ft_19_14, ft_19_15, ft_19_16, ft_19_21, fx_4, fx_6, fx_7, fx_9, fx_10, fx_11, fx_12, fx_13, fx_15, fx_16, fx_17, fx_18, fx_20, fx_21, fx_22, fx_23, fx_24, fx_25, fx_26, fx_27, fx_28, fx_29, fx_30, fx_31, fx_32, fx_33]
          exact hq
        · rw [if_neg c2] at hq
          rw [zT_f c2]
          simp (disch := omega) only [eX2_latestAsked_0, eX2_latestAsked_1, eX2_latestAsked_4, eX2_latestAsked_7, eX2_latestAsked_8, eX2_latestAsked_9, eX2_latestAsked_11, eX2_latestAsked_12, eX2_latestAsked_15, eX2_latestAsked_16, eX2_latestAsked_17, eX2_latestAsked_18, eX2_latestAsked_21, eX2_latestAsked_24, eX2_latestAsked_25, eX2_latestAsked_26, eX2_latestAsked_29, eX2_latestAsked_32, eX2_latestAsked_33, en_kl_0, en_kl_i, en_kl_r, en_kl_n, en_kl_l, en_Ec_some, en_Ec_void, en_rcv, en_stk, List.map_cons, List.map_nil, List.sum_cons, List.sum_nil, Value.category, Nat.reduceAdd, Nat.reduceLeDiff, decide_true, true_and, and_true, and_self, zI_add, zI_sub, zI_mul, zI_neg, zI_lt, zI_le, zI_eq, zI_cl, zI_0, zI_1, zI_m1, zI_lit, zT_0, zT_01, zI_01, zI_11, ↓reduceIte, if_true, if_false, not_false_eq_true, not_true_eq_false, Int.reduceEq, Int.reduceLT, Int.reduceLE, Classical.not_not, Bool.false_eq_true, fi_0, ft_0_0, ft_0_1, ft_0_2, ft_0_3, ft_0_4, ft_0_5, fi_3, ft_3_0, ft_3_1, fi_5, ft_5_0, ft_5_1, fi_8, ft_8_0, ft_8_1, ft_8_2, ft_8_3, ft_8_4, ft_8_5, fi_14, ft_14_0, ft_14_1, fi_19, ft_19_0, ft_19_1, ft_19_2, ft_19_3, ft_19_5, ft_19_6, ft_19_7, ft_19_8, ft_19_12, ft_19_13, ft_19_14, ft_19_15, ft_19_16, ft_19_21, fx_4, fx_6, fx_7, fx_9, fx_10, fx_11, fx_12, fx_13, fx_15, fx_16, fx_17, fx_18, fx_20, fx_21, fx_22, fx_23, fx_24, fx_25, fx_26, fx_27, fx_28, fx_29, fx_30, fx_31, fx_32, fx_33]
          exact ih (by omega) hq
  simp (disch := omega) only [eX2_latestAsked_0, eX2_latestAsked_1, eX2_latestAsked_4, en_kl_0, en_kl_i, en_kl_r, en_kl_n, en_kl_l, en_Ec_some, en_Ec_void, en_rcv, en_stk, List.map_cons, List.map_nil, List.sum_cons, List.sum_nil, Value.category, Nat.reduceAdd, Nat.reduceLeDiff, decide_true, true_and, and_true, and_self, zI_add, zI_sub, zI_mul, zI_neg, zI_lt, zI_le, zI_eq, zI_cl, zI_0, zI_1, zI_m1, zI_lit, zT_0, zT_01, zI_01, zI_11, ↓reduceIte, if_true, if_false, not_false_eq_true, not_true_eq_false, Int.reduceEq, Int.reduceLT, Int.reduceLE, Classical.not_not, Bool.false_eq_true, fi_0, ft_0_0, ft_0_1, ft_0_2, ft_0_3, ft_0_4, ft_0_5, fi_3, ft_3_0, ft_3_1, fi_5, ft_5_0, ft_5_1, fi_8, ft_8_0, ft_8_1, ft_8_2, ft_8_3, ft_8_4, ft_8_5, fi_14, ft_14_0, ft_14_1, fi_19, ft_19_0, ft_19_1, ft_19_2, ft_19_3, ft_19_5, ft_19_6, ft_19_7, ft_19_8, ft_19_12, ft_19_13, ft_19_14, ft_19_15, ft_19_16, ft_19_21, fx_4, fx_6, fx_7, fx_9, fx_10, fx_11, fx_12, fx_13, fx_15, fx_16, fx_17, fx_18, fx_20, fx_21, fx_22, fx_23, fx_24, fx_25, fx_26, fx_27, fx_28, fx_29, fx_30, fx_31, fx_32, fx_33]
  rw [s_number en_coins_14 hcd]
  simp (disch := omega) only [eX2_latestAsked_7, eX2_latestAsked_8, eX2_latestAsked_9, en_kl_0, en_kl_i, en_kl_r, en_kl_n, en_kl_l, en_Ec_some, en_Ec_void, en_rcv, en_stk, List.map_cons, List.map_nil, List.sum_cons, List.sum_nil, Value.category, Nat.reduceAdd, Nat.reduceLeDiff, decide_true, true_and, and_true, and_self, zI_add, zI_sub, zI_mul, zI_neg, zI_lt, zI_le, zI_eq, zI_cl, zI_0, zI_1, zI_m1, zI_lit, zT_0, zT_01, zI_01, zI_11, ↓reduceIte, if_true, if_false, not_false_eq_true, not_true_eq_false, Int.reduceEq, Int.reduceLT, Int.reduceLE, Classical.not_not, Bool.false_eq_true, fi_0, ft_0_0, ft_0_1, ft_0_2, ft_0_3, ft_0_4, ft_0_5, fi_3, ft_3_0, ft_3_1, fi_5, ft_5_0, ft_5_1, fi_8, ft_8_0, ft_8_1, ft_8_2, ft_8_3, ft_8_4, ft_8_5, fi_14, ft_14_0, ft_14_1, fi_19, ft_19_0, ft_19_1, ft_19_2, ft_19_3, ft_19_5, ft_19_6, ft_19_7, ft_19_8, ft_19_12, ft_19_13, ft_19_14, ft_19_15, ft_19_16, ft_19_21, fx_4, fx_6, fx_7, fx_9, fx_10, fx_11, fx_12, fx_13, fx_15, fx_16, fx_17, fx_18, fx_20, fx_21, fx_22, fx_23, fx_24, fx_25, fx_26, fx_27, fx_28, fx_29, fx_30, fx_31, fx_32, fx_33]
  exact loop n (Nat.le_refl n) hQ
end
