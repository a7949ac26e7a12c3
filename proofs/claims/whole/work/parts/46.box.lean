/-! ===== ThirdFavour: ask, stuck, heard ===== -/
section
variable {w : en_W} {G : Nat → Int} {s : Nat → Nat → Int} {n : Nat} {tb : Nat → Int} {kick law life pat : Int} {v r c m a h : Int}
theorem s_fewestMore (hD : aD w G s) (hT : en_slip w n tb) (hP : aP w kick law life pat) (h1 : 0 ≤ m) (h2 : m ≤ 99) (h3 : 0 ≤ r) (h4 : r < 10) (h5 : 0 ≤ h) (h6 : h < 200) : ∃ w', SX5_fewestMore [.ref 0, .int (zI m), .int (zI r), .int (zI h)] w = some (some (.int (zI (aFew (tcn n tb) (tcm n tb) (tcb n tb) (ml G s kick) law life m r h))), w') ∧ en_fr NF w w' := by
  have hcn := hT.2.2.2.1
  have P : en_Ev XX5_fewestMore 0 [some (.ref 0), some (.int (zI m)), some (.int (zI r)), some (.int (zI h)), none, none, none, none, none] [] w (fun q w' => q = some (.int (zI (aFew (tcn n tb) (tcm n tb) (tcb n tb) (ml G s kick) law life m r h))) ∧ en_fr NF w w') := by
    simp only [eX5_fewestMore_0, eX5_fewestMore_1, en_kl_0, en_kl_i, en_kl_r, en_kl_n, en_kl_l, en_Ec_some, en_Ec_void, en_rcv, en_stk, List.map_cons, List.map_nil, List.sum_cons, List.sum_nil, Value.category, Nat.reduceAdd, Nat.reduceLeDiff, decide_true, true_and, and_true, and_self, fi_0, ft_0_0, ft_0_1, ft_0_2, ft_0_3, ft_0_4, ft_0_5, fi_3, ft_3_0, ft_3_1, fi_5, ft_5_0, ft_5_1, fi_8, ft_8_0, ft_8_1, ft_8_2, ft_8_3, ft_8_4, ft_8_5, fi_14, ft_14_0, ft_14_1, fi_19, ft_19_0, ft_19_1, ft_19_2, ft_19_3, ft_19_5, ft_19_6, ft_19_7, ft_19_8, ft_19_12, ft_19_13, ft_19_14, ft_19_15, ft_19_16, ft_19_21, fx_4, fx_6, fx_7, fx_9, fx_10, fx_11, fx_12, fx_13, fx_15, fx_16, fx_17, fx_18, fx_20, fx_21, fx_22, fx_23, fx_24, fx_25, fx_26, fx_27, fx_28, fx_29, fx_30, fx_31, fx_32, fx_33]
    obtain ⟨w1, e1, g1, f1⟩ := s_measureDiscs hD hP
    have F1 : en_fr NF w w1 := f1.mono (by simp [NF])
    have L1 : aLen w1 (ml G s kick) := fun r hr => ⟨g1 r hr, ml_rng hP r⟩
    rw [e1]
    -- the search with mo more, from the outer loop's head
    have outer : ∀ (mo : Nat), mo ≤ 2 → ∀ (v : en_W) (l6 l7 l8 : Option Value), en_fr NF w v → aLen v (ml G s kick) →
        (20 < tcn n tb + mo → aFew (tcn n tb) (tcm n tb) (tcb n tb) (ml G s kick) law life m r h = -4) →
        (∀ row, tcn n tb + mo ≤ 20 → fsr (fun row => xP (tcn n tb) (tcm n tb) (tcb n tb) (ml G s kick) law life m r h (oOne mo row) (oTwo mo row)) (if mo = 0 then 1 else if mo = 1 then 10 else 100) 0 = some row → aFew (tcn n tb) (tcm n tb) (tcb n tb) (ml G s kick) law life m r h = rOf mo (oOne mo row) (oTwo mo row)) →
        (∀ (v : en_W) (l6 l7 l8 : Option Value), tcn n tb + mo ≤ 20 → fsr (fun row => xP (tcn n tb) (tcm n tb) (tcb n tb) (ml G s kick) law life m r h (oOne mo row) (oTwo mo row)) (if mo = 0 then 1 else if mo = 1 then 10 else 100) 0 = none → en_fr NF w v → aLen v (ml G s kick) → en_Ev XX5_fewestMore 10 [some (.ref 0), some (.int (zI m)), some (.int (zI r)), some (.int (zI h)), some (.int (zI (10 * (if mo = 0 then 1 else if mo = 1 then 10 else 100)))), some (.int (zI ((mo : Int) + 1))), l6, l7, l8] [] v (fun q w' => q = some (.int (zI (aFew (tcn n tb) (tcm n tb) (tcb n tb) (ml G s kick) law life m r h))) ∧ en_fr NF w w')) →
        en_Ev XX5_fewestMore 10 [some (.ref 0), some (.int (zI m)), some (.int (zI r)), some (.int (zI h)), some (.int (zI ((if mo = 0 then 1 else if mo = 1 then 10 else 100 : Nat) : Int))), some (.int (zI mo)), l6, l7, l8] [] v (fun q w' => q = some (.int (zI (aFew (tcn n tb) (tcm n tb) (tcb n tb) (ml G s kick) law life m r h))) ∧ en_fr NF w w') := by
      intro mo hmo v l6 l7 l8 k1 k2 k3 k4 k5
      have c1 : ¬ (2 : Int) < (mo : Int) := by omega
      rw [eX5_fewestMore_10]
      simp (disch := omega) only [eX5_fewestMore_12, eX5_fewestMore_13, eX5_fewestMore_16, eX5_fewestMore_17, eX5_fewestMore_20, en_kl_0, en_kl_i, en_kl_r, en_kl_n, en_kl_l, en_Ec_some, en_Ec_void, en_rcv, en_stk, List.map_cons, List.map_nil, List.sum_cons, List.sum_nil, Value.category, Nat.reduceAdd, Nat.reduceLeDiff, decide_true, true_and, and_true, and_self, zI_add, zI_sub, zI_mul, zI_neg, zI_lt, zI_le, zI_eq, zI_cl, zI_0, zI_1, zI_m1, zI_lit, zT_0, zT_01, zI_01, zI_11, ↓reduceIte, if_true, if_false, not_false_eq_true, not_true_eq_false, Int.reduceEq, Int.reduceLT, Int.reduceLE, Classical.not_not, Bool.false_eq_true, fi_0, ft_0_0, ft_0_1, ft_0_2, ft_0_3, ft_0_4, ft_0_5, fi_3, ft_3_0, ft_3_1, fi_5, ft_5_0, ft_5_1, fi_8, ft_8_0, ft_8_1, ft_8_2, ft_8_3, ft_8_4, ft_8_5, fi_14, ft_14_0, ft_14_1, fi_19, ft_19_0, ft_19_1, ft_19_2, ft_19_3, ft_19_5, ft_19_6, ft_19_7, ft_19_8, ft_19_12, ft_19_13, ft_19_14, ft_19_15, ft_19_16, ft_19_21, fx_4, fx_6, fx_7, fx_9, fx_10, fx_11, fx_12, fx_13, fx_15, fx_16, fx_17, fx_18, fx_20, fx_21, fx_22, fx_23, fx_24, fx_25, fx_26, fx_27, fx_28, fx_29, fx_30, fx_31, fx_32, fx_33, c1]
      rw [s_slipCoins]
      simp (disch := omega) only [eX5_fewestMore_23, en_kl_0, en_kl_i, en_kl_r, en_kl_n, en_kl_l, en_Ec_some, en_Ec_void, en_rcv, en_stk, List.map_cons, List.map_nil, List.sum_cons, List.sum_nil, Value.category, Nat.reduceAdd, Nat.reduceLeDiff, decide_true, true_and, and_true, and_self, zI_add, zI_sub, zI_mul, zI_neg, zI_lt, zI_le, zI_eq, zI_cl, zI_0, zI_1, zI_m1, zI_lit, zT_0, zT_01, zI_01, zI_11, ↓reduceIte, if_true, if_false, not_false_eq_true, not_true_eq_false, Int.reduceEq, Int.reduceLT, Int.reduceLE, Classical.not_not, Bool.false_eq_true, fi_0, ft_0_0, ft_0_1, ft_0_2, ft_0_3, ft_0_4, ft_0_5, fi_3, ft_3_0, ft_3_1, fi_5, ft_5_0, ft_5_1, fi_8, ft_8_0, ft_8_1, ft_8_2, ft_8_3, ft_8_4, ft_8_5, fi_14, ft_14_0, ft_14_1, fi_19, ft_19_0, ft_19_1, ft_19_2, ft_19_3, ft_19_5, ft_19_6, ft_19_7, ft_19_8, ft_19_12, ft_19_13, ft_19_14, ft_19_15, ft_19_16, ft_19_21, fx_4, fx_6, fx_7, fx_9, fx_10, fx_11, fx_12, fx_13, fx_15, fx_16, fx_17, fx_18, fx_20, fx_21, fx_22, fx_23, fx_24, fx_25, fx_26, fx_27, fx_28, fx_29, fx_30, fx_31, fx_32, fx_33]
      rw [s_number en_coins_5 (hT.nf k1).2.2]
      by_cases c2 : tcn n tb + mo ≤ 20
      · have c3 : (tcn n tb : Int) + (mo : Int) ≤ 20 := by omega
        simp (disch := omega) only [eX5_fewestMore_26, eX5_fewestMore_28, eX5_fewestMore_29, eX5_fewestMore_31, eX5_fewestMore_37, eX5_fewestMore_38, en_kl_0, en_kl_i, en_kl_r, en_kl_n, en_kl_l, en_Ec_some, en_Ec_void, en_rcv, en_stk, List.map_cons, List.map_nil, List.sum_cons, List.sum_nil, Value.category, Nat.reduceAdd, Nat.reduceLeDiff, decide_true, true_and, and_true, and_self, zI_add, zI_le, zI_lit, zI_0, ↓reduceIte, if_true, c3]
        refine s_few_in (len := ml G s kick) hT hP h1 h2 h3 h4 h5 h6 hmo rfl c2 (fun u row q1 q2 => ?_) (fun u x6 x7 x8 q1 q2 q3 => ?_) _ 0 v _ _ (Nat.zero_add _) k1 k2 rfl
        · rw [k4 row c2 q2]
          exact ⟨rfl, q1⟩
        · have e10 : zI ((if mo = 0 then 1 else if mo = 1 then 10 else 100 : Nat) : Int) * zI 10 = zI (10 * (if mo = 0 then 1 else if mo = 1 then 10 else 100)) := by
            rw [zI_mul]
            congr 1
            split
            · rfl
            · split <;> rfl
          have := k5 u (en_kl x6) x7 x8 c2 q3 q1 q2
          have this2 := k5 u x6 x7 x8 c2 q3 q1 q2
          simp (disch := omega) only [eX5_fewestMore_128, eX5_fewestMore_130, eX5_fewestMore_132, eX5_fewestMore_133, eX5_fewestMore_135, eX5_fewestMore_138, en_kl_0, en_kl_i, en_kl_r, en_kl_n, en_kl_l, en_Ec_some, en_Ec_void, en_rcv, en_stk, List.map_cons, List.map_nil, List.sum_cons, List.sum_nil, Value.category, Nat.reduceAdd, Nat.reduceLeDiff, decide_true, true_and, and_true, and_self, zI_lit, zI_1, e10, zI_add]
          first | exact this2 | exact this
      · have c3 : ¬ (tcn n tb : Int) + (mo : Int) ≤ 20 := by omega
        simp (disch := omega) only [eX5_fewestMore_26, eX5_fewestMore_28, eX5_fewestMore_29, eX5_fewestMore_31, eX5_fewestMore_34, eX5_fewestMore_36, en_kl_0, en_kl_i, en_kl_r, en_kl_n, en_kl_l, en_Ec_some, en_Ec_void, en_rcv, en_stk, List.map_cons, List.map_nil, List.sum_cons, List.sum_nil, Value.category, Nat.reduceAdd, Nat.reduceLeDiff, decide_true, true_and, and_true, and_self, zI_add, zI_sub, zI_mul, zI_neg, zI_lt, zI_le, zI_eq, zI_cl, zI_0, zI_1, zI_m1, zI_lit, zT_0, zT_01, zI_01, zI_11, ↓reduceIte, if_true, if_false, not_false_eq_true, not_true_eq_false, Int.reduceEq, Int.reduceLT, Int.reduceLE, Classical.not_not, Bool.false_eq_true, c3]
        rw [k3 (by omega)]
        exact ⟨rfl, k1⟩
    have H2 : ∀ (v : en_W) (l6 l7 l8 : Option Value), en_fr NF w v → aLen v (ml G s kick) → (20 < tcn n tb + 2 → aFew (tcn n tb) (tcm n tb) (tcb n tb) (ml G s kick) law life m r h = -4) → (∀ row, tcn n tb + 2 ≤ 20 → fsr (fun row => xP (tcn n tb) (tcm n tb) (tcb n tb) (ml G s kick) law life m r h (oOne 2 row) (oTwo 2 row)) 100 0 = some row → aFew (tcn n tb) (tcm n tb) (tcb n tb) (ml G s kick) law life m r h = rOf 2 (oOne 2 row) (oTwo 2 row)) → (tcn n tb + 2 ≤ 20 → fsr (fun row => xP (tcn n tb) (tcm n tb) (tcb n tb) (ml G s kick) law life m r h (oOne 2 row) (oTwo 2 row)) 100 0 = none → aFew (tcn n tb) (tcm n tb) (tcb n tb) (ml G s kick) law life m r h = -1) → en_Ev XX5_fewestMore 10 [some (.ref 0), some (.int (zI m)), some (.int (zI r)), some (.int (zI h)), some (.int (zI 100)), some (.int (zI 2)), l6, l7, l8] [] v (fun q w' => q = some (.int (zI (aFew (tcn n tb) (tcm n tb) (tcb n tb) (ml G s kick) law life m r h))) ∧ en_fr NF w w') := by
      intro v l6 l7 l8 k1 k2 k3 k4 k5
      refine outer 2 (by omega) v l6 l7 l8 k1 k2 k3 k4 (fun u x6 x7 x8 q1 q2 q3 q4 => ?_)
      have c1 : (2 : Int) < 2 + 1 := by omega
      rw [eX5_fewestMore_10]
      simp (disch := omega) only [eX5_fewestMore_12, eX5_fewestMore_13, eX5_fewestMore_141, eX5_fewestMore_142, en_kl_0, en_kl_i, en_kl_r, en_kl_n, en_kl_l, en_Ec_some, en_Ec_void, en_rcv, en_stk, List.map_cons, List.map_nil, List.sum_cons, List.sum_nil, Value.category, Nat.reduceAdd, Nat.reduceLeDiff, decide_true, true_and, and_true, and_self, zI_add, zI_sub, zI_mul, zI_neg, zI_lt, zI_le, zI_eq, zI_cl, zI_0, zI_1, zI_m1, zI_lit, zT_0, zT_01, zI_01, zI_11, ↓reduceIte, if_true, if_false, not_false_eq_true, not_true_eq_false, Int.reduceEq, Int.reduceLT, Int.reduceLE, Classical.not_not, Bool.false_eq_true, Int.cast_ofNat_Int, c1]
      rw [k5 q1 q2]
      exact ⟨rfl, q3⟩
    have H1 : ∀ (v : en_W) (l6 l7 l8 : Option Value), en_fr NF w v → aLen v (ml G s kick) → fsr (fun row => xP (tcn n tb) (tcm n tb) (tcb n tb) (ml G s kick) law life m r h (oOne 0 row) (oTwo 0 row)) 1 0 = none → en_Ev XX5_fewestMore 10 [some (.ref 0), some (.int (zI m)), some (.int (zI r)), some (.int (zI h)), some (.int (zI 10)), some (.int (zI 1)), l6, l7, l8] [] v (fun q w' => q = some (.int (zI (aFew (tcn n tb) (tcm n tb) (tcb n tb) (ml G s kick) law life m r h))) ∧ en_fr NF w w') := by
      intro v l6 l7 l8 k1 k2 k3
      refine outer 1 (by omega) v l6 l7 l8 k1 k2 (fun q => ?_) (fun row q1 q2 => ?_) (fun u x6 x7 x8 q1 q2 q3 q4 => ?_)
      · unfold aFew
        rw [k3]
        dsimp only
        rw [if_pos q]
      · have q2 : fsr (fun row => xP (tcn n tb) (tcm n tb) (tcb n tb) (ml G s kick) law life m r h (oOne 1 row) (oTwo 1 row)) 10 0 = some row := q2
        unfold aFew
        rw [k3]
        dsimp only
        rw [if_neg (by omega), q2]
      · have q2 : fsr (fun row => xP (tcn n tb) (tcm n tb) (tcb n tb) (ml G s kick) law life m r h (oOne 1 row) (oTwo 1 row)) 10 0 = none := q2
        refine H2 u x6 x7 x8 q3 q4 (fun q => ?_) (fun row p1 p2 => ?_) (fun p1 p2 => ?_)
        · unfold aFew
          rw [k3]
          dsimp only
          rw [if_neg (by omega), q2]
          dsimp only
          rw [if_pos q]
        · unfold aFew
          rw [k3]
          dsimp only
          rw [if_neg (by omega), q2]
          dsimp only
          rw [if_neg (by omega), p2]
        · unfold aFew
          rw [k3]
          dsimp only
          rw [if_neg (by omega), q2]
          dsimp only
          rw [if_neg (by omega), p2]
    simp (disch := omega) only [eX5_fewestMore_4, eX5_fewestMore_5, eX5_fewestMore_7, eX5_fewestMore_8, en_kl_0, en_kl_i, en_kl_r, en_kl_n, en_kl_l, en_Ec_some, en_Ec_void, en_rcv, en_stk, List.map_cons, List.map_nil, List.sum_cons, List.sum_nil, Value.category, Nat.reduceAdd, Nat.reduceLeDiff, decide_true, true_and, and_true, and_self, zI_add, zI_sub, zI_mul, zI_neg, zI_lt, zI_le, zI_eq, zI_cl, zI_0, zI_1, zI_m1, zI_lit, zT_0, zT_01, zI_01, zI_11, ↓reduceIte, if_true, if_false, not_false_eq_true, not_true_eq_false, Int.reduceEq, Int.reduceLT, Int.reduceLE, Classical.not_not, Bool.false_eq_true, fi_0, ft_0_0, ft_0_1, ft_0_2, ft_0_3, ft_0_4, ft_0_5, fi_3, ft_3_0, ft_3_1, fi_5, ft_5_0, ft_5_1, fi_8, ft_8_0, ft_8_1, ft_8_2, ft_8_3, ft_8_4, ft_8_5, fi_14, ft_14_0, ft_14_1, fi_19, ft_19_0, ft_19_1, ft_19_2, ft_19_3, ft_19_5, ft_19_6, ft_19_7, ft_19_8, ft_19_12, ft_19_13, ft_19_14, ft_19_15, ft_19_16, ft_19_21, fx_4, fx_6, fx_7, fx_9, fx_10, fx_11, fx_12, fx_13, fx_15, fx_16, fx_17, fx_18, fx_20, fx_21, fx_22, fx_23, fx_24, fx_25, fx_26, fx_27, fx_28, fx_29, fx_30, fx_31, fx_32, fx_33]
    refine outer 0 (by omega) w1 none none none F1 L1 (fun q => absurd q (by omega)) (fun row q1 q2 => ?_) (fun u x6 x7 x8 q1 q2 q3 q4 => ?_)
    · have q2 : fsr (fun row => xP (tcn n tb) (tcm n tb) (tcb n tb) (ml G s kick) law life m r h (oOne 0 row) (oTwo 0 row)) 1 0 = some row := q2
      unfold aFew
      rw [q2]
    · exact H1 u x6 x7 x8 q3 q4 q2
  obtain ⟨q, w', e, h7, h8⟩ := en_ex (nL := 9) (As := [.ref 0, .int (zI m), .int (zI r), .int (zI h)]) rfl P
  subst h7
  exact ⟨w', e, h8⟩
theorem fsr_rng {p : Nat → Bool} {row : Nat} : ∀ d i : Nat, fsr p d i = some row → i ≤ row ∧ row < i + d
  | 0, i, h => by cases h
  | d + 1, i, h => by
    rw [fsr_succ] at h
    split at h
    · cases h; omega
    · have := fsr_rng d (i + 1) h
      omega
theorem rOf_rng {mo row : Nat} (h1 : mo ≤ 2) (h2 : row < (if mo = 0 then 1 else if mo = 1 then 10 else 100)) : 0 ≤ rOf mo (oOne mo row) (oTwo mo row) ∧ rOf mo (oOne mo row) (oTwo mo row) < 1000 := by
  have := oOne_rng h1 h2
  unfold rOf
  omega
theorem aFew_rng {cn : Nat} {cm cb len : Nat → Int} : -4 ≤ aFew cn cm cb len law life m r h ∧ aFew cn cm cb len law life m r h < 1000 := by
  unfold aFew
  split
  next row hr =>
    have := rOf_rng (mo := 0) (row := row) (by omega) (by have := fsr_rng _ _ hr; simpa using this.2)
    omega
  next =>
    split
    · omega
    · split
      next row hr =>
        have := rOf_rng (mo := 1) (row := row) (by omega) (by have := fsr_rng _ _ hr; simpa using this.2)
        omega
      next =>
        split
        · omega
        · split
          next row hr =>
            have := rOf_rng (mo := 2) (row := row) (by omega) (by have := fsr_rng _ _ hr; simpa using this.2)
            omega
          next => omega
/-- what may be asked -/
def okAsk (n : Nat) (tb : Nat → Int) (m r h a : Int) : Prop := (0 ≤ m ∧ m ≤ 99) ∧ (0 ≤ r ∧ r < 10) ∧ (0 ≤ h ∧ h ≤ 199) ∧ (0 ≤ a ∧ a ≤ 2) ∧ (if tcn n tb = 0 then -1 else tcm n tb (tcn n tb - 1)) ≤ m
theorem s_ask_bad (hT : en_slip w n tb) (hn : ¬ okAsk n tb m r h a) (m1 : -2147483648 ≤ m) (m2 : m < 2147483648) (r1 : -2147483648 ≤ r) (r2 : r < 2147483648) (h1 : -2147483648 ≤ h) (h2 : h < 2147483648) (a1 : -2147483648 ≤ a) (a2 : a < 2147483648) : SX5_ask [.ref 0, .int (zI m), .int (zI r), .int (zI h), .int (zI a)] w = some (some (.int (zI (-2))), w) := by
  have hlm : -1 ≤ (if tcn n tb = 0 then -1 else tcm n tb (tcn n tb - 1)) ∧ (if tcn n tb = 0 then -1 else tcm n tb (tcn n tb - 1)) ≤ 99 := by
    split
    · omega
    · have := hT.2.2.2.2 (tcn n tb - 1) (by omega)
      omega
  refine en_val rfl (fun Q hQ => ?_)
  show en_Ev XX5_ask 0 [some (.ref 0), some (.int (zI m)), some (.int (zI r)), some (.int (zI h)), some (.int (zI a)), none] [] w Q
  simp (disch := omega) only [eX5_ask_0, eX5_ask_1, eX5_ask_2, eX5_ask_4, en_kl_0, en_kl_i, en_kl_r, en_kl_n, en_kl_l, en_Ec_some, en_Ec_void, en_rcv, en_stk, List.map_cons, List.map_nil, List.sum_cons, List.sum_nil, Value.category, Nat.reduceAdd, Nat.reduceLeDiff, decide_true, true_and, and_true, and_self, zI_add, zI_sub, zI_mul, zI_neg, zI_lt, zI_le, zI_eq, zI_cl, zI_0, zI_1, zI_m1, zI_lit, zT_0, zT_01, zI_01, zI_11, ↓reduceIte, if_true, if_false, not_false_eq_true, not_true_eq_false, Int.reduceEq, Int.reduceLT, Int.reduceLE, Classical.not_not, Bool.false_eq_true, fi_0, ft_0_0, ft_0_1, ft_0_2, ft_0_3, ft_0_4, ft_0_5, fi_3, ft_3_0, ft_3_1, fi_5, ft_5_0, ft_5_1, fi_8, ft_8_0, ft_8_1, ft_8_2, ft_8_3, ft_8_4, ft_8_5, fi_14, ft_14_0, ft_14_1, fi_19, ft_19_0, ft_19_1, ft_19_2, ft_19_3, ft_19_5, ft_19_6, ft_19_7, ft_19_8, ft_19_12, ft_19_13, ft_19_14, ft_19_15, ft_19_16, ft_19_21, fx_4, fx_6, fx_7, fx_9, fx_10, fx_11, fx_12, fx_13, fx_15, fx_16, fx_17, fx_18, fx_20, fx_21, fx_22, fx_23, fx_24, fx_25, fx_26, fx_27, fx_28, fx_29, fx_30, fx_31, fx_32, fx_33]
  rw [s_within m1 m2 (by omega) (by omega) (by omega) (by omega)]
  by_cases c1 : 0 ≤ m ∧ m ≤ 99
  · rw [zT_t c1]
    simp (disch := omega) only [eX5_ask_7, eX5_ask_10, eX5_ask_11, en_kl_0, en_kl_i, en_kl_r, en_kl_n, en_kl_l, en_Ec_some, en_Ec_void, en_rcv, en_stk, List.map_cons, List.map_nil, List.sum_cons, List.sum_nil, Value.category, Nat.reduceAdd, Nat.reduceLeDiff, decide_true, true_and, and_true, and_self, zI_add, zI_sub, zI_mul, zI_neg, zI_lt, zI_le, zI_eq, zI_cl, zI_0, zI_1, zI_m1, zI_lit, zT_0, zT_01, zI_01, zI_11, ↓reduceIte, if_true, if_false, not_false_eq_true, not_true_eq_false, Int.reduceEq, Int.reduceLT, Int.reduceLE, Classical.not_not, Bool.false_eq_true, fi_0, ft_0_0, ft_0_1, ft_0_2, ft_0_3, ft_0_4, ft_0_5, fi_3, ft_3_0, ft_3_1, fi_5, ft_5_0, ft_5_1, fi_8, ft_8_0, ft_8_1, ft_8_2, ft_8_3, ft_8_4, ft_8_5, fi_14, ft_14_0, ft_14_1, fi_19, ft_19_0, ft_19_1, ft_19_2, ft_19_3, ft_19_5, ft_19_6, ft_19_7, ft_19_8, ft_19_12, ft_19_13, ft_19_14, ft_19_15, ft_19_16, ft_19_21, fx_4, fx_6, fx_7, fx_9, fx_10, fx_11, fx_12, fx_13, fx_15, fx_16, fx_17, fx_18, fx_20, fx_21, fx_22, fx_23, fx_24, fx_25, fx_26, fx_27, fx_28, fx_29, fx_30, fx_31, fx_32, fx_33]
    rw [s_isRecord r1 r2]
    by_cases c2 : 0 ≤ r ∧ r < 10
    · rw [zT_t c2]
      simp (disch := omega) only [eX5_ask_14, eX5_ask_17, eX5_ask_18, en_kl_0, en_kl_i, en_kl_r, en_kl_n, en_kl_l, en_Ec_some, en_Ec_void, en_rcv, en_stk, List.map_cons, List.map_nil, List.sum_cons, List.sum_nil, Value.category, Nat.reduceAdd, Nat.reduceLeDiff, decide_true, true_and, and_true, and_self, zI_add, zI_sub, zI_mul, zI_neg, zI_lt, zI_le, zI_eq, zI_cl, zI_0, zI_1, zI_m1, zI_lit, zT_0, zT_01, zI_01, zI_11, ↓reduceIte, if_true, if_false, not_false_eq_true, not_true_eq_false, Int.reduceEq, Int.reduceLT, Int.reduceLE, Classical.not_not, Bool.false_eq_true, fi_0, ft_0_0, ft_0_1, ft_0_2, ft_0_3, ft_0_4, ft_0_5, fi_3, ft_3_0, ft_3_1, fi_5, ft_5_0, ft_5_1, fi_8, ft_8_0, ft_8_1, ft_8_2, ft_8_3, ft_8_4, ft_8_5, fi_14, ft_14_0, ft_14_1, fi_19, ft_19_0, ft_19_1, ft_19_2, ft_19_3, ft_19_5, ft_19_6, ft_19_7, ft_19_8, ft_19_12, ft_19_13, ft_19_14, ft_19_15, ft_19_16, ft_19_21, fx_4, fx_6, fx_7, fx_9, fx_10, fx_11, fx_12, fx_13, fx_15, fx_16, fx_17, fx_18, fx_20, fx_21, fx_22, fx_23, fx_24, fx_25, fx_26, fx_27, fx_28, fx_29, fx_30, fx_31, fx_32, fx_33]
      rw [s_isNightMinute h1 h2]
      by_cases c3 : 0 ≤ h ∧ h ≤ 199
      · rw [zT_t c3]
        simp (disch := omega) only [eX5_ask_21, eX5_ask_24, eX5_ask_26, eX5_ask_27, eX5_ask_28, en_kl_0, en_kl_i, en_kl_r, en_kl_n, en_kl_l, en_Ec_some, en_Ec_void, en_rcv, en_stk, List.map_cons, List.map_nil, List.sum_cons, List.sum_nil, Value.category, Nat.reduceAdd, Nat.reduceLeDiff, decide_true, true_and, and_true, and_self, zI_add, zI_sub, zI_mul, zI_neg, zI_lt, zI_le, zI_eq, zI_cl, zI_0, zI_1, zI_m1, zI_lit, zT_0, zT_01, zI_01, zI_11, ↓reduceIte, if_true, if_false, not_false_eq_true, not_true_eq_false, Int.reduceEq, Int.reduceLT, Int.reduceLE, Classical.not_not, Bool.false_eq_true, fi_0, ft_0_0, ft_0_1, ft_0_2, ft_0_3, ft_0_4, ft_0_5, fi_3, ft_3_0, ft_3_1, fi_5, ft_5_0, ft_5_1, fi_8, ft_8_0, ft_8_1, ft_8_2, ft_8_3, ft_8_4, ft_8_5, fi_14, ft_14_0, ft_14_1, fi_19, ft_19_0, ft_19_1, ft_19_2, ft_19_3, ft_19_5, ft_19_6, ft_19_7, ft_19_8, ft_19_12, ft_19_13, ft_19_14, ft_19_15, ft_19_16, ft_19_21, fx_4, fx_6, fx_7, fx_9, fx_10, fx_11, fx_12, fx_13, fx_15, fx_16, fx_17, fx_18, fx_20, fx_21, fx_22, fx_23, fx_24, fx_25, fx_26, fx_27, fx_28, fx_29, fx_30, fx_31, fx_32, fx_33]
        rw [s_within a1 a2 (by omega) (by omega) (by omega) (by omega)]
        by_cases c4 : 0 ≤ a ∧ a ≤ 2
        · rw [zT_t c4]
          simp (disch := omega) only [eX5_ask_31, eX5_ask_34, eX5_ask_35, eX5_ask_39, eX5_ask_41, eX5_ask_43, eX5_ask_46, eX5_ask_47, eX5_ask_48, eX5_ask_51, en_kl_0, en_kl_i, en_kl_r, en_kl_n, en_kl_l, en_Ec_some, en_Ec_void, en_rcv, en_stk, List.map_cons, List.map_nil, List.sum_cons, List.sum_nil, Value.category, Nat.reduceAdd, Nat.reduceLeDiff, decide_true, true_and, and_true, and_self, zI_add, zI_sub, zI_mul, zI_neg, zI_lt, zI_le, zI_eq, zI_cl, zI_0, zI_1, zI_m1, zI_lit, zT_0, zT_01, zI_01, zI_11, ↓reduceIte, if_true, if_false, not_false_eq_true, not_true_eq_false, Int.reduceEq, Int.reduceLT, Int.reduceLE, Classical.not_not, Bool.false_eq_true, fi_0, ft_0_0, ft_0_1, ft_0_2, ft_0_3, ft_0_4, ft_0_5, fi_3, ft_3_0, ft_3_1, fi_5, ft_5_0, ft_5_1, fi_8, ft_8_0, ft_8_1, ft_8_2, ft_8_3, ft_8_4, ft_8_5, fi_14, ft_14_0, ft_14_1, fi_19, ft_19_0, ft_19_1, ft_19_2, ft_19_3, ft_19_5, ft_19_6, ft_19_7, ft_19_8, ft_19_12, ft_19_13, ft_19_14, ft_19_15, ft_19_16, ft_19_21, fx_4, fx_6, fx_7, fx_9, fx_10, fx_11, fx_12, fx_13, fx_15, fx_16, fx_17, fx_18, fx_20, fx_21, fx_22, fx_23, fx_24, fx_25, fx_26, fx_27, fx_28, fx_29, fx_30, fx_31, fx_32, fx_33]
          rw [s_slipCoins]
          simp (disch := omega) only [eX5_ask_54, en_kl_0, en_kl_i, en_kl_r, en_kl_n, en_kl_l, en_Ec_some, en_Ec_void, en_rcv, en_stk, List.map_cons, List.map_nil, List.sum_cons, List.sum_nil, Value.category, Nat.reduceAdd, Nat.reduceLeDiff, decide_true, true_and, and_true, and_self, zI_add, zI_sub, zI_mul, zI_neg, zI_lt, zI_le, zI_eq, zI_cl, zI_0, zI_1, zI_m1, zI_lit, zT_0, zT_01, zI_01, zI_11, ↓reduceIte, if_true, if_false, not_false_eq_true, not_true_eq_false, Int.reduceEq, Int.reduceLT, Int.reduceLE, Classical.not_not, Bool.false_eq_true, fi_0, ft_0_0, ft_0_1, ft_0_2, ft_0_3, ft_0_4, ft_0_5, fi_3, ft_3_0, ft_3_1, fi_5, ft_5_0, ft_5_1, fi_8, ft_8_0, ft_8_1, ft_8_2, ft_8_3, ft_8_4, ft_8_5, fi_14, ft_14_0, ft_14_1, fi_19, ft_19_0, ft_19_1, ft_19_2, ft_19_3, ft_19_5, ft_19_6, ft_19_7, ft_19_8, ft_19_12, ft_19_13, ft_19_14, ft_19_15, ft_19_16, ft_19_21, fx_4, fx_6, fx_7, fx_9, fx_10, fx_11, fx_12, fx_13, fx_15, fx_16, fx_17, fx_18, fx_20, fx_21, fx_22, fx_23, fx_24, fx_25, fx_26, fx_27, fx_28, fx_29, fx_30, fx_31, fx_32, fx_33]
          rw [s_lastMinute en_coins_5 hT.2.2]
          have c5 : ¬ (if tcn n tb = 0 then -1 else tcm n tb (tcn n tb - 1)) ≤ m := fun q => hn ⟨c1, c2, c3, c4, q⟩
          generalize (if tcn n tb = 0 then -1 else tcm n tb (tcn n tb - 1)) = lm at *
          simp (disch := omega) only [eX5_ask_0, eX5_ask_1, eX5_ask_2, eX5_ask_4, eX5_ask_7, eX5_ask_10, eX5_ask_11, eX5_ask_14, eX5_ask_17, eX5_ask_18, eX5_ask_21, eX5_ask_24, eX5_ask_26, eX5_ask_27, eX5_ask_28, eX5_ask_31, eX5_ask_34, eX5_ask_35, eX5_ask_38, eX5_ask_39, eX5_ask_41, eX5_ask_43, eX5_ask_46, eX5_ask_47, eX5_ask_48, eX5_ask_51, eX5_ask_54, eX5_ask_57, eX5_ask_60, eX5_ask_62, eX5_ask_63, eX5_ask_64, eX5_ask_65, eX5_ask_66, eX5_ask_67, eX5_ask_70, eX5_ask_72, eX5_ask_75, en_kl_0, en_kl_i, en_kl_r, en_kl_n, en_kl_l, en_Ec_some, en_Ec_void, en_rcv, en_stk, List.map_cons, List.map_nil, List.sum_cons, List.sum_nil, Value.category, Nat.reduceAdd, Nat.reduceLeDiff, decide_true, true_and, and_true, and_self, zI_add, zI_sub, zI_mul, zI_neg, zI_lt, zI_le, zI_eq, zI_cl, zI_0, zI_1, zI_m1, zI_lit, zT_0, zT_01, zI_01, zI_11, ↓reduceIte, if_true, if_false, not_false_eq_true, not_true_eq_false, Int.reduceEq, Int.reduceLT, Int.reduceLE, Classical.not_not, Bool.false_eq_true, fi_0, ft_0_0, ft_0_1, ft_0_2, ft_0_3, ft_0_4, ft_0_5, fi_3, ft_3_0, ft_3_1, fi_5, ft_5_0, ft_5_1, fi_8, ft_8_0, ft_8_1, ft_8_2, ft_8_3, ft_8_4, ft_8_5, fi_14, ft_14_0, ft_14_1, fi_19, ft_19_0, ft_19_1, ft_19_2, ft_19_3, ft_19_5, ft_19_6, ft_19_7, ft_19_8, ft_19_12, ft_19_13, ft_19_14, ft_19_15, ft_19_16, ft_19_21, fx_4, fx_6, fx_7, fx_9, fx_10, fx_11, fx_12, fx_13, fx_15, fx_16, fx_17, fx_18, fx_20, fx_21, fx_22, fx_23, fx_24, fx_25, fx_26, fx_27, fx_28, fx_29, fx_30, fx_31, fx_32, fx_33, c5]
          exact hQ
        · rw [zT_f c4]
          simp (disch := omega) only [eX5_ask_0, eX5_ask_1, eX5_ask_2, eX5_ask_4, eX5_ask_7, eX5_ask_10, eX5_ask_11, eX5_ask_14, eX5_ask_17, eX5_ask_18, eX5_ask_21, eX5_ask_24, eX5_ask_26, eX5_ask_27, eX5_ask_28, eX5_ask_31, eX5_ask_34, eX5_ask_35, eX5_ask_38, eX5_ask_39, eX5_ask_41, eX5_ask_43, eX5_ask_46, eX5_ask_47, eX5_ask_48, eX5_ask_51, eX5_ask_54, eX5_ask_57, eX5_ask_60, eX5_ask_62, eX5_ask_63, eX5_ask_64, eX5_ask_65, eX5_ask_66, eX5_ask_67, eX5_ask_70, eX5_ask_72, eX5_ask_75, en_kl_0, en_kl_i, en_kl_r, en_kl_n, en_kl_l, en_Ec_some, en_Ec_void, en_rcv, en_stk, List.map_cons, List.map_nil, List.sum_cons, List.sum_nil, Value.category, Nat.reduceAdd, Nat.reduceLeDiff, decide_true, true_and, and_true, and_self, zI_add, zI_sub, zI_mul, zI_neg, zI_lt, zI_le, zI_eq, zI_cl, zI_0, zI_1, zI_m1, zI_lit, zT_0, zT_01, zI_01, zI_11, ↓reduceIte, if_true, if_false, not_false_eq_true, not_true_eq_false, Int.reduceEq, Int.reduceLT, Int.reduceLE, Classical.not_not, Bool.false_eq_true, fi_0, ft_0_0, ft_0_1, ft_0_2, ft_0_3, ft_0_4, ft_0_5, fi_3, ft_3_0, ft_3_1, fi_5, ft_5_0, ft_5_1, fi_8, ft_8_0, ft_8_1, ft_8_2, ft_8_3, ft_8_4, ft_8_5, fi_14, ft_14_0, ft_14_1, fi_19, ft_19_0, ft_19_1, ft_19_2, ft_19_3, ft_19_5, ft_19_6, ft_19_7, ft_19_8, ft_19_12, ft_19_13, ft_19_14, ft_19_15, ft_19_16, ft_19_21, fx_4, fx_6, fx_7, fx_9, fx_10, fx_11, fx_12, fx_13, fx_15, fx_16, fx_17, fx_18, fx_20, fx_21, fx_22, fx_23, fx_24, fx_25, fx_26, fx_27, fx_28, fx_29, fx_30, fx_31, fx_32, fx_33]
          exact hQ
      · rw [zT_f c3]
        simp (disch := omega) only [eX5_ask_0, eX5_ask_1, eX5_ask_2, eX5_ask_4, eX5_ask_7, eX5_ask_10, eX5_ask_11, eX5_ask_14, eX5_ask_17, eX5_ask_18, eX5_ask_21, eX5_ask_24, eX5_ask_26, eX5_ask_27, eX5_ask_28, eX5_ask_31, eX5_ask_34, eX5_ask_35, eX5_ask_38, eX5_ask_39, eX5_ask_41, eX5_ask_43, eX5_ask_46, eX5_ask_47, eX5_ask_48, eX5_ask_51, eX5_ask_54, eX5_ask_57, eX5_ask_60, eX5_ask_62, eX5_ask_63, eX5_ask_64, eX5_ask_65, eX5_ask_66, eX5_ask_67, eX5_ask_70, eX5_ask_72, eX5_ask_75, en_kl_0, en_kl_i, en_kl_r, en_kl_n, en_kl_l, en_Ec_some, en_Ec_void, en_rcv, en_stk, List.map_cons, List.map_nil, List.sum_cons, List.sum_nil, Value.category, Nat.reduceAdd, Nat.reduceLeDiff, decide_true, true_and, and_true, and_self, zI_add, zI_sub, zI_mul, zI_neg, zI_lt, zI_le, zI_eq, zI_cl, zI_0, zI_1, zI_m1, zI_lit, zT_0, zT_01, zI_01, zI_11, ↓reduceIte, if_true, if_false, not_false_eq_true, not_true_eq_false, Int.reduceEq, Int.reduceLT, Int.reduceLE, Classical.not_not, Bool.false_eq_true, fi_0, ft_0_0, ft_0_1, ft_0_2, ft_0_3, ft_0_4, ft_0_5, fi_3, ft_3_0, ft_3_1, fi_5, ft_5_0, ft_5_1, fi_8, ft_8_0, ft_8_1, ft_8_2, ft_8_3, ft_8_4, ft_8_5, fi_14, ft_14_0, ft_14_1, fi_19, ft_19_0, ft_19_1, ft_19_2, ft_19_3, ft_19_5, ft_19_6, ft_19_7, ft_19_8, ft_19_12, ft_19_13, ft_19_14, ft_19_15, ft_19_16, ft_19_21, fx_4, fx_6, fx_7, fx_9, fx_10, fx_11, fx_12, fx_13, fx_15, fx_16, fx_17, fx_18, fx_20, fx_21, fx_22, fx_23, fx_24, fx_25, fx_26, fx_27, fx_28, fx_29, fx_30, fx_31, fx_32, fx_33]
        exact hQ
    · rw [zT_f c2]
      simp (disch := omega) only [eX5_ask_0, eX5_ask_1, eX5_ask_2, eX5_ask_4, eX5_ask_7, eX5_ask_10, eX5_ask_11, eX5_ask_14, eX5_ask_17, eX5_ask_18, eX5_ask_21, eX5_ask_24, eX5_ask_26, eX5_ask_27, eX5_ask_28, eX5_ask_31, eX5_ask_34, eX5_ask_35, eX5_ask_38, eX5_ask_39, eX5_ask_41, eX5_ask_43, eX5_ask_46, eX5_ask_47, eX5_ask_48, eX5_ask_51, eX5_ask_54, eX5_ask_57, eX5_ask_60, eX5_ask_62, eX5_ask_63, eX5_ask_64, eX5_ask_65, eX5_ask_66, eX5_ask_67, eX5_ask_70, eX5_ask_72, eX5_ask_75, en_kl_0, en_kl_i, en_kl_r, en_kl_n, en_kl_l, en_Ec_some, en_Ec_void, en_rcv, en_stk, List.map_cons, List.map_nil, List.sum_cons, List.sum_nil, Value.category, Nat.reduceAdd, Nat.reduceLeDiff, decide_true, true_and, and_true, and_self, zI_add, zI_sub, zI_mul, zI_neg, zI_lt, zI_le, zI_eq, zI_cl, zI_0, zI_1, zI_m1, zI_lit, zT_0, zT_01, zI_01, zI_11, ↓reduceIte, if_true, if_false, not_false_eq_true, not_true_eq_false, Int.reduceEq, Int.reduceLT, Int.reduceLE, Classical.not_not, Bool.false_eq_true, fi_0, ft_0_0, ft_0_1, ft_0_2, ft_0_3, ft_0_4, ft_0_5, fi_3, ft_3_0, ft_3_1, fi_5, ft_5_0, ft_5_1, fi_8, ft_8_0, ft_8_1, ft_8_2, ft_8_3, ft_8_4, ft_8_5, fi_14, ft_14_0, ft_14_1, fi_19, ft_19_0, ft_19_1, ft_19_2, ft_19_3, ft_19_5, ft_19_6, ft_19_7, ft_19_8, ft_19_12, ft_19_13, ft_19_14, ft_19_15, ft_19_16, ft_19_21, fx_4, fx_6, fx_7, fx_9, fx_10, fx_11, fx_12, fx_13, fx_15, fx_16, fx_17, fx_18, fx_20, fx_21, fx_22, fx_23, fx_24, fx_25, fx_26, fx_27, fx_28, fx_29, fx_30, fx_31, fx_32, fx_33]
      exact hQ
  · rw [zT_f c1]
    simp (disch := omega) only [eX5_ask_0, eX5_ask_1, eX5_ask_2, eX5_ask_4, eX5_ask_7, eX5_ask_10, eX5_ask_11, eX5_ask_14, eX5_ask_17, eX5_ask_18, eX5_ask_21, eX5_ask_24, eX5_ask_26, eX5_ask_27, eX5_ask_28, eX5_ask_31, eX5_ask_34, eX5_ask_35, eX5_ask_38, eX5_ask_39, eX5_ask_41, eX5_ask_43, eX5_ask_46, eX5_ask_47, eX5_ask_48, eX5_ask_51, eX5_ask_54, eX5_ask_57, eX5_ask_60, eX5_ask_62, eX5_ask_63, eX5_ask_64, eX5_ask_65, eX5_ask_66, eX5_ask_67, eX5_ask_70, eX5_ask_72, eX5_ask_75, en_kl_0, en_kl_i, en_kl_r, en_kl_n, en_kl_l, en_Ec_some, en_Ec_void, en_rcv, en_stk, List.map_cons, List.map_nil, List.sum_cons, List.sum_nil, Value.category, Nat.reduceAdd, Nat.reduceLeDiff, decide_true, true_and, and_true, and_self, zI_add, zI_sub, zI_mul, zI_neg, zI_lt, zI_le, zI_eq, zI_cl, zI_0, zI_1, zI_m1, zI_lit, zT_0, zT_01, zI_01, zI_11, ↓reduceIte, if_true, if_false, not_false_eq_true, not_true_eq_false, Int.reduceEq, Int.reduceLT, Int.reduceLE, Classical.not_not, Bool.false_eq_true, fi_0, ft_0_0, ft_0_1, ft_0_2, ft_0_3, ft_0_4, ft_0_5, fi_3, ft_3_0, ft_3_1, fi_5, ft_5_0, ft_5_1, fi_8, ft_8_0, ft_8_1, ft_8_2, ft_8_3, ft_8_4, ft_8_5, fi_14, ft_14_0, ft_14_1, fi_19, ft_19_0, ft_19_1, ft_19_2, ft_19_3, ft_19_5, ft_19_6, ft_19_7, ft_19_8, ft_19_12, ft_19_13, ft_19_14, ft_19_15, ft_19_16, ft_19_21, fx_4, fx_6, fx_7, fx_9, fx_10, fx_11, fx_12, fx_13, fx_15, fx_16, fx_17, fx_18, fx_20, fx_21, fx_22, fx_23, fx_24, fx_25, fx_26, fx_27, fx_28, fx_29, fx_30, fx_31, fx_32, fx_33]
    exact hQ
theorem s_ask_ok (hD : aD w G s) (hT : en_slip w n tb) (hP : aP w kick law life pat) (ho : okAsk n tb m r h a) : ∃ w', SX5_ask [.ref 0, .int (zI m), .int (zI r), .int (zI h), .int (zI a)] w = some (some (.int (zI (tRow (aFew (tcn n tb) (tcm n tb) (tcb n tb) (ml G s kick) law life m r h) a))), w') ∧ en_fr NF w w' := by
  obtain ⟨c1, c2, c3, c4, c5⟩ := ho
  obtain ⟨w1, e1, f1⟩ := s_fewestMore hD hT hP c1.1 c1.2 c2.1 c2.2 c3.1 (show h < 200 by omega)
  have hlm : -1 ≤ (if tcn n tb = 0 then -1 else tcm n tb (tcn n tb - 1)) := by
    split
    · omega
    · have := hT.2.2.2.2 (tcn n tb - 1) (by omega)
      omega
  refine ⟨w1, en_val rfl (fun Q hQ => ?_), f1⟩
  show en_Ev XX5_ask 0 [some (.ref 0), some (.int (zI m)), some (.int (zI r)), some (.int (zI h)), some (.int (zI a)), none] [] w Q
  simp (disch := omega) only [eX5_ask_0, eX5_ask_1, eX5_ask_2, eX5_ask_4, en_kl_0, en_kl_i, en_kl_r, en_kl_n, en_kl_l, en_Ec_some, en_Ec_void, en_rcv, en_stk, List.map_cons, List.map_nil, List.sum_cons, List.sum_nil, Value.category, Nat.reduceAdd, Nat.reduceLeDiff, decide_true, true_and, and_true, and_self, zI_add, zI_sub, zI_mul, zI_neg, zI_lt, zI_le, zI_eq, zI_cl, zI_0, zI_1, zI_m1, zI_lit, zT_0, zT_01, zI_01, zI_11, ↓reduceIte, if_true, if_false, not_false_eq_true, not_true_eq_false, Int.reduceEq, Int.reduceLT, Int.reduceLE, Classical.not_not, Bool.false_eq_true, fi_0, ft_0_0, ft_0_1, ft_0_2, ft_0_3, ft_0_4, ft_0_5, fi_3, ft_3_0, ft_3_1, fi_5, ft_5_0, ft_5_1, fi_8, ft_8_0, ft_8_1, ft_8_2, ft_8_3, ft_8_4, ft_8_5, fi_14, ft_14_0, ft_14_1, fi_19, ft_19_0, ft_19_1, ft_19_2, ft_19_3, ft_19_5, ft_19_6, ft_19_7, ft_19_8, ft_19_12, ft_19_13, ft_19_14, ft_19_15, ft_19_16, ft_19_21, fx_4, fx_6, fx_7, fx_9, fx_10, fx_11, fx_12, fx_13, fx_15, fx_16, fx_17, fx_18, fx_20, fx_21, fx_22, fx_23, fx_24, fx_25, fx_26, fx_27, fx_28, fx_29, fx_30, fx_31, fx_32, fx_33]
  rw [s_within (by omega) (by omega) (by omega) (by omega) (by omega) (by omega), zT_t c1]
  simp (disch := omega) only [eX5_ask_7, eX5_ask_10, eX5_ask_11, en_kl_0, en_kl_i, en_kl_r, en_kl_n, en_kl_l, en_Ec_some, en_Ec_void, en_rcv, en_stk, List.map_cons, List.map_nil, List.sum_cons, List.sum_nil, Value.category, Nat.reduceAdd, Nat.reduceLeDiff, decide_true, true_and, and_true, and_self, zI_add, zI_sub, zI_mul, zI_neg, zI_lt, zI_le, zI_eq, zI_cl, zI_0, zI_1, zI_m1, zI_lit, zT_0, zT_01, zI_01, zI_11, ↓reduceIte, if_true, if_false, not_false_eq_true, not_true_eq_false, Int.reduceEq, Int.reduceLT, Int.reduceLE, Classical.not_not, Bool.false_eq_true, fi_0, ft_0_0, ft_0_1, ft_0_2, ft_0_3, ft_0_4, ft_0_5, fi_3, ft_3_0, ft_3_1, fi_5, ft_5_0, ft_5_1, fi_8, ft_8_0, ft_8_1, ft_8_2, ft_8_3, ft_8_4, ft_8_5, fi_14, ft_14_0, ft_14_1, fi_19, ft_19_0, ft_19_1, ft_19_2, ft_19_3, ft_19_5, ft_19_6, ft_19_7, ft_19_8, ft_19_12, ft_19_13, ft_19_14, ft_19_15, ft_19_16, ft_19_21, fx_4, fx_6, fx_7, fx_9, fx_10, fx_11, fx_12, fx_13, fx_15, fx_16, fx_17, fx_18, fx_20, fx_21, fx_22, fx_23, fx_24, fx_25, fx_26, fx_27, fx_28, fx_29, fx_30, fx_31, fx_32, fx_33]
  rw [s_isRecord (by omega) (by omega), zT_t c2]
  simp (disch := omega) only [eX5_ask_14, eX5_ask_17, eX5_ask_18, en_kl_0, en_kl_i, en_kl_r, en_kl_n, en_kl_l, en_Ec_some, en_Ec_void, en_rcv, en_stk, List.map_cons, List.map_nil, List.sum_cons, List.sum_nil, Value.category, Nat.reduceAdd, Nat.reduceLeDiff, decide_true, true_and, and_true, and_self, zI_add, zI_sub, zI_mul, zI_neg, zI_lt, zI_le, zI_eq, zI_cl, zI_0, zI_1, zI_m1, zI_lit, zT_0, zT_01, zI_01, zI_11, ↓reduceIte, if_true, if_false, not_false_eq_true, not_true_eq_false, Int.reduceEq, Int.reduceLT, Int.reduceLE, Classical.not_not, Bool.false_eq_true, fi_0, ft_0_0, ft_0_1, ft_0_2, ft_0_3, ft_0_4, ft_0_5, fi_3, ft_3_0, ft_3_1, fi_5, ft_5_0, ft_5_1, fi_8, ft_8_0, ft_8_1, ft_8_2, ft_8_3, ft_8_4, ft_8_5, fi_14, ft_14_0, ft_14_1, fi_19, ft_19_0, ft_19_1, ft_19_2, ft_19_3, ft_19_5, ft_19_6, ft_19_7, ft_19_8, ft_19_12, ft_19_13, ft_19_14, ft_19_15, ft_19_16, ft_19_21, fx_4, fx_6, fx_7, fx_9, fx_10, fx_11, fx_12, fx_13, fx_15, fx_16, fx_17, fx_18, fx_20, fx_21, fx_22, fx_23, fx_24, fx_25, fx_26, fx_27, fx_28, fx_29, fx_30, fx_31, fx_32, fx_33]
  rw [s_isNightMinute (by omega) (by omega), zT_t c3]
  simp (disch := omega) only [eX5_ask_21, eX5_ask_24, eX5_ask_26, eX5_ask_27, eX5_ask_28, en_kl_0, en_kl_i, en_kl_r, en_kl_n, en_kl_l, en_Ec_some, en_Ec_void, en_rcv, en_stk, List.map_cons, List.map_nil, List.sum_cons, List.sum_nil, Value.category, Nat.reduceAdd, Nat.reduceLeDiff, decide_true, true_and, and_true, and_self, zI_add, zI_sub, zI_mul, zI_neg, zI_lt, zI_le, zI_eq, zI_cl, zI_0, zI_1, zI_m1, zI_lit, zT_0, zT_01, zI_01, zI_11, ↓reduceIte, if_true, if_false, not_false_eq_true, not_true_eq_false, Int.reduceEq, Int.reduceLT, Int.reduceLE, Classical.not_not, Bool.false_eq_true, fi_0, ft_0_0, ft_0_1, ft_0_2, ft_0_3, ft_0_4, ft_0_5, fi_3, ft_3_0, ft_3_1, fi_5, ft_5_0, ft_5_1, fi_8, ft_8_0, ft_8_1, ft_8_2, ft_8_3, ft_8_4, ft_8_5, fi_14, ft_14_0, ft_14_1, fi_19, ft_19_0, ft_19_1, ft_19_2, ft_19_3, ft_19_5, ft_19_6, ft_19_7, ft_19_8, ft_19_12, ft_19_13, ft_19_14, ft_19_15, ft_19_16, ft_19_21, fx_4, fx_6, fx_7, fx_9, fx_10, fx_11, fx_12, fx_13, fx_15, fx_16, fx_17, fx_18, fx_20, fx_21, fx_22, fx_23, fx_24, fx_25, fx_26, fx_27, fx_28, fx_29, fx_30, fx_31, fx_32, fx_33]
  rw [s_within (by omega) (by omega) (by omega) (by omega) (by omega) (by omega), zT_t c4]
  simp (disch := omega) only [eX5_ask_31, eX5_ask_34, eX5_ask_35, eX5_ask_39, eX5_ask_41, eX5_ask_43, eX5_ask_46, eX5_ask_47, eX5_ask_48, eX5_ask_51, en_kl_0, en_kl_i, en_kl_r, en_kl_n, en_kl_l, en_Ec_some, en_Ec_void, en_rcv, en_stk, List.map_cons, List.map_nil, List.sum_cons, List.sum_nil, Value.category, Nat.reduceAdd, Nat.reduceLeDiff, decide_true, true_and, and_true, and_self, zI_add, zI_sub, zI_mul, zI_neg, zI_lt, zI_le, zI_eq, zI_cl, zI_0, zI_1, zI_m1, zI_lit, zT_0, zT_01, zI_01, zI_11, ↓reduceIte, if_true, if_false, not_false_eq_true, not_true_eq_false, Int.reduceEq, Int.reduceLT, Int.reduceLE, Classical.not_not, Bool.false_eq_true, fi_0, ft_0_0, ft_0_1, ft_0_2, ft_0_3, ft_0_4, ft_0_5, fi_3, ft_3_0, ft_3_1, fi_5, ft_5_0, ft_5_1, fi_8, ft_8_0, ft_8_1, ft_8_2, ft_8_3, ft_8_4, ft_8_5, fi_14, ft_14_0, ft_14_1, fi_19, ft_19_0, ft_19_1, ft_19_2, ft_19_3, ft_19_5, ft_19_6, ft_19_7, ft_19_8, ft_19_12, ft_19_13, ft_19_14, ft_19_15, ft_19_16, ft_19_21, fx_4, fx_6, fx_7, fx_9, fx_10, fx_11, fx_12, fx_13, fx_15, fx_16, fx_17, fx_18, fx_20, fx_21, fx_22, fx_23, fx_24, fx_25, fx_26, fx_27, fx_28, fx_29, fx_30, fx_31, fx_32, fx_33]
  rw [s_slipCoins]
  simp (disch := omega) only [eX5_ask_54, en_kl_0, en_kl_i, en_kl_r, en_kl_n, en_kl_l, en_Ec_some, en_Ec_void, en_rcv, en_stk, List.map_cons, List.map_nil, List.sum_cons, List.sum_nil, Value.category, Nat.reduceAdd, Nat.reduceLeDiff, decide_true, true_and, and_true, and_self, zI_add, zI_sub, zI_mul, zI_neg, zI_lt, zI_le, zI_eq, zI_cl, zI_0, zI_1, zI_m1, zI_lit, zT_0, zT_01, zI_01, zI_11, ↓reduceIte, if_true, if_false, not_false_eq_true, not_true_eq_false, Int.reduceEq, Int.reduceLT, Int.reduceLE, Classical.not_not, Bool.false_eq_true, fi_0, ft_0_0, ft_0_1, ft_0_2, ft_0_3, ft_0_4, ft_0_5, fi_3, ft_3_0, ft_3_1, fi_5, ft_5_0, ft_5_1, fi_8, ft_8_0, ft_8_1, ft_8_2, ft_8_3, ft_8_4, ft_8_5, fi_14, ft_14_0, ft_14_1, fi_19, ft_19_0, ft_19_1, ft_19_2, ft_19_3, ft_19_5, ft_19_6, ft_19_7, ft_19_8, ft_19_12, ft_19_13, ft_19_14, ft_19_15, ft_19_16, ft_19_21, fx_4, fx_6, fx_7, fx_9, fx_10, fx_11, fx_12, fx_13, fx_15, fx_16, fx_17, fx_18, fx_20, fx_21, fx_22, fx_23, fx_24, fx_25, fx_26, fx_27, fx_28, fx_29, fx_30, fx_31, fx_32, fx_33]
  rw [s_lastMinute en_coins_5 hT.2.2]
  generalize (if tcn n tb = 0 then -1 else tcm n tb (tcn n tb - 1)) = lm at *
  simp (disch := omega) only [eX5_ask_57, eX5_ask_63, eX5_ask_64, eX5_ask_65, eX5_ask_66, eX5_ask_67, en_kl_0, en_kl_i, en_kl_r, en_kl_n, en_kl_l, en_Ec_some, en_Ec_void, en_rcv, en_stk, List.map_cons, List.map_nil, List.sum_cons, List.sum_nil, Value.category, Nat.reduceAdd, Nat.reduceLeDiff, decide_true, true_and, and_true, and_self, zI_add, zI_sub, zI_mul, zI_neg, zI_lt, zI_le, zI_eq, zI_cl, zI_0, zI_1, zI_m1, zI_lit, zT_0, zT_01, zI_01, zI_11, ↓reduceIte, if_true, if_false, not_false_eq_true, not_true_eq_false, Int.reduceEq, Int.reduceLT, Int.reduceLE, Classical.not_not, Bool.false_eq_true, fi_0, ft_0_0, ft_0_1, ft_0_2, ft_0_3, ft_0_4, ft_0_5, fi_3, ft_3_0, ft_3_1, fi_5, ft_5_0, ft_5_1, fi_8, ft_8_0, ft_8_1, ft_8_2, ft_8_3, ft_8_4, ft_8_5, fi_14, ft_14_0, ft_14_1, fi_19, ft_19_0, ft_19_1, ft_19_2, ft_19_3, ft_19_5, ft_19_6, ft_19_7, ft_19_8, ft_19_12, ft_19_13, ft_19_14, ft_19_15, ft_19_16, ft_19_21, fx_4, fx_6, fx_7, fx_9, fx_10, fx_11, fx_12, fx_13, fx_15, fx_16, fx_17, fx_18, fx_20, fx_21, fx_22, fx_23, fx_24, fx_25, fx_26, fx_27, fx_28, fx_29, fx_30, fx_31, fx_32, fx_33, c5]
  rw [e1]
  simp (disch := omega) only [eX5_ask_70, eX5_ask_72, en_kl_0, en_kl_i, en_kl_r, en_kl_n, en_kl_l, en_Ec_some, en_Ec_void, en_rcv, en_stk, List.map_cons, List.map_nil, List.sum_cons, List.sum_nil, Value.category, Nat.reduceAdd, Nat.reduceLeDiff, decide_true, true_and, and_true, and_self, zI_add, zI_sub, zI_mul, zI_neg, zI_lt, zI_le, zI_eq, zI_cl, zI_0, zI_1, zI_m1, zI_lit, zT_0, zT_01, zI_01, zI_11, ↓reduceIte, if_true, if_false, not_false_eq_true, not_true_eq_false, Int.reduceEq, Int.reduceLT, Int.reduceLE, Classical.not_not, Bool.false_eq_true, fi_0, ft_0_0, ft_0_1, ft_0_2, ft_0_3, ft_0_4, ft_0_5, fi_3, ft_3_0, ft_3_1, fi_5, ft_5_0, ft_5_1, fi_8, ft_8_0, ft_8_1, ft_8_2, ft_8_3, ft_8_4, ft_8_5, fi_14, ft_14_0, ft_14_1, fi_19, ft_19_0, ft_19_1, ft_19_2, ft_19_3, ft_19_5, ft_19_6, ft_19_7, ft_19_8, ft_19_12, ft_19_13, ft_19_14, ft_19_15, ft_19_16, ft_19_21, fx_4, fx_6, fx_7, fx_9, fx_10, fx_11, fx_12, fx_13, fx_15, fx_16, fx_17, fx_18, fx_20, fx_21, fx_22, fx_23, fx_24, fx_25, fx_26, fx_27, fx_28, fx_29, fx_30, fx_31, fx_32, fx_33]
  have hr := aFew_rng (law := law) (life := life) (m := m) (r := r) (h := h) (cn := tcn n tb) (cm := tcm n tb) (cb := tcb n tb) (len := ml G s kick)
  rw [s_tellRow hr.1 (by omega) c4.1 c4.2]
  simp (disch := omega) only [eX5_ask_75, en_kl_0, en_kl_i, en_kl_r, en_kl_n, en_kl_l, en_Ec_some, en_Ec_void, en_rcv, en_stk, List.map_cons, List.map_nil, List.sum_cons, List.sum_nil, Value.category, Nat.reduceAdd, Nat.reduceLeDiff, decide_true, true_and, and_true, and_self]
  exact hQ
end
