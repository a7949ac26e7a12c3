/-! ===== Slip: the text of the coins ===== -/
def en_tD (w : en_W) (n : Nat) (tb : Nat → Int) : Prop := w 3 2 = zI n ∧ n ≤ 80 ∧ ∀ j, j < n → w 4 j = zI (tb j) ∧ 0 ≤ tb j ∧ tb j ≤ 255
/-- the figure at place z; -1: none -/
def tf (n : Nat) (tb : Nat → Int) (z : Int) : Int := if 0 ≤ z ∧ z < n ∧ 48 ≤ tb z.toNat ∧ tb z.toNat ≤ 57 then tb z.toNat - 48 else -1
def tm (n : Nat) (tb : Nat → Int) (z : Int) : Int := 10 * tf n tb z + tf n tb (z + 1)
/-- the text goes on at place i -/
def tokB (n : Nat) (tb : Nat → Int) (i : Nat) : Bool := if i % 4 = 3 then decide (tb i = 59) else decide (tf n tb i ≠ -1 ∧ ¬ (i % 4 = 1 ∧ 4 < i ∧ tm n tb ((i : Int) - 1) < tm n tb ((i : Int) - 1 - 4)))
abbrev tok (n : Nat) (tb : Nat → Int) (i : Nat) : Prop := tokB n tb i = true
theorem tok_3 {n : Nat} {tb : Nat → Int} {i : Nat} (h : i % 4 = 3) : tok n tb i ↔ tb i = 59 := by
  unfold tok tokB
  rw [if_pos h, decide_eq_true_eq]
theorem tok_n {n : Nat} {tb : Nat → Int} {i : Nat} (h : ¬ i % 4 = 3) : tok n tb i ↔ tf n tb i ≠ -1 ∧ ¬ (i % 4 = 1 ∧ 4 < i ∧ tm n tb ((i : Int) - 1) < tm n tb ((i : Int) - 1 - 4)) := by
  unfold tok tokB
  rw [if_neg h, decide_eq_true_eq]
def tF (n : Nat) (tb : Nat → Int) : Nat → Nat → Int
  | 0, _ => if n = 0 ∨ n % 4 = 3 then -1 else n
  | d + 1, i => if tok n tb i then tF n tb d (i + 1) else i
/-- the place of the first fault; -1: none -/
def tfault (n : Nat) (tb : Nat → Int) : Int := tF n tb n 0
def tcn (n : Nat) (tb : Nat → Int) : Nat := if tfault n tb = -1 then (n + 1) / 4 else 0
def tcm (n : Nat) (tb : Nat → Int) (c : Nat) : Int := tm n tb ((4 * c : Nat) : Int)
def tcb (n : Nat) (tb : Nat → Int) (c : Nat) : Int := tf n tb (((4 * c : Nat) : Int) + 2)
theorem tf_rng {n : Nat} {tb : Nat → Int} {z : Int} : -1 ≤ tf n tb z ∧ tf n tb z ≤ 9 := by
  unfold tf
  split <;> omega
theorem tm_rng {n : Nat} {tb : Nat → Int} {z : Int} : -11 ≤ tm n tb z ∧ tm n tb z ≤ 99 := by
  have h1 := @tf_rng n tb z
  have h2 := @tf_rng n tb (z + 1)
  unfold tm
  omega
theorem tF_m1 {n : Nat} {tb : Nat → Int} : ∀ d i : Nat, tF n tb d i = -1 → (∀ j, i ≤ j → j < i + d → tok n tb j) ∧ (n = 0 ∨ n % 4 = 3)
  | 0, i, h => by
    unfold tF at h
    split at h
    next hn => exact ⟨fun j h1 h2 => by omega, hn⟩
    next => omega
  | d + 1, i, h => by
    unfold tF at h
    split at h
    next ht =>
      obtain ⟨h1, h2⟩ := tF_m1 d (i + 1) h
      refine ⟨fun j hj1 hj2 => ?_, h2⟩
      by_cases e : j = i
      · rw [e]; exact ht
      · exact h1 j (by omega) (by omega)
    next => omega
theorem tF_all {n : Nat} {tb : Nat → Int} (hn : n = 0 ∨ n % 4 = 3) : ∀ d i : Nat, (∀ j, i ≤ j → j < i + d → tok n tb j) → tF n tb d i = -1
  | 0, i, h => by unfold tF; rw [if_pos hn]
  | d + 1, i, h => by
    unfold tF
    rw [if_pos (h i (Nat.le_refl i) (by omega))]
    exact tF_all hn d (i + 1) (fun j h1 h2 => h j (by omega) (by omega))
theorem tF_rng {n : Nat} {tb : Nat → Int} : ∀ d i : Nat, i + d ≤ n → -1 ≤ tF n tb d i ∧ tF n tb d i ≤ n
  | 0, i, h => by unfold tF; split <;> omega
  | d + 1, i, h => by
    unfold tF
    split
    · exact tF_rng d (i + 1) (by omega)
    · omega
theorem tfault_m1 {n : Nat} {tb : Nat → Int} (h : tfault n tb = -1) : (∀ j, j < n → tok n tb j) ∧ (n = 0 ∨ n % 4 = 3) := by
  obtain ⟨h1, h2⟩ := tF_m1 n 0 h
  exact ⟨fun j hj => h1 j (Nat.zero_le _) (by omega), h2⟩
theorem tcoin_ok {n : Nat} {tb : Nat → Int} (h : tfault n tb = -1) {c : Nat} (hc : 4 * c < n) : 0 ≤ tcm n tb c ∧ tcm n tb c ≤ 99 ∧ 0 ≤ tcb n tb c ∧ tcb n tb c ≤ 9 ∧ 4 * c + 2 < n := by
  obtain ⟨h1, h2⟩ := tfault_m1 h
  have h3 : 4 * c + 2 < n := by omega
  have f : ∀ j, j < n → j % 4 ≠ 3 → 0 ≤ tf n tb (j : Int) := by
    intro j hj hj3
    have := h1 j hj
    rw [tok_n hj3] at this
    have h4 := @tf_rng n tb (j : Int)
    omega
  have f0 := f (4 * c) (by omega) (by omega)
  have f1 := f (4 * c + 1) (by omega) (by omega)
  have f2 := f (4 * c + 2) (by omega) (by omega)
  have g0 := @tm_rng n tb ((4 * c : Nat) : Int)
  have g2 := @tf_rng n tb (((4 * c : Nat) : Int) + 2)
  refine ⟨?_, g0.2, ?_, g2.2, h3⟩
  · unfold tcm tm
    rw [show (((4 * c + 1 : Nat)) : Int) = ((4 * c : Nat) : Int) + 1 by omega] at f1
    omega
  · unfold tcb
    rw [show (((4 * c + 2 : Nat)) : Int) = ((4 * c : Nat) : Int) + 2 by omega] at f2
    exact f2
theorem tcn_le {n : Nat} {tb : Nat → Int} (hn : n ≤ 80) : tcn n tb ≤ 20 := by
  unfold tcn
  split <;> omega
/-- the minutes never go back -/
theorem tcm_mono {n : Nat} {tb : Nat → Int} {c : Nat} (hc : c + 1 < tcn n tb) : tcm n tb c ≤ tcm n tb (c + 1) := by
  unfold tcn at hc
  split at hc
  next h =>
    obtain ⟨h1, h2⟩ := tfault_m1 h
    have := h1 (4 * c + 5) (by omega)
    rw [tok_n (by omega)] at this
    have h3 := this.2
    have e1 : ((4 * c + 5 : Nat) : Int) - 1 = ((4 * (c + 1) : Nat) : Int) := by omega
    have e2 : ((4 * c + 5 : Nat) : Int) - 1 - 4 = ((4 * c : Nat) : Int) := by omega
    rw [e2, e1] at h3
    unfold tcm
    by_cases q : tm n tb ((4 * (c + 1) : Nat) : Int) < tm n tb ((4 * c : Nat) : Int)
    · exact absurd ⟨by omega, by omega, q⟩ h3
    · omega
  next => omega
/-- the whole slip: the text, its fault, its coins -/
def en_slip (w : en_W) (n : Nat) (tb : Nat → Int) : Prop := en_tD w n tb ∧ w 3 3 = zI (tfault n tb) ∧ en_cD w 5 (tcn n tb) (tcm n tb) (tcb n tb)
theorem en_cD.cong {w : en_W} {k n : Nat} {cm cb cm' cb' : Nat → Int} (h : en_cD w k n cm cb) (hc : ∀ i, i < n → cm i = cm' i ∧ cb i = cb' i) : en_cD w k n cm' cb' :=
  ⟨h.1, h.2.1, fun i hi => by
    obtain ⟨e1, e2⟩ := hc i hi
    rw [← e1, ← e2]
    exact h.2.2 i hi⟩
theorem en_s3 : en_is 3 4 = true := by decide
theorem en_t30 : en_tg 3 0 = 4 := by decide
theorem en_t31 : en_tg 3 1 = 5 := by decide
theorem en_a4 : en_al 4 = some 80 := by decide
section
variable {w : en_W} {n : Nat} {tb : Nat → Int} {z : Int}
theorem s_figureAt (hd : en_tD w n tb) (h1 : -2147483648 ≤ z) (h2 : z < 2147483648) : SX4_figureAt [.ref 3, .int (zI z)] w = some (some (.int (zI (tf n tb z))), w) := by
  obtain ⟨d1, d2, d3⟩ := hd
  refine en_val rfl (fun Q hQ => ?_)
  show en_Ev XX4_figureAt 0 [some (.ref 3), some (.int (zI z)), none] [] w Q
  unfold tf at hQ
  by_cases c1 : 0 ≤ z ∧ z < n
  · have c2 : ¬ z < 0 := by omega
    have c3 : ¬ (n : Int) ≤ z := by omega
    have c4 : ¬ 80 ≤ z.toNat := by omega
    obtain ⟨e1, e2, e3⟩ := d3 z.toNat (by omega)
    simp (disch := omega) only [eX4_figureAt_0, eX4_figureAt_1, eX4_figureAt_4, eX4_figureAt_5, eX4_figureAt_6, eX4_figureAt_9, eX4_figureAt_12, eX4_figureAt_13, eX4_figureAt_16, eX4_figureAt_17, eX4_figureAt_18, eX4_figureAt_21, eX4_figureAt_22, eX4_figureAt_23, eX4_figureAt_24, eX4_figureAt_26, eX4_figureAt_29, eX4_figureAt_30, eX4_figureAt_32, eX4_figureAt_35, eX4_figureAt_36, eX4_figureAt_38, eX4_figureAt_39, eX4_figureAt_42, eX4_figureAt_43, en_kl_0, en_kl_i, en_kl_r, en_kl_n, en_kl_l, en_Ec_some, en_Ec_void, en_rcv, en_stk, List.map_cons, List.map_nil, List.sum_cons, List.sum_nil, Value.category, Nat.reduceAdd, Nat.reduceLeDiff, decide_true, true_and, and_true, and_self, zI_add, zI_sub, zI_mul, zI_neg, zI_lt, zI_le, zI_eq, zI_cl, zI_0, zI_1, zI_m1, zI_lit, zT_0, zT_01, zI_01, zI_11, ↓reduceIte, if_true, if_false, not_false_eq_true, not_true_eq_false, Int.reduceEq, Int.reduceLT, Int.reduceLE, Classical.not_not, Bool.false_eq_true, en_s3, en_t30, en_t31, d1, en_ix_at (show 4 < 62 by decide) en_a4, c2, c3, c4, e1, or_self, not_false_eq_true]
    by_cases c5 : tb z.toNat < 48
    · rw [if_neg (by omega)] at hQ
      simp only [c5, if_true]; exact hQ
    · by_cases c6 : 57 < tb z.toNat
      · rw [if_neg (by omega)] at hQ
        simp only [c5, c6, if_true, if_false]; exact hQ
      · rw [if_pos (by omega)] at hQ
        simp only [c5, c6, if_false]; exact hQ
  · rw [if_neg (by omega)] at hQ
    have c5 : (-1 : Int) < 48 := by omega
    by_cases c2 : z < 0
    · simp (disch := omega) only [eX4_figureAt_0, eX4_figureAt_1, eX4_figureAt_4, eX4_figureAt_5, eX4_figureAt_6, eX4_figureAt_9, eX4_figureAt_12, eX4_figureAt_13, eX4_figureAt_16, eX4_figureAt_17, eX4_figureAt_18, eX4_figureAt_21, eX4_figureAt_22, eX4_figureAt_23, eX4_figureAt_24, eX4_figureAt_26, eX4_figureAt_29, eX4_figureAt_30, eX4_figureAt_32, eX4_figureAt_35, eX4_figureAt_36, eX4_figureAt_38, eX4_figureAt_39, eX4_figureAt_42, eX4_figureAt_43, en_kl_0, en_kl_i, en_kl_r, en_kl_n, en_kl_l, en_Ec_some, en_Ec_void, en_rcv, en_stk, List.map_cons, List.map_nil, List.sum_cons, List.sum_nil, Value.category, Nat.reduceAdd, Nat.reduceLeDiff, decide_true, true_and, and_true, and_self, zI_add, zI_sub, zI_mul, zI_neg, zI_lt, zI_le, zI_eq, zI_cl, zI_0, zI_1, zI_m1, zI_lit, zT_0, zT_01, zI_01, zI_11, ↓reduceIte, if_true, if_false, not_false_eq_true, not_true_eq_false, Int.reduceEq, Int.reduceLT, Int.reduceLE, Classical.not_not, Bool.false_eq_true, en_s3, d1, c2, c5]
      exact hQ
    · have c3 : (n : Int) ≤ z := by omega
      simp (disch := omega) only [eX4_figureAt_0, eX4_figureAt_1, eX4_figureAt_4, eX4_figureAt_5, eX4_figureAt_6, eX4_figureAt_9, eX4_figureAt_12, eX4_figureAt_13, eX4_figureAt_16, eX4_figureAt_17, eX4_figureAt_18, eX4_figureAt_21, eX4_figureAt_22, eX4_figureAt_23, eX4_figureAt_24, eX4_figureAt_26, eX4_figureAt_29, eX4_figureAt_30, eX4_figureAt_32, eX4_figureAt_35, eX4_figureAt_36, eX4_figureAt_38, eX4_figureAt_39, eX4_figureAt_42, eX4_figureAt_43, en_kl_0, en_kl_i, en_kl_r, en_kl_n, en_kl_l, en_Ec_some, en_Ec_void, en_rcv, en_stk, List.map_cons, List.map_nil, List.sum_cons, List.sum_nil, Value.category, Nat.reduceAdd, Nat.reduceLeDiff, decide_true, true_and, and_true, and_self, zI_add, zI_sub, zI_mul, zI_neg, zI_lt, zI_le, zI_eq, zI_cl, zI_0, zI_1, zI_m1, zI_lit, zT_0, zT_01, zI_01, zI_11, ↓reduceIte, if_true, if_false, not_false_eq_true, not_true_eq_false, Int.reduceEq, Int.reduceLT, Int.reduceLE, Classical.not_not, Bool.false_eq_true, en_s3, d1, c2, c3, c5]
      exact hQ
theorem s_minuteAt (hd : en_tD w n tb) (h1 : -2147483648 ≤ z) (h2 : z < 2147483647) : SX4_minuteAt [.ref 3, .int (zI z)] w = some (some (.int (zI (tm n tb z))), w) := by
  refine en_val rfl (fun Q hQ => ?_)
  show en_Ev XX4_minuteAt 0 [some (.ref 3), some (.int (zI z))] [] w Q
  simp (disch := omega) only [eX4_minuteAt_0, eX4_minuteAt_2, eX4_minuteAt_3, eX4_minuteAt_4, eX4_minuteAt_7, eX4_minuteAt_8, eX4_minuteAt_9, eX4_minuteAt_10, eX4_minuteAt_11, eX4_minuteAt_12, eX4_minuteAt_15, eX4_minuteAt_16, en_kl_0, en_kl_i, en_kl_r, en_kl_n, en_kl_l, en_Ec_some, en_Ec_void, en_rcv, en_stk, List.map_cons, List.map_nil, List.sum_cons, List.sum_nil, Value.category, Nat.reduceAdd, Nat.reduceLeDiff, decide_true, true_and, and_true, and_self, zI_add, zI_sub, zI_mul, zI_neg, zI_lt, zI_le, zI_eq, zI_cl, zI_0, zI_1, zI_m1, zI_lit, zT_0, zT_01, zI_01, zI_11, ↓reduceIte, if_true, if_false, not_false_eq_true, not_true_eq_false, Int.reduceEq, Int.reduceLT, Int.reduceLE, Classical.not_not, Bool.false_eq_true, en_s3]
  rw [s_figureAt hd (by omega) (by omega)]
  simp (disch := omega) only [eX4_minuteAt_0, eX4_minuteAt_2, eX4_minuteAt_3, eX4_minuteAt_4, eX4_minuteAt_7, eX4_minuteAt_8, eX4_minuteAt_9, eX4_minuteAt_10, eX4_minuteAt_11, eX4_minuteAt_12, eX4_minuteAt_15, eX4_minuteAt_16, en_kl_0, en_kl_i, en_kl_r, en_kl_n, en_kl_l, en_Ec_some, en_Ec_void, en_rcv, en_stk, List.map_cons, List.map_nil, List.sum_cons, List.sum_nil, Value.category, Nat.reduceAdd, Nat.reduceLeDiff, decide_true, true_and, and_true, and_self, zI_add, zI_sub, zI_mul, zI_neg, zI_lt, zI_le, zI_eq, zI_cl, zI_0, zI_1, zI_m1, zI_lit, zT_0, zT_01, zI_01, zI_11, ↓reduceIte, if_true, if_false, not_false_eq_true, not_true_eq_false, Int.reduceEq, Int.reduceLT, Int.reduceLE, Classical.not_not, Bool.false_eq_true, en_s3]
  rw [s_figureAt hd (by omega) (by omega)]
  simp (disch := omega) only [eX4_minuteAt_0, eX4_minuteAt_2, eX4_minuteAt_3, eX4_minuteAt_4, eX4_minuteAt_7, eX4_minuteAt_8, eX4_minuteAt_9, eX4_minuteAt_10, eX4_minuteAt_11, eX4_minuteAt_12, eX4_minuteAt_15, eX4_minuteAt_16, en_kl_0, en_kl_i, en_kl_r, en_kl_n, en_kl_l, en_Ec_some, en_Ec_void, en_rcv, en_stk, List.map_cons, List.map_nil, List.sum_cons, List.sum_nil, Value.category, Nat.reduceAdd, Nat.reduceLeDiff, decide_true, true_and, and_true, and_self, zI_add, zI_sub, zI_mul, zI_neg, zI_lt, zI_le, zI_eq, zI_cl, zI_0, zI_1, zI_m1, zI_lit, zT_0, zT_01, zI_01, zI_11, ↓reduceIte, if_true, if_false, not_false_eq_true, not_true_eq_false, Int.reduceEq, Int.reduceLT, Int.reduceLE, Classical.not_not, Bool.false_eq_true, en_s3]
  exact hQ
theorem s_goesOnAt {i : Nat} (hd : en_tD w n tb) (hi : i < n) : SX4_goesOnAt [.ref 3, .int (zI i)] w = some (some (.int (zT (tok n tb i))), w) := by
  have hd' := hd
  obtain ⟨d1, d2, d3⟩ := hd
  refine en_val rfl (fun Q hQ => ?_)
  show en_Ev XX4_goesOnAt 0 [some (.ref 3), some (.int (zI i)), none] [] w Q
  have r4 := zI_rem4 (a := i) (by omega)
  have c0 : ¬ (4 : Int) = 0 := by omega
  have hq1 : ∀ h : tok n tb i, Q (some (.int (zI 1))) w := fun h => by
    have := hQ
    rw [zT_t h] at this
    exact this
  have hq0 : ∀ h : ¬ tok n tb i, Q (some (.int (zI 0))) w := fun h => by
    have := hQ
    rw [zT_f h] at this
    exact this
  by_cases c1 : i % 4 = 3
  · have c2 : ((i % 4 : Nat) : Int) = 3 := by omega
    have c3 : ¬ (i : Int) < 0 := by omega
    have c4 : ¬ (n : Int) ≤ i := by omega
    have c5 : ¬ 80 ≤ i := by omega
    obtain ⟨e1, e2, e3⟩ := d3 i hi
    simp (disch := omega) only [eX4_goesOnAt_0, eX4_goesOnAt_1, eX4_goesOnAt_2, eX4_goesOnAt_3, eX4_goesOnAt_4, eX4_goesOnAt_7, eX4_goesOnAt_8, eX4_goesOnAt_11, eX4_goesOnAt_12, eX4_goesOnAt_13, eX4_goesOnAt_16, eX4_goesOnAt_19, eX4_goesOnAt_20, eX4_goesOnAt_23, eX4_goesOnAt_24, eX4_goesOnAt_25, eX4_goesOnAt_27, eX4_goesOnAt_30, eX4_goesOnAt_31, eX4_goesOnAt_34, eX4_goesOnAt_35, eX4_goesOnAt_36, eX4_goesOnAt_37, eX4_goesOnAt_38, eX4_goesOnAt_39, eX4_goesOnAt_40, eX4_goesOnAt_43, eX4_goesOnAt_44, eX4_goesOnAt_45, eX4_goesOnAt_48, eX4_goesOnAt_49, eX4_goesOnAt_50, eX4_goesOnAt_51, eX4_goesOnAt_52, eX4_goesOnAt_55, eX4_goesOnAt_56, eX4_goesOnAt_57, eX4_goesOnAt_58, eX4_goesOnAt_59, eX4_goesOnAt_60, eX4_goesOnAt_61, eX4_goesOnAt_64, eX4_goesOnAt_67, eX4_goesOnAt_68, eX4_goesOnAt_71, eX4_goesOnAt_72, eX4_goesOnAt_73, eX4_goesOnAt_74, eX4_goesOnAt_75, eX4_goesOnAt_78, eX4_goesOnAt_79, eX4_goesOnAt_82, eX4_goesOnAt_83, eX4_goesOnAt_86, eX4_goesOnAt_87, eX4_goesOnAt_90, eX4_goesOnAt_91, en_kl_0, en_kl_i, en_kl_r, en_kl_n, en_kl_l, en_Ec_some, en_Ec_void, en_rcv, en_stk, List.map_cons, List.map_nil, List.sum_cons, List.sum_nil, Value.category, Nat.reduceAdd, Nat.reduceLeDiff, decide_true, true_and, and_true, and_self, zI_add, zI_sub, zI_mul, zI_neg, zI_lt, zI_le, zI_eq, zI_cl, zI_0, zI_1, zI_m1, zI_lit, zT_0, zT_01, zI_01, zI_11, ↓reduceIte, if_true, if_false, not_false_eq_true, not_true_eq_false, Int.reduceEq, Int.reduceLT, Int.reduceLE, Classical.not_not, Bool.false_eq_true, en_s3, en_t30, d1, r4, c0, c2, c3, c4, c5, e1, en_ix_at (show 4 < 62 by decide) en_a4, or_self, not_false_eq_true, Int.toNat_natCast]
    have ht := tok_3 (n := n) (tb := tb) c1
    by_cases c6 : tb i = 59
    · simp only [c6, if_true]; exact hq1 (ht.mpr c6)
    · simp only [c6, if_false]; exact hq0 (fun q => c6 (ht.mp q))
  · have c2 : ¬ ((i % 4 : Nat) : Int) = 3 := by omega
    have ht := tok_n (n := n) (tb := tb) c1
    have g1 := @tm_rng n tb ((i : Int) - 1)
    have g2 := @tm_rng n tb ((i : Int) - 1 - 4)
    have g3 := @tf_rng n tb (i : Int)
    have fin : ∀ (b : Prop) [Decidable b], (b ↔ (i % 4 = 1 ∧ 4 < i ∧ tm n tb ((i : Int) - 1) < tm n tb ((i : Int) - 1 - 4))) → en_Ev XX4_goesOnAt 73 [some (.ref 3), some (.int (zI i)), some (.int (zT b))] [] w Q := by
      intro b _ hb
      simp (disch := omega) only [eX4_goesOnAt_0, eX4_goesOnAt_1, eX4_goesOnAt_2, eX4_goesOnAt_3, eX4_goesOnAt_4, eX4_goesOnAt_7, eX4_goesOnAt_8, eX4_goesOnAt_11, eX4_goesOnAt_12, eX4_goesOnAt_13, eX4_goesOnAt_16, eX4_goesOnAt_19, eX4_goesOnAt_20, eX4_goesOnAt_23, eX4_goesOnAt_24, eX4_goesOnAt_25, eX4_goesOnAt_27, eX4_goesOnAt_30, eX4_goesOnAt_31, eX4_goesOnAt_34, eX4_goesOnAt_35, eX4_goesOnAt_36, eX4_goesOnAt_37, eX4_goesOnAt_38, eX4_goesOnAt_39, eX4_goesOnAt_40, eX4_goesOnAt_43, eX4_goesOnAt_44, eX4_goesOnAt_45, eX4_goesOnAt_48, eX4_goesOnAt_49, eX4_goesOnAt_50, eX4_goesOnAt_51, eX4_goesOnAt_52, eX4_goesOnAt_55, eX4_goesOnAt_56, eX4_goesOnAt_57, eX4_goesOnAt_58, eX4_goesOnAt_59, eX4_goesOnAt_60, eX4_goesOnAt_61, eX4_goesOnAt_64, eX4_goesOnAt_67, eX4_goesOnAt_68, eX4_goesOnAt_71, eX4_goesOnAt_72, eX4_goesOnAt_73, eX4_goesOnAt_74, eX4_goesOnAt_75, eX4_goesOnAt_78, eX4_goesOnAt_79, eX4_goesOnAt_82, eX4_goesOnAt_83, eX4_goesOnAt_86, eX4_goesOnAt_87, eX4_goesOnAt_90, eX4_goesOnAt_91, en_kl_0, en_kl_i, en_kl_r, en_kl_n, en_kl_l, en_Ec_some, en_Ec_void, en_rcv, en_stk, List.map_cons, List.map_nil, List.sum_cons, List.sum_nil, Value.category, Nat.reduceAdd, Nat.reduceLeDiff, decide_true, true_and, and_true, and_self, zI_add, zI_sub, zI_mul, zI_neg, zI_lt, zI_le, zI_eq, zI_cl, zI_0, zI_1, zI_m1, zI_lit, zT_0, zT_01, zI_01, zI_11, ↓reduceIte, if_true, if_false, not_false_eq_true, not_true_eq_false, Int.reduceEq, Int.reduceLT, Int.reduceLE, Classical.not_not, Bool.false_eq_true, en_s3]
      rw [s_figureAt hd' (by omega) (by omega)]
      simp (disch := omega) only [eX4_goesOnAt_0, eX4_goesOnAt_1, eX4_goesOnAt_2, eX4_goesOnAt_3, eX4_goesOnAt_4, eX4_goesOnAt_7, eX4_goesOnAt_8, eX4_goesOnAt_11, eX4_goesOnAt_12, eX4_goesOnAt_13, eX4_goesOnAt_16, eX4_goesOnAt_19, eX4_goesOnAt_20, eX4_goesOnAt_23, eX4_goesOnAt_24, eX4_goesOnAt_25, eX4_goesOnAt_27, eX4_goesOnAt_30, eX4_goesOnAt_31, eX4_goesOnAt_34, eX4_goesOnAt_35, eX4_goesOnAt_36, eX4_goesOnAt_37, eX4_goesOnAt_38, eX4_goesOnAt_39, eX4_goesOnAt_40, eX4_goesOnAt_43, eX4_goesOnAt_44, eX4_goesOnAt_45, eX4_goesOnAt_48, eX4_goesOnAt_49, eX4_goesOnAt_50, eX4_goesOnAt_51, eX4_goesOnAt_52, eX4_goesOnAt_55, eX4_goesOnAt_56, eX4_goesOnAt_57, eX4_goesOnAt_58, eX4_goesOnAt_59, eX4_goesOnAt_60, eX4_goesOnAt_61, eX4_goesOnAt_64, eX4_goesOnAt_67, eX4_goesOnAt_68, eX4_goesOnAt_71, eX4_goesOnAt_72, eX4_goesOnAt_73, eX4_goesOnAt_74, eX4_goesOnAt_75, eX4_goesOnAt_78, eX4_goesOnAt_79, eX4_goesOnAt_82, eX4_goesOnAt_83, eX4_goesOnAt_86, eX4_goesOnAt_87, eX4_goesOnAt_90, eX4_goesOnAt_91, en_kl_0, en_kl_i, en_kl_r, en_kl_n, en_kl_l, en_Ec_some, en_Ec_void, en_rcv, en_stk, List.map_cons, List.map_nil, List.sum_cons, List.sum_nil, Value.category, Nat.reduceAdd, Nat.reduceLeDiff, decide_true, true_and, and_true, and_self, zI_add, zI_sub, zI_mul, zI_neg, zI_lt, zI_le, zI_eq, zI_cl, zI_0, zI_1, zI_m1, zI_lit, zT_0, zT_01, zI_01, zI_11, ↓reduceIte, if_true, if_false, not_false_eq_true, not_true_eq_false, Int.reduceEq, Int.reduceLT, Int.reduceLE, Classical.not_not, Bool.false_eq_true, en_s3]
      by_cases c6 : tf n tb (i : Int) = -1
      · simp only [c6, if_true]
        exact hq0 (fun q => (ht.mp q).1 c6)
      · by_cases c7 : b
        · simp only [c6, c7, if_false, not_true_eq_false]
          exact hq0 (fun q => (ht.mp q).2 (hb.mp c7))
        · simp only [c6, c7, if_false, not_false_eq_true, if_true]
          exact hq1 (ht.mpr ⟨c6, fun q => c7 (hb.mpr q)⟩)
    have fin1 := fin True
    have fin0 := fin False
    rw [zT_t trivial] at fin1
    rw [zT_f not_false] at fin0
    by_cases c3 : i % 4 = 1
    · have c4 : ((i % 4 : Nat) : Int) = 1 := by omega
      by_cases c5 : (i : Int) ≤ 4
      · have c8 : ¬ (1 : Int) = 3 := by omega
        simp (disch := omega) only [eX4_goesOnAt_0, eX4_goesOnAt_1, eX4_goesOnAt_2, eX4_goesOnAt_3, eX4_goesOnAt_4, eX4_goesOnAt_7, eX4_goesOnAt_8, eX4_goesOnAt_11, eX4_goesOnAt_12, eX4_goesOnAt_13, eX4_goesOnAt_16, eX4_goesOnAt_19, eX4_goesOnAt_20, eX4_goesOnAt_23, eX4_goesOnAt_24, eX4_goesOnAt_25, eX4_goesOnAt_27, eX4_goesOnAt_30, eX4_goesOnAt_31, eX4_goesOnAt_34, eX4_goesOnAt_35, eX4_goesOnAt_36, eX4_goesOnAt_37, eX4_goesOnAt_38, eX4_goesOnAt_39, eX4_goesOnAt_40, eX4_goesOnAt_43, eX4_goesOnAt_44, eX4_goesOnAt_45, eX4_goesOnAt_48, eX4_goesOnAt_49, eX4_goesOnAt_50, eX4_goesOnAt_51, eX4_goesOnAt_52, eX4_goesOnAt_55, eX4_goesOnAt_56, eX4_goesOnAt_57, eX4_goesOnAt_58, eX4_goesOnAt_59, eX4_goesOnAt_60, eX4_goesOnAt_61, eX4_goesOnAt_64, eX4_goesOnAt_67, eX4_goesOnAt_68, eX4_goesOnAt_71, eX4_goesOnAt_72, eX4_goesOnAt_74, eX4_goesOnAt_75, eX4_goesOnAt_78, eX4_goesOnAt_79, eX4_goesOnAt_82, eX4_goesOnAt_83, eX4_goesOnAt_86, eX4_goesOnAt_87, eX4_goesOnAt_90, eX4_goesOnAt_91, en_kl_0, en_kl_i, en_kl_r, en_kl_n, en_kl_l, en_Ec_some, en_Ec_void, en_rcv, en_stk, List.map_cons, List.map_nil, List.sum_cons, List.sum_nil, Value.category, Nat.reduceAdd, Nat.reduceLeDiff, decide_true, true_and, and_true, and_self, zI_add, zI_sub, zI_mul, zI_neg, zI_lt, zI_le, zI_eq, zI_cl, zI_0, zI_1, zI_m1, zI_lit, zT_0, zT_01, zI_01, zI_11, ↓reduceIte, if_true, if_false, not_false_eq_true, not_true_eq_false, Int.reduceEq, Int.reduceLT, Int.reduceLE, Classical.not_not, Bool.false_eq_true, en_s3, r4, c0, c2, c4, c5, c8]
        exact fin0 ⟨fun q => q.elim, fun q => by omega⟩
      · have c8 : ¬ (1 : Int) = 3 := by omega
        simp (disch := omega) only [eX4_goesOnAt_0, eX4_goesOnAt_1, eX4_goesOnAt_2, eX4_goesOnAt_3, eX4_goesOnAt_4, eX4_goesOnAt_7, eX4_goesOnAt_8, eX4_goesOnAt_11, eX4_goesOnAt_12, eX4_goesOnAt_13, eX4_goesOnAt_16, eX4_goesOnAt_19, eX4_goesOnAt_20, eX4_goesOnAt_23, eX4_goesOnAt_24, eX4_goesOnAt_25, eX4_goesOnAt_27, eX4_goesOnAt_30, eX4_goesOnAt_31, eX4_goesOnAt_34, eX4_goesOnAt_35, eX4_goesOnAt_36, eX4_goesOnAt_37, eX4_goesOnAt_38, eX4_goesOnAt_39, eX4_goesOnAt_40, eX4_goesOnAt_43, eX4_goesOnAt_44, eX4_goesOnAt_45, eX4_goesOnAt_48, eX4_goesOnAt_49, eX4_goesOnAt_50, eX4_goesOnAt_51, eX4_goesOnAt_52, eX4_goesOnAt_55, eX4_goesOnAt_56, eX4_goesOnAt_57, eX4_goesOnAt_58, eX4_goesOnAt_59, eX4_goesOnAt_60, eX4_goesOnAt_61, eX4_goesOnAt_64, eX4_goesOnAt_67, eX4_goesOnAt_68, eX4_goesOnAt_71, eX4_goesOnAt_72, eX4_goesOnAt_74, eX4_goesOnAt_75, eX4_goesOnAt_78, eX4_goesOnAt_79, eX4_goesOnAt_82, eX4_goesOnAt_83, eX4_goesOnAt_86, eX4_goesOnAt_87, eX4_goesOnAt_90, eX4_goesOnAt_91, en_kl_0, en_kl_i, en_kl_r, en_kl_n, en_kl_l, en_Ec_some, en_Ec_void, en_rcv, en_stk, List.map_cons, List.map_nil, List.sum_cons, List.sum_nil, Value.category, Nat.reduceAdd, Nat.reduceLeDiff, decide_true, true_and, and_true, and_self, zI_add, zI_sub, zI_mul, zI_neg, zI_lt, zI_le, zI_eq, zI_cl, zI_0, zI_1, zI_m1, zI_lit, zT_0, zT_01, zI_01, zI_11, ↓reduceIte, if_true, if_false, not_false_eq_true, not_true_eq_false, Int.reduceEq, Int.reduceLT, Int.reduceLE, Classical.not_not, Bool.false_eq_true, en_s3, r4, c0, c2, c4, c5, c8]
        rw [s_minuteAt hd' (by omega) (by omega)]
        simp (disch := omega) only [eX4_goesOnAt_0, eX4_goesOnAt_1, eX4_goesOnAt_2, eX4_goesOnAt_3, eX4_goesOnAt_4, eX4_goesOnAt_7, eX4_goesOnAt_8, eX4_goesOnAt_11, eX4_goesOnAt_12, eX4_goesOnAt_13, eX4_goesOnAt_16, eX4_goesOnAt_19, eX4_goesOnAt_20, eX4_goesOnAt_23, eX4_goesOnAt_24, eX4_goesOnAt_25, eX4_goesOnAt_27, eX4_goesOnAt_30, eX4_goesOnAt_31, eX4_goesOnAt_34, eX4_goesOnAt_35, eX4_goesOnAt_36, eX4_goesOnAt_37, eX4_goesOnAt_38, eX4_goesOnAt_39, eX4_goesOnAt_40, eX4_goesOnAt_43, eX4_goesOnAt_44, eX4_goesOnAt_45, eX4_goesOnAt_48, eX4_goesOnAt_49, eX4_goesOnAt_50, eX4_goesOnAt_51, eX4_goesOnAt_52, eX4_goesOnAt_55, eX4_goesOnAt_56, eX4_goesOnAt_57, eX4_goesOnAt_58, eX4_goesOnAt_59, eX4_goesOnAt_60, eX4_goesOnAt_61, eX4_goesOnAt_64, eX4_goesOnAt_67, eX4_goesOnAt_68, eX4_goesOnAt_71, eX4_goesOnAt_72, eX4_goesOnAt_74, eX4_goesOnAt_75, eX4_goesOnAt_78, eX4_goesOnAt_79, eX4_goesOnAt_82, eX4_goesOnAt_83, eX4_goesOnAt_86, eX4_goesOnAt_87, eX4_goesOnAt_90, eX4_goesOnAt_91, en_kl_0, en_kl_i, en_kl_r, en_kl_n, en_kl_l, en_Ec_some, en_Ec_void, en_rcv, en_stk, List.map_cons, List.map_nil, List.sum_cons, List.sum_nil, Value.category, Nat.reduceAdd, Nat.reduceLeDiff, decide_true, true_and, and_true, and_self, zI_add, zI_sub, zI_mul, zI_neg, zI_lt, zI_le, zI_eq, zI_cl, zI_0, zI_1, zI_m1, zI_lit, zT_0, zT_01, zI_01, zI_11, ↓reduceIte, if_true, if_false, not_false_eq_true, not_true_eq_false, Int.reduceEq, Int.reduceLT, Int.reduceLE, Classical.not_not, Bool.false_eq_true, en_s3, r4, c0, c2, c4, c5]
        rw [s_minuteAt hd' (by omega) (by omega)]
        simp (disch := omega) only [eX4_goesOnAt_0, eX4_goesOnAt_1, eX4_goesOnAt_2, eX4_goesOnAt_3, eX4_goesOnAt_4, eX4_goesOnAt_7, eX4_goesOnAt_8, eX4_goesOnAt_11, eX4_goesOnAt_12, eX4_goesOnAt_13, eX4_goesOnAt_16, eX4_goesOnAt_19, eX4_goesOnAt_20, eX4_goesOnAt_23, eX4_goesOnAt_24, eX4_goesOnAt_25, eX4_goesOnAt_27, eX4_goesOnAt_30, eX4_goesOnAt_31, eX4_goesOnAt_34, eX4_goesOnAt_35, eX4_goesOnAt_36, eX4_goesOnAt_37, eX4_goesOnAt_38, eX4_goesOnAt_39, eX4_goesOnAt_40, eX4_goesOnAt_43, eX4_goesOnAt_44, eX4_goesOnAt_45, eX4_goesOnAt_48, eX4_goesOnAt_49, eX4_goesOnAt_50, eX4_goesOnAt_51, eX4_goesOnAt_52, eX4_goesOnAt_55, eX4_goesOnAt_56, eX4_goesOnAt_57, eX4_goesOnAt_58, eX4_goesOnAt_59, eX4_goesOnAt_60, eX4_goesOnAt_61, eX4_goesOnAt_64, eX4_goesOnAt_67, eX4_goesOnAt_68, eX4_goesOnAt_71, eX4_goesOnAt_72, eX4_goesOnAt_74, eX4_goesOnAt_75, eX4_goesOnAt_78, eX4_goesOnAt_79, eX4_goesOnAt_82, eX4_goesOnAt_83, eX4_goesOnAt_86, eX4_goesOnAt_87, eX4_goesOnAt_90, eX4_goesOnAt_91, en_kl_0, en_kl_i, en_kl_r, en_kl_n, en_kl_l, en_Ec_some, en_Ec_void, en_rcv, en_stk, List.map_cons, List.map_nil, List.sum_cons, List.sum_nil, Value.category, Nat.reduceAdd, Nat.reduceLeDiff, decide_true, true_and, and_true, and_self, zI_add, zI_sub, zI_mul, zI_neg, zI_lt, zI_le, zI_eq, zI_cl, zI_0, zI_1, zI_m1, zI_lit, zT_0, zT_01, zI_01, zI_11, ↓reduceIte, if_true, if_false, not_false_eq_true, not_true_eq_false, Int.reduceEq, Int.reduceLT, Int.reduceLE, Classical.not_not, Bool.false_eq_true, en_s3, r4, c0, c2, c4, c5]
        by_cases c7 : tm n tb ((i : Int) - 1 - 4) ≤ tm n tb ((i : Int) - 1)
        · simp only [c7, if_true]
          exact fin0 ⟨fun q => q.elim, fun q => by omega⟩
        · simp only [c7, if_false]
          exact fin1 ⟨fun _ => ⟨c3, by omega, by omega⟩, fun _ => trivial⟩
    · have c4 : ¬ ((i % 4 : Nat) : Int) = 1 := by omega
      simp (disch := omega) only [eX4_goesOnAt_0, eX4_goesOnAt_1, eX4_goesOnAt_2, eX4_goesOnAt_3, eX4_goesOnAt_4, eX4_goesOnAt_7, eX4_goesOnAt_8, eX4_goesOnAt_11, eX4_goesOnAt_12, eX4_goesOnAt_13, eX4_goesOnAt_16, eX4_goesOnAt_19, eX4_goesOnAt_20, eX4_goesOnAt_23, eX4_goesOnAt_24, eX4_goesOnAt_25, eX4_goesOnAt_27, eX4_goesOnAt_30, eX4_goesOnAt_31, eX4_goesOnAt_34, eX4_goesOnAt_35, eX4_goesOnAt_36, eX4_goesOnAt_37, eX4_goesOnAt_38, eX4_goesOnAt_39, eX4_goesOnAt_40, eX4_goesOnAt_43, eX4_goesOnAt_44, eX4_goesOnAt_45, eX4_goesOnAt_48, eX4_goesOnAt_49, eX4_goesOnAt_50, eX4_goesOnAt_51, eX4_goesOnAt_52, eX4_goesOnAt_55, eX4_goesOnAt_56, eX4_goesOnAt_57, eX4_goesOnAt_58, eX4_goesOnAt_59, eX4_goesOnAt_60, eX4_goesOnAt_61, eX4_goesOnAt_64, eX4_goesOnAt_67, eX4_goesOnAt_68, eX4_goesOnAt_71, eX4_goesOnAt_72, eX4_goesOnAt_74, eX4_goesOnAt_75, eX4_goesOnAt_78, eX4_goesOnAt_79, eX4_goesOnAt_82, eX4_goesOnAt_83, eX4_goesOnAt_86, eX4_goesOnAt_87, eX4_goesOnAt_90, eX4_goesOnAt_91, en_kl_0, en_kl_i, en_kl_r, en_kl_n, en_kl_l, en_Ec_some, en_Ec_void, en_rcv, en_stk, List.map_cons, List.map_nil, List.sum_cons, List.sum_nil, Value.category, Nat.reduceAdd, Nat.reduceLeDiff, decide_true, true_and, and_true, and_self, zI_add, zI_sub, zI_mul, zI_neg, zI_lt, zI_le, zI_eq, zI_cl, zI_0, zI_1, zI_m1, zI_lit, zT_0, zT_01, zI_01, zI_11, ↓reduceIte, if_true, if_false, not_false_eq_true, not_true_eq_false, Int.reduceEq, Int.reduceLT, Int.reduceLE, Classical.not_not, Bool.false_eq_true, en_s3, r4, c0, c2, c4]
      exact fin0 ⟨fun q => q.elim, fun q => c3 q.1⟩
theorem s_findFault (hd : en_tD w n tb) : SX4_findFault [.ref 3] w = some (some (.int (zI (tfault n tb))), w) := by
  have hd' := hd
  obtain ⟨d1, d2, d3⟩ := hd
  refine en_val rfl (fun Q hQ => ?_)
  show en_Ev XX4_findFault 0 [some (.ref 3), none] [] w Q
  have r4 := zI_rem4 (a := n) (by omega)
  have c0 : ¬ (4 : Int) = 0 := by omega
  have loop : ∀ (d i : Nat), i + d = n → Q (some (.int (zI (tF n tb d i)))) w → en_Ev XX4_findFault 2 [some (.ref 3), some (.int (zI i))] [] w Q := by
    intro d
    induction d with
    | zero =>
      intro i h3 hq
      have c1 : (n : Int) ≤ (i : Int) := by omega
      unfold tF at hq
      rw [eX4_findFault_2]
      by_cases c2 : n = 0
      · have c3 : (n : Int) = 0 := by omega
        rw [if_pos (Or.inl c2)] at hq
        simp (disch := omega) only [eX4_findFault_0, eX4_findFault_1, eX4_findFault_3, eX4_findFault_4, eX4_findFault_7, eX4_findFault_10, eX4_findFault_11, eX4_findFault_12, eX4_findFault_15, eX4_findFault_18, eX4_findFault_19, eX4_findFault_20, eX4_findFault_23, eX4_findFault_26, eX4_findFault_27, eX4_findFault_30, eX4_findFault_33, eX4_findFault_34, eX4_findFault_37, eX4_findFault_38, eX4_findFault_39, eX4_findFault_40, eX4_findFault_43, eX4_findFault_44, eX4_findFault_47, eX4_findFault_48, eX4_findFault_49, eX4_findFault_50, eX4_findFault_53, eX4_findFault_54, eX4_findFault_57, eX4_findFault_58, eX4_findFault_61, en_kl_0, en_kl_i, en_kl_r, en_kl_n, en_kl_l, en_Ec_some, en_Ec_void, en_rcv, en_stk, List.map_cons, List.map_nil, List.sum_cons, List.sum_nil, Value.category, Nat.reduceAdd, Nat.reduceLeDiff, decide_true, true_and, and_true, and_self, zI_add, zI_sub, zI_mul, zI_neg, zI_lt, zI_le, zI_eq, zI_cl, zI_0, zI_1, zI_m1, zI_lit, zT_0, zT_01, zI_01, zI_11, ↓reduceIte, if_true, if_false, not_false_eq_true, not_true_eq_false, Int.reduceEq, Int.reduceLT, Int.reduceLE, Classical.not_not, Bool.false_eq_true, en_s3, d1, c1, c3]
        exact hq
      · have c3 : ¬ (n : Int) = 0 := by omega
        by_cases c4 : n % 4 = 3
        · have c5 : ((n % 4 : Nat) : Int) = 3 := by omega
          rw [if_pos (Or.inr c4)] at hq
          simp (disch := omega) only [eX4_findFault_0, eX4_findFault_1, eX4_findFault_3, eX4_findFault_4, eX4_findFault_7, eX4_findFault_10, eX4_findFault_11, eX4_findFault_12, eX4_findFault_15, eX4_findFault_18, eX4_findFault_19, eX4_findFault_20, eX4_findFault_23, eX4_findFault_26, eX4_findFault_27, eX4_findFault_30, eX4_findFault_33, eX4_findFault_34, eX4_findFault_37, eX4_findFault_38, eX4_findFault_39, eX4_findFault_40, eX4_findFault_43, eX4_findFault_44, eX4_findFault_47, eX4_findFault_48, eX4_findFault_49, eX4_findFault_50, eX4_findFault_53, eX4_findFault_54, eX4_findFault_57, eX4_findFault_58, eX4_findFault_61, en_kl_0, en_kl_i, en_kl_r, en_kl_n, en_kl_l, en_Ec_some, en_Ec_void, en_rcv, en_stk, List.map_cons, List.map_nil, List.sum_cons, List.sum_nil, Value.category, Nat.reduceAdd, Nat.reduceLeDiff, decide_true, true_and, and_true, and_self, zI_add, zI_sub, zI_mul, zI_neg, zI_lt, zI_le, zI_eq, zI_cl, zI_0, zI_1, zI_m1, zI_lit, zT_0, zT_01, zI_01, zI_11, ↓reduceIte, if_true, if_false, not_false_eq_true, not_true_eq_false, Int.reduceEq, Int.reduceLT, Int.reduceLE, Classical.not_not, Bool.false_eq_true, en_s3, d1, c1, c3, r4, c0, c5]
          exact hq
        · have c5 : ¬ ((n % 4 : Nat) : Int) = 3 := by omega
          rw [if_neg (by omega)] at hq
          simp (disch := omega) only [eX4_findFault_0, eX4_findFault_1, eX4_findFault_3, eX4_findFault_4, eX4_findFault_7, eX4_findFault_10, eX4_findFault_11, eX4_findFault_12, eX4_findFault_15, eX4_findFault_18, eX4_findFault_19, eX4_findFault_20, eX4_findFault_23, eX4_findFault_26, eX4_findFault_27, eX4_findFault_30, eX4_findFault_33, eX4_findFault_34, eX4_findFault_37, eX4_findFault_38, eX4_findFault_39, eX4_findFault_40, eX4_findFault_43, eX4_findFault_44, eX4_findFault_47, eX4_findFault_48, eX4_findFault_49, eX4_findFault_50, eX4_findFault_53, eX4_findFault_54, eX4_findFault_57, eX4_findFault_58, eX4_findFault_61, en_kl_0, en_kl_i, en_kl_r, en_kl_n, en_kl_l, en_Ec_some, en_Ec_void, en_rcv, en_stk, List.map_cons, List.map_nil, List.sum_cons, List.sum_nil, Value.category, Nat.reduceAdd, Nat.reduceLeDiff, decide_true, true_and, and_true, and_self, zI_add, zI_sub, zI_mul, zI_neg, zI_lt, zI_le, zI_eq, zI_cl, zI_0, zI_1, zI_m1, zI_lit, zT_0, zT_01, zI_01, zI_11, ↓reduceIte, if_true, if_false, not_false_eq_true, not_true_eq_false, Int.reduceEq, Int.reduceLT, Int.reduceLE, Classical.not_not, Bool.false_eq_true, en_s3, d1, c1, c3, r4, c0, c5]
          exact hq
    | succ d ih =>
      intro i h3 hq
      have c1 : ¬ (n : Int) ≤ (i : Int) := by omega
      rw [eX4_findFault_2]
      simp (disch := omega) only [eX4_findFault_0, eX4_findFault_1, eX4_findFault_3, eX4_findFault_4, eX4_findFault_7, eX4_findFault_10, eX4_findFault_11, eX4_findFault_12, eX4_findFault_15, eX4_findFault_18, eX4_findFault_19, eX4_findFault_20, eX4_findFault_23, eX4_findFault_26, eX4_findFault_27, eX4_findFault_30, eX4_findFault_33, eX4_findFault_34, eX4_findFault_37, eX4_findFault_38, eX4_findFault_39, eX4_findFault_40, eX4_findFault_43, eX4_findFault_44, eX4_findFault_47, eX4_findFault_48, eX4_findFault_49, eX4_findFault_50, eX4_findFault_53, eX4_findFault_54, eX4_findFault_57, eX4_findFault_58, eX4_findFault_61, en_kl_0, en_kl_i, en_kl_r, en_kl_n, en_kl_l, en_Ec_some, en_Ec_void, en_rcv, en_stk, List.map_cons, List.map_nil, List.sum_cons, List.sum_nil, Value.category, Nat.reduceAdd, Nat.reduceLeDiff, decide_true, true_and, and_true, and_self, zI_add, zI_sub, zI_mul, zI_neg, zI_lt, zI_le, zI_eq, zI_cl, zI_0, zI_1, zI_m1, zI_lit, zT_0, zT_01, zI_01, zI_11, ↓reduceIte, if_true, if_false, not_false_eq_true, not_true_eq_false, Int.reduceEq, Int.reduceLT, Int.reduceLE, Classical.not_not, Bool.false_eq_true, en_s3, d1, c1]
      rw [s_goesOnAt hd' (by omega)]
      unfold tF at hq
      by_cases c2 : tok n tb i
      · rw [if_pos c2] at hq
        rw [zT_t c2]
        have c3 : ¬ (1 : Int) = 0 := by omega
        simp (disch := omega) only [eX4_findFault_0, eX4_findFault_1, eX4_findFault_3, eX4_findFault_4, eX4_findFault_7, eX4_findFault_10, eX4_findFault_11, eX4_findFault_12, eX4_findFault_15, eX4_findFault_18, eX4_findFault_19, eX4_findFault_20, eX4_findFault_23, eX4_findFault_26, eX4_findFault_27, eX4_findFault_30, eX4_findFault_33, eX4_findFault_34, eX4_findFault_37, eX4_findFault_38, eX4_findFault_39, eX4_findFault_40, eX4_findFault_43, eX4_findFault_44, eX4_findFault_47, eX4_findFault_48, eX4_findFault_49, eX4_findFault_50, eX4_findFault_53, eX4_findFault_54, eX4_findFault_57, eX4_findFault_58, eX4_findFault_61, en_kl_0, en_kl_i, en_kl_r, en_kl_n, en_kl_l, en_Ec_some, en_Ec_void, en_rcv, en_stk, List.map_cons, List.map_nil, List.sum_cons, List.sum_nil, Value.category, Nat.reduceAdd, Nat.reduceLeDiff, decide_true, true_and, and_true, and_self, zI_add, zI_sub, zI_mul, zI_neg, zI_lt, zI_le, zI_eq, zI_cl, zI_0, zI_1, zI_m1, zI_lit, zT_0, zT_01, zI_01, zI_11, ↓reduceIte, if_true, if_false, not_false_eq_true, not_true_eq_false, Int.reduceEq, Int.reduceLT, Int.reduceLE, Classical.not_not, Bool.false_eq_true, en_s3, d1, c3]
        exact ih (i + 1) (by omega) hq
      · rw [if_neg c2] at hq
        rw [zT_f c2]
        simp (disch := omega) only [eX4_findFault_0, eX4_findFault_1, eX4_findFault_3, eX4_findFault_4, eX4_findFault_7, eX4_findFault_10, eX4_findFault_11, eX4_findFault_12, eX4_findFault_15, eX4_findFault_18, eX4_findFault_19, eX4_findFault_20, eX4_findFault_23, eX4_findFault_26, eX4_findFault_27, eX4_findFault_30, eX4_findFault_33, eX4_findFault_34, eX4_findFault_37, eX4_findFault_38, eX4_findFault_39, eX4_findFault_40, eX4_findFault_43, eX4_findFault_44, eX4_findFault_47, eX4_findFault_48, eX4_findFault_49, eX4_findFault_50, eX4_findFault_53, eX4_findFault_54, eX4_findFault_57, eX4_findFault_58, eX4_findFault_61, en_kl_0, en_kl_i, en_kl_r, en_kl_n, en_kl_l, en_Ec_some, en_Ec_void, en_rcv, en_stk, List.map_cons, List.map_nil, List.sum_cons, List.sum_nil, Value.category, Nat.reduceAdd, Nat.reduceLeDiff, decide_true, true_and, and_true, and_self, zI_add, zI_sub, zI_mul, zI_neg, zI_lt, zI_le, zI_eq, zI_cl, zI_0, zI_1, zI_m1, zI_lit, zT_0, zT_01, zI_01, zI_11, ↓reduceIte, if_true, if_false, not_false_eq_true, not_true_eq_false, Int.reduceEq, Int.reduceLT, Int.reduceLE, Classical.not_not, Bool.false_eq_true, en_s3, d1]
        exact hq
  simp (disch := omega) only [eX4_findFault_0, eX4_findFault_1, en_kl_0, en_kl_i, en_kl_r, en_kl_n, en_kl_l, en_Ec_some, en_Ec_void, en_rcv, en_stk, List.map_cons, List.map_nil, List.sum_cons, List.sum_nil, Value.category, Nat.reduceAdd, Nat.reduceLeDiff, decide_true, true_and, and_true, and_self, zI_add, zI_sub, zI_mul, zI_neg, zI_lt, zI_le, zI_eq, zI_cl, zI_0, zI_1, zI_m1, zI_lit, zT_0, zT_01, zI_01, zI_11, ↓reduceIte, if_true, if_false, not_false_eq_true, not_true_eq_false, Int.reduceEq, Int.reduceLT, Int.reduceLE, Classical.not_not, Bool.false_eq_true]
  exact loop n 0 (by omega) hQ
theorem s_bytesHeld (hd : en_tD w n tb) : SX4_bytesHeld [.ref 3] w = some (some (.int (zI n)), w) := by
  refine en_val rfl (fun Q hQ => ?_)
  show en_Ev XX4_bytesHeld 0 [some (.ref 3)] [] w Q
  simp only [eX4_bytesHeld_0, eX4_bytesHeld_1, eX4_bytesHeld_4, en_kl_0, en_kl_i, en_kl_r, en_kl_n, en_kl_l, en_Ec_some, en_Ec_void, en_rcv, en_stk, List.map_cons, List.map_nil, List.sum_cons, List.sum_nil, Value.category, Nat.reduceAdd, Nat.reduceLeDiff, decide_true, true_and, and_true, and_self, en_s3, hd.1]
  exact hQ
theorem s_faultPlace (hd : en_slip w n tb) : SX4_faultPlace [.ref 3] w = some (some (.int (zI (tfault n tb))), w) := by
  refine en_val rfl (fun Q hQ => ?_)
  show en_Ev XX4_faultPlace 0 [some (.ref 3)] [] w Q
  simp only [eX4_faultPlace_0, eX4_faultPlace_1, eX4_faultPlace_4, en_kl_0, en_kl_i, en_kl_r, en_kl_n, en_kl_l, en_Ec_some, en_Ec_void, en_rcv, en_stk, List.map_cons, List.map_nil, List.sum_cons, List.sum_nil, Value.category, Nat.reduceAdd, Nat.reduceLeDiff, decide_true, true_and, and_true, and_self, en_s3, hd.2.1]
  exact hQ
theorem s_slipCoins : SX4_coins [.ref 3] w = some (some (.ref 5), w) := by
  refine en_val rfl (fun Q hQ => ?_)
  show en_Ev XX4_coins 0 [some (.ref 3)] [] w Q
  simp only [eX4_coins_0, eX4_coins_1, eX4_coins_4, eX4_coins_4n, en_kl_0, en_kl_i, en_kl_r, en_kl_n, en_kl_l, en_Ec_some, en_Ec_void, en_rcv, en_stk, List.map_cons, List.map_nil, List.sum_cons, List.sum_nil, Value.category, Nat.reduceAdd, Nat.reduceLeDiff, decide_true, true_and, and_true, and_self, en_s3, en_t31]
  exact hQ
end
