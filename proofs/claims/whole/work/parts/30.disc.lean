/-! ===== Disc: what its methods answer ===== -/
def en_disc (k : Nat) : Prop := en_is k 1 = true ∧ en_tg k 1 = k + 1 ∧ k + 1 < 62 ∧ en_al (k + 1) = some 9
theorem en_disc_at : ∀ r, r < 10 → en_disc (34 + 2 * r) := by unfold en_disc; decide +kernel
/-- a disc's numbers: G grooves, from groove j the arm goes to s j (-1: on) -/
def en_dD (w : en_W) (k : Nat) (G : Int) (s : Nat → Int) : Prop := en_disc k ∧ w k 0 = zI G ∧ 1 ≤ G ∧ G ≤ 9 ∧ ∀ j, j < 9 → w (k + 1) j = zI (s j) ∧ -1 ≤ s j ∧ s j ≤ 9
/-- where the arm goes from g with the scratches p waxed; -1: it has played -/
def mx (G : Int) (s : Nat → Int) (p : Nat) (g : Int) : Int :=
  if g < 0 ∨ 9 ≤ g then -1 else if s g.toNat = -1 ∨ p.testBit g.toNat = true then (if G ≤ g + 1 then -1 else g + 1) else if G ≤ s g.toNat then -1 else s g.toNat
/-- where it is after n minutes -/
def mp (G : Int) (s : Nat → Int) (p : Nat) : Nat → Int
  | 0 => 0
  | n + 1 => mx G s p (mp G s p n)
theorem mx_rng {G : Int} {s : Nat → Int} {p : Nat} {g : Int} (hs : ∀ j, j < 9 → -1 ≤ s j ∧ s j ≤ 9) (hG : G ≤ 9) : -1 ≤ mx G s p g ∧ mx G s p g ≤ 8 := by
  unfold mx
  split
  · omega
  · have := hs g.toNat (by omega)
    split
    · split <;> omega
    · split <;> omega
theorem mp_rng {G : Int} {s : Nat → Int} {p : Nat} (hs : ∀ j, j < 9 → -1 ≤ s j ∧ s j ≤ 9) (hG : G ≤ 9) : ∀ n, -1 ≤ mp G s p n ∧ mp G s p n ≤ 8
  | 0 => by unfold mp; omega
  | n + 1 => by unfold mp; exact mx_rng hs hG
theorem mx_m1 {G : Int} {s : Nat → Int} {p : Nat} : mx G s p (-1) = -1 := by unfold mx; rw [if_pos (by omega)]
theorem mp_m1 {G : Int} {s : Nat → Int} {p n : Nat} (h : mp G s p n = -1) : ∀ k, mp G s p (n + k) = -1
  | 0 => h
  | k + 1 => by
    show mx G s p (mp G s p (n + k)) = -1
    rw [mp_m1 h k, mx_m1]
/-- the minutes that it takes: f more to look at, from minute n on -/
def mn (G : Int) (s : Nat → Int) (kick : Int) : Nat → Nat → Int
  | 0, _ => kick
  | f + 1, n => if mp G s 0 (n + 1) = -1 then (n : Int) + 1 else mn G s kick f (n + 1)
section
variable {w : en_W} {k : Nat} {G : Int} {s : Nat → Int} {v g : Int}
theorem s_mayBeLong (h1 : -2147483648 ≤ v) (h2 : v < 2147483648) : SX1_mayBeLong [.int (zI v)] w = some (some (.int (zT (1 ≤ v ∧ v ≤ 9))), w) := by
  refine en_val rfl (fun Q hQ => ?_)
  show en_Ev XX1_mayBeLong 0 [some (.int (zI v))] [] w Q
  simp (disch := omega) only [eX1_mayBeLong_0, eX1_mayBeLong_1, eX1_mayBeLong_2, eX1_mayBeLong_5, eX1_mayBeLong_6, eX1_mayBeLong_8, eX1_mayBeLong_11, eX1_mayBeLong_12, eX1_mayBeLong_15, eX1_mayBeLong_16, en_kl_0, en_kl_i, en_kl_r, en_kl_n, en_kl_l, en_Ec_some, en_Ec_void, en_rcv, en_stk, List.map_cons, List.map_nil, List.sum_cons, List.sum_nil, Value.category, Nat.reduceAdd, Nat.reduceLeDiff, decide_true, true_and, and_true, and_self, zI_add, zI_sub, zI_mul, zI_neg, zI_lt, zI_le, zI_eq, zI_cl, zI_0, zI_1, zI_m1, zI_lit, zT_0, zT_01, zI_01, zI_11, ↓reduceIte, if_true, if_false, not_false_eq_true, not_true_eq_false, Int.reduceEq, Int.reduceLT, Int.reduceLE, Classical.not_not, Bool.false_eq_true]
  repeat' (first | split | apply And.intro)
  all_goals first | omega | exact hQ | (rw [zT_t (by omega)] at hQ; exact hQ) | (rw [zT_f (by omega)] at hQ; exact hQ)
theorem s_mayBeScratched (h1 : -2147483648 ≤ v) (h2 : v < 2147483648) : SX1_mayBeScratched [.int (zI v)] w = some (some (.int (zT (0 ≤ v ∧ v < 9))), w) := by
  refine en_val rfl (fun Q hQ => ?_)
  show en_Ev XX1_mayBeScratched 0 [some (.int (zI v))] [] w Q
  simp (disch := omega) only [eX1_mayBeScratched_0, eX1_mayBeScratched_1, eX1_mayBeScratched_4, eX1_mayBeScratched_5, eX1_mayBeScratched_7, eX1_mayBeScratched_10, eX1_mayBeScratched_11, eX1_mayBeScratched_14, eX1_mayBeScratched_15, en_kl_0, en_kl_i, en_kl_r, en_kl_n, en_kl_l, en_Ec_some, en_Ec_void, en_rcv, en_stk, List.map_cons, List.map_nil, List.sum_cons, List.sum_nil, Value.category, Nat.reduceAdd, Nat.reduceLeDiff, decide_true, true_and, and_true, and_self, zI_add, zI_sub, zI_mul, zI_neg, zI_lt, zI_le, zI_eq, zI_cl, zI_0, zI_1, zI_m1, zI_lit, zT_0, zT_01, zI_01, zI_11, ↓reduceIte, if_true, if_false, not_false_eq_true, not_true_eq_false, Int.reduceEq, Int.reduceLT, Int.reduceLE, Classical.not_not, Bool.false_eq_true]
  repeat' (first | split | apply And.intro)
  all_goals first | omega | exact hQ | (rw [zT_t (by omega)] at hQ; exact hQ) | (rw [zT_f (by omega)] at hQ; exact hQ)
theorem s_mayLeadTo (h1 : -2147483648 ≤ v) (h2 : v < 2147483648) : SX1_mayLeadTo [.int (zI v)] w = some (some (.int (zT (-1 ≤ v ∧ v ≤ 9))), w) := by
  refine en_val rfl (fun Q hQ => ?_)
  show en_Ev XX1_mayLeadTo 0 [some (.int (zI v))] [] w Q
  simp (disch := omega) only [eX1_mayLeadTo_0, eX1_mayLeadTo_1, eX1_mayLeadTo_2, eX1_mayLeadTo_5, eX1_mayLeadTo_6, eX1_mayLeadTo_8, eX1_mayLeadTo_11, eX1_mayLeadTo_12, eX1_mayLeadTo_15, eX1_mayLeadTo_16, en_kl_0, en_kl_i, en_kl_r, en_kl_n, en_kl_l, en_Ec_some, en_Ec_void, en_rcv, en_stk, List.map_cons, List.map_nil, List.sum_cons, List.sum_nil, Value.category, Nat.reduceAdd, Nat.reduceLeDiff, decide_true, true_and, and_true, and_self, zI_add, zI_sub, zI_mul, zI_neg, zI_lt, zI_le, zI_eq, zI_cl, zI_0, zI_1, zI_m1, zI_lit, zT_0, zT_01, zI_01, zI_11, ↓reduceIte, if_true, if_false, not_false_eq_true, not_true_eq_false, Int.reduceEq, Int.reduceLT, Int.reduceLE, Classical.not_not, Bool.false_eq_true]
  repeat' (first | split | apply And.intro)
  all_goals first | omega | exact hQ | (rw [zT_t (by omega)] at hQ; exact hQ) | (rw [zT_f (by omega)] at hQ; exact hQ)
theorem s_following {p : Nat} (hd : en_dD w k G s) (hp : p < 2147483648) (h1 : -2147483648 ≤ g) (h2 : g < 2147483647) : SX1_following [.ref k, .int (zI g), .int (nI p)] w = some (some (.int (zI (mx G s p g))), w) := by
  obtain ⟨⟨q1, q2, q3, q4⟩, hG, hG1, hG9, hs⟩ := hd
  refine en_val rfl (fun Q hQ => ?_)
  show en_Ev XX1_following 0 [some (.ref k), some (.int (zI g)), some (.int (nI p)), none, none] [] w Q
  by_cases c1 : g < 0 ∨ 9 ≤ g
  · have e : mx G s p g = -1 := by unfold mx; rw [if_pos c1]
    rw [e] at hQ
    simp (disch := omega) only [eX1_following_0, eX1_following_1, eX1_following_4, eX1_following_5, eX1_following_7, eX1_following_10, eX1_following_11, eX1_following_12, eX1_following_13, eX1_following_16, eX1_following_17, eX1_following_18, eX1_following_19, eX1_following_22, eX1_following_23, eX1_following_24, eX1_following_25, eX1_following_26, eX1_following_27, eX1_following_30, eX1_following_31, eX1_following_34, eX1_following_35, eX1_following_36, eX1_following_37, eX1_following_40, eX1_following_41, eX1_following_44, eX1_following_45, eX1_following_46, eX1_following_49, eX1_following_50, eX1_following_51, eX1_following_52, eX1_following_54, eX1_following_56, eX1_following_57, eX1_following_60, eX1_following_63, eX1_following_65, eX1_following_68, eX1_following_69, en_kl_0, en_kl_i, en_kl_r, en_kl_n, en_kl_l, en_Ec_some, en_Ec_void, en_rcv, en_stk, List.map_cons, List.map_nil, List.sum_cons, List.sum_nil, Value.category, Nat.reduceAdd, Nat.reduceLeDiff, decide_true, true_and, and_true, and_self, zI_add, zI_sub, zI_mul, zI_neg, zI_lt, zI_le, zI_eq, zI_cl, zI_0, zI_1, zI_m1, zI_lit, zT_0, zT_01, zI_01, zI_11, ↓reduceIte, if_true, if_false, not_false_eq_true, not_true_eq_false, Int.reduceEq, Int.reduceLT, Int.reduceLE, Classical.not_not, Bool.false_eq_true, q1, q2, en_ix_at q3 q4]
    by_cases c2 : g < 0
    · simp only [c2, if_true]; exact hQ
    · have c3 : ¬ g < 9 := by omega
      simp only [c2, c3, if_false]; exact hQ
  · have c2 : ¬ g < 0 := by omega
    have c3 : g < 9 := by omega
    have c4 : ¬ (9 : Nat) ≤ g.toNat := by omega
    obtain ⟨hs0, hs1, hs2⟩ := hs g.toNat (by omega)
    have hb : nI p >>> (zI g &&& 31) &&& 1 = zI (if p.testBit g.toNat = true then 1 else 0) := by
      have e1 : zI g = nI g.toNat := by rw [zI_nI, Int.toNat_of_nonneg (by omega)]
      rw [e1, zb_bit (by omega) (by omega), zI_nI]
      split <;> rfl
    unfold mx at hQ
    rw [if_neg c1] at hQ
    by_cases c5 : s g.toNat = -1
    · rw [if_pos (Or.inl c5)] at hQ
      have e5 : w (k + 1) g.toNat = zI (-1) := by rw [hs0, c5]
      simp (disch := omega) only [eX1_following_0, eX1_following_1, eX1_following_4, eX1_following_5, eX1_following_7, eX1_following_10, eX1_following_11, eX1_following_12, eX1_following_13, eX1_following_16, eX1_following_17, eX1_following_18, eX1_following_19, eX1_following_22, eX1_following_23, eX1_following_24, eX1_following_25, eX1_following_26, eX1_following_27, eX1_following_30, eX1_following_31, eX1_following_34, eX1_following_35, eX1_following_36, eX1_following_37, eX1_following_40, eX1_following_41, eX1_following_44, eX1_following_45, eX1_following_46, eX1_following_49, eX1_following_50, eX1_following_51, eX1_following_52, eX1_following_54, eX1_following_56, eX1_following_57, eX1_following_60, eX1_following_63, eX1_following_65, eX1_following_68, eX1_following_69, en_kl_0, en_kl_i, en_kl_r, en_kl_n, en_kl_l, en_Ec_some, en_Ec_void, en_rcv, en_stk, List.map_cons, List.map_nil, List.sum_cons, List.sum_nil, Value.category, Nat.reduceAdd, Nat.reduceLeDiff, decide_true, true_and, and_true, and_self, zI_add, zI_sub, zI_mul, zI_neg, zI_lt, zI_le, zI_eq, zI_cl, zI_0, zI_1, zI_m1, zI_lit, zT_0, zT_01, zI_01, zI_11, ↓reduceIte, if_true, if_false, not_false_eq_true, not_true_eq_false, Int.reduceEq, Int.reduceLT, Int.reduceLE, Classical.not_not, Bool.false_eq_true, q1, q2, en_ix_at q3 q4, c2, c3, c4, e5, hG, not_false_eq_true, or_self]
      split at hQ <;> rename_i c6
      · simp only [c6, if_true]; exact hQ
      · simp only [c6, if_false]; exact hQ
    · by_cases c7 : p.testBit g.toNat = true
      · rw [if_pos (Or.inr c7)] at hQ
        rw [if_pos c7] at hb
        simp (disch := omega) only [eX1_following_0, eX1_following_1, eX1_following_4, eX1_following_5, eX1_following_7, eX1_following_10, eX1_following_11, eX1_following_12, eX1_following_13, eX1_following_16, eX1_following_17, eX1_following_18, eX1_following_19, eX1_following_22, eX1_following_23, eX1_following_24, eX1_following_25, eX1_following_26, eX1_following_27, eX1_following_30, eX1_following_31, eX1_following_34, eX1_following_35, eX1_following_36, eX1_following_37, eX1_following_40, eX1_following_41, eX1_following_44, eX1_following_45, eX1_following_46, eX1_following_49, eX1_following_50, eX1_following_51, eX1_following_52, eX1_following_54, eX1_following_56, eX1_following_57, eX1_following_60, eX1_following_63, eX1_following_65, eX1_following_68, eX1_following_69, en_kl_0, en_kl_i, en_kl_r, en_kl_n, en_kl_l, en_Ec_some, en_Ec_void, en_rcv, en_stk, List.map_cons, List.map_nil, List.sum_cons, List.sum_nil, Value.category, Nat.reduceAdd, Nat.reduceLeDiff, decide_true, true_and, and_true, and_self, zI_cl, c2, c3, c4, q1, q2, en_ix_at q3 q4, hs0, hb]
        simp (disch := omega) only [zI_add, zI_sub, zI_mul, zI_neg, zI_lt, zI_le, zI_eq, zI_cl, zI_0, zI_1, zI_m1, zI_lit, zT_0, zT_01, zI_01, zI_11, ↓reduceIte, if_true, if_false, not_false_eq_true, not_true_eq_false, Int.reduceEq, Int.reduceLT, Int.reduceLE, Classical.not_not, Bool.false_eq_true, c2, c3, c4, c5, hG, not_false_eq_true, or_self]
        split at hQ <;> rename_i c6
        · simp (disch := omega) [c6, zI_eq]; exact hQ
        · simp (disch := omega) [c6, zI_eq]; exact hQ
      · rw [if_neg (by intro q; rcases q with q | q <;> contradiction)] at hQ
        rw [if_neg c7] at hb
        simp (disch := omega) only [eX1_following_0, eX1_following_1, eX1_following_4, eX1_following_5, eX1_following_7, eX1_following_10, eX1_following_11, eX1_following_12, eX1_following_13, eX1_following_16, eX1_following_17, eX1_following_18, eX1_following_19, eX1_following_22, eX1_following_23, eX1_following_24, eX1_following_25, eX1_following_26, eX1_following_27, eX1_following_30, eX1_following_31, eX1_following_34, eX1_following_35, eX1_following_36, eX1_following_37, eX1_following_40, eX1_following_41, eX1_following_44, eX1_following_45, eX1_following_46, eX1_following_49, eX1_following_50, eX1_following_51, eX1_following_52, eX1_following_54, eX1_following_56, eX1_following_57, eX1_following_60, eX1_following_63, eX1_following_65, eX1_following_68, eX1_following_69, en_kl_0, en_kl_i, en_kl_r, en_kl_n, en_kl_l, en_Ec_some, en_Ec_void, en_rcv, en_stk, List.map_cons, List.map_nil, List.sum_cons, List.sum_nil, Value.category, Nat.reduceAdd, Nat.reduceLeDiff, decide_true, true_and, and_true, and_self, zI_cl, c2, c3, c4, q1, q2, en_ix_at q3 q4, hs0, hb]
        simp (disch := omega) only [zI_add, zI_sub, zI_mul, zI_neg, zI_lt, zI_le, zI_eq, zI_cl, zI_0, zI_1, zI_m1, zI_lit, zT_0, zT_01, zI_01, zI_11, ↓reduceIte, if_true, if_false, not_false_eq_true, not_true_eq_false, Int.reduceEq, Int.reduceLT, Int.reduceLE, Classical.not_not, Bool.false_eq_true, c2, c3, c4, c5, hG, not_false_eq_true, or_self]
        split at hQ <;> rename_i c6
        · simp (disch := omega) [c6, zI_eq]; exact hQ
        · simp (disch := omega) [c6, zI_eq]; exact hQ
theorem s_arrivesAt {p : Nat} {m : Int} (hd : en_dD w k G s) (hp : p < 2147483648) (h1 : 0 ≤ m) (h2 : m < 2147483647) : SX1_arrivesAt [.ref k, .int (zI m), .int (nI p)] w = some (some (.int (zI (mp G s p m.toNat))), w) := by
  have hs9 : ∀ j, j < 9 → -1 ≤ s j ∧ s j ≤ 9 := fun j hj => (hd.2.2.2.2 j hj).2
  have hr := mp_rng (p := p) hs9 hd.2.2.2.1
  refine en_val rfl (fun Q hQ => ?_)
  show en_Ev XX1_arrivesAt 0 [some (.ref k), some (.int (zI m)), some (.int (nI p)), none, none] [] w Q
  have loop : ∀ (d i : Nat), m.toNat - i = d → i ≤ m.toNat → en_Ev XX1_arrivesAt 5 [some (.ref k), some (.int (zI m)), some (.int (nI p)), some (.int (zI (mp G s p i))), some (.int (zI i))] [] w Q := by
    intro d
    induction d with
    | zero =>
      intro i h3 h4
      have e : i = m.toNat := by omega
      subst e
      have c1 : m ≤ (m.toNat : Int) := by omega
      simp (disch := omega) only [eX1_arrivesAt_0, eX1_arrivesAt_1, eX1_arrivesAt_2, eX1_arrivesAt_3, eX1_arrivesAt_5, eX1_arrivesAt_7, eX1_arrivesAt_8, eX1_arrivesAt_11, eX1_arrivesAt_12, eX1_arrivesAt_13, eX1_arrivesAt_16, eX1_arrivesAt_17, eX1_arrivesAt_18, eX1_arrivesAt_19, eX1_arrivesAt_22, eX1_arrivesAt_23, eX1_arrivesAt_26, eX1_arrivesAt_29, eX1_arrivesAt_30, en_kl_0, en_kl_i, en_kl_r, en_kl_n, en_kl_l, en_Ec_some, en_Ec_void, en_rcv, en_stk, List.map_cons, List.map_nil, List.sum_cons, List.sum_nil, Value.category, Nat.reduceAdd, Nat.reduceLeDiff, decide_true, true_and, and_true, and_self, zI_add, zI_sub, zI_mul, zI_neg, zI_lt, zI_le, zI_eq, zI_cl, zI_0, zI_1, zI_m1, zI_lit, zT_0, zT_01, zI_01, zI_11, ↓reduceIte, if_true, if_false, not_false_eq_true, not_true_eq_false, Int.reduceEq, Int.reduceLT, Int.reduceLE, Classical.not_not, Bool.false_eq_true, c1]
      exact hQ
    | succ d ih =>
      intro i h3 h4
      have c1 : ¬ m ≤ (i : Int) := by omega
      have hi := hr i
      rw [eX1_arrivesAt_5]
      by_cases c2 : mp G s p i = -1
      · have e : mp G s p m.toNat = mp G s p i := by
          rw [show m.toNat = i + (m.toNat - i) by omega, mp_m1 c2, c2]
        rw [e] at hQ
        simp (disch := omega) only [eX1_arrivesAt_0, eX1_arrivesAt_1, eX1_arrivesAt_2, eX1_arrivesAt_3, eX1_arrivesAt_7, eX1_arrivesAt_8, eX1_arrivesAt_11, eX1_arrivesAt_12, eX1_arrivesAt_13, eX1_arrivesAt_16, eX1_arrivesAt_17, eX1_arrivesAt_18, eX1_arrivesAt_19, eX1_arrivesAt_22, eX1_arrivesAt_23, eX1_arrivesAt_26, eX1_arrivesAt_29, eX1_arrivesAt_30, en_kl_0, en_kl_i, en_kl_r, en_kl_n, en_kl_l, en_Ec_some, en_Ec_void, en_rcv, en_stk, List.map_cons, List.map_nil, List.sum_cons, List.sum_nil, Value.category, Nat.reduceAdd, Nat.reduceLeDiff, decide_true, true_and, and_true, and_self, zI_add, zI_sub, zI_mul, zI_neg, zI_lt, zI_le, zI_eq, zI_cl, zI_0, zI_1, zI_m1, zI_lit, zT_0, zT_01, zI_01, zI_11, ↓reduceIte, if_true, if_false, not_false_eq_true, not_true_eq_false, Int.reduceEq, Int.reduceLT, Int.reduceLE, Classical.not_not, Bool.false_eq_true, c1, c2]
        rw [c2] at hQ
        exact hQ
      · have ih' := ih (i + 1) (by omega) (by omega)
        have hdisc : en_is k 1 = true := hd.1.1
        simp (disch := omega) only [eX1_arrivesAt_0, eX1_arrivesAt_1, eX1_arrivesAt_2, eX1_arrivesAt_3, eX1_arrivesAt_7, eX1_arrivesAt_8, eX1_arrivesAt_11, eX1_arrivesAt_12, eX1_arrivesAt_13, eX1_arrivesAt_16, eX1_arrivesAt_17, eX1_arrivesAt_18, eX1_arrivesAt_19, eX1_arrivesAt_22, eX1_arrivesAt_23, eX1_arrivesAt_26, eX1_arrivesAt_29, eX1_arrivesAt_30, en_kl_0, en_kl_i, en_kl_r, en_kl_n, en_kl_l, en_Ec_some, en_Ec_void, en_rcv, en_stk, List.map_cons, List.map_nil, List.sum_cons, List.sum_nil, Value.category, Nat.reduceAdd, Nat.reduceLeDiff, decide_true, true_and, and_true, and_self, zI_add, zI_sub, zI_mul, zI_neg, zI_lt, zI_le, zI_eq, zI_cl, zI_0, zI_1, zI_m1, zI_lit, zT_0, zT_01, zI_01, zI_11, ↓reduceIte, if_true, if_false, not_false_eq_true, not_true_eq_false, Int.reduceEq, Int.reduceLT, Int.reduceLE, Classical.not_not, Bool.false_eq_true, c1, c2, hdisc]
        rw [s_following hd hp (by omega) (by omega)]
        simp (disch := omega) only [eX1_arrivesAt_0, eX1_arrivesAt_1, eX1_arrivesAt_2, eX1_arrivesAt_3, eX1_arrivesAt_7, eX1_arrivesAt_8, eX1_arrivesAt_11, eX1_arrivesAt_12, eX1_arrivesAt_13, eX1_arrivesAt_16, eX1_arrivesAt_17, eX1_arrivesAt_18, eX1_arrivesAt_19, eX1_arrivesAt_22, eX1_arrivesAt_23, eX1_arrivesAt_26, eX1_arrivesAt_29, eX1_arrivesAt_30, en_kl_0, en_kl_i, en_kl_r, en_kl_n, en_kl_l, en_Ec_some, en_Ec_void, en_rcv, en_stk, List.map_cons, List.map_nil, List.sum_cons, List.sum_nil, Value.category, Nat.reduceAdd, Nat.reduceLeDiff, decide_true, true_and, and_true, and_self, zI_add, zI_sub, zI_mul, zI_neg, zI_lt, zI_le, zI_eq, zI_cl, zI_0, zI_1, zI_m1, zI_lit, zT_0, zT_01, zI_01, zI_11, ↓reduceIte, if_true, if_false, not_false_eq_true, not_true_eq_false, Int.reduceEq, Int.reduceLT, Int.reduceLE, Classical.not_not, Bool.false_eq_true, hdisc]
        exact ih'
  simp (disch := omega) only [eX1_arrivesAt_0, eX1_arrivesAt_1, eX1_arrivesAt_2, eX1_arrivesAt_3, en_kl_0, en_kl_i, en_kl_r, en_kl_n, en_kl_l, en_Ec_some, en_Ec_void, en_rcv, en_stk, List.map_cons, List.map_nil, List.sum_cons, List.sum_nil, Value.category, Nat.reduceAdd, Nat.reduceLeDiff, decide_true, true_and, and_true, and_self, zI_add, zI_sub, zI_mul, zI_neg, zI_lt, zI_le, zI_eq, zI_cl, zI_0, zI_1, zI_m1, zI_lit, zT_0, zT_01, zI_01, zI_11, ↓reduceIte, if_true, if_false, not_false_eq_true, not_true_eq_false, Int.reduceEq, Int.reduceLT, Int.reduceLE, Classical.not_not, Bool.false_eq_true]
  exact loop _ 0 rfl (by omega)
end
