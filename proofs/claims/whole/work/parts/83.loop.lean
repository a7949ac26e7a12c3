/-! ===== the law: its loop, printed by law.py ===== -/
theorem sc_in {L i k : Nat} (hL : L ≤ 384) (h : i + k < L) : sc_ok L (zI ((i : Int) + k)) := by
  unfold sc_ok
  rw [zI_0, zI_lt (by omega) (by omega) (by omega) (by omega), zI_cl (by omega) (by omega)]
  omega
theorem law_end {L i : Nat} {xs : Nat → Int32} {w : en_W} {Q : Option Value → en_W → Prop} (hL : L ≤ 384) (hi : i < 1000) (h : (L : Int) - 6 < (i : Int)) (hQ : ∀ w, Q (some (.int (zI 1))) w) : en_Ev (XL L xs) 18 [some (.ref 62), some (.ref 0), some (.ref 19), some (.int (zI i))] [] w Q := by
  have e : Int32.ofNat L = zI (L : Int) := zI_nI L
  rw [eL_18]
  simp (disch := omega) only [eL_19, eL_20, eL_21, eL_23, eL_24, eL_1154, eL_1155, en_kl_0, en_kl_i, en_kl_r, en_kl_n, en_kl_l, en_Ec_some, en_Ec_void, en_rcv, en_stk, List.map_cons, List.map_nil, List.sum_cons, List.sum_nil, Value.category, Nat.reduceAdd, Nat.reduceLeDiff, decide_true, true_and, and_true, and_self, zI_add, zI_sub, zI_mul, zI_neg, zI_lt, zI_le, zI_eq, zI_cl, zI_0, zI_1, zI_m1, zI_lit, zT_0, zT_01, zI_01, zI_11, ↓reduceIte, if_true, if_false, not_false_eq_true, not_true_eq_false, Int.reduceEq, Int.reduceLT, Int.reduceLE, Classical.not_not, Bool.false_eq_true, e, h]
  exact hQ w
theorem law_loop {L : Nat} {xs : Nat → Int32} {Q : Option Value → en_W → Prop} (hL : L ≤ 384) (hQ : ∀ w, Q (some (.int (zI 1))) w) : ∀ (d i : Nat) (w : en_W), L ≤ i + d → i < 1000 → J w → en_Ev (XL L xs) 18 [some (.ref 62), some (.ref 0), some (.ref 19), some (.int (zI i))] [] w Q := by
  intro d
  induction d with
  | zero =>
    intro i w h1 h2 hJ
    exact law_end hL h2 (by omega) hQ
  | succ d ih =>
    intro i w h1 h2 hJ
    by_cases c : (L : Int) - 6 < (i : Int)
    · exact law_end hL h2 c hQ
    · have e : Int32.ofNat L = zI (L : Int) := zI_nI L
      have s0 : sc_ok L (zI (i : Int)) := by
        have := sc_in (i := i) (k := 0) hL (by omega)
        rw [show (i : Int) + ((0 : Nat) : Int) = (i : Int) by omega] at this
        exact this
      have s1 : sc_ok L (zI ((i : Int) + 1)) := sc_in (k := 1) hL (by omega)
      have s2 : sc_ok L (zI ((i : Int) + 2)) := sc_in (k := 2) hL (by omega)
      have s3 : sc_ok L (zI ((i : Int) + 3)) := sc_in (k := 3) hL (by omega)
      have s4 : sc_ok L (zI ((i : Int) + 4)) := sc_in (k := 4) hL (by omega)
      have s5 : sc_ok L (zI ((i : Int) + 5)) := sc_in (k := 5) hL (by omega)
      have hk : ∀ w2, J w2 → en_Ev (XL L xs) 1148 [some (.ref 62), some (.ref 0), some (.ref 19), some (.int (zI i))] [] w2 Q := by
        intro w2 hJ2
        have g := ih (i + 6) w2 (by omega) (by omega) hJ2
        simp (disch := omega) only [eL_1148, eL_1151, en_kl_0, en_kl_i, en_kl_r, en_kl_n, en_kl_l, en_Ec_some, en_Ec_void, en_rcv, en_stk, List.map_cons, List.map_nil, List.sum_cons, List.sum_nil, Value.category, Nat.reduceAdd, Nat.reduceLeDiff, decide_true, true_and, and_true, and_self, zI_add, zI_sub, zI_mul, zI_neg, zI_lt, zI_le, zI_eq, zI_cl, zI_0, zI_1, zI_m1, zI_lit, zT_0, zT_01, zI_01, zI_11, ↓reduceIte, if_true, if_false, not_false_eq_true, not_true_eq_false, Int.reduceEq, Int.reduceLT, Int.reduceLE, Classical.not_not, Bool.false_eq_true]
        exact g
      have sw : en_Ev (XL L xs) 33 [some (.ref 62), some (.ref 0), some (.ref 19), some (.int (zI i))] [.int (sc_at xs (zI (i : Int)) &&& 63)] w Q := by
        generalize sc_at xs (zI (i : Int)) &&& 63 = y
        rw [eL_33]
        by_cases k0 : y = 0
        · rw [if_pos k0]; exact lk_0 hJ s1 s2 s3 s4 s5 hk
        rw [if_neg k0]
        by_cases k1 : y = 1
        · rw [if_pos k1]; exact lk_1 hJ s1 s2 s3 s4 s5 hk
        rw [if_neg k1]
        by_cases k2 : y = 2
        · rw [if_pos k2]; exact lk_2 hJ s1 s2 s3 s4 s5 hk
        rw [if_neg k2]
        by_cases k3 : y = 3
        · rw [if_pos k3]; exact lk_3 hJ s1 s2 s3 s4 s5 hk
        rw [if_neg k3]
        by_cases k4 : y = 4
        · rw [if_pos k4]; exact lk_4 hJ s1 s2 s3 s4 s5 hk
        rw [if_neg k4]
        by_cases k5 : y = 5
        · rw [if_pos k5]; exact lk_5 hJ s1 s2 s3 s4 s5 hk
        rw [if_neg k5]
        by_cases k6 : y = 6
        · rw [if_pos k6]; exact lk_6 hJ s1 s2 s3 s4 s5 hk
        rw [if_neg k6]
        by_cases k7 : y = 7
        · rw [if_pos k7]; exact lk_7 hJ s1 s2 s3 s4 s5 hk
        rw [if_neg k7]
        by_cases k8 : y = 8
        · rw [if_pos k8]; exact lk_8 hJ s1 s2 s3 s4 s5 hk
        rw [if_neg k8]
        by_cases k9 : y = 9
        · rw [if_pos k9]; exact lk_9 hJ s1 s2 s3 s4 s5 hk
        rw [if_neg k9]
        by_cases k10 : y = 10
        · rw [if_pos k10]; exact lk_10 hJ s1 s2 s3 s4 s5 hk
        rw [if_neg k10]
        by_cases k11 : y = 11
        · rw [if_pos k11]; exact lk_11 hJ s1 s2 s3 s4 s5 hk
        rw [if_neg k11]
        by_cases k12 : y = 12
        · rw [if_pos k12]; exact lk_12 hJ s1 s2 s3 s4 s5 hk
        rw [if_neg k12]
        by_cases k13 : y = 13
        · rw [if_pos k13]; exact lk_13 hJ s1 s2 s3 s4 s5 hk
        rw [if_neg k13]
        by_cases k14 : y = 14
        · rw [if_pos k14]; exact lk_14 hJ s1 s2 s3 s4 s5 hk
        rw [if_neg k14]
        by_cases k15 : y = 15
        · rw [if_pos k15]; exact lk_15 hJ s1 s2 s3 s4 s5 hk
        rw [if_neg k15]
        by_cases k16 : y = 16
        · rw [if_pos k16]; exact lk_16 hJ s1 s2 s3 s4 s5 hk
        rw [if_neg k16]
        by_cases k17 : y = 17
        · rw [if_pos k17]; exact lk_17 hJ s1 s2 s3 s4 s5 hk
        rw [if_neg k17]
        by_cases k18 : y = 18
        · rw [if_pos k18]; exact lk_18 hJ s1 s2 s3 s4 s5 hk
        rw [if_neg k18]
        by_cases k19 : y = 19
        · rw [if_pos k19]; exact lk_19 hJ s1 s2 s3 s4 s5 hk
        rw [if_neg k19]
        by_cases k20 : y = 20
        · rw [if_pos k20]; exact lk_20 hJ s1 s2 s3 s4 s5 hk
        rw [if_neg k20]
        by_cases k21 : y = 21
        · rw [if_pos k21]; exact lk_21 hJ s1 s2 s3 s4 s5 hk
        rw [if_neg k21]
        by_cases k22 : y = 22
        · rw [if_pos k22]; exact lk_22 hJ s1 s2 s3 s4 s5 hk
        rw [if_neg k22]
        by_cases k23 : y = 23
        · rw [if_pos k23]; exact lk_23 hJ s1 s2 s3 s4 s5 hk
        rw [if_neg k23]
        by_cases k24 : y = 24
        · rw [if_pos k24]; exact lk_24 hJ s1 s2 s3 s4 s5 hk
        rw [if_neg k24]
        by_cases k25 : y = 25
        · rw [if_pos k25]; exact lk_25 hJ s1 s2 s3 s4 s5 hk
        rw [if_neg k25]
        by_cases k26 : y = 26
        · rw [if_pos k26]; exact lk_26 hJ s1 s2 s3 s4 s5 hk
        rw [if_neg k26]
        by_cases k27 : y = 27
        · rw [if_pos k27]; exact lk_27 hJ s1 s2 s3 s4 s5 hk
        rw [if_neg k27]
        by_cases k28 : y = 28
        · rw [if_pos k28]; exact lk_28 hJ s1 s2 s3 s4 s5 hk
        rw [if_neg k28]
        by_cases k29 : y = 29
        · rw [if_pos k29]; exact lk_29 hJ s1 s2 s3 s4 s5 hk
        rw [if_neg k29]
        by_cases k30 : y = 30
        · rw [if_pos k30]; exact lk_30 hJ s1 s2 s3 s4 s5 hk
        rw [if_neg k30]
        by_cases k31 : y = 31
        · rw [if_pos k31]; exact lk_31 hJ s1 s2 s3 s4 s5 hk
        rw [if_neg k31]
        by_cases k32 : y = 32
        · rw [if_pos k32]; exact lk_32 hJ s1 s2 s3 s4 s5 hk
        rw [if_neg k32]
        by_cases k33 : y = 33
        · rw [if_pos k33]; exact lk_33 hJ s1 s2 s3 s4 s5 hk
        rw [if_neg k33]
        exact hk w hJ
      rw [eL_18]
      simp (disch := omega) only [eL_19, eL_20, eL_21, eL_23, eL_24, eL_27, eL_28, eL_29, eL_30, eL_32, en_kl_0, en_kl_i, en_kl_r, en_kl_n, en_kl_l, en_Ec_some, en_Ec_void, en_rcv, en_stk, List.map_cons, List.map_nil, List.sum_cons, List.sum_nil, Value.category, Nat.reduceAdd, Nat.reduceLeDiff, decide_true, true_and, and_true, and_self, zI_sub, zI_lt, zI_lit, zI_1, ↓reduceIte, e, c, s0]
      simp only [zI_lit] at sw
      exact sw
theorem law_run {L : Nat} {xs : Nat → Int32} {w : en_W} (hL : L ≤ 384) (hJ : J w) : en_Ev (XL L xs) 16 [some (.ref 62), some (.ref 0), some (.ref 19), none] [] w (fun r _ => r = some (.int (zI 1))) := by
  simp only [eL_16, eL_17, en_kl_0, en_kl_i, en_kl_r, en_kl_n, en_kl_l, en_Ec_some, en_Ec_void, en_rcv, en_stk, List.map_cons, List.map_nil, List.sum_cons, List.sum_nil, Value.category, Nat.reduceAdd, Nat.reduceLeDiff, decide_true, true_and, and_true, and_self, zI_0]
  exact law_loop hL (fun _ => rfl) L 0 w (by omega) (by omega) hJ
