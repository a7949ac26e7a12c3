/-! ===== read, write, the sums, count ===== -/
/-- how many long sheets' items may be read from i -/
def rdN (it : Nat → Int32) (sz : Nat) : Nat → Nat → Nat
  | 0, i => i
  | d + 1, i => if i < sz ∧ 1 ≤ (it i).toInt ∧ (it i).toInt ≤ 9 then rdN it sz d (i + 1) else i
def rdG (it : Nat → Int32) (G : Nat → Int) (k : Nat) : Nat → Int := fun r => if r < k then (it r).toInt else G r
def DF : List Nat := List.range' 34 20
theorem DF_mem {k : Nat} : k ∈ DF ↔ 34 ≤ k ∧ k < 54 := by
  unfold DF
  rw [List.mem_range'_1]
theorem rdN_rng {it : Nat → Int32} {sz : Nat} : ∀ d i : Nat, i ≤ rdN it sz d i ∧ rdN it sz d i ≤ i + d
  | 0, i => ⟨Nat.le_refl _, Nat.le_refl _⟩
  | d + 1, i => by
    have := rdN_rng (it := it) (sz := sz) d (i + 1)
    unfold rdN
    split
    · omega
    · omega
def sG (f : Nat → Int) : Nat → Int
  | 0 => 0
  | n + 1 => sG f n + f n
theorem sG_rng {f : Nat → Int} {b : Nat} (h : ∀ i, i < 10 → 0 ≤ f i ∧ f i ≤ b) (hb : b ≤ 99) : ∀ n : Nat, n ≤ 10 → 0 ≤ sG f n ∧ sG f n ≤ 99 * n
  | 0, _ => ⟨Int.le_refl _, Int.le_refl _⟩
  | n + 1, hn => by
    have := sG_rng h hb n (by omega)
    have := h n (by omega)
    unfold sG
    omega
section
variable {w : en_W} {G : Nat → Int} {s : Nat → Nat → Int} {n : Nat} {tb : Nat → Int} {kick law life pat : Int} {v q f i c m j t a : Int} {fo fo2 : Int} {sz sz2 : Nat} {it it2 : Nat → Int32} {x : Int32}
theorem s_mayBeLongX : SX1_mayBeLong [.int x] w = some (some (.int (zT (1 ≤ x.toInt ∧ x.toInt ≤ 9))), w) := by
  have := zI_rng x
  have e := s_mayBeLong (w := w) (v := x.toInt) (by omega) (by omega)
  rw [zI_of] at e
  exact e
theorem s_makeLongX {k : Nat} {g : Int} {f : Nat → Int} (hd : en_dD w k g f) (h1 : 1 ≤ x.toInt) (h2 : x.toInt ≤ 9) : SX1_makeLong [.ref k, .int x] w = some (none, en_up w k 0 x) := by
  have e := s_makeLong (v := x.toInt) hd h1 h2
  rw [zI_of] at e
  exact e
theorem aD_longX {r : Nat} (hD : aD w G s) (h2 : r < 10) (h3 : 1 ≤ x.toInt) (h4 : x.toInt ≤ 9) : aD (en_up w (34 + 2 * r) 0 x) (iu G r x.toInt) s := by
  have e := aD_long (r := (r : Int)) (v := x.toInt) hD (by omega) (by omega) h3 h4
  rw [zI_of, Int.toNat_natCast] at e
  exact e
theorem s_read_bad (h : ¬ (0 ≤ q ∧ q ≤ 3)) (q1 : -2147483648 ≤ q) (q2 : q < 2147483648) : SX5_read [.ref 0, .int (zI q)] w = some (some (.int (zI (-2))), w) := by
  refine en_val rfl (fun Q hQ => ?_)
  show en_Ev XX5_read 0 [some (.ref 0), some (.int (zI q)), none, none, none] [] w Q
  simp (disch := omega) only [eX5_read_0, eX5_read_1, eX5_read_2, eX5_read_5, eX5_read_5n, eX5_read_6, eX5_read_6n, eX5_read_7n, eX5_read_7, eX5_read_10, eX5_read_12, eX5_read_13, eX5_read_13n, eX5_read_14, eX5_read_17, eX5_read_20, eX5_read_21, eX5_read_22, eX5_read_25, eX5_read_26, eX5_read_27, eX5_read_29, eX5_read_31, eX5_read_34, eX5_read_35, eX5_read_38, eX5_read_39, eX5_read_39s, eX5_read_40, eX5_read_40n, eX5_read_42, eX5_read_42n, eX5_read_44n, eX5_read_44, eX5_read_47, eX5_read_47n, eX5_read_48, eX5_read_49, eX5_read_52, eX5_read_55, eX5_read_55n, eX5_read_56, eX5_read_57, eX5_read_60, eX5_read_63, eX5_read_66, eX5_read_67, eX5_read_68, eX5_read_68n, eX5_read_70, eX5_read_70n, eX5_read_71, eX5_read_72, eX5_read_75, eX5_read_78, eX5_read_81, eX5_read_84, eX5_read_86, en_kl_0, en_kl_i, en_kl_r, en_kl_n, en_kl_l, en_Ec_some, en_Ec_void, en_rcv, en_stk, List.map_cons, List.map_nil, List.sum_cons, List.sum_nil, Value.category, Nat.reduceAdd, Nat.reduceLeDiff, decide_true, true_and, and_true, and_self, zI_add, zI_sub, zI_mul, zI_neg, zI_lt, zI_le, zI_eq, zI_cl, zI_0, zI_1, zI_m1, zI_lit, zT_0, zT_01, zI_01, zI_11, ↓reduceIte, if_true, if_false, not_false_eq_true, not_true_eq_false, Int.reduceEq, Int.reduceLT, Int.reduceLE, Classical.not_not, Bool.false_eq_true, fi_0, ft_0_0, ft_0_1, ft_0_2, ft_0_3, ft_0_4, ft_0_5, fi_3, ft_3_0, ft_3_1, fi_5, ft_5_0, ft_5_1, fi_8, ft_8_0, ft_8_1, ft_8_2, ft_8_3, ft_8_4, ft_8_5, fi_14, ft_14_0, ft_14_1, fi_19, ft_19_0, ft_19_1, ft_19_2, ft_19_3, ft_19_5, ft_19_6, ft_19_7, ft_19_8, ft_19_12, ft_19_13, ft_19_14, ft_19_15, ft_19_16, ft_19_21, fx_4, fx_6, fx_7, fx_9, fx_10, fx_11, fx_12, fx_13, fx_15, fx_16, fx_17, fx_18, fx_20, fx_21, fx_22, fx_23, fx_24, fx_25, fx_26, fx_27, fx_28, fx_29, fx_30, fx_31, fx_32, fx_33, s_sheetOfN h q1 q2]
  exact hQ
theorem s_read_null (hS : aS1 w (54 + 2 * q.toNat) fo sz it) (h1 : 0 ≤ q) (h2 : q ≤ 3) (h3 : fo = -1) : SX5_read [.ref 0, .int (zI q)] w = some (some (.int (zI (-11))), wFi w 1) := by
  refine en_val rfl (fun Q hQ => ?_)
  show en_Ev XX5_read 0 [some (.ref 0), some (.int (zI q)), none, none, none] [] w Q
  have hi := hS.1.1
  simp (disch := omega) only [eX5_read_0, eX5_read_1, eX5_read_2, eX5_read_5, eX5_read_5n, eX5_read_6, eX5_read_6n, eX5_read_7n, eX5_read_7, eX5_read_10, eX5_read_12, eX5_read_13, eX5_read_13n, eX5_read_14, eX5_read_17, eX5_read_20, eX5_read_21, eX5_read_22, eX5_read_25, eX5_read_26, eX5_read_27, eX5_read_29, eX5_read_31, eX5_read_34, eX5_read_35, eX5_read_38, eX5_read_39, eX5_read_39s, eX5_read_40, eX5_read_40n, eX5_read_42, eX5_read_42n, eX5_read_44n, eX5_read_44, eX5_read_47, eX5_read_47n, eX5_read_48, eX5_read_49, eX5_read_52, eX5_read_55, eX5_read_55n, eX5_read_56, eX5_read_57, eX5_read_60, eX5_read_63, eX5_read_66, eX5_read_67, eX5_read_68, eX5_read_68n, eX5_read_70, eX5_read_70n, eX5_read_71, eX5_read_72, eX5_read_75, eX5_read_78, eX5_read_81, eX5_read_84, eX5_read_86, en_kl_0, en_kl_i, en_kl_r, en_kl_n, en_kl_l, en_Ec_some, en_Ec_void, en_rcv, en_stk, List.map_cons, List.map_nil, List.sum_cons, List.sum_nil, Value.category, Nat.reduceAdd, Nat.reduceLeDiff, decide_true, true_and, and_true, and_self, zI_add, zI_sub, zI_mul, zI_neg, zI_lt, zI_le, zI_eq, zI_cl, zI_0, zI_1, zI_m1, zI_lit, zT_0, zT_01, zI_01, zI_11, ↓reduceIte, if_true, if_false, not_false_eq_true, not_true_eq_false, Int.reduceEq, Int.reduceLT, Int.reduceLE, Classical.not_not, Bool.false_eq_true, fi_0, ft_0_0, ft_0_1, ft_0_2, ft_0_3, ft_0_4, ft_0_5, fi_3, ft_3_0, ft_3_1, fi_5, ft_5_0, ft_5_1, fi_8, ft_8_0, ft_8_1, ft_8_2, ft_8_3, ft_8_4, ft_8_5, fi_14, ft_14_0, ft_14_1, fi_19, ft_19_0, ft_19_1, ft_19_2, ft_19_3, ft_19_5, ft_19_6, ft_19_7, ft_19_8, ft_19_12, ft_19_13, ft_19_14, ft_19_15, ft_19_16, ft_19_21, fx_4, fx_6, fx_7, fx_9, fx_10, fx_11, fx_12, fx_13, fx_15, fx_16, fx_17, fx_18, fx_20, fx_21, fx_22, fx_23, fx_24, fx_25, fx_26, fx_27, fx_28, fx_29, fx_30, fx_31, fx_32, fx_33, s_sheetOf h1 h2, s_isLost hS, zT_t h3, hi, s_finding]
  exact hQ
theorem s_read_ok (hS : aS1 w (54 + 2 * q.toNat) fo sz it) (hD : aD w G s) (h1 : 0 ≤ q) (h2 : q ≤ 3) (h3 : fo ≠ -1) : ∃ w', SX5_read [.ref 0, .int (zI q)] w = some (some (.int (zI (rdN it sz 10 0))), w') ∧ aD w' (rdG it G (rdN it sz 10 0)) s ∧ en_fr DF w w' := by
  obtain ⟨K, hK⟩ : ∃ K, rdN it sz 10 0 = K := ⟨_, rfl⟩
  rw [hK]
  refine (en_ex (nL := 5) (As := [.ref 0, .int (zI q)]) rfl (P := fun r w' => r = some (.int (zI (K))) ∧ aD w' (rdG it G (K)) s ∧ en_fr DF w w') ?_).elim (fun r hr => hr.elim (fun w' hw => ⟨w', hw.2.1 ▸ hw.1, hw.2.2⟩))
  show en_Ev XX5_read 0 [some (.ref 0), some (.int (zI q)), none, none, none] [] w _
  have hi := hS.1.1
  have loop : ∀ (d i : Nat) (w1 : en_W) (l4 : Option Value), i + d = 10 → rdN it sz d i = K → aD w1 (rdG it G i) s → en_fr DF w w1 → en_Ev XX5_read 28 [some (.ref 0), some (.int (zI q)), some (.ref (54 + 2 * q.toNat)), some (.int (zI i)), l4] [] w1 (fun r w' => r = some (.int (zI (K))) ∧ aD w' (rdG it G (K)) s ∧ en_fr DF w w') := by
    intro d
    induction d with
    | zero =>
      intro i w1 l4 k1 k2 k3 k4
      have c1 : (10 : Int) ≤ (i : Int) := by omega
      rw [eX5_read_28]
      simp (disch := omega) only [eX5_read_0, eX5_read_1, eX5_read_2, eX5_read_5, eX5_read_5n, eX5_read_6, eX5_read_6n, eX5_read_7n, eX5_read_7, eX5_read_10, eX5_read_12, eX5_read_13, eX5_read_13n, eX5_read_14, eX5_read_17, eX5_read_20, eX5_read_21, eX5_read_22, eX5_read_25, eX5_read_26, eX5_read_27, eX5_read_29, eX5_read_31, eX5_read_34, eX5_read_35, eX5_read_38, eX5_read_39, eX5_read_39s, eX5_read_40, eX5_read_40n, eX5_read_42, eX5_read_42n, eX5_read_44n, eX5_read_44, eX5_read_47, eX5_read_47n, eX5_read_48, eX5_read_49, eX5_read_52, eX5_read_55, eX5_read_55n, eX5_read_56, eX5_read_57, eX5_read_60, eX5_read_63, eX5_read_66, eX5_read_67, eX5_read_68, eX5_read_68n, eX5_read_70, eX5_read_70n, eX5_read_71, eX5_read_72, eX5_read_75, eX5_read_78, eX5_read_81, eX5_read_84, eX5_read_86, en_kl_0, en_kl_i, en_kl_r, en_kl_n, en_kl_l, en_Ec_some, en_Ec_void, en_rcv, en_stk, List.map_cons, List.map_nil, List.sum_cons, List.sum_nil, Value.category, Nat.reduceAdd, Nat.reduceLeDiff, decide_true, true_and, and_true, and_self, zI_add, zI_sub, zI_mul, zI_neg, zI_lt, zI_le, zI_eq, zI_cl, zI_0, zI_1, zI_m1, zI_lit, zT_0, zT_01, zI_01, zI_11, ↓reduceIte, if_true, if_false, not_false_eq_true, not_true_eq_false, Int.reduceEq, Int.reduceLT, Int.reduceLE, Classical.not_not, Bool.false_eq_true, c1]
      have e : i = 10 := by omega
      rw [← k2]
      unfold rdN
      subst e
      exact ⟨rfl, k3, k4⟩
    | succ d ih =>
      intro i w1 l4 k1 k2 k3 k4
      have c1 : ¬ (10 : Int) ≤ (i : Int) := by omega
      have c2 : ¬ (i : Int) < 0 := by omega
      have c3 : ¬ 10 ≤ i := by omega
      have hS1 : aS1 w1 (54 + 2 * q.toNat) fo sz it := hS.fr (k4 _ (by rw [DF_mem]; omega)) (k4 _ (by rw [DF_mem]; omega))
      have edi : en_is (34 + 2 * i) 1 = true := (k3 i (by omega)).1.1
      have hh := s_holds (v := (i : Int)) hS1 (by omega) (by omega)
      unfold rdN at k2
      by_cases b1 : i < sz
      · rw [zT_t (by omega)] at hh
        have hit := s_item (v := (i : Int)) hS1 (by omega) (by omega)
        rw [Int.toNat_natCast] at hit
        have hm := s_mayBeLongX (w := w1) (x := it i)
        by_cases b2 : 1 ≤ (it i).toInt ∧ (it i).toInt ≤ 9
        · rw [zT_t b2] at hm
          rw [if_pos ⟨b1, b2⟩] at k2
          rw [eX5_read_28]
          simp (disch := omega) only [eX5_read_0, eX5_read_1, eX5_read_2, eX5_read_5, eX5_read_5n, eX5_read_6, eX5_read_6n, eX5_read_7n, eX5_read_7, eX5_read_10, eX5_read_12, eX5_read_13, eX5_read_13n, eX5_read_14, eX5_read_17, eX5_read_20, eX5_read_21, eX5_read_22, eX5_read_25, eX5_read_26, eX5_read_27, eX5_read_29, eX5_read_31, eX5_read_34, eX5_read_35, eX5_read_38, eX5_read_39, eX5_read_39s, eX5_read_40, eX5_read_40n, eX5_read_42, eX5_read_42n, eX5_read_44n, eX5_read_44, eX5_read_47, eX5_read_47n, eX5_read_48, eX5_read_49, eX5_read_52, eX5_read_55, eX5_read_55n, eX5_read_56, eX5_read_57, eX5_read_60, eX5_read_63, eX5_read_66, eX5_read_67, eX5_read_68, eX5_read_68n, eX5_read_70, eX5_read_70n, eX5_read_71, eX5_read_72, eX5_read_75, eX5_read_78, eX5_read_81, eX5_read_84, eX5_read_86, en_kl_0, en_kl_i, en_kl_r, en_kl_n, en_kl_l, en_Ec_some, en_Ec_void, en_rcv, en_stk, List.map_cons, List.map_nil, List.sum_cons, List.sum_nil, Value.category, Nat.reduceAdd, Nat.reduceLeDiff, decide_true, true_and, and_true, and_self, zI_add, zI_sub, zI_mul, zI_neg, zI_lt, zI_le, zI_eq, zI_cl, zI_0, zI_1, zI_m1, zI_lit, zT_0, zT_01, zI_01, zI_11, ↓reduceIte, if_true, if_false, not_false_eq_true, not_true_eq_false, Int.reduceEq, Int.reduceLT, Int.reduceLE, Classical.not_not, Bool.false_eq_true, fi_0, ft_0_0, ft_0_1, ft_0_2, ft_0_3, ft_0_4, ft_0_5, fi_3, ft_3_0, ft_3_1, fi_5, ft_5_0, ft_5_1, fi_8, ft_8_0, ft_8_1, ft_8_2, ft_8_3, ft_8_4, ft_8_5, fi_14, ft_14_0, ft_14_1, fi_19, ft_19_0, ft_19_1, ft_19_2, ft_19_3, ft_19_5, ft_19_6, ft_19_7, ft_19_8, ft_19_12, ft_19_13, ft_19_14, ft_19_15, ft_19_16, ft_19_21, fx_4, fx_6, fx_7, fx_9, fx_10, fx_11, fx_12, fx_13, fx_15, fx_16, fx_17, fx_18, fx_20, fx_21, fx_22, fx_23, fx_24, fx_25, fx_26, fx_27, fx_28, fx_29, fx_30, fx_31, fx_32, fx_33, c1, c2, c3, or_self, Int.toNat_natCast, edi, hh, hit, hm, hi, s_makeLongX (k3 i (by omega)) b2.1 b2.2]
          refine ih (i + 1) _ _ (by omega) k2 ?_ (k4.up (by rw [DF_mem]; omega))
          have hd := aD_longX k3 (show i < 10 by omega) b2.1 b2.2
          have e : iu (rdG it G i) i (it i).toInt = rdG it G (i + 1) := by
            funext r
            unfold iu rdG
            by_cases e : r = i
            · subst e; rw [if_pos rfl, if_pos (by omega)]
            · rw [if_neg e]
              by_cases e2 : r < i
              · rw [if_pos e2, if_pos (by omega)]
              · rw [if_neg e2, if_neg (by omega)]
          rw [e] at hd
          exact hd
        · rw [zT_f b2] at hm
          rw [if_neg (fun z => b2 z.2)] at k2
          rw [eX5_read_28]
          simp (disch := omega) only [eX5_read_0, eX5_read_1, eX5_read_2, eX5_read_5, eX5_read_5n, eX5_read_6, eX5_read_6n, eX5_read_7n, eX5_read_7, eX5_read_10, eX5_read_12, eX5_read_13, eX5_read_13n, eX5_read_14, eX5_read_17, eX5_read_20, eX5_read_21, eX5_read_22, eX5_read_25, eX5_read_26, eX5_read_27, eX5_read_29, eX5_read_31, eX5_read_34, eX5_read_35, eX5_read_38, eX5_read_39, eX5_read_39s, eX5_read_40, eX5_read_40n, eX5_read_42, eX5_read_42n, eX5_read_44n, eX5_read_44, eX5_read_47, eX5_read_47n, eX5_read_48, eX5_read_49, eX5_read_52, eX5_read_55, eX5_read_55n, eX5_read_56, eX5_read_57, eX5_read_60, eX5_read_63, eX5_read_66, eX5_read_67, eX5_read_68, eX5_read_68n, eX5_read_70, eX5_read_70n, eX5_read_71, eX5_read_72, eX5_read_75, eX5_read_78, eX5_read_81, eX5_read_84, eX5_read_86, en_kl_0, en_kl_i, en_kl_r, en_kl_n, en_kl_l, en_Ec_some, en_Ec_void, en_rcv, en_stk, List.map_cons, List.map_nil, List.sum_cons, List.sum_nil, Value.category, Nat.reduceAdd, Nat.reduceLeDiff, decide_true, true_and, and_true, and_self, zI_add, zI_sub, zI_mul, zI_neg, zI_lt, zI_le, zI_eq, zI_cl, zI_0, zI_1, zI_m1, zI_lit, zT_0, zT_01, zI_01, zI_11, ↓reduceIte, if_true, if_false, not_false_eq_true, not_true_eq_false, Int.reduceEq, Int.reduceLT, Int.reduceLE, Classical.not_not, Bool.false_eq_true, fi_0, ft_0_0, ft_0_1, ft_0_2, ft_0_3, ft_0_4, ft_0_5, fi_3, ft_3_0, ft_3_1, fi_5, ft_5_0, ft_5_1, fi_8, ft_8_0, ft_8_1, ft_8_2, ft_8_3, ft_8_4, ft_8_5, fi_14, ft_14_0, ft_14_1, fi_19, ft_19_0, ft_19_1, ft_19_2, ft_19_3, ft_19_5, ft_19_6, ft_19_7, ft_19_8, ft_19_12, ft_19_13, ft_19_14, ft_19_15, ft_19_16, ft_19_21, fx_4, fx_6, fx_7, fx_9, fx_10, fx_11, fx_12, fx_13, fx_15, fx_16, fx_17, fx_18, fx_20, fx_21, fx_22, fx_23, fx_24, fx_25, fx_26, fx_27, fx_28, fx_29, fx_30, fx_31, fx_32, fx_33, c1, c2, c3, or_self, Int.toNat_natCast, edi, hh, hit, hm, hi]
          rw [← k2]
          exact ⟨rfl, k3, k4⟩
      · rw [zT_f (by omega)] at hh
        rw [if_neg (fun z => b1 z.1)] at k2
        rw [eX5_read_28]
        simp (disch := omega) only [eX5_read_0, eX5_read_1, eX5_read_2, eX5_read_5, eX5_read_5n, eX5_read_6, eX5_read_6n, eX5_read_7n, eX5_read_7, eX5_read_10, eX5_read_12, eX5_read_13, eX5_read_13n, eX5_read_14, eX5_read_17, eX5_read_20, eX5_read_21, eX5_read_22, eX5_read_25, eX5_read_26, eX5_read_27, eX5_read_29, eX5_read_31, eX5_read_34, eX5_read_35, eX5_read_38, eX5_read_39, eX5_read_39s, eX5_read_40, eX5_read_40n, eX5_read_42, eX5_read_42n, eX5_read_44n, eX5_read_44, eX5_read_47, eX5_read_47n, eX5_read_48, eX5_read_49, eX5_read_52, eX5_read_55, eX5_read_55n, eX5_read_56, eX5_read_57, eX5_read_60, eX5_read_63, eX5_read_66, eX5_read_67, eX5_read_68, eX5_read_68n, eX5_read_70, eX5_read_70n, eX5_read_71, eX5_read_72, eX5_read_75, eX5_read_78, eX5_read_81, eX5_read_84, eX5_read_86, en_kl_0, en_kl_i, en_kl_r, en_kl_n, en_kl_l, en_Ec_some, en_Ec_void, en_rcv, en_stk, List.map_cons, List.map_nil, List.sum_cons, List.sum_nil, Value.category, Nat.reduceAdd, Nat.reduceLeDiff, decide_true, true_and, and_true, and_self, zI_add, zI_sub, zI_mul, zI_neg, zI_lt, zI_le, zI_eq, zI_cl, zI_0, zI_1, zI_m1, zI_lit, zT_0, zT_01, zI_01, zI_11, ↓reduceIte, if_true, if_false, not_false_eq_true, not_true_eq_false, Int.reduceEq, Int.reduceLT, Int.reduceLE, Classical.not_not, Bool.false_eq_true, fi_0, ft_0_0, ft_0_1, ft_0_2, ft_0_3, ft_0_4, ft_0_5, fi_3, ft_3_0, ft_3_1, fi_5, ft_5_0, ft_5_1, fi_8, ft_8_0, ft_8_1, ft_8_2, ft_8_3, ft_8_4, ft_8_5, fi_14, ft_14_0, ft_14_1, fi_19, ft_19_0, ft_19_1, ft_19_2, ft_19_3, ft_19_5, ft_19_6, ft_19_7, ft_19_8, ft_19_12, ft_19_13, ft_19_14, ft_19_15, ft_19_16, ft_19_21, fx_4, fx_6, fx_7, fx_9, fx_10, fx_11, fx_12, fx_13, fx_15, fx_16, fx_17, fx_18, fx_20, fx_21, fx_22, fx_23, fx_24, fx_25, fx_26, fx_27, fx_28, fx_29, fx_30, fx_31, fx_32, fx_33, c1, c2, c3, or_self, Int.toNat_natCast, edi, hh, hi]
        rw [← k2]
        exact ⟨rfl, k3, k4⟩
  simp (disch := omega) only [eX5_read_0, eX5_read_1, eX5_read_2, eX5_read_5, eX5_read_5n, eX5_read_6, eX5_read_6n, eX5_read_7n, eX5_read_7, eX5_read_10, eX5_read_12, eX5_read_13, eX5_read_13n, eX5_read_14, eX5_read_17, eX5_read_20, eX5_read_21, eX5_read_22, eX5_read_25, eX5_read_26, eX5_read_27, eX5_read_29, eX5_read_31, eX5_read_34, eX5_read_35, eX5_read_38, eX5_read_39, eX5_read_39s, eX5_read_40, eX5_read_40n, eX5_read_42, eX5_read_42n, eX5_read_44n, eX5_read_44, eX5_read_47, eX5_read_47n, eX5_read_48, eX5_read_49, eX5_read_52, eX5_read_55, eX5_read_55n, eX5_read_56, eX5_read_57, eX5_read_60, eX5_read_63, eX5_read_66, eX5_read_67, eX5_read_68, eX5_read_68n, eX5_read_70, eX5_read_70n, eX5_read_71, eX5_read_72, eX5_read_75, eX5_read_78, eX5_read_81, eX5_read_84, eX5_read_86, en_kl_0, en_kl_i, en_kl_r, en_kl_n, en_kl_l, en_Ec_some, en_Ec_void, en_rcv, en_stk, List.map_cons, List.map_nil, List.sum_cons, List.sum_nil, Value.category, Nat.reduceAdd, Nat.reduceLeDiff, decide_true, true_and, and_true, and_self, zI_add, zI_sub, zI_mul, zI_neg, zI_lt, zI_le, zI_eq, zI_cl, zI_0, zI_1, zI_m1, zI_lit, zT_0, zT_01, zI_01, zI_11, ↓reduceIte, if_true, if_false, not_false_eq_true, not_true_eq_false, Int.reduceEq, Int.reduceLT, Int.reduceLE, Classical.not_not, Bool.false_eq_true, fi_0, ft_0_0, ft_0_1, ft_0_2, ft_0_3, ft_0_4, ft_0_5, fi_3, ft_3_0, ft_3_1, fi_5, ft_5_0, ft_5_1, fi_8, ft_8_0, ft_8_1, ft_8_2, ft_8_3, ft_8_4, ft_8_5, fi_14, ft_14_0, ft_14_1, fi_19, ft_19_0, ft_19_1, ft_19_2, ft_19_3, ft_19_5, ft_19_6, ft_19_7, ft_19_8, ft_19_12, ft_19_13, ft_19_14, ft_19_15, ft_19_16, ft_19_21, fx_4, fx_6, fx_7, fx_9, fx_10, fx_11, fx_12, fx_13, fx_15, fx_16, fx_17, fx_18, fx_20, fx_21, fx_22, fx_23, fx_24, fx_25, fx_26, fx_27, fx_28, fx_29, fx_30, fx_31, fx_32, fx_33, s_sheetOf h1 h2, s_isLost hS, zT_f h3, hi]
  exact loop 10 0 w none rfl hK (by have e : rdG it G 0 = G := (by funext r; unfold rdG; rw [if_neg (by omega)]); rw [e]; exact hD) en_fr.rf
theorem s_write_bad (h : ¬ (0 ≤ q ∧ q ≤ 3)) (q1 : -2147483648 ≤ q) (q2 : q < 2147483648) : SX5_write [.ref 0, .int (zI q)] w = some (some (.int (zI (-2))), w) := by
  refine en_val rfl (fun Q hQ => ?_)
  show en_Ev XX5_write 0 [some (.ref 0), some (.int (zI q)), none, none, none] [] w Q
  simp (disch := omega) only [eX5_write_0, eX5_write_1, eX5_write_2, eX5_write_5, eX5_write_5n, eX5_write_6, eX5_write_6n, eX5_write_7n, eX5_write_7, eX5_write_10, eX5_write_12, eX5_write_13, eX5_write_13n, eX5_write_14, eX5_write_17, eX5_write_20, eX5_write_21, eX5_write_22, eX5_write_25, eX5_write_26, eX5_write_27, eX5_write_28, eX5_write_31, eX5_write_34, eX5_write_34n, eX5_write_35, eX5_write_38, eX5_write_39, eX5_write_42, eX5_write_45, eX5_write_48, eX5_write_51, eX5_write_52, eX5_write_53, eX5_write_57, eX5_write_58, eX5_write_61, eX5_write_61n, eX5_write_62, eX5_write_64, eX5_write_65, eX5_write_68, eX5_write_70, eX5_write_73, eX5_write_76, eX5_write_79, eX5_write_82, eX5_write_83, en_kl_0, en_kl_i, en_kl_r, en_kl_n, en_kl_l, en_Ec_some, en_Ec_void, en_rcv, en_stk, List.map_cons, List.map_nil, List.sum_cons, List.sum_nil, Value.category, Nat.reduceAdd, Nat.reduceLeDiff, decide_true, true_and, and_true, and_self, zI_add, zI_sub, zI_mul, zI_neg, zI_lt, zI_le, zI_eq, zI_cl, zI_0, zI_1, zI_m1, zI_lit, zT_0, zT_01, zI_01, zI_11, ↓reduceIte, if_true, if_false, not_false_eq_true, not_true_eq_false, Int.reduceEq, Int.reduceLT, Int.reduceLE, Classical.not_not, Bool.false_eq_true, fi_0, ft_0_0, ft_0_1, ft_0_2, ft_0_3, ft_0_4, ft_0_5, fi_3, ft_3_0, ft_3_1, fi_5, ft_5_0, ft_5_1, fi_8, ft_8_0, ft_8_1, ft_8_2, ft_8_3, ft_8_4, ft_8_5, fi_14, ft_14_0, ft_14_1, fi_19, ft_19_0, ft_19_1, ft_19_2, ft_19_3, ft_19_5, ft_19_6, ft_19_7, ft_19_8, ft_19_12, ft_19_13, ft_19_14, ft_19_15, ft_19_16, ft_19_21, fx_4, fx_6, fx_7, fx_9, fx_10, fx_11, fx_12, fx_13, fx_15, fx_16, fx_17, fx_18, fx_20, fx_21, fx_22, fx_23, fx_24, fx_25, fx_26, fx_27, fx_28, fx_29, fx_30, fx_31, fx_32, fx_33, s_sheetOfN h q1 q2]
  exact hQ
theorem s_write_null (hS : aS1 w (54 + 2 * q.toNat) fo sz it) (h1 : 0 ≤ q) (h2 : q ≤ 3) (h3 : fo = -1) : SX5_write [.ref 0, .int (zI q)] w = some (some (.int (zI (-11))), wFi w 1) := by
  refine en_val rfl (fun Q hQ => ?_)
  show en_Ev XX5_write 0 [some (.ref 0), some (.int (zI q)), none, none, none] [] w Q
  have hi := hS.1.1
  simp (disch := omega) only [eX5_write_0, eX5_write_1, eX5_write_2, eX5_write_5, eX5_write_5n, eX5_write_6, eX5_write_6n, eX5_write_7n, eX5_write_7, eX5_write_10, eX5_write_12, eX5_write_13, eX5_write_13n, eX5_write_14, eX5_write_17, eX5_write_20, eX5_write_21, eX5_write_22, eX5_write_25, eX5_write_26, eX5_write_27, eX5_write_28, eX5_write_31, eX5_write_34, eX5_write_34n, eX5_write_35, eX5_write_38, eX5_write_39, eX5_write_42, eX5_write_45, eX5_write_48, eX5_write_51, eX5_write_52, eX5_write_53, eX5_write_57, eX5_write_58, eX5_write_61, eX5_write_61n, eX5_write_62, eX5_write_64, eX5_write_65, eX5_write_68, eX5_write_70, eX5_write_73, eX5_write_76, eX5_write_79, eX5_write_82, eX5_write_83, en_kl_0, en_kl_i, en_kl_r, en_kl_n, en_kl_l, en_Ec_some, en_Ec_void, en_rcv, en_stk, List.map_cons, List.map_nil, List.sum_cons, List.sum_nil, Value.category, Nat.reduceAdd, Nat.reduceLeDiff, decide_true, true_and, and_true, and_self, zI_add, zI_sub, zI_mul, zI_neg, zI_lt, zI_le, zI_eq, zI_cl, zI_0, zI_1, zI_m1, zI_lit, zT_0, zT_01, zI_01, zI_11, ↓reduceIte, if_true, if_false, not_false_eq_true, not_true_eq_false, Int.reduceEq, Int.reduceLT, Int.reduceLE, Classical.not_not, Bool.false_eq_true, fi_0, ft_0_0, ft_0_1, ft_0_2, ft_0_3, ft_0_4, ft_0_5, fi_3, ft_3_0, ft_3_1, fi_5, ft_5_0, ft_5_1, fi_8, ft_8_0, ft_8_1, ft_8_2, ft_8_3, ft_8_4, ft_8_5, fi_14, ft_14_0, ft_14_1, fi_19, ft_19_0, ft_19_1, ft_19_2, ft_19_3, ft_19_5, ft_19_6, ft_19_7, ft_19_8, ft_19_12, ft_19_13, ft_19_14, ft_19_15, ft_19_16, ft_19_21, fx_4, fx_6, fx_7, fx_9, fx_10, fx_11, fx_12, fx_13, fx_15, fx_16, fx_17, fx_18, fx_20, fx_21, fx_22, fx_23, fx_24, fx_25, fx_26, fx_27, fx_28, fx_29, fx_30, fx_31, fx_32, fx_33, s_sheetOf h1 h2, s_isLost hS, zT_t h3, hi, s_finding]
  exact hQ
/-- a sheet's items with what was played written over the first k -/
def wrI (fo : Int) (pl : Nat → Int) (it : Nat → Int32) (k : Nat) : Nat → Int32 := fun r => if r < k then cutF fo (zI (pl r)) else it r
theorem s_write_ok (hS : aS1 w (54 + 2 * q.toNat) fo sz it) (hD : aD w G s) (hT : en_slip w n tb) (hP : aP w kick law life pat) (h1 : 0 ≤ q) (h2 : q ≤ 3) (h3 : fo ≠ -1) : ∃ w', SX5_write [.ref 0, .int (zI q)] w = some (some (.int (zI ((min sz (tcn n tb) : Nat) : Int))), w') ∧ aS1 w' (54 + 2 * q.toNat) fo sz (wrI fo (npl (aNt G s n tb kick life law)) it (min sz (tcn n tb))) ∧ en_fr ((54 + 2 * q.toNat + 1) :: NF) w w' := by
  obtain ⟨M, hM⟩ : ∃ M, min sz (tcn n tb) = M := ⟨_, rfl⟩
  have hM1 : M ≤ sz := by omega
  have hM2 : M ≤ tcn n tb := by omega
  rw [hM]
  obtain ⟨p1, ⟨p2, p3, p4⟩, p5, p6⟩ := id hP
  obtain ⟨w1, e1, k1, f1⟩ := s_passNight hD hT hP p3 p4
  change en_nD w1 (tcn n tb) (tcm n tb) (tcb n tb) (ml G s kick) (aNt G s n tb kick life law) at k1
  have hi := hS.1.1
  have hcn := k1.1.2.1
  have hsz := hS.2.2.1.2.1
  have hfo := hS.2.1.2.1
  have n1 : 54 + 2 * q.toNat ∉ NF := by simp only [NF, List.mem_cons, List.not_mem_nil, or_false]; omega
  have n2 : 54 + 2 * q.toNat + 1 ∉ NF := by simp only [NF, List.mem_cons, List.not_mem_nil, or_false]; omega
  have hS1 : aS1 w1 (54 + 2 * q.toNat) fo sz it := hS.fr (f1 _ n1) (f1 _ n2)
  have hT1 := hT.nf f1
  refine (en_ex (nL := 5) (As := [.ref 0, .int (zI q)]) rfl (P := fun r w' => r = some (.int (zI (M : Int))) ∧ aS1 w' (54 + 2 * q.toNat) fo sz (wrI fo (npl (aNt G s n tb kick life law)) it (M)) ∧ en_fr ((54 + 2 * q.toNat + 1) :: NF) w w') ?_).elim (fun r hr => hr.elim (fun w' hw => ⟨w', hw.2.1 ▸ hw.1, hw.2.2⟩))
  show en_Ev XX5_write 0 [some (.ref 0), some (.int (zI q)), none, none, none] [] w _
  have loop : ∀ (d i : Nat) (w2 : en_W), i + d = M → en_nD w2 (tcn n tb) (tcm n tb) (tcb n tb) (ml G s kick) (aNt G s n tb kick life law) → aS1 w2 (54 + 2 * q.toNat) fo sz (wrI fo (npl (aNt G s n tb kick life law)) it i) → en_fr ((54 + 2 * q.toNat + 1) :: NF) w w2 → en_Ev XX5_write 55 [some (.ref 0), some (.int (zI q)), some (.ref (54 + 2 * q.toNat)), some (.int (zI (M : Int))), some (.int (zI i))] [] w2 (fun r w' => r = some (.int (zI (M : Int))) ∧ aS1 w' (54 + 2 * q.toNat) fo sz (wrI fo (npl (aNt G s n tb kick life law)) it (M)) ∧ en_fr ((54 + 2 * q.toNat + 1) :: NF) w w') := by
    intro d
    induction d with
    | zero =>
      intro i w2 k1 k2 k3 k4
      have c1 : (M : Int) ≤ (i : Int) := by omega
      have e : i = M := by omega
      rw [eX5_write_55]
      simp (disch := omega) only [eX5_write_0, eX5_write_1, eX5_write_2, eX5_write_5, eX5_write_5n, eX5_write_6, eX5_write_6n, eX5_write_7n, eX5_write_7, eX5_write_10, eX5_write_12, eX5_write_13, eX5_write_13n, eX5_write_14, eX5_write_17, eX5_write_20, eX5_write_21, eX5_write_22, eX5_write_25, eX5_write_26, eX5_write_27, eX5_write_28, eX5_write_31, eX5_write_34, eX5_write_34n, eX5_write_35, eX5_write_38, eX5_write_39, eX5_write_42, eX5_write_45, eX5_write_48, eX5_write_51, eX5_write_52, eX5_write_53, eX5_write_57, eX5_write_58, eX5_write_61, eX5_write_61n, eX5_write_62, eX5_write_64, eX5_write_65, eX5_write_68, eX5_write_70, eX5_write_73, eX5_write_76, eX5_write_79, eX5_write_82, eX5_write_83, en_kl_0, en_kl_i, en_kl_r, en_kl_n, en_kl_l, en_Ec_some, en_Ec_void, en_rcv, en_stk, List.map_cons, List.map_nil, List.sum_cons, List.sum_nil, Value.category, Nat.reduceAdd, Nat.reduceLeDiff, decide_true, true_and, and_true, and_self, zI_add, zI_sub, zI_mul, zI_neg, zI_lt, zI_le, zI_eq, zI_cl, zI_0, zI_1, zI_m1, zI_lit, zT_0, zT_01, zI_01, zI_11, ↓reduceIte, if_true, if_false, not_false_eq_true, not_true_eq_false, Int.reduceEq, Int.reduceLT, Int.reduceLE, Classical.not_not, Bool.false_eq_true, c1]
      rw [← e]
      first | exact ⟨rfl, k3, k4⟩ | exact ⟨k3, k4⟩
    | succ d ih =>
      intro i w2 k1 k2 k3 k4
      have c1 : ¬ (M : Int) ≤ (i : Int) := by omega
      have hp := s_playedFor (c := (i : Int)) k2 (by omega) (by omega)
      have en1 : nat1 (tcn n tb) (npl (aNt G s n tb kick life law)) (i : Int) = npl (aNt G s n tb kick life law) i := by
        unfold nat1
        rw [if_pos (by omega), Int.toNat_natCast]
      rw [en1] at hp
      have hput := s_put (v := (i : Int)) (x := zI (npl (aNt G s n tb kick life law) i)) k3 (by omega) (by omega) (by omega)
      rw [Int.toNat_natCast] at hput
      rw [eX5_write_55]
      simp (disch := omega) only [eX5_write_0, eX5_write_1, eX5_write_2, eX5_write_5, eX5_write_5n, eX5_write_6, eX5_write_6n, eX5_write_7n, eX5_write_7, eX5_write_10, eX5_write_12, eX5_write_13, eX5_write_13n, eX5_write_14, eX5_write_17, eX5_write_20, eX5_write_21, eX5_write_22, eX5_write_25, eX5_write_26, eX5_write_27, eX5_write_28, eX5_write_31, eX5_write_34, eX5_write_34n, eX5_write_35, eX5_write_38, eX5_write_39, eX5_write_42, eX5_write_45, eX5_write_48, eX5_write_51, eX5_write_52, eX5_write_53, eX5_write_57, eX5_write_58, eX5_write_61, eX5_write_61n, eX5_write_62, eX5_write_64, eX5_write_65, eX5_write_68, eX5_write_70, eX5_write_73, eX5_write_76, eX5_write_79, eX5_write_82, eX5_write_83, en_kl_0, en_kl_i, en_kl_r, en_kl_n, en_kl_l, en_Ec_some, en_Ec_void, en_rcv, en_stk, List.map_cons, List.map_nil, List.sum_cons, List.sum_nil, Value.category, Nat.reduceAdd, Nat.reduceLeDiff, decide_true, true_and, and_true, and_self, zI_add, zI_sub, zI_mul, zI_neg, zI_lt, zI_le, zI_eq, zI_cl, zI_0, zI_1, zI_m1, zI_lit, zT_0, zT_01, zI_01, zI_11, ↓reduceIte, if_true, if_false, not_false_eq_true, not_true_eq_false, Int.reduceEq, Int.reduceLT, Int.reduceLE, Classical.not_not, Bool.false_eq_true, fi_0, ft_0_0, ft_0_1, ft_0_2, ft_0_3, ft_0_4, ft_0_5, fi_3, ft_3_0, ft_3_1, fi_5, ft_5_0, ft_5_1, fi_8, ft_8_0, ft_8_1, ft_8_2, ft_8_3, ft_8_4, ft_8_5, fi_14, ft_14_0, ft_14_1, fi_19, ft_19_0, ft_19_1, ft_19_2, ft_19_3, ft_19_5, ft_19_6, ft_19_7, ft_19_8, ft_19_12, ft_19_13, ft_19_14, ft_19_15, ft_19_16, ft_19_21, fx_4, fx_6, fx_7, fx_9, fx_10, fx_11, fx_12, fx_13, fx_15, fx_16, fx_17, fx_18, fx_20, fx_21, fx_22, fx_23, fx_24, fx_25, fx_26, fx_27, fx_28, fx_29, fx_30, fx_31, fx_32, fx_33, c1, hi, hp, hput]
      refine ih (i + 1) _ (by omega) (k2.fr ?_ ?_ ?_ ?_ ?_ ?_ ?_ ?_) ?_ (k4.up (by simp)) <;> try exact en_up_ne (by omega)
      obtain ⟨g1, g2, g3, g4⟩ := k3
      refine ⟨g1, ?_, ?_, fun j hj => ?_⟩
      · rw [en_up_ne (by omega)]; exact g2
      · rw [en_up_ne (by omega)]; exact g3
      · rw [en_up_eq]
        unfold wrI
        by_cases e : j = i
        · subst e; rw [upd_eq, if_pos (by omega)]
        · rw [upd_ne e, g4 j hj]
          unfold wrI
          by_cases e2 : j < i
          · rw [if_pos e2, if_pos (by omega)]
          · rw [if_neg e2, if_neg (by omega)]
  have hm : SJ_Jmin [.int (zI sz), .int (zI (tcn n tb))] w1 = some (some (.int (zI (M : Int))), w1) := by
    rw [s_min (by omega) (by omega) (by omega) (by omega)]
    rw [show min (sz : Int) (tcn n tb) = (M : Int) by omega]
  simp (disch := omega) only [eX5_write_0, eX5_write_1, eX5_write_2, eX5_write_5, eX5_write_5n, eX5_write_6, eX5_write_6n, eX5_write_7n, eX5_write_7, eX5_write_10, eX5_write_12, eX5_write_13, eX5_write_13n, eX5_write_14, eX5_write_17, eX5_write_20, eX5_write_21, eX5_write_22, eX5_write_25, eX5_write_26, eX5_write_27, eX5_write_28, eX5_write_31, eX5_write_34, eX5_write_34n, eX5_write_35, eX5_write_38, eX5_write_39, eX5_write_42, eX5_write_45, eX5_write_48, eX5_write_51, eX5_write_52, eX5_write_53, eX5_write_57, eX5_write_58, eX5_write_61, eX5_write_61n, eX5_write_62, eX5_write_64, eX5_write_65, eX5_write_68, eX5_write_70, eX5_write_73, eX5_write_76, eX5_write_79, eX5_write_82, eX5_write_83, en_kl_0, en_kl_i, en_kl_r, en_kl_n, en_kl_l, en_Ec_some, en_Ec_void, en_rcv, en_stk, List.map_cons, List.map_nil, List.sum_cons, List.sum_nil, Value.category, Nat.reduceAdd, Nat.reduceLeDiff, decide_true, true_and, and_true, and_self, zI_add, zI_sub, zI_mul, zI_neg, zI_lt, zI_le, zI_eq, zI_cl, zI_0, zI_1, zI_m1, zI_lit, zT_0, zT_01, zI_01, zI_11, ↓reduceIte, if_true, if_false, not_false_eq_true, not_true_eq_false, Int.reduceEq, Int.reduceLT, Int.reduceLE, Classical.not_not, Bool.false_eq_true, fi_0, ft_0_0, ft_0_1, ft_0_2, ft_0_3, ft_0_4, ft_0_5, fi_3, ft_3_0, ft_3_1, fi_5, ft_5_0, ft_5_1, fi_8, ft_8_0, ft_8_1, ft_8_2, ft_8_3, ft_8_4, ft_8_5, fi_14, ft_14_0, ft_14_1, fi_19, ft_19_0, ft_19_1, ft_19_2, ft_19_3, ft_19_5, ft_19_6, ft_19_7, ft_19_8, ft_19_12, ft_19_13, ft_19_14, ft_19_15, ft_19_16, ft_19_21, fx_4, fx_6, fx_7, fx_9, fx_10, fx_11, fx_12, fx_13, fx_15, fx_16, fx_17, fx_18, fx_20, fx_21, fx_22, fx_23, fx_24, fx_25, fx_26, fx_27, fx_28, fx_29, fx_30, fx_31, fx_32, fx_33, s_sheetOf h1 h2, s_isLost hS, zT_f h3, hi, p2, e1, s_sheetNumber hS1, s_slipCoins, s_number en_coins_5 hT1.2.2, hm]
  exact loop M 0 w1 (by omega) k1 (by
    obtain ⟨g1, g2, g3, g4⟩ := hS1
    refine ⟨g1, g2, g3, fun j hj => ?_⟩
    unfold wrI
    rw [if_neg (by omega)]
    exact g4 j hj) (f1.mono (fun k hk => List.mem_cons_of_mem _ hk))
theorem s_allLong (hD : aD w G s) : SX5_allLong [.ref 0] w = some (some (.int (zI (sG G 10))), w) := by
  refine en_val rfl (fun Q hQ => ?_)
  show en_Ev XX5_allLong 0 [some (.ref 0), none, none, none] [] w Q
  have loop : ∀ (d i : Nat) (l3 : Option Value), i + d = 10 → en_Ev XX5_allLong 4 [some (.ref 0), some (.int (zI (sG G i))), some (.int (zI i)), l3] [] w Q := by
    intro d
    induction d with
    | zero =>
      intro i l3 k1
      have c1 : (10 : Int) ≤ (i : Int) := by omega
      have e : i = 10 := by omega
      rw [eX5_allLong_4]
      simp (disch := omega) only [eX5_allLong_0, eX5_allLong_1, eX5_allLong_2, eX5_allLong_3, eX5_allLong_5, eX5_allLong_7, eX5_allLong_10, eX5_allLong_11, eX5_allLong_14, eX5_allLong_15, eX5_allLong_15s, eX5_allLong_16, eX5_allLong_16n, eX5_allLong_17, eX5_allLong_18, eX5_allLong_18n, eX5_allLong_19n, eX5_allLong_19, eX5_allLong_22, eX5_allLong_23, eX5_allLong_26, eX5_allLong_26n, eX5_allLong_27, eX5_allLong_30, eX5_allLong_31, eX5_allLong_32, eX5_allLong_35, eX5_allLong_38, eX5_allLong_39, en_kl_0, en_kl_i, en_kl_r, en_kl_n, en_kl_l, en_Ec_some, en_Ec_void, en_rcv, en_stk, List.map_cons, List.map_nil, List.sum_cons, List.sum_nil, Value.category, Nat.reduceAdd, Nat.reduceLeDiff, decide_true, true_and, and_true, and_self, zI_add, zI_sub, zI_mul, zI_neg, zI_lt, zI_le, zI_eq, zI_cl, zI_0, zI_1, zI_m1, zI_lit, zT_0, zT_01, zI_01, zI_11, ↓reduceIte, if_true, if_false, not_false_eq_true, not_true_eq_false, Int.reduceEq, Int.reduceLT, Int.reduceLE, Classical.not_not, Bool.false_eq_true, c1]
      rw [e]
      exact hQ
    | succ d ih =>
      intro i l3 k1
      have c1 : ¬ (10 : Int) ≤ (i : Int) := by omega
      have c2 : ¬ (i : Int) < 0 := by omega
      have c3 : ¬ 10 ≤ i := by omega
      have edi : en_is (34 + 2 * i) 1 = true := (hD i (by omega)).1.1
      rw [eX5_allLong_4]
      simp (disch := omega) only [eX5_allLong_0, eX5_allLong_1, eX5_allLong_2, eX5_allLong_3, eX5_allLong_5, eX5_allLong_7, eX5_allLong_10, eX5_allLong_11, eX5_allLong_14, eX5_allLong_15, eX5_allLong_15s, eX5_allLong_16, eX5_allLong_16n, eX5_allLong_17, eX5_allLong_18, eX5_allLong_18n, eX5_allLong_19n, eX5_allLong_19, eX5_allLong_22, eX5_allLong_23, eX5_allLong_26, eX5_allLong_26n, eX5_allLong_27, eX5_allLong_30, eX5_allLong_31, eX5_allLong_32, eX5_allLong_35, eX5_allLong_38, eX5_allLong_39, en_kl_0, en_kl_i, en_kl_r, en_kl_n, en_kl_l, en_Ec_some, en_Ec_void, en_rcv, en_stk, List.map_cons, List.map_nil, List.sum_cons, List.sum_nil, Value.category, Nat.reduceAdd, Nat.reduceLeDiff, decide_true, true_and, and_true, and_self, zI_add, zI_sub, zI_mul, zI_neg, zI_lt, zI_le, zI_eq, zI_cl, zI_0, zI_1, zI_m1, zI_lit, zT_0, zT_01, zI_01, zI_11, ↓reduceIte, if_true, if_false, not_false_eq_true, not_true_eq_false, Int.reduceEq, Int.reduceLT, Int.reduceLE, Classical.not_not, Bool.false_eq_true, fi_0, ft_0_0, ft_0_1, ft_0_2, ft_0_3, ft_0_4, ft_0_5, fi_3, ft_3_0, ft_3_1, fi_5, ft_5_0, ft_5_1, fi_8, ft_8_0, ft_8_1, ft_8_2, ft_8_3, ft_8_4, ft_8_5, fi_14, ft_14_0, ft_14_1, fi_19, ft_19_0, ft_19_1, ft_19_2, ft_19_3, ft_19_5, ft_19_6, ft_19_7, ft_19_8, ft_19_12, ft_19_13, ft_19_14, ft_19_15, ft_19_16, ft_19_21, fx_4, fx_6, fx_7, fx_9, fx_10, fx_11, fx_12, fx_13, fx_15, fx_16, fx_17, fx_18, fx_20, fx_21, fx_22, fx_23, fx_24, fx_25, fx_26, fx_27, fx_28, fx_29, fx_30, fx_31, fx_32, fx_33, c1, c2, c3, or_self, Int.toNat_natCast, edi, s_longNow (hD i (by omega))]
      exact ih (i + 1) _ (by omega)
  simp (disch := omega) only [eX5_allLong_0, eX5_allLong_1, eX5_allLong_2, eX5_allLong_3, en_kl_0, en_kl_i, en_kl_r, en_kl_n, en_kl_l, en_Ec_some, en_Ec_void, en_rcv, en_stk, List.map_cons, List.map_nil, List.sum_cons, List.sum_nil, Value.category, Nat.reduceAdd, Nat.reduceLeDiff, decide_true, true_and, and_true, and_self, zI_add, zI_sub, zI_mul, zI_neg, zI_lt, zI_le, zI_eq, zI_cl, zI_0, zI_1, zI_m1, zI_lit, zT_0, zT_01, zI_01, zI_11, ↓reduceIte, if_true, if_false, not_false_eq_true, not_true_eq_false, Int.reduceEq, Int.reduceLT, Int.reduceLE, Classical.not_not, Bool.false_eq_true]
  exact loop 10 0 none rfl
def mcs (s : Nat → Nat → Int) : Nat → Int := fun r => (mc (s r) 9 : Int)
theorem s_allScratches (hD : aD w G s) : SX5_allScratches [.ref 0] w = some (some (.int (zI (sG (mcs s) 10))), w) := by
  refine en_val rfl (fun Q hQ => ?_)
  show en_Ev XX5_allScratches 0 [some (.ref 0), none, none, none] [] w Q
  have loop : ∀ (d i : Nat) (l3 : Option Value), i + d = 10 → en_Ev XX5_allScratches 4 [some (.ref 0), some (.int (zI (sG (mcs s) i))), some (.int (zI i)), l3] [] w Q := by
    intro d
    induction d with
    | zero =>
      intro i l3 k1
      have c1 : (10 : Int) ≤ (i : Int) := by omega
      have e : i = 10 := by omega
      rw [eX5_allScratches_4]
      simp (disch := omega) only [eX5_allScratches_0, eX5_allScratches_1, eX5_allScratches_2, eX5_allScratches_3, eX5_allScratches_5, eX5_allScratches_7, eX5_allScratches_10, eX5_allScratches_11, eX5_allScratches_14, eX5_allScratches_15, eX5_allScratches_15s, eX5_allScratches_16, eX5_allScratches_16n, eX5_allScratches_17, eX5_allScratches_18, eX5_allScratches_18n, eX5_allScratches_19n, eX5_allScratches_19, eX5_allScratches_22, eX5_allScratches_23, eX5_allScratches_26, eX5_allScratches_26n, eX5_allScratches_27, eX5_allScratches_30, eX5_allScratches_31, eX5_allScratches_32, eX5_allScratches_35, eX5_allScratches_38, eX5_allScratches_39, en_kl_0, en_kl_i, en_kl_r, en_kl_n, en_kl_l, en_Ec_some, en_Ec_void, en_rcv, en_stk, List.map_cons, List.map_nil, List.sum_cons, List.sum_nil, Value.category, Nat.reduceAdd, Nat.reduceLeDiff, decide_true, true_and, and_true, and_self, zI_add, zI_sub, zI_mul, zI_neg, zI_lt, zI_le, zI_eq, zI_cl, zI_0, zI_1, zI_m1, zI_lit, zT_0, zT_01, zI_01, zI_11, ↓reduceIte, if_true, if_false, not_false_eq_true, not_true_eq_false, Int.reduceEq, Int.reduceLT, Int.reduceLE, Classical.not_not, Bool.false_eq_true, c1]
      rw [e]
      exact hQ
    | succ d ih =>
      intro i l3 k1
      have c1 : ¬ (10 : Int) ≤ (i : Int) := by omega
      have c2 : ¬ (i : Int) < 0 := by omega
      have c3 : ¬ 10 ≤ i := by omega
      have edi : en_is (34 + 2 * i) 1 = true := (hD i (by omega)).1.1
      rw [eX5_allScratches_4]
      simp (disch := omega) only [eX5_allScratches_0, eX5_allScratches_1, eX5_allScratches_2, eX5_allScratches_3, eX5_allScratches_5, eX5_allScratches_7, eX5_allScratches_10, eX5_allScratches_11, eX5_allScratches_14, eX5_allScratches_15, eX5_allScratches_15s, eX5_allScratches_16, eX5_allScratches_16n, eX5_allScratches_17, eX5_allScratches_18, eX5_allScratches_18n, eX5_allScratches_19n, eX5_allScratches_19, eX5_allScratches_22, eX5_allScratches_23, eX5_allScratches_26, eX5_allScratches_26n, eX5_allScratches_27, eX5_allScratches_30, eX5_allScratches_31, eX5_allScratches_32, eX5_allScratches_35, eX5_allScratches_38, eX5_allScratches_39, en_kl_0, en_kl_i, en_kl_r, en_kl_n, en_kl_l, en_Ec_some, en_Ec_void, en_rcv, en_stk, List.map_cons, List.map_nil, List.sum_cons, List.sum_nil, Value.category, Nat.reduceAdd, Nat.reduceLeDiff, decide_true, true_and, and_true, and_self, zI_add, zI_sub, zI_mul, zI_neg, zI_lt, zI_le, zI_eq, zI_cl, zI_0, zI_1, zI_m1, zI_lit, zT_0, zT_01, zI_01, zI_11, ↓reduceIte, if_true, if_false, not_false_eq_true, not_true_eq_false, Int.reduceEq, Int.reduceLT, Int.reduceLE, Classical.not_not, Bool.false_eq_true, fi_0, ft_0_0, ft_0_1, ft_0_2, ft_0_3, ft_0_4, ft_0_5, fi_3, ft_3_0, ft_3_1, fi_5, ft_5_0, ft_5_1, fi_8, ft_8_0, ft_8_1, ft_8_2, ft_8_3, ft_8_4, ft_8_5, fi_14, ft_14_0, ft_14_1, fi_19, ft_19_0, ft_19_1, ft_19_2, ft_19_3, ft_19_5, ft_19_6, ft_19_7, ft_19_8, ft_19_12, ft_19_13, ft_19_14, ft_19_15, ft_19_16, ft_19_21, fx_4, fx_6, fx_7, fx_9, fx_10, fx_11, fx_12, fx_13, fx_15, fx_16, fx_17, fx_18, fx_20, fx_21, fx_22, fx_23, fx_24, fx_25, fx_26, fx_27, fx_28, fx_29, fx_30, fx_31, fx_32, fx_33, c1, c2, c3, or_self, Int.toNat_natCast, edi, s_scratches (hD i (by omega))]
      exact ih (i + 1) _ (by omega)
  simp (disch := omega) only [eX5_allScratches_0, eX5_allScratches_1, eX5_allScratches_2, eX5_allScratches_3, en_kl_0, en_kl_i, en_kl_r, en_kl_n, en_kl_l, en_Ec_some, en_Ec_void, en_rcv, en_stk, List.map_cons, List.map_nil, List.sum_cons, List.sum_nil, Value.category, Nat.reduceAdd, Nat.reduceLeDiff, decide_true, true_and, and_true, and_self, zI_add, zI_sub, zI_mul, zI_neg, zI_lt, zI_le, zI_eq, zI_cl, zI_0, zI_1, zI_m1, zI_lit, zT_0, zT_01, zI_01, zI_11, ↓reduceIte, if_true, if_false, not_false_eq_true, not_true_eq_false, Int.reduceEq, Int.reduceLT, Int.reduceLE, Classical.not_not, Bool.false_eq_true]
  exact loop 10 0 none rfl
/-- what count answers -/
def aCt (G : Nat → Int) (s : Nat → Nat → Int) (n : Nat) (tb : Nat → Int) (kick law life : Int) (hn : Nat) (lat a : Int) : Int := if a = 0 then tcn n tb else if a = 1 then n else if a = 2 then sG G 10 else if a = 3 then sG (mcs s) 10 else if a = 4 then nps (aNt G s n tb kick life law) else if a = 5 then hn else if a = 6 then law else if a = 7 then kick else if a = 8 then lat else -2
theorem s_count {hn : Nat} {hm hr : Nat → Int} {lat : Int} (hD : aD w G s) (hT : en_slip w n tb) (hP : aP w kick law life pat) (hH : aH w hn hm hr) (hL : w 0 11 = zI lat) (a1 : -2147483648 ≤ a) (a2 : a < 2147483648) : ∃ w', SX5_count [.ref 0, .int (zI a)] w = some (some (.int (zI (aCt G s n tb kick law life hn lat a))), w') ∧ en_fr NF w w' := by
  obtain ⟨⟨p1, -⟩, ⟨p2, -⟩, -⟩ := id hP
  obtain ⟨p3, -⟩ := id hH
  unfold aCt
  by_cases c4 : a = 4
  · subst c4
    obtain ⟨w1, e1, f1⟩ := s_allPlays5 hD hT hP
    refine ⟨w1, en_val rfl (fun Q hQ => ?_), f1⟩
    show en_Ev XX5_count 0 [some (.ref 0), some (.int (zI 4))] [] w Q
    simp (disch := omega) only [eX5_count_0, eX5_count_1, eX5_count_52, eX5_count_53, eX5_count_56, eX5_count_59, eX5_count_62, eX5_count_63, eX5_count_64, eX5_count_67, eX5_count_70, eX5_count_71, eX5_count_72, eX5_count_75, eX5_count_76, eX5_count_77, eX5_count_80, eX5_count_81, eX5_count_82, eX5_count_85, eX5_count_86, eX5_count_87, eX5_count_90, eX5_count_91, eX5_count_92, eX5_count_95, eX5_count_96, eX5_count_97, eX5_count_100, eX5_count_101, eX5_count_102, eX5_count_105, eX5_count_106, eX5_count_108, en_kl_0, en_kl_i, en_kl_r, en_kl_n, en_kl_l, en_Ec_some, en_Ec_void, en_rcv, en_stk, List.map_cons, List.map_nil, List.sum_cons, List.sum_nil, Value.category, Nat.reduceAdd, Nat.reduceLeDiff, decide_true, true_and, and_true, and_self, zI_add, zI_sub, zI_mul, zI_neg, zI_lt, zI_le, zI_eq, zI_cl, zI_0, zI_1, zI_m1, zI_lit, zT_0, zT_01, zI_01, zI_11, ↓reduceIte, if_true, if_false, not_false_eq_true, not_true_eq_false, Int.reduceEq, Int.reduceLT, Int.reduceLE, Classical.not_not, Bool.false_eq_true, fi_0, ft_0_0, ft_0_1, ft_0_2, ft_0_3, ft_0_4, ft_0_5, fi_3, ft_3_0, ft_3_1, fi_5, ft_5_0, ft_5_1, fi_8, ft_8_0, ft_8_1, ft_8_2, ft_8_3, ft_8_4, ft_8_5, fi_14, ft_14_0, ft_14_1, fi_19, ft_19_0, ft_19_1, ft_19_2, ft_19_3, ft_19_5, ft_19_6, ft_19_7, ft_19_8, ft_19_12, ft_19_13, ft_19_14, ft_19_15, ft_19_16, ft_19_21, fx_4, fx_6, fx_7, fx_9, fx_10, fx_11, fx_12, fx_13, fx_15, fx_16, fx_17, fx_18, fx_20, fx_21, fx_22, fx_23, fx_24, fx_25, fx_26, fx_27, fx_28, fx_29, fx_30, fx_31, fx_32, fx_33, e1] at hQ ⊢
    exact hQ
  · refine ⟨w, en_val rfl (fun Q hQ => ?_), en_fr.rf⟩
    show en_Ev XX5_count 0 [some (.ref 0), some (.int (zI a))] [] w Q
    by_cases c0 : a = 0
    · subst c0
      simp (disch := omega) only [eX5_count_0, eX5_count_1, eX5_count_52, eX5_count_53, eX5_count_56, eX5_count_59, eX5_count_62, eX5_count_63, eX5_count_64, eX5_count_67, eX5_count_70, eX5_count_71, eX5_count_72, eX5_count_75, eX5_count_76, eX5_count_77, eX5_count_80, eX5_count_81, eX5_count_82, eX5_count_85, eX5_count_86, eX5_count_87, eX5_count_90, eX5_count_91, eX5_count_92, eX5_count_95, eX5_count_96, eX5_count_97, eX5_count_100, eX5_count_101, eX5_count_102, eX5_count_105, eX5_count_106, eX5_count_108, en_kl_0, en_kl_i, en_kl_r, en_kl_n, en_kl_l, en_Ec_some, en_Ec_void, en_rcv, en_stk, List.map_cons, List.map_nil, List.sum_cons, List.sum_nil, Value.category, Nat.reduceAdd, Nat.reduceLeDiff, decide_true, true_and, and_true, and_self, zI_add, zI_sub, zI_mul, zI_neg, zI_lt, zI_le, zI_eq, zI_cl, zI_0, zI_1, zI_m1, zI_lit, zT_0, zT_01, zI_01, zI_11, ↓reduceIte, if_true, if_false, not_false_eq_true, not_true_eq_false, Int.reduceEq, Int.reduceLT, Int.reduceLE, Classical.not_not, Bool.false_eq_true, fi_0, ft_0_0, ft_0_1, ft_0_2, ft_0_3, ft_0_4, ft_0_5, fi_3, ft_3_0, ft_3_1, fi_5, ft_5_0, ft_5_1, fi_8, ft_8_0, ft_8_1, ft_8_2, ft_8_3, ft_8_4, ft_8_5, fi_14, ft_14_0, ft_14_1, fi_19, ft_19_0, ft_19_1, ft_19_2, ft_19_3, ft_19_5, ft_19_6, ft_19_7, ft_19_8, ft_19_12, ft_19_13, ft_19_14, ft_19_15, ft_19_16, ft_19_21, fx_4, fx_6, fx_7, fx_9, fx_10, fx_11, fx_12, fx_13, fx_15, fx_16, fx_17, fx_18, fx_20, fx_21, fx_22, fx_23, fx_24, fx_25, fx_26, fx_27, fx_28, fx_29, fx_30, fx_31, fx_32, fx_33, s_slipCoins, s_number en_coins_5 hT.2.2] at hQ ⊢
      exact hQ
    by_cases c1 : a = 1
    · subst c1
      simp (disch := omega) only [eX5_count_0, eX5_count_1, eX5_count_52, eX5_count_53, eX5_count_56, eX5_count_59, eX5_count_62, eX5_count_63, eX5_count_64, eX5_count_67, eX5_count_70, eX5_count_71, eX5_count_72, eX5_count_75, eX5_count_76, eX5_count_77, eX5_count_80, eX5_count_81, eX5_count_82, eX5_count_85, eX5_count_86, eX5_count_87, eX5_count_90, eX5_count_91, eX5_count_92, eX5_count_95, eX5_count_96, eX5_count_97, eX5_count_100, eX5_count_101, eX5_count_102, eX5_count_105, eX5_count_106, eX5_count_108, en_kl_0, en_kl_i, en_kl_r, en_kl_n, en_kl_l, en_Ec_some, en_Ec_void, en_rcv, en_stk, List.map_cons, List.map_nil, List.sum_cons, List.sum_nil, Value.category, Nat.reduceAdd, Nat.reduceLeDiff, decide_true, true_and, and_true, and_self, zI_add, zI_sub, zI_mul, zI_neg, zI_lt, zI_le, zI_eq, zI_cl, zI_0, zI_1, zI_m1, zI_lit, zT_0, zT_01, zI_01, zI_11, ↓reduceIte, if_true, if_false, not_false_eq_true, not_true_eq_false, Int.reduceEq, Int.reduceLT, Int.reduceLE, Classical.not_not, Bool.false_eq_true, fi_0, ft_0_0, ft_0_1, ft_0_2, ft_0_3, ft_0_4, ft_0_5, fi_3, ft_3_0, ft_3_1, fi_5, ft_5_0, ft_5_1, fi_8, ft_8_0, ft_8_1, ft_8_2, ft_8_3, ft_8_4, ft_8_5, fi_14, ft_14_0, ft_14_1, fi_19, ft_19_0, ft_19_1, ft_19_2, ft_19_3, ft_19_5, ft_19_6, ft_19_7, ft_19_8, ft_19_12, ft_19_13, ft_19_14, ft_19_15, ft_19_16, ft_19_21, fx_4, fx_6, fx_7, fx_9, fx_10, fx_11, fx_12, fx_13, fx_15, fx_16, fx_17, fx_18, fx_20, fx_21, fx_22, fx_23, fx_24, fx_25, fx_26, fx_27, fx_28, fx_29, fx_30, fx_31, fx_32, fx_33, s_bytesHeld hT.1] at hQ ⊢
      exact hQ
    by_cases c2 : a = 2
    · subst c2
      simp (disch := omega) only [eX5_count_0, eX5_count_1, eX5_count_52, eX5_count_53, eX5_count_56, eX5_count_59, eX5_count_62, eX5_count_63, eX5_count_64, eX5_count_67, eX5_count_70, eX5_count_71, eX5_count_72, eX5_count_75, eX5_count_76, eX5_count_77, eX5_count_80, eX5_count_81, eX5_count_82, eX5_count_85, eX5_count_86, eX5_count_87, eX5_count_90, eX5_count_91, eX5_count_92, eX5_count_95, eX5_count_96, eX5_count_97, eX5_count_100, eX5_count_101, eX5_count_102, eX5_count_105, eX5_count_106, eX5_count_108, en_kl_0, en_kl_i, en_kl_r, en_kl_n, en_kl_l, en_Ec_some, en_Ec_void, en_rcv, en_stk, List.map_cons, List.map_nil, List.sum_cons, List.sum_nil, Value.category, Nat.reduceAdd, Nat.reduceLeDiff, decide_true, true_and, and_true, and_self, zI_add, zI_sub, zI_mul, zI_neg, zI_lt, zI_le, zI_eq, zI_cl, zI_0, zI_1, zI_m1, zI_lit, zT_0, zT_01, zI_01, zI_11, ↓reduceIte, if_true, if_false, not_false_eq_true, not_true_eq_false, Int.reduceEq, Int.reduceLT, Int.reduceLE, Classical.not_not, Bool.false_eq_true, fi_0, ft_0_0, ft_0_1, ft_0_2, ft_0_3, ft_0_4, ft_0_5, fi_3, ft_3_0, ft_3_1, fi_5, ft_5_0, ft_5_1, fi_8, ft_8_0, ft_8_1, ft_8_2, ft_8_3, ft_8_4, ft_8_5, fi_14, ft_14_0, ft_14_1, fi_19, ft_19_0, ft_19_1, ft_19_2, ft_19_3, ft_19_5, ft_19_6, ft_19_7, ft_19_8, ft_19_12, ft_19_13, ft_19_14, ft_19_15, ft_19_16, ft_19_21, fx_4, fx_6, fx_7, fx_9, fx_10, fx_11, fx_12, fx_13, fx_15, fx_16, fx_17, fx_18, fx_20, fx_21, fx_22, fx_23, fx_24, fx_25, fx_26, fx_27, fx_28, fx_29, fx_30, fx_31, fx_32, fx_33, s_allLong hD] at hQ ⊢
      exact hQ
    by_cases c3 : a = 3
    · subst c3
      simp (disch := omega) only [eX5_count_0, eX5_count_1, eX5_count_52, eX5_count_53, eX5_count_56, eX5_count_59, eX5_count_62, eX5_count_63, eX5_count_64, eX5_count_67, eX5_count_70, eX5_count_71, eX5_count_72, eX5_count_75, eX5_count_76, eX5_count_77, eX5_count_80, eX5_count_81, eX5_count_82, eX5_count_85, eX5_count_86, eX5_count_87, eX5_count_90, eX5_count_91, eX5_count_92, eX5_count_95, eX5_count_96, eX5_count_97, eX5_count_100, eX5_count_101, eX5_count_102, eX5_count_105, eX5_count_106, eX5_count_108, en_kl_0, en_kl_i, en_kl_r, en_kl_n, en_kl_l, en_Ec_some, en_Ec_void, en_rcv, en_stk, List.map_cons, List.map_nil, List.sum_cons, List.sum_nil, Value.category, Nat.reduceAdd, Nat.reduceLeDiff, decide_true, true_and, and_true, and_self, zI_add, zI_sub, zI_mul, zI_neg, zI_lt, zI_le, zI_eq, zI_cl, zI_0, zI_1, zI_m1, zI_lit, zT_0, zT_01, zI_01, zI_11, ↓reduceIte, if_true, if_false, not_false_eq_true, not_true_eq_false, Int.reduceEq, Int.reduceLT, Int.reduceLE, Classical.not_not, Bool.false_eq_true, fi_0, ft_0_0, ft_0_1, ft_0_2, ft_0_3, ft_0_4, ft_0_5, fi_3, ft_3_0, ft_3_1, fi_5, ft_5_0, ft_5_1, fi_8, ft_8_0, ft_8_1, ft_8_2, ft_8_3, ft_8_4, ft_8_5, fi_14, ft_14_0, ft_14_1, fi_19, ft_19_0, ft_19_1, ft_19_2, ft_19_3, ft_19_5, ft_19_6, ft_19_7, ft_19_8, ft_19_12, ft_19_13, ft_19_14, ft_19_15, ft_19_16, ft_19_21, fx_4, fx_6, fx_7, fx_9, fx_10, fx_11, fx_12, fx_13, fx_15, fx_16, fx_17, fx_18, fx_20, fx_21, fx_22, fx_23, fx_24, fx_25, fx_26, fx_27, fx_28, fx_29, fx_30, fx_31, fx_32, fx_33, s_allScratches hD] at hQ ⊢
      exact hQ
    by_cases c5 : a = 5
    · subst c5
      simp (disch := omega) only [eX5_count_0, eX5_count_1, eX5_count_52, eX5_count_53, eX5_count_56, eX5_count_59, eX5_count_62, eX5_count_63, eX5_count_64, eX5_count_67, eX5_count_70, eX5_count_71, eX5_count_72, eX5_count_75, eX5_count_76, eX5_count_77, eX5_count_80, eX5_count_81, eX5_count_82, eX5_count_85, eX5_count_86, eX5_count_87, eX5_count_90, eX5_count_91, eX5_count_92, eX5_count_95, eX5_count_96, eX5_count_97, eX5_count_100, eX5_count_101, eX5_count_102, eX5_count_105, eX5_count_106, eX5_count_108, en_kl_0, en_kl_i, en_kl_r, en_kl_n, en_kl_l, en_Ec_some, en_Ec_void, en_rcv, en_stk, List.map_cons, List.map_nil, List.sum_cons, List.sum_nil, Value.category, Nat.reduceAdd, Nat.reduceLeDiff, decide_true, true_and, and_true, and_self, zI_add, zI_sub, zI_mul, zI_neg, zI_lt, zI_le, zI_eq, zI_cl, zI_0, zI_1, zI_m1, zI_lit, zT_0, zT_01, zI_01, zI_11, ↓reduceIte, if_true, if_false, not_false_eq_true, not_true_eq_false, Int.reduceEq, Int.reduceLT, Int.reduceLE, Classical.not_not, Bool.false_eq_true, fi_0, ft_0_0, ft_0_1, ft_0_2, ft_0_3, ft_0_4, ft_0_5, fi_3, ft_3_0, ft_3_1, fi_5, ft_5_0, ft_5_1, fi_8, ft_8_0, ft_8_1, ft_8_2, ft_8_3, ft_8_4, ft_8_5, fi_14, ft_14_0, ft_14_1, fi_19, ft_19_0, ft_19_1, ft_19_2, ft_19_3, ft_19_5, ft_19_6, ft_19_7, ft_19_8, ft_19_12, ft_19_13, ft_19_14, ft_19_15, ft_19_16, ft_19_21, fx_4, fx_6, fx_7, fx_9, fx_10, fx_11, fx_12, fx_13, fx_15, fx_16, fx_17, fx_18, fx_20, fx_21, fx_22, fx_23, fx_24, fx_25, fx_26, fx_27, fx_28, fx_29, fx_30, fx_31, fx_32, fx_33, p3] at hQ ⊢
      exact hQ
    by_cases c6 : a = 6
    · subst c6
      simp (disch := omega) only [eX5_count_0, eX5_count_1, eX5_count_52, eX5_count_53, eX5_count_56, eX5_count_59, eX5_count_62, eX5_count_63, eX5_count_64, eX5_count_67, eX5_count_70, eX5_count_71, eX5_count_72, eX5_count_75, eX5_count_76, eX5_count_77, eX5_count_80, eX5_count_81, eX5_count_82, eX5_count_85, eX5_count_86, eX5_count_87, eX5_count_90, eX5_count_91, eX5_count_92, eX5_count_95, eX5_count_96, eX5_count_97, eX5_count_100, eX5_count_101, eX5_count_102, eX5_count_105, eX5_count_106, eX5_count_108, en_kl_0, en_kl_i, en_kl_r, en_kl_n, en_kl_l, en_Ec_some, en_Ec_void, en_rcv, en_stk, List.map_cons, List.map_nil, List.sum_cons, List.sum_nil, Value.category, Nat.reduceAdd, Nat.reduceLeDiff, decide_true, true_and, and_true, and_self, zI_add, zI_sub, zI_mul, zI_neg, zI_lt, zI_le, zI_eq, zI_cl, zI_0, zI_1, zI_m1, zI_lit, zT_0, zT_01, zI_01, zI_11, ↓reduceIte, if_true, if_false, not_false_eq_true, not_true_eq_false, Int.reduceEq, Int.reduceLT, Int.reduceLE, Classical.not_not, Bool.false_eq_true, fi_0, ft_0_0, ft_0_1, ft_0_2, ft_0_3, ft_0_4, ft_0_5, fi_3, ft_3_0, ft_3_1, fi_5, ft_5_0, ft_5_1, fi_8, ft_8_0, ft_8_1, ft_8_2, ft_8_3, ft_8_4, ft_8_5, fi_14, ft_14_0, ft_14_1, fi_19, ft_19_0, ft_19_1, ft_19_2, ft_19_3, ft_19_5, ft_19_6, ft_19_7, ft_19_8, ft_19_12, ft_19_13, ft_19_14, ft_19_15, ft_19_16, ft_19_21, fx_4, fx_6, fx_7, fx_9, fx_10, fx_11, fx_12, fx_13, fx_15, fx_16, fx_17, fx_18, fx_20, fx_21, fx_22, fx_23, fx_24, fx_25, fx_26, fx_27, fx_28, fx_29, fx_30, fx_31, fx_32, fx_33, p2] at hQ ⊢
      exact hQ
    by_cases c7 : a = 7
    · subst c7
      simp (disch := omega) only [eX5_count_0, eX5_count_1, eX5_count_52, eX5_count_53, eX5_count_56, eX5_count_59, eX5_count_62, eX5_count_63, eX5_count_64, eX5_count_67, eX5_count_70, eX5_count_71, eX5_count_72, eX5_count_75, eX5_count_76, eX5_count_77, eX5_count_80, eX5_count_81, eX5_count_82, eX5_count_85, eX5_count_86, eX5_count_87, eX5_count_90, eX5_count_91, eX5_count_92, eX5_count_95, eX5_count_96, eX5_count_97, eX5_count_100, eX5_count_101, eX5_count_102, eX5_count_105, eX5_count_106, eX5_count_108, en_kl_0, en_kl_i, en_kl_r, en_kl_n, en_kl_l, en_Ec_some, en_Ec_void, en_rcv, en_stk, List.map_cons, List.map_nil, List.sum_cons, List.sum_nil, Value.category, Nat.reduceAdd, Nat.reduceLeDiff, decide_true, true_and, and_true, and_self, zI_add, zI_sub, zI_mul, zI_neg, zI_lt, zI_le, zI_eq, zI_cl, zI_0, zI_1, zI_m1, zI_lit, zT_0, zT_01, zI_01, zI_11, ↓reduceIte, if_true, if_false, not_false_eq_true, not_true_eq_false, Int.reduceEq, Int.reduceLT, Int.reduceLE, Classical.not_not, Bool.false_eq_true, fi_0, ft_0_0, ft_0_1, ft_0_2, ft_0_3, ft_0_4, ft_0_5, fi_3, ft_3_0, ft_3_1, fi_5, ft_5_0, ft_5_1, fi_8, ft_8_0, ft_8_1, ft_8_2, ft_8_3, ft_8_4, ft_8_5, fi_14, ft_14_0, ft_14_1, fi_19, ft_19_0, ft_19_1, ft_19_2, ft_19_3, ft_19_5, ft_19_6, ft_19_7, ft_19_8, ft_19_12, ft_19_13, ft_19_14, ft_19_15, ft_19_16, ft_19_21, fx_4, fx_6, fx_7, fx_9, fx_10, fx_11, fx_12, fx_13, fx_15, fx_16, fx_17, fx_18, fx_20, fx_21, fx_22, fx_23, fx_24, fx_25, fx_26, fx_27, fx_28, fx_29, fx_30, fx_31, fx_32, fx_33, p1] at hQ ⊢
      exact hQ
    by_cases c8 : a = 8
    · subst c8
      simp (disch := omega) only [eX5_count_0, eX5_count_1, eX5_count_52, eX5_count_53, eX5_count_56, eX5_count_59, eX5_count_62, eX5_count_63, eX5_count_64, eX5_count_67, eX5_count_70, eX5_count_71, eX5_count_72, eX5_count_75, eX5_count_76, eX5_count_77, eX5_count_80, eX5_count_81, eX5_count_82, eX5_count_85, eX5_count_86, eX5_count_87, eX5_count_90, eX5_count_91, eX5_count_92, eX5_count_95, eX5_count_96, eX5_count_97, eX5_count_100, eX5_count_101, eX5_count_102, eX5_count_105, eX5_count_106, eX5_count_108, en_kl_0, en_kl_i, en_kl_r, en_kl_n, en_kl_l, en_Ec_some, en_Ec_void, en_rcv, en_stk, List.map_cons, List.map_nil, List.sum_cons, List.sum_nil, Value.category, Nat.reduceAdd, Nat.reduceLeDiff, decide_true, true_and, and_true, and_self, zI_add, zI_sub, zI_mul, zI_neg, zI_lt, zI_le, zI_eq, zI_cl, zI_0, zI_1, zI_m1, zI_lit, zT_0, zT_01, zI_01, zI_11, ↓reduceIte, if_true, if_false, not_false_eq_true, not_true_eq_false, Int.reduceEq, Int.reduceLT, Int.reduceLE, Classical.not_not, Bool.false_eq_true, fi_0, ft_0_0, ft_0_1, ft_0_2, ft_0_3, ft_0_4, ft_0_5, fi_3, ft_3_0, ft_3_1, fi_5, ft_5_0, ft_5_1, fi_8, ft_8_0, ft_8_1, ft_8_2, ft_8_3, ft_8_4, ft_8_5, fi_14, ft_14_0, ft_14_1, fi_19, ft_19_0, ft_19_1, ft_19_2, ft_19_3, ft_19_5, ft_19_6, ft_19_7, ft_19_8, ft_19_12, ft_19_13, ft_19_14, ft_19_15, ft_19_16, ft_19_21, fx_4, fx_6, fx_7, fx_9, fx_10, fx_11, fx_12, fx_13, fx_15, fx_16, fx_17, fx_18, fx_20, fx_21, fx_22, fx_23, fx_24, fx_25, fx_26, fx_27, fx_28, fx_29, fx_30, fx_31, fx_32, fx_33, hL] at hQ ⊢
      exact hQ
    simp (disch := omega) only [eX5_count_0, eX5_count_1, eX5_count_52, eX5_count_53, eX5_count_56, eX5_count_59, eX5_count_62, eX5_count_63, eX5_count_64, eX5_count_67, eX5_count_70, eX5_count_71, eX5_count_72, eX5_count_75, eX5_count_76, eX5_count_77, eX5_count_80, eX5_count_81, eX5_count_82, eX5_count_85, eX5_count_86, eX5_count_87, eX5_count_90, eX5_count_91, eX5_count_92, eX5_count_95, eX5_count_96, eX5_count_97, eX5_count_100, eX5_count_101, eX5_count_102, eX5_count_105, eX5_count_106, eX5_count_108, en_kl_0, en_kl_i, en_kl_r, en_kl_n, en_kl_l, en_Ec_some, en_Ec_void, en_rcv, en_stk, List.map_cons, List.map_nil, List.sum_cons, List.sum_nil, Value.category, Nat.reduceAdd, Nat.reduceLeDiff, decide_true, true_and, and_true, and_self, zI_add, zI_sub, zI_mul, zI_neg, zI_lt, zI_le, zI_eq, zI_cl, zI_0, zI_1, zI_m1, zI_lit, zT_0, zT_01, zI_01, zI_11, ↓reduceIte, if_true, if_false, not_false_eq_true, not_true_eq_false, Int.reduceEq, Int.reduceLT, Int.reduceLE, Classical.not_not, Bool.false_eq_true, fi_0, ft_0_0, ft_0_1, ft_0_2, ft_0_3, ft_0_4, ft_0_5, fi_3, ft_3_0, ft_3_1, fi_5, ft_5_0, ft_5_1, fi_8, ft_8_0, ft_8_1, ft_8_2, ft_8_3, ft_8_4, ft_8_5, fi_14, ft_14_0, ft_14_1, fi_19, ft_19_0, ft_19_1, ft_19_2, ft_19_3, ft_19_5, ft_19_6, ft_19_7, ft_19_8, ft_19_12, ft_19_13, ft_19_14, ft_19_15, ft_19_16, ft_19_21, fx_4, fx_6, fx_7, fx_9, fx_10, fx_11, fx_12, fx_13, fx_15, fx_16, fx_17, fx_18, fx_20, fx_21, fx_22, fx_23, fx_24, fx_25, fx_26, fx_27, fx_28, fx_29, fx_30, fx_31, fx_32, fx_33, c0, c1, c2, c3, c4, c5, c6, c7, c8] at hQ ⊢
    exact hQ
end
