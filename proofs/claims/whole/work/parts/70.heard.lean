/-! ===== the model: heard, laws, next, since ===== -/
theorem lI_eq {a b : Int} (h1 : -4611686018427387904 ≤ a) (h2 : a < 4611686018427387904) (h3 : -4611686018427387904 ≤ b) (h4 : b < 4611686018427387904) : (lI a = lI b) = (a = b) := by
  rw [← Int64.toInt_inj, lI_toInt h1 h2, lI_toInt h3 h4]
theorem lc_eq {a b : Int} (h1 : -4611686018427387904 ≤ a) (h2 : a < 4611686018427387904) (h3 : -4611686018427387904 ≤ b) (h4 : b < 4611686018427387904) : (lg_cmp (lI a) (lI b) = zI 0) = (a = b) := by
  rw [← zI_0, ← lI_eq h1 h2 h3 h4]
  exact propext (lg_cmp_eq _ _)
theorem lI_div {a d : Nat} (ha : a < 2147483648) (h0 : 0 < d) (hd : d < 2147483648) : lI (a : Int) / lI (d : Int) = lI ((a / d : Nat) : Int) := by
  apply Int64.toInt_inj.mp
  have h1 : a / d ≤ a := Nat.div_le_self _ _
  have e1 := lI_toInt (z := (a : Int)) (by omega) (by omega)
  have e2 := lI_toInt (z := (d : Int)) (by omega) (by omega)
  rw [lg_ldiv_nonneg (by rw [e1]; omega) (by rw [e2]; omega), e1, e2, lI_toInt (z := ((a / d : Nat) : Int)) (by have := Int.natCast_nonneg (a / d); omega) (by omega)]
  exact (Int.natCast_ediv a d).symm
theorem lI_rem {a d : Nat} (ha : a < 2147483648) (h0 : 0 < d) (hd : d < 2147483648) : lI (a : Int) - lI (a : Int) / lI (d : Int) * lI (d : Int) = lI ((a % d : Nat) : Int) := by
  rw [lI_div ha h0 hd, lI_mul, lI_sub]
  congr 1
  have h := Nat.div_add_mod a d
  have e : (a : Int) = (d : Int) * ((a / d : Nat) : Int) + ((a % d : Nat) : Int) := by
    rw [← Int.natCast_mul, ← Int.natCast_add, h]
  rw [Int.mul_comm]
  omega
theorem lN_lI (x : Nat) : lN x = lI (x : Int) := by
  unfold lN lI
  rw [Int64.ofInt_eq_ofNat]
/-- all of the first k -/
def aSn (f : Nat → Bool) : Nat → Bool
  | 0 => true
  | k + 1 => aSn f k && f k
theorem aSn_iff {f : Nat → Bool} : ∀ k : Nat, aSn f k = true ↔ ∀ j, j < k → f j = true
  | 0 => ⟨fun _ j hj => absurd hj (Nat.not_lt_zero j), fun _ => rfl⟩
  | k + 1 => by
    show (aSn f k && f k) = true ↔ _
    rw [Bool.and_eq_true, aSn_iff k]
    constructor
    · rintro ⟨h1, h2⟩ j hj
      by_cases e : j = k
      · rw [e]; exact h2
      · exact h1 j (by omega)
    · intro h
      exact ⟨fun j hj => h j (by omega), h k (by omega)⟩
theorem aSo_iff {f : Nat → Bool} : ∀ d i : Nat, aSo f d i = true ↔ ∀ j, i ≤ j → j < i + d → f j = true
  | 0, i => ⟨fun _ j h1 h2 => by omega, fun _ => rfl⟩
  | d + 1, i => by
    have ih := aSo_iff (f := f) d (i + 1)
    show (if f i = true then aSo f d (i + 1) else false) = true ↔ _
    by_cases c : f i = true
    · rw [if_pos c, ih]
      constructor
      · intro h j h1 h2
        by_cases e : j = i
        · rw [e]; exact c
        · exact h j (by omega) (by omega)
      · intro h j h1 h2
        exact h j (by omega) (by omega)
    · rw [if_neg c]
      exact ⟨fun h => absurd h (by decide), fun h => absurd (h i (Nat.le_refl i) (by omega)) c⟩
theorem aSo_aSn {f : Nat → Bool} {k : Nat} : aSo f k 0 = aSn f k := by
  have h1 := aSo_iff (f := f) k 0
  have h2 := aSn_iff (f := f) k
  have h3 : aSo f k 0 = true ↔ aSn f k = true := by
    rw [h1, h2]
    exact ⟨fun h j hj => h j (Nat.zero_le j) (by omega), fun h j _ hj => h j (by omega)⟩
  cases h4 : aSo f k 0 <;> cases h5 : aSn f k <;> simp [h4, h5] at h3 ⊢
theorem bH.o {w w' : en_W} {hn : Nat} {hm hr : Nat → Int} (h : bH w hn hm hr) (hf : ofr w w') : bH w' hn hm hr := by
  obtain ⟨h1, h2, h3⟩ := h
  refine ⟨by rw [hf.2 20 (by decide) (by decide) (by decide) (by decide) (by decide)]; exact h1, h2, fun j hj => ?_⟩
  rw [hf.1 33 (by decide)]
  exact h3 j hj
section
variable {w v u : en_W} {G : Nat → Int} {s : Nat → Nat → Int} {kick law life pat : Int} {n k hn : Nat} {tb cm cb len hm hr : Nat → Int} {t : NT} {a m r h x z : Int}
theorem r_heard_bad (hh : ¬ ((0 ≤ m ∧ m ≤ 199) ∧ (-1 ≤ r ∧ r ≤ 9))) (m1 : -2147483648 ≤ m) (m2 : m < 2147483648) (r1 : -2147483648 ≤ r) (r2 : r < 2147483648) : SX6_heard [.ref 19, .int (zI m), .int (zI r)] w = some (some (.int (zI (-2))), w) := by
  refine en_val rfl (fun Q hQ => ?_)
  show en_Ev XX6_heard 0 [some (.ref 19), some (.int (zI m)), some (.int (zI r))] [] w Q
  by_cases c1 : 0 ≤ m ∧ m ≤ 199
  · have c2 : ¬ (-1 ≤ r ∧ r ≤ 9) := fun q => hh ⟨c1, q⟩
    simp (disch := omega) only [eX6_heard_0, eX6_heard_1, eX6_heard_2, eX6_heard_3, eX6_heard_6, eX6_heard_9, eX6_heard_12, eX6_heard_13, eX6_heard_14, eX6_heard_17, eX6_heard_20, eX6_heard_23, eX6_heard_26, eX6_heard_28, eX6_heard_29, eX6_heard_30, eX6_heard_33, eX6_heard_35, eX6_heard_38, eX6_heard_40, eX6_heard_41, eX6_heard_42, eX6_heard_45, eX6_heard_46, eX6_heard_47, eX6_heard_50, eX6_heard_51, eX6_heard_52, eX6_heard_53, eX6_heard_54, eX6_heard_57, eX6_heard_58, eX6_heard_59, eX6_heard_62, eX6_heard_63, eX6_heard_64, eX6_heard_65, eX6_heard_66, eX6_heard_67, eX6_heard_68, eX6_heard_68i, eX6_heard_69, eX6_heard_72, eX6_heard_73, eX6_heard_74, eX6_heard_77, eX6_heard_78, eX6_heard_81, en_kl_0, en_kl_i, en_kl_r, en_kl_n, en_kl_l, en_Ec_some, en_Ec_void, en_rcv, en_stk, List.map_cons, List.map_nil, List.sum_cons, List.sum_nil, Value.category, Nat.reduceAdd, Nat.reduceLeDiff, decide_true, true_and, and_true, and_self, zI_add, zI_sub, zI_mul, zI_neg, zI_lt, zI_le, zI_eq, zI_cl, zI_0, zI_1, zI_m1, zI_lit, zT_0, zT_01, zI_01, zI_11, ↓reduceIte, if_true, if_false, not_false_eq_true, not_true_eq_false, Int.reduceEq, Int.reduceLT, Int.reduceLE, Classical.not_not, Bool.false_eq_true, lI_of, lI_0, lI_1, lI_m1, lI_lit, lI_neg, lI_add, lI_sub, lI_mul, lc_lt, lc_gt, lc_le, lc_ge, fi_19, ft_19_0, ft_19_1, ft_19_2, ft_19_3, ft_19_5, ft_19_6, ft_19_7, ft_19_8, ft_19_12, ft_19_13, ft_19_14, ft_19_15, ft_19_16, ft_19_21, xi_20, xi_21, xi_22, xi_23, xi_24, xi_25, xi_26, xi_27, xi_28, xi_29, xi_30, xi_31, xi_32, xi_33, Int.toNat_natCast, Int.reduceToNat, r_in, zT_t c1, zT_f c2]
    exact hQ
  · simp (disch := omega) only [eX6_heard_0, eX6_heard_1, eX6_heard_2, eX6_heard_3, eX6_heard_6, eX6_heard_9, eX6_heard_12, eX6_heard_13, eX6_heard_14, eX6_heard_17, eX6_heard_20, eX6_heard_23, eX6_heard_26, eX6_heard_28, eX6_heard_29, eX6_heard_30, eX6_heard_33, eX6_heard_35, eX6_heard_38, eX6_heard_40, eX6_heard_41, eX6_heard_42, eX6_heard_45, eX6_heard_46, eX6_heard_47, eX6_heard_50, eX6_heard_51, eX6_heard_52, eX6_heard_53, eX6_heard_54, eX6_heard_57, eX6_heard_58, eX6_heard_59, eX6_heard_62, eX6_heard_63, eX6_heard_64, eX6_heard_65, eX6_heard_66, eX6_heard_67, eX6_heard_68, eX6_heard_68i, eX6_heard_69, eX6_heard_72, eX6_heard_73, eX6_heard_74, eX6_heard_77, eX6_heard_78, eX6_heard_81, en_kl_0, en_kl_i, en_kl_r, en_kl_n, en_kl_l, en_Ec_some, en_Ec_void, en_rcv, en_stk, List.map_cons, List.map_nil, List.sum_cons, List.sum_nil, Value.category, Nat.reduceAdd, Nat.reduceLeDiff, decide_true, true_and, and_true, and_self, zI_add, zI_sub, zI_mul, zI_neg, zI_lt, zI_le, zI_eq, zI_cl, zI_0, zI_1, zI_m1, zI_lit, zT_0, zT_01, zI_01, zI_11, ↓reduceIte, if_true, if_false, not_false_eq_true, not_true_eq_false, Int.reduceEq, Int.reduceLT, Int.reduceLE, Classical.not_not, Bool.false_eq_true, lI_of, lI_0, lI_1, lI_m1, lI_lit, lI_neg, lI_add, lI_sub, lI_mul, lc_lt, lc_gt, lc_le, lc_ge, fi_19, ft_19_0, ft_19_1, ft_19_2, ft_19_3, ft_19_5, ft_19_6, ft_19_7, ft_19_8, ft_19_12, ft_19_13, ft_19_14, ft_19_15, ft_19_16, ft_19_21, xi_20, xi_21, xi_22, xi_23, xi_24, xi_25, xi_26, xi_27, xi_28, xi_29, xi_30, xi_31, xi_32, xi_33, Int.toNat_natCast, Int.reduceToNat, r_in, zT_f c1]
    exact hQ
theorem r_heard_full (hH : bH w hn hm hr) (hf : hn = 8) (m1 : 0 ≤ m) (m2 : m ≤ 199) (r1 : -1 ≤ r) (r2 : r ≤ 9) : SX6_heard [.ref 19, .int (zI m), .int (zI r)] w = some (some (.int (zI (-4))), w) := by
  have h20 := hH.1
  rw [hf] at h20
  refine en_val rfl (fun Q hQ => ?_)
  show en_Ev XX6_heard 0 [some (.ref 19), some (.int (zI m)), some (.int (zI r))] [] w Q
  simp (disch := omega) only [eX6_heard_0, eX6_heard_1, eX6_heard_2, eX6_heard_3, eX6_heard_6, eX6_heard_9, eX6_heard_12, eX6_heard_13, eX6_heard_14, eX6_heard_17, eX6_heard_20, eX6_heard_23, eX6_heard_26, eX6_heard_28, eX6_heard_29, eX6_heard_30, eX6_heard_33, eX6_heard_35, eX6_heard_38, eX6_heard_40, eX6_heard_41, eX6_heard_42, eX6_heard_45, eX6_heard_46, eX6_heard_47, eX6_heard_50, eX6_heard_51, eX6_heard_52, eX6_heard_53, eX6_heard_54, eX6_heard_57, eX6_heard_58, eX6_heard_59, eX6_heard_62, eX6_heard_63, eX6_heard_64, eX6_heard_65, eX6_heard_66, eX6_heard_67, eX6_heard_68, eX6_heard_68i, eX6_heard_69, eX6_heard_72, eX6_heard_73, eX6_heard_74, eX6_heard_77, eX6_heard_78, eX6_heard_81, en_kl_0, en_kl_i, en_kl_r, en_kl_n, en_kl_l, en_Ec_some, en_Ec_void, en_rcv, en_stk, List.map_cons, List.map_nil, List.sum_cons, List.sum_nil, Value.category, Nat.reduceAdd, Nat.reduceLeDiff, decide_true, true_and, and_true, and_self, zI_add, zI_sub, zI_mul, zI_neg, zI_lt, zI_le, zI_eq, zI_cl, zI_0, zI_1, zI_m1, zI_lit, zT_0, zT_01, zI_01, zI_11, ↓reduceIte, if_true, if_false, not_false_eq_true, not_true_eq_false, Int.reduceEq, Int.reduceLT, Int.reduceLE, Classical.not_not, Bool.false_eq_true, lI_of, lI_0, lI_1, lI_m1, lI_lit, lI_neg, lI_add, lI_sub, lI_mul, lc_lt, lc_gt, lc_le, lc_ge, fi_19, ft_19_0, ft_19_1, ft_19_2, ft_19_3, ft_19_5, ft_19_6, ft_19_7, ft_19_8, ft_19_12, ft_19_13, ft_19_14, ft_19_15, ft_19_16, ft_19_21, xi_20, xi_21, xi_22, xi_23, xi_24, xi_25, xi_26, xi_27, xi_28, xi_29, xi_30, xi_31, xi_32, xi_33, Int.toNat_natCast, Int.reduceToNat, r_in, zT_t (And.intro m1 m2), zT_t (And.intro r1 r2), h20, Int.cast_ofNat_Int]
  exact hQ
theorem r_heard_ok (hH : bH w hn hm hr) (hf : hn < 8) (m1 : 0 ≤ m) (m2 : m ≤ 199) (r1 : -1 ≤ r) (r2 : r ≤ 9) : ∃ w', SX6_heard [.ref 19, .int (zI m), .int (zI r)] w = some (some (.int (zI ((hn : Int) + 1))), w') ∧ bH w' (hn + 1) (fun j => if j = hn then m else hm j) (fun j => if j = hn then r else hr j) ∧ w' = en_up (en_up (en_up w 33 (2 * hn) (zI m)) 33 (2 * hn + 1) (zI r)) 19 20 (zI ((hn : Int) + 1)) := by
  have h20 := hH.1
  have x0 : (2 * (hn : Int)).toNat = 2 * hn := by omega
  have x1 : (2 * (hn : Int) + 1).toNat = 2 * hn + 1 := by omega
  have c1 : ¬ (hn : Int) = 8 := by omega
  have e1 : en_up w 33 (2 * hn) (zI m) 19 20 = zI hn := by rw [en_up_ne (by decide)]; exact h20
  have e2 : en_up (en_up w 33 (2 * hn) (zI m)) 33 (2 * hn + 1) (zI r) 19 20 = zI hn := by rw [en_up_ne (by decide)]; exact e1
  have e3 : en_up (en_up (en_up w 33 (2 * hn) (zI m)) 33 (2 * hn + 1) (zI r)) 19 20 (zI ((hn : Int) + 1)) 19 20 = zI ((hn : Int) + 1) := by rw [en_up_eq, upd_eq]
  refine ⟨_, en_val rfl (fun Q hQ => ?_), ⟨e3, by omega, fun j hj => ?_⟩, rfl⟩
  · show en_Ev XX6_heard 0 [some (.ref 19), some (.int (zI m)), some (.int (zI r))] [] w Q
    simp (disch := omega) only [eX6_heard_0, eX6_heard_1, eX6_heard_2, eX6_heard_3, eX6_heard_6, eX6_heard_9, eX6_heard_12, eX6_heard_13, eX6_heard_14, eX6_heard_17, eX6_heard_20, eX6_heard_23, eX6_heard_26, eX6_heard_28, eX6_heard_29, eX6_heard_30, eX6_heard_33, eX6_heard_35, eX6_heard_38, eX6_heard_40, eX6_heard_41, eX6_heard_42, eX6_heard_45, eX6_heard_46, eX6_heard_47, eX6_heard_50, eX6_heard_51, eX6_heard_52, eX6_heard_53, eX6_heard_54, eX6_heard_57, eX6_heard_58, eX6_heard_59, eX6_heard_62, eX6_heard_63, eX6_heard_64, eX6_heard_65, eX6_heard_66, eX6_heard_67, eX6_heard_68, eX6_heard_68i, eX6_heard_69, eX6_heard_72, eX6_heard_73, eX6_heard_74, eX6_heard_77, eX6_heard_78, eX6_heard_81, en_kl_0, en_kl_i, en_kl_r, en_kl_n, en_kl_l, en_Ec_some, en_Ec_void, en_rcv, en_stk, List.map_cons, List.map_nil, List.sum_cons, List.sum_nil, Value.category, Nat.reduceAdd, Nat.reduceLeDiff, decide_true, true_and, and_true, and_self, zI_add, zI_sub, zI_mul, zI_neg, zI_lt, zI_le, zI_eq, zI_cl, zI_0, zI_1, zI_m1, zI_lit, zT_0, zT_01, zI_01, zI_11, ↓reduceIte, if_true, if_false, not_false_eq_true, not_true_eq_false, Int.reduceEq, Int.reduceLT, Int.reduceLE, Classical.not_not, Bool.false_eq_true, lI_of, lI_0, lI_1, lI_m1, lI_lit, lI_neg, lI_add, lI_sub, lI_mul, lc_lt, lc_gt, lc_le, lc_ge, fi_19, ft_19_0, ft_19_1, ft_19_2, ft_19_3, ft_19_5, ft_19_6, ft_19_7, ft_19_8, ft_19_12, ft_19_13, ft_19_14, ft_19_15, ft_19_16, ft_19_21, xi_20, xi_21, xi_22, xi_23, xi_24, xi_25, xi_26, xi_27, xi_28, xi_29, xi_30, xi_31, xi_32, xi_33, Int.toNat_natCast, Int.reduceToNat, r_in, zT_t (And.intro m1 m2), zT_t (And.intro r1 r2), h20, c1, x0, x1, e1, e2, e3]
    exact hQ
  · have e33 : en_up (en_up (en_up w 33 (2 * hn) (zI m)) 33 (2 * hn + 1) (zI r)) 19 20 (zI ((hn : Int) + 1)) 33 = upd (upd (w 33) (2 * hn) (zI m)) (2 * hn + 1) (zI r) := by rw [en_up_ne (by decide), en_up_eq, en_up_eq]
    rw [e33]
    dsimp only
    by_cases e : j = hn
    · rw [e, if_pos rfl, if_pos rfl, upd_ne (by omega), upd_eq, upd_eq]
      exact ⟨rfl, rfl, m1, by omega, r1, r2⟩
    · rw [if_neg e, if_neg e, upd_ne (by omega), upd_ne (by omega), upd_ne (by omega), upd_ne (by omega)]
      exact hH.2.2 j (by omega)
theorem r_forget (hH : bH w hn hm hr) : SX6_forget [.ref 19] w = some (some (.int (zI hn)), en_up w 19 20 (zI 0)) := by
  have h20 := hH.1
  refine en_val rfl (fun Q hQ => ?_)
  show en_Ev XX6_forget 0 [some (.ref 19), none] [] w Q
  simp (disch := omega) only [eX6_forget_0, eX6_forget_1, eX6_forget_4, eX6_forget_5, eX6_forget_6, eX6_forget_7, eX6_forget_10, eX6_forget_11, en_kl_0, en_kl_i, en_kl_r, en_kl_n, en_kl_l, en_Ec_some, en_Ec_void, en_rcv, en_stk, List.map_cons, List.map_nil, List.sum_cons, List.sum_nil, Value.category, Nat.reduceAdd, Nat.reduceLeDiff, decide_true, true_and, and_true, and_self, zI_add, zI_sub, zI_mul, zI_neg, zI_lt, zI_le, zI_eq, zI_cl, zI_0, zI_1, zI_m1, zI_lit, zT_0, zT_01, zI_01, zI_11, ↓reduceIte, if_true, if_false, not_false_eq_true, not_true_eq_false, Int.reduceEq, Int.reduceLT, Int.reduceLE, Classical.not_not, Bool.false_eq_true, fi_19, ft_19_0, ft_19_1, ft_19_2, ft_19_3, ft_19_5, ft_19_6, ft_19_7, ft_19_8, ft_19_12, ft_19_13, ft_19_14, ft_19_15, ft_19_16, ft_19_21, xi_20, xi_21, xi_22, xi_23, xi_24, xi_25, xi_26, xi_27, xi_28, xi_29, xi_30, xi_31, xi_32, xi_33, Int.toNat_natCast, Int.reduceToNat, h20]
  exact hQ
theorem r_lawsNow {p : Nat → Bool} (hG : bG w G s) (hP : bP w kick law life pat) (hC : mC w k cm cb) (hs : srt k cm) (hH : bH w hn hm hr) (hp : ∀ la : Nat, p la = aSo (fun j => decide (npi k (ml G s kick) (nnight la k cm cb (ml G s kick) life) (hm j) k 0 = hr j)) hn 0) : ∃ w', SX6_lawsNow [.ref 19] w = some (some (.int (nI (aLw p 4))), w') ∧ nfr w w' := by
  have hk := hC.2.1
  obtain ⟨h20, hn8, hhr⟩ := hH
  refine en_exq rfl (fun Q hQ => ?_)
  show en_Ev XX6_lawsNow 0 [some (.ref 19), none, none, none, none] [] w Q
  have loop : ∀ (d i : Nat) (v : en_W) (l3 l4 : Option Value), i + d = 4 → nfr w v → en_Ev XX6_lawsNow 4 [some (.ref 19), some (.int (nI (aLw p i))), some (.int (zI i)), l3, l4] [] v Q := by
    intro d
    induction d with
    | zero =>
      intro i v l3 l4 hi fv
      have x1 : (4 : Int) ≤ (i : Int) := by omega
      have e : i = 4 := by omega
      rw [eX6_lawsNow_4]
      simp (disch := omega) only [eX6_lawsNow_0, eX6_lawsNow_1, eX6_lawsNow_2, eX6_lawsNow_3, eX6_lawsNow_5, eX6_lawsNow_6, eX6_lawsNow_9, eX6_lawsNow_10, eX6_lawsNow_11, eX6_lawsNow_14, eX6_lawsNow_15, eX6_lawsNow_16, eX6_lawsNow_17, eX6_lawsNow_19, eX6_lawsNow_21, eX6_lawsNow_22, eX6_lawsNow_25, eX6_lawsNow_28, eX6_lawsNow_29, eX6_lawsNow_32, eX6_lawsNow_33, eX6_lawsNow_36, eX6_lawsNow_37, eX6_lawsNow_40, eX6_lawsNow_41, eX6_lawsNow_43, eX6_lawsNow_44, eX6_lawsNow_45, eX6_lawsNow_46, eX6_lawsNow_47, eX6_lawsNow_50, eX6_lawsNow_51, eX6_lawsNow_53, eX6_lawsNow_54, eX6_lawsNow_55, eX6_lawsNow_56, eX6_lawsNow_57, eX6_lawsNow_60, eX6_lawsNow_61, eX6_lawsNow_64, eX6_lawsNow_65, eX6_lawsNow_66, eX6_lawsNow_69, eX6_lawsNow_72, eX6_lawsNow_73, eX6_lawsNow_74, eX6_lawsNow_77, eX6_lawsNow_78, eX6_lawsNow_79, eX6_lawsNow_80, eX6_lawsNow_83, eX6_lawsNow_84, eX6_lawsNow_85, eX6_lawsNow_86, eX6_lawsNow_89, eX6_lawsNow_92, eX6_lawsNow_93, en_kl_0, en_kl_i, en_kl_r, en_kl_n, en_kl_l, en_Ec_some, en_Ec_void, en_rcv, en_stk, List.map_cons, List.map_nil, List.sum_cons, List.sum_nil, Value.category, Nat.reduceAdd, Nat.reduceLeDiff, decide_true, true_and, and_true, and_self, zI_add, zI_sub, zI_mul, zI_neg, zI_lt, zI_le, zI_eq, zI_cl, zI_0, zI_1, zI_m1, zI_lit, zT_0, zT_01, zI_01, zI_11, ↓reduceIte, if_true, if_false, not_false_eq_true, not_true_eq_false, Int.reduceEq, Int.reduceLT, Int.reduceLE, Classical.not_not, Bool.false_eq_true, fi_19, ft_19_0, ft_19_1, ft_19_2, ft_19_3, ft_19_5, ft_19_6, ft_19_7, ft_19_8, ft_19_12, ft_19_13, ft_19_14, ft_19_15, ft_19_16, ft_19_21, xi_20, xi_21, xi_22, xi_23, xi_24, xi_25, xi_26, xi_27, xi_28, xi_29, xi_30, xi_31, xi_32, xi_33, Int.toNat_natCast, Int.reduceToNat, x1]
      rw [e]
      exact hQ v fv
    | succ d ih =>
      intro i v l3 l4 hi fv
      have x1 : ¬ (4 : Int) ≤ (i : Int) := by omega
      obtain ⟨v1, e1, hN, hF, f1⟩ := r_runs (la := (i : Int)) (hG.nf fv) (hP.nf fv) (hC.nf fv) hs (by omega) (by omega)
      obtain ⟨t, ht⟩ : ∃ t, nnight (i : Int) k cm cb (ml G s kick) life = t := ⟨_, rfl⟩
      rw [ht] at hN hF
      have fv1 := fv.tr f1
      obtain ⟨f, hf⟩ : ∃ f : Nat → Bool, (fun j => decide (npi k (ml G s kick) t (hm j) k 0 = hr j)) = f := ⟨_, rfl⟩
      have hf' : ∀ j, f j = decide (npi k (ml G s kick) t (hm j) k 0 = hr j) := fun j => by rw [← hf]
      have hpi : p i = aSn f hn := by rw [hp i, ht, hf, aSo_aSn]
      have v20 : v1 19 20 = zI hn := by
        rw [fv1.2 20 (by decide) (by decide) (by decide)]
        exact h20
      have el : aLw p (i + 1) = aLw p i + (if p i = true then 2 ^ i else 0) := rfl
      have inner : ∀ (d2 j : Nat), j + d2 = hn → en_Ev XX6_lawsNow 19 [some (.ref 19), some (.int (nI (aLw p i))), some (.int (zI i)), some (.int (zT (aSn f j = true))), some (.int (zI j))] [] v1 Q := by
        intro d2
        induction d2 with
        | zero =>
          intro j hj
          have y1 : (hn : Int) ≤ (j : Int) := by omega
          have ej : j = hn := by omega
          have g := fun l3 l4 => ih (i + 1) v1 l3 l4 (by omega) fv1
          rw [el] at g
          rw [ej, ← hpi, eX6_lawsNow_19]
          have y1' : (hn : Int) ≤ (hn : Int) := Int.le_refl _
          by_cases c : p i = true
          · rw [if_pos c] at g
            rw [zT_t c]
            simp (disch := omega) only [eX6_lawsNow_0, eX6_lawsNow_1, eX6_lawsNow_2, eX6_lawsNow_3, eX6_lawsNow_5, eX6_lawsNow_6, eX6_lawsNow_9, eX6_lawsNow_10, eX6_lawsNow_11, eX6_lawsNow_14, eX6_lawsNow_15, eX6_lawsNow_16, eX6_lawsNow_17, eX6_lawsNow_21, eX6_lawsNow_22, eX6_lawsNow_25, eX6_lawsNow_28, eX6_lawsNow_29, eX6_lawsNow_32, eX6_lawsNow_33, eX6_lawsNow_36, eX6_lawsNow_37, eX6_lawsNow_40, eX6_lawsNow_41, eX6_lawsNow_43, eX6_lawsNow_44, eX6_lawsNow_45, eX6_lawsNow_46, eX6_lawsNow_47, eX6_lawsNow_50, eX6_lawsNow_51, eX6_lawsNow_53, eX6_lawsNow_54, eX6_lawsNow_55, eX6_lawsNow_56, eX6_lawsNow_57, eX6_lawsNow_60, eX6_lawsNow_61, eX6_lawsNow_64, eX6_lawsNow_65, eX6_lawsNow_66, eX6_lawsNow_69, eX6_lawsNow_72, eX6_lawsNow_73, eX6_lawsNow_74, eX6_lawsNow_77, eX6_lawsNow_78, eX6_lawsNow_79, eX6_lawsNow_80, eX6_lawsNow_83, eX6_lawsNow_84, eX6_lawsNow_85, eX6_lawsNow_86, eX6_lawsNow_89, eX6_lawsNow_92, eX6_lawsNow_93, en_kl_0, en_kl_i, en_kl_r, en_kl_n, en_kl_l, en_Ec_some, en_Ec_void, en_rcv, en_stk, List.map_cons, List.map_nil, List.sum_cons, List.sum_nil, Value.category, Nat.reduceAdd, Nat.reduceLeDiff, decide_true, true_and, and_true, and_self, zI_add, zI_sub, zI_mul, zI_neg, zI_lt, zI_le, zI_eq, zI_cl, zI_0, zI_1, zI_m1, zI_lit, zT_0, zT_01, zI_01, zI_11, ↓reduceIte, if_true, if_false, not_false_eq_true, not_true_eq_false, Int.reduceEq, Int.reduceLT, Int.reduceLE, Classical.not_not, Bool.false_eq_true, fi_19, ft_19_0, ft_19_1, ft_19_2, ft_19_3, ft_19_5, ft_19_6, ft_19_7, ft_19_8, ft_19_12, ft_19_13, ft_19_14, ft_19_15, ft_19_16, ft_19_21, xi_20, xi_21, xi_22, xi_23, xi_24, xi_25, xi_26, xi_27, xi_28, xi_29, xi_30, xi_31, xi_32, xi_33, Int.toNat_natCast, Int.reduceToNat, v20, y1', aLw_or (p := p) (show i < 9 by omega)]
            exact g _ _
          · rw [if_neg c, Nat.add_zero] at g
            have x0 : nI (aLw p i) ||| zI 0 = nI (aLw p i) := by
              rw [← zI_0]
              exact Int32.or_zero
            rw [zT_f c]
            simp (disch := omega) only [eX6_lawsNow_0, eX6_lawsNow_1, eX6_lawsNow_2, eX6_lawsNow_3, eX6_lawsNow_5, eX6_lawsNow_6, eX6_lawsNow_9, eX6_lawsNow_10, eX6_lawsNow_11, eX6_lawsNow_14, eX6_lawsNow_15, eX6_lawsNow_16, eX6_lawsNow_17, eX6_lawsNow_21, eX6_lawsNow_22, eX6_lawsNow_25, eX6_lawsNow_28, eX6_lawsNow_29, eX6_lawsNow_32, eX6_lawsNow_33, eX6_lawsNow_36, eX6_lawsNow_37, eX6_lawsNow_40, eX6_lawsNow_41, eX6_lawsNow_43, eX6_lawsNow_44, eX6_lawsNow_45, eX6_lawsNow_46, eX6_lawsNow_47, eX6_lawsNow_50, eX6_lawsNow_51, eX6_lawsNow_53, eX6_lawsNow_54, eX6_lawsNow_55, eX6_lawsNow_56, eX6_lawsNow_57, eX6_lawsNow_60, eX6_lawsNow_61, eX6_lawsNow_64, eX6_lawsNow_65, eX6_lawsNow_66, eX6_lawsNow_69, eX6_lawsNow_72, eX6_lawsNow_73, eX6_lawsNow_74, eX6_lawsNow_77, eX6_lawsNow_78, eX6_lawsNow_79, eX6_lawsNow_80, eX6_lawsNow_83, eX6_lawsNow_84, eX6_lawsNow_85, eX6_lawsNow_86, eX6_lawsNow_89, eX6_lawsNow_92, eX6_lawsNow_93, en_kl_0, en_kl_i, en_kl_r, en_kl_n, en_kl_l, en_Ec_some, en_Ec_void, en_rcv, en_stk, List.map_cons, List.map_nil, List.sum_cons, List.sum_nil, Value.category, Nat.reduceAdd, Nat.reduceLeDiff, decide_true, true_and, and_true, and_self, zI_add, zI_sub, zI_mul, zI_neg, zI_lt, zI_le, zI_eq, zI_cl, zI_0, zI_1, zI_m1, zI_lit, zT_0, zT_01, zI_01, zI_11, ↓reduceIte, if_true, if_false, not_false_eq_true, not_true_eq_false, Int.reduceEq, Int.reduceLT, Int.reduceLE, Classical.not_not, Bool.false_eq_true, fi_19, ft_19_0, ft_19_1, ft_19_2, ft_19_3, ft_19_5, ft_19_6, ft_19_7, ft_19_8, ft_19_12, ft_19_13, ft_19_14, ft_19_15, ft_19_16, ft_19_21, xi_20, xi_21, xi_22, xi_23, xi_24, xi_25, xi_26, xi_27, xi_28, xi_29, xi_30, xi_31, xi_32, xi_33, Int.toNat_natCast, Int.reduceToNat, v20, y1', x0]
            exact g _ _
        | succ d2 ih2 =>
          intro j hj
          have y1 : ¬ (hn : Int) ≤ (j : Int) := by omega
          have g := ih2 (j + 1) (by omega)
          obtain ⟨q1, q2, q3, q4, q5, q6⟩ := hhr j (by omega)
          have w33 : v1 33 = w 33 := fv1.1 33 (by decide)
          have z1 : v1 33 (2 * j) = zI (hm j) := by rw [w33]; exact q1
          have z2 : v1 33 (2 * j + 1) = zI (hr j) := by rw [w33]; exact q2
          have y2 : (2 * (j : Int)).toNat = 2 * j := by omega
          have y3 : (2 * (j : Int) + 1).toNat = 2 * j + 1 := by omega
          have z3 := hN.2.2.2.2.2 (hm j).toNat (by omega)
          rw [Int.toNat_of_nonneg q3] at z3
          have b := npi_rng (k := k) (len := ml G s kick) (h := hm j) (nB_mono hF.1 (show k ≤ 21 by omega)) k 0
          have eu : aSn f (j + 1) = (aSn f j && f j) := rfl
          rw [eX6_lawsNow_19]
          by_cases c1 : aSn f j = true
          · by_cases c2 : npi k (ml G s kick) t (hm j) k 0 = hr j
            · have c3 : aSn f (j + 1) = true := by
                rw [eu, c1, hf' j, decide_eq_true c2]
                rfl
              rw [zT_t c3] at g
              rw [zT_t c1]
              rw [c2] at z3
              simp (disch := omega) only [eX6_lawsNow_0, eX6_lawsNow_1, eX6_lawsNow_2, eX6_lawsNow_3, eX6_lawsNow_5, eX6_lawsNow_6, eX6_lawsNow_9, eX6_lawsNow_10, eX6_lawsNow_11, eX6_lawsNow_14, eX6_lawsNow_15, eX6_lawsNow_16, eX6_lawsNow_17, eX6_lawsNow_21, eX6_lawsNow_22, eX6_lawsNow_25, eX6_lawsNow_28, eX6_lawsNow_29, eX6_lawsNow_32, eX6_lawsNow_33, eX6_lawsNow_36, eX6_lawsNow_37, eX6_lawsNow_40, eX6_lawsNow_41, eX6_lawsNow_43, eX6_lawsNow_44, eX6_lawsNow_45, eX6_lawsNow_46, eX6_lawsNow_47, eX6_lawsNow_50, eX6_lawsNow_51, eX6_lawsNow_53, eX6_lawsNow_54, eX6_lawsNow_55, eX6_lawsNow_56, eX6_lawsNow_57, eX6_lawsNow_60, eX6_lawsNow_61, eX6_lawsNow_64, eX6_lawsNow_65, eX6_lawsNow_66, eX6_lawsNow_69, eX6_lawsNow_73, eX6_lawsNow_74, eX6_lawsNow_77, eX6_lawsNow_78, eX6_lawsNow_79, eX6_lawsNow_80, eX6_lawsNow_83, eX6_lawsNow_84, eX6_lawsNow_85, eX6_lawsNow_86, eX6_lawsNow_89, eX6_lawsNow_92, eX6_lawsNow_93, en_kl_0, en_kl_i, en_kl_r, en_kl_n, en_kl_l, en_Ec_some, en_Ec_void, en_rcv, en_stk, List.map_cons, List.map_nil, List.sum_cons, List.sum_nil, Value.category, Nat.reduceAdd, Nat.reduceLeDiff, decide_true, true_and, and_true, and_self, zI_add, zI_sub, zI_mul, zI_neg, zI_lt, zI_le, zI_eq, zI_cl, zI_0, zI_1, zI_m1, zI_lit, zT_0, zT_01, zI_01, zI_11, ↓reduceIte, if_true, if_false, not_false_eq_true, not_true_eq_false, Int.reduceEq, Int.reduceLT, Int.reduceLE, Classical.not_not, Bool.false_eq_true, fi_19, ft_19_0, ft_19_1, ft_19_2, ft_19_3, ft_19_5, ft_19_6, ft_19_7, ft_19_8, ft_19_12, ft_19_13, ft_19_14, ft_19_15, ft_19_16, ft_19_21, xi_20, xi_21, xi_22, xi_23, xi_24, xi_25, xi_26, xi_27, xi_28, xi_29, xi_30, xi_31, xi_32, xi_33, Int.toNat_natCast, Int.reduceToNat, v20, y1, y2, y3, z1, z2, z3]
              exact g
            · have c3 : ¬ aSn f (j + 1) = true := by
                rw [eu, c1, hf' j, decide_eq_false c2]
                decide
              rw [zT_f c3] at g
              rw [zT_t c1]
              simp (disch := omega) only [eX6_lawsNow_0, eX6_lawsNow_1, eX6_lawsNow_2, eX6_lawsNow_3, eX6_lawsNow_5, eX6_lawsNow_6, eX6_lawsNow_9, eX6_lawsNow_10, eX6_lawsNow_11, eX6_lawsNow_14, eX6_lawsNow_15, eX6_lawsNow_16, eX6_lawsNow_17, eX6_lawsNow_21, eX6_lawsNow_22, eX6_lawsNow_25, eX6_lawsNow_28, eX6_lawsNow_29, eX6_lawsNow_32, eX6_lawsNow_33, eX6_lawsNow_36, eX6_lawsNow_37, eX6_lawsNow_40, eX6_lawsNow_41, eX6_lawsNow_43, eX6_lawsNow_44, eX6_lawsNow_45, eX6_lawsNow_46, eX6_lawsNow_47, eX6_lawsNow_50, eX6_lawsNow_51, eX6_lawsNow_53, eX6_lawsNow_54, eX6_lawsNow_55, eX6_lawsNow_56, eX6_lawsNow_57, eX6_lawsNow_60, eX6_lawsNow_61, eX6_lawsNow_64, eX6_lawsNow_65, eX6_lawsNow_66, eX6_lawsNow_69, eX6_lawsNow_73, eX6_lawsNow_74, eX6_lawsNow_77, eX6_lawsNow_78, eX6_lawsNow_79, eX6_lawsNow_80, eX6_lawsNow_83, eX6_lawsNow_84, eX6_lawsNow_85, eX6_lawsNow_86, eX6_lawsNow_89, eX6_lawsNow_92, eX6_lawsNow_93, en_kl_0, en_kl_i, en_kl_r, en_kl_n, en_kl_l, en_Ec_some, en_Ec_void, en_rcv, en_stk, List.map_cons, List.map_nil, List.sum_cons, List.sum_nil, Value.category, Nat.reduceAdd, Nat.reduceLeDiff, decide_true, true_and, and_true, and_self, zI_add, zI_sub, zI_mul, zI_neg, zI_lt, zI_le, zI_eq, zI_cl, zI_0, zI_1, zI_m1, zI_lit, zT_0, zT_01, zI_01, zI_11, ↓reduceIte, if_true, if_false, not_false_eq_true, not_true_eq_false, Int.reduceEq, Int.reduceLT, Int.reduceLE, Classical.not_not, Bool.false_eq_true, fi_19, ft_19_0, ft_19_1, ft_19_2, ft_19_3, ft_19_5, ft_19_6, ft_19_7, ft_19_8, ft_19_12, ft_19_13, ft_19_14, ft_19_15, ft_19_16, ft_19_21, xi_20, xi_21, xi_22, xi_23, xi_24, xi_25, xi_26, xi_27, xi_28, xi_29, xi_30, xi_31, xi_32, xi_33, Int.toNat_natCast, Int.reduceToNat, v20, y1, y2, y3, z1, z2, z3, c2]
              exact g
          · have c3 : ¬ aSn f (j + 1) = true := by
              rw [eu, Bool.and_eq_true]
              exact fun q => c1 q.1
            rw [zT_f c3] at g
            rw [zT_f c1]
            simp (disch := omega) only [eX6_lawsNow_0, eX6_lawsNow_1, eX6_lawsNow_2, eX6_lawsNow_3, eX6_lawsNow_5, eX6_lawsNow_6, eX6_lawsNow_9, eX6_lawsNow_10, eX6_lawsNow_11, eX6_lawsNow_14, eX6_lawsNow_15, eX6_lawsNow_16, eX6_lawsNow_17, eX6_lawsNow_21, eX6_lawsNow_22, eX6_lawsNow_25, eX6_lawsNow_28, eX6_lawsNow_29, eX6_lawsNow_32, eX6_lawsNow_33, eX6_lawsNow_36, eX6_lawsNow_37, eX6_lawsNow_40, eX6_lawsNow_41, eX6_lawsNow_43, eX6_lawsNow_44, eX6_lawsNow_45, eX6_lawsNow_46, eX6_lawsNow_47, eX6_lawsNow_50, eX6_lawsNow_51, eX6_lawsNow_53, eX6_lawsNow_54, eX6_lawsNow_55, eX6_lawsNow_56, eX6_lawsNow_57, eX6_lawsNow_60, eX6_lawsNow_61, eX6_lawsNow_64, eX6_lawsNow_65, eX6_lawsNow_66, eX6_lawsNow_69, eX6_lawsNow_73, eX6_lawsNow_74, eX6_lawsNow_77, eX6_lawsNow_78, eX6_lawsNow_79, eX6_lawsNow_80, eX6_lawsNow_83, eX6_lawsNow_84, eX6_lawsNow_85, eX6_lawsNow_86, eX6_lawsNow_89, eX6_lawsNow_92, eX6_lawsNow_93, en_kl_0, en_kl_i, en_kl_r, en_kl_n, en_kl_l, en_Ec_some, en_Ec_void, en_rcv, en_stk, List.map_cons, List.map_nil, List.sum_cons, List.sum_nil, Value.category, Nat.reduceAdd, Nat.reduceLeDiff, decide_true, true_and, and_true, and_self, zI_add, zI_sub, zI_mul, zI_neg, zI_lt, zI_le, zI_eq, zI_cl, zI_0, zI_1, zI_m1, zI_lit, zT_0, zT_01, zI_01, zI_11, ↓reduceIte, if_true, if_false, not_false_eq_true, not_true_eq_false, Int.reduceEq, Int.reduceLT, Int.reduceLE, Classical.not_not, Bool.false_eq_true, fi_19, ft_19_0, ft_19_1, ft_19_2, ft_19_3, ft_19_5, ft_19_6, ft_19_7, ft_19_8, ft_19_12, ft_19_13, ft_19_14, ft_19_15, ft_19_16, ft_19_21, xi_20, xi_21, xi_22, xi_23, xi_24, xi_25, xi_26, xi_27, xi_28, xi_29, xi_30, xi_31, xi_32, xi_33, Int.toNat_natCast, Int.reduceToNat, v20, y1]
            exact g
      have g0 := inner hn 0 (by omega)
      have e0 : zT (aSn f 0 = true) = zI 1 := zT_t rfl
      rw [e0] at g0
      rw [eX6_lawsNow_4]
      simp (disch := omega) only [eX6_lawsNow_0, eX6_lawsNow_1, eX6_lawsNow_2, eX6_lawsNow_3, eX6_lawsNow_5, eX6_lawsNow_6, eX6_lawsNow_9, eX6_lawsNow_10, eX6_lawsNow_11, eX6_lawsNow_14, eX6_lawsNow_15, eX6_lawsNow_16, eX6_lawsNow_17, eX6_lawsNow_21, eX6_lawsNow_22, eX6_lawsNow_25, eX6_lawsNow_28, eX6_lawsNow_29, eX6_lawsNow_32, eX6_lawsNow_33, eX6_lawsNow_36, eX6_lawsNow_37, eX6_lawsNow_40, eX6_lawsNow_41, eX6_lawsNow_43, eX6_lawsNow_44, eX6_lawsNow_45, eX6_lawsNow_46, eX6_lawsNow_47, eX6_lawsNow_50, eX6_lawsNow_51, eX6_lawsNow_53, eX6_lawsNow_54, eX6_lawsNow_55, eX6_lawsNow_56, eX6_lawsNow_57, eX6_lawsNow_60, eX6_lawsNow_61, eX6_lawsNow_64, eX6_lawsNow_65, eX6_lawsNow_66, eX6_lawsNow_69, eX6_lawsNow_72, eX6_lawsNow_73, eX6_lawsNow_74, eX6_lawsNow_77, eX6_lawsNow_78, eX6_lawsNow_79, eX6_lawsNow_80, eX6_lawsNow_83, eX6_lawsNow_84, eX6_lawsNow_85, eX6_lawsNow_86, eX6_lawsNow_89, eX6_lawsNow_92, eX6_lawsNow_93, en_kl_0, en_kl_i, en_kl_r, en_kl_n, en_kl_l, en_Ec_some, en_Ec_void, en_rcv, en_stk, List.map_cons, List.map_nil, List.sum_cons, List.sum_nil, Value.category, Nat.reduceAdd, Nat.reduceLeDiff, decide_true, true_and, and_true, and_self, zI_add, zI_sub, zI_mul, zI_neg, zI_lt, zI_le, zI_eq, zI_cl, zI_0, zI_1, zI_m1, zI_lit, zT_0, zT_01, zI_01, zI_11, ↓reduceIte, if_true, if_false, not_false_eq_true, not_true_eq_false, Int.reduceEq, Int.reduceLT, Int.reduceLE, Classical.not_not, Bool.false_eq_true, fi_19, ft_19_0, ft_19_1, ft_19_2, ft_19_3, ft_19_5, ft_19_6, ft_19_7, ft_19_8, ft_19_12, ft_19_13, ft_19_14, ft_19_15, ft_19_16, ft_19_21, xi_20, xi_21, xi_22, xi_23, xi_24, xi_25, xi_26, xi_27, xi_28, xi_29, xi_30, xi_31, xi_32, xi_33, Int.toNat_natCast, Int.reduceToNat, x1, e1]
      exact g0
  simp (disch := omega) only [eX6_lawsNow_0, eX6_lawsNow_1, eX6_lawsNow_2, eX6_lawsNow_3, en_kl_0, en_kl_i, en_kl_r, en_kl_n, en_kl_l, en_Ec_some, en_Ec_void, en_rcv, en_stk, List.map_cons, List.map_nil, List.sum_cons, List.sum_nil, Value.category, Nat.reduceAdd, Nat.reduceLeDiff, decide_true, true_and, and_true, and_self, zI_add, zI_sub, zI_mul, zI_neg, zI_lt, zI_le, zI_eq, zI_cl, zI_0, zI_1, zI_m1, zI_lit, zT_0, zT_01, zI_01, zI_11, ↓reduceIte, if_true, if_false, not_false_eq_true, not_true_eq_false, Int.reduceEq, Int.reduceLT, Int.reduceLE, Classical.not_not, Bool.false_eq_true]
  exact loop 4 0 w none none (by omega) nfr.rf
theorem r_laws (hG : bG w G s) (hP : bP w kick law life pat) (hT : bT w n tb) (hH : bH w hn hm hr) : ∃ w', SX6_laws [.ref 19] w = some (some (.int (nI (aLw (aLaB G s n tb kick life hn hm hr) 4))), w') ∧ ofr w w' := by
  obtain ⟨w1, e1, f1, c1⟩ := r_reads hT
  obtain ⟨w2, e2, f2⟩ := r_lawsNow (p := aLaB G s n tb kick life hn hm hr) (hG.o f1.o) (hP.o f1.o) c1 srt_t (hH.o f1.o) (fun la => rfl)
  refine ⟨w2, en_val rfl (fun Q hQ => ?_), f1.o.tr f2.o⟩
  show en_Ev XX6_laws 0 [some (.ref 19)] [] w Q
  simp (disch := omega) only [eX6_laws_0, eX6_laws_1, eX6_laws_4, eX6_laws_5, eX6_laws_6, eX6_laws_9, en_kl_0, en_kl_i, en_kl_r, en_kl_n, en_kl_l, en_Ec_some, en_Ec_void, en_rcv, en_stk, List.map_cons, List.map_nil, List.sum_cons, List.sum_nil, Value.category, Nat.reduceAdd, Nat.reduceLeDiff, decide_true, true_and, and_true, and_self, zI_add, zI_sub, zI_mul, zI_neg, zI_lt, zI_le, zI_eq, zI_cl, zI_0, zI_1, zI_m1, zI_lit, zT_0, zT_01, zI_01, zI_11, ↓reduceIte, if_true, if_false, not_false_eq_true, not_true_eq_false, Int.reduceEq, Int.reduceLT, Int.reduceLE, Classical.not_not, Bool.false_eq_true, fi_19, ft_19_0, ft_19_1, ft_19_2, ft_19_3, ft_19_5, ft_19_6, ft_19_7, ft_19_8, ft_19_12, ft_19_13, ft_19_14, ft_19_15, ft_19_16, ft_19_21, xi_20, xi_21, xi_22, xi_23, xi_24, xi_25, xi_26, xi_27, xi_28, xi_29, xi_30, xi_31, xi_32, xi_33, Int.toNat_natCast, Int.reduceToNat, e1, e2]
  exact hQ
theorem r_part {x y : Nat} (hx : 1 ≤ x) (hx2 : x < 1000) (hy : y < 1000) : SX6_part [.long (lI x), .long (lI y), .int (zI a)] w = some (some (.long (lI (((if zI a = zI 0 then x else y) / Nat.gcd x y : Nat) : Int))), w) := by
  refine en_val rfl (fun Q hQ => ?_)
  show en_Ev XX6_part 0 [some (.long (lI x)), none, some (.long (lI y)), none, some (.int (zI a)), none, none, none, none, none, none] [] w Q
  have hg1 : 1 ≤ Nat.gcd x y := Nat.gcd_pos_of_pos_left y hx
  have hg2 : Nat.gcd x y ≤ x := Nat.gcd_le_left y hx
  have loop : ∀ (l g : Nat) (l9 l10 : Option Value), l < 1000 → g < 1000 → Nat.gcd g l = Nat.gcd x y → en_Ev XX6_part 6 [some (.long (lI x)), none, some (.long (lI y)), none, some (.int (zI a)), some (.long (lI g)), none, some (.long (lI l)), none, l9, l10] [] w Q := by
    intro l
    induction l using Nat.strongRecOn with
    | ind l ih =>
      intro g l9 l10 k1 k2 k3
      rw [eX6_part_6]
      by_cases c2 : l = 0
      · have c3 : (l : Int) = 0 := by omega
        rw [c2, Nat.gcd_zero_right] at k3
        have c4 : ¬ (g : Int) = 0 := by omega
        have d1 := lI_div (a := x) (d := g) (by omega) (by omega) (by omega)
        have d2 := lI_div (a := y) (d := g) (by omega) (by omega) (by omega)
        rw [← k3] at hQ
        by_cases c5 : zI a = zI 0
        · rw [if_pos c5] at hQ
          simp (disch := omega) only [eX6_part_0, eX6_part_1, eX6_part_3, eX6_part_4, eX6_part_8, eX6_part_9, eX6_part_10, eX6_part_13, eX6_part_15, eX6_part_17, eX6_part_18, eX6_part_20, eX6_part_22, eX6_part_24, eX6_part_26, eX6_part_28, eX6_part_31, eX6_part_33, eX6_part_36, eX6_part_37, eX6_part_40, eX6_part_41, eX6_part_43, eX6_part_44, en_kl_0, en_kl_i, en_kl_r, en_kl_n, en_kl_l, en_Ec_some, en_Ec_void, en_rcv, en_stk, List.map_cons, List.map_nil, List.sum_cons, List.sum_nil, Value.category, Nat.reduceAdd, Nat.reduceLeDiff, decide_true, true_and, and_true, and_self, zI_0, ↓reduceIte, if_true, if_false, lI_of, lI_0, lI_1, lI_m1, lI_lit, lI_neg, lI_add, lI_sub, lI_mul, lc_lt, lc_gt, lc_le, lc_ge, lc_eq, lI_eq, not_false_eq_true, c3, c4, c5, d1]
          exact hQ
        · rw [if_neg c5] at hQ
          simp (disch := omega) only [eX6_part_0, eX6_part_1, eX6_part_3, eX6_part_4, eX6_part_8, eX6_part_9, eX6_part_10, eX6_part_13, eX6_part_15, eX6_part_17, eX6_part_18, eX6_part_20, eX6_part_22, eX6_part_24, eX6_part_26, eX6_part_28, eX6_part_31, eX6_part_33, eX6_part_36, eX6_part_37, eX6_part_40, eX6_part_41, eX6_part_43, eX6_part_44, en_kl_0, en_kl_i, en_kl_r, en_kl_n, en_kl_l, en_Ec_some, en_Ec_void, en_rcv, en_stk, List.map_cons, List.map_nil, List.sum_cons, List.sum_nil, Value.category, Nat.reduceAdd, Nat.reduceLeDiff, decide_true, true_and, and_true, and_self, zI_0, ↓reduceIte, if_true, if_false, lI_of, lI_0, lI_1, lI_m1, lI_lit, lI_neg, lI_add, lI_sub, lI_mul, lc_lt, lc_gt, lc_le, lc_ge, lc_eq, lI_eq, not_false_eq_true, c3, c4, c5, d2]
          exact hQ
      · have c3 : ¬ (l : Int) = 0 := by omega
        have hrem := lI_rem (a := g) (d := l) (by omega) (by omega) (by omega)
        have hlt : g % l < l := Nat.mod_lt _ (by omega)
        simp (disch := omega) only [eX6_part_0, eX6_part_1, eX6_part_3, eX6_part_4, eX6_part_8, eX6_part_9, eX6_part_10, eX6_part_13, eX6_part_15, eX6_part_17, eX6_part_18, eX6_part_20, eX6_part_22, eX6_part_24, eX6_part_26, eX6_part_28, eX6_part_31, eX6_part_33, eX6_part_36, eX6_part_37, eX6_part_40, eX6_part_41, eX6_part_43, eX6_part_44, en_kl_0, en_kl_i, en_kl_r, en_kl_n, en_kl_l, en_Ec_some, en_Ec_void, en_rcv, en_stk, List.map_cons, List.map_nil, List.sum_cons, List.sum_nil, Value.category, Nat.reduceAdd, Nat.reduceLeDiff, decide_true, true_and, and_true, and_self, zI_0, ↓reduceIte, if_true, if_false, lI_0, lI_1, lc_eq, lI_eq, not_false_eq_true, c3, hrem]
        refine ih (g % l) hlt l _ _ (by omega) (by omega) ?_
        rw [← k3, Nat.gcd_comm g l, Nat.gcd_rec l g, Nat.gcd_comm]
  simp (disch := omega) only [eX6_part_0, eX6_part_1, eX6_part_3, eX6_part_4, en_kl_0, en_kl_i, en_kl_r, en_kl_n, en_kl_l, en_Ec_some, en_Ec_void, en_rcv, en_stk, List.map_cons, List.map_nil, List.sum_cons, List.sum_nil, Value.category, Nat.reduceAdd, Nat.reduceLeDiff, decide_true, true_and, and_true, and_self]
  exact loop y x _ _ hy hx2 rfl
/-- a chance's upper and lower number, of any coins -/
def nxO (k : Nat) (cb : Nat → Int) (r a : Int) : Nat := (if a = 0 then mq cb r k + 1 else k + 10) / Nat.gcd (mq cb r k + 1) (k + 10)
theorem r_nextOf (hC : mC w k cm cb) (r0 : 0 ≤ r) (r1 : r ≤ 9) (a0 : 0 ≤ a) (a1 : a ≤ 1) : SX6_nextOf [.ref 19, .int (zI r), .int (zI a)] w = some (some (.long (lN (nxO k cb r a))), w) := by
  have hk := hC.2.1
  have h11 := hC.1
  have hq := mq_le cb r k
  refine en_val rfl (fun Q hQ => ?_)
  show en_Ev XX6_nextOf 0 [some (.ref 19), some (.int (zI r)), some (.int (zI a)), none, none, none] [] w Q
  have loop : ∀ (d i : Nat), i + d = k → en_Ev XX6_nextOf 5 [some (.ref 19), some (.int (zI r)), some (.int (zI a)), some (.long (lI ((mq cb r i : Int) + 1))), none, some (.int (zI i))] [] w Q := by
    intro d
    induction d with
    | zero =>
      intro i hi
      have y1 : (k : Int) ≤ (i : Int) := by omega
      have ei : i = k := by omega
      have hp := r_part (w := w) (a := a) (x := mq cb r k + 1) (y := k + 10) (by omega) (by omega) (by omega)
      have z1 : ((mq cb r k + 1 : Nat) : Int) = (mq cb r k : Int) + 1 := by omega
      have z2 : ((k + 10 : Nat) : Int) = 10 + (k : Int) := by omega
      have z3 : (zI a = zI 0) = (a = 0) := zI_eq (by omega) (by omega) (by omega) (by omega)
      rw [z1, z2] at hp
      simp only [z3] at hp
      rw [ei, eX6_nextOf_5]
      have y1' : (k : Int) ≤ (k : Int) := Int.le_refl _
      have z4 : (zI (k : Int)).toInt64 = lI (k : Int) := lI_of (by omega) (by omega)
      simp (disch := omega) only [eX6_nextOf_0, eX6_nextOf_1, eX6_nextOf_2, eX6_nextOf_3, eX6_nextOf_7, eX6_nextOf_8, eX6_nextOf_11, eX6_nextOf_14, eX6_nextOf_15, eX6_nextOf_16, eX6_nextOf_19, eX6_nextOf_20, eX6_nextOf_22, eX6_nextOf_23, eX6_nextOf_24, eX6_nextOf_25, eX6_nextOf_26, eX6_nextOf_27, eX6_nextOf_30, eX6_nextOf_31, eX6_nextOf_34, eX6_nextOf_35, eX6_nextOf_36, eX6_nextOf_37, eX6_nextOf_40, eX6_nextOf_43, eX6_nextOf_44, eX6_nextOf_47, eX6_nextOf_48, eX6_nextOf_51, eX6_nextOf_52, eX6_nextOf_53, eX6_nextOf_54, eX6_nextOf_57, en_kl_0, en_kl_i, en_kl_r, en_kl_n, en_kl_l, en_Ec_some, en_Ec_void, en_rcv, en_stk, List.map_cons, List.map_nil, List.sum_cons, List.sum_nil, Value.category, Nat.reduceAdd, Nat.reduceLeDiff, decide_true, true_and, and_true, and_self, zI_add, zI_sub, zI_mul, zI_neg, zI_lt, zI_le, zI_eq, zI_cl, zI_0, zI_1, zI_m1, zI_lit, zT_0, zT_01, zI_01, zI_11, ↓reduceIte, if_true, if_false, not_false_eq_true, not_true_eq_false, Int.reduceEq, Int.reduceLT, Int.reduceLE, Classical.not_not, Bool.false_eq_true, fi_19, ft_19_0, ft_19_1, ft_19_2, ft_19_3, ft_19_5, ft_19_6, ft_19_7, ft_19_8, ft_19_12, ft_19_13, ft_19_14, ft_19_15, ft_19_16, ft_19_21, xi_20, xi_21, xi_22, xi_23, xi_24, xi_25, xi_26, xi_27, xi_28, xi_29, xi_30, xi_31, xi_32, xi_33, Int.toNat_natCast, Int.reduceToNat, h11, y1', z4, lI_lit, lI_add, hp]
      rw [← lN_lI]
      exact hQ
    | succ d ih =>
      intro i hi
      have y1 : ¬ (k : Int) ≤ (i : Int) := by omega
      have g := ih (i + 1) (by omega)
      have u : mq cb r (i + 1) = mq cb r i + (if cb i = r then 1 else 0) := rfl
      obtain ⟨i1, i2, i3, i4, i5, i6⟩ := hC.2.2 i (by omega)
      have e2 : (2 * (i : Int) + 1).toNat = 2 * i + 1 := by omega
      rw [u] at g
      rw [eX6_nextOf_5]
      by_cases c : cb i = r
      · rw [if_pos c] at g
        have z1 : ((mq cb r i + 1 : Nat) : Int) + 1 = (mq cb r i : Int) + 1 + 1 := by omega
        rw [z1] at g
        have c' : (cb i = r) = True := eq_true c
        simp (disch := omega) only [eX6_nextOf_0, eX6_nextOf_1, eX6_nextOf_2, eX6_nextOf_3, eX6_nextOf_7, eX6_nextOf_8, eX6_nextOf_11, eX6_nextOf_14, eX6_nextOf_15, eX6_nextOf_16, eX6_nextOf_19, eX6_nextOf_20, eX6_nextOf_22, eX6_nextOf_23, eX6_nextOf_24, eX6_nextOf_25, eX6_nextOf_26, eX6_nextOf_27, eX6_nextOf_30, eX6_nextOf_31, eX6_nextOf_34, eX6_nextOf_35, eX6_nextOf_36, eX6_nextOf_37, eX6_nextOf_40, eX6_nextOf_43, eX6_nextOf_44, eX6_nextOf_47, eX6_nextOf_48, eX6_nextOf_51, eX6_nextOf_52, eX6_nextOf_53, eX6_nextOf_54, eX6_nextOf_57, en_kl_0, en_kl_i, en_kl_r, en_kl_n, en_kl_l, en_Ec_some, en_Ec_void, en_rcv, en_stk, List.map_cons, List.map_nil, List.sum_cons, List.sum_nil, Value.category, Nat.reduceAdd, Nat.reduceLeDiff, decide_true, true_and, and_true, and_self, zI_add, zI_sub, zI_mul, zI_neg, zI_lt, zI_le, zI_eq, zI_cl, zI_0, zI_1, zI_m1, zI_lit, zT_0, zT_01, zI_01, zI_11, ↓reduceIte, if_true, if_false, not_false_eq_true, not_true_eq_false, Int.reduceEq, Int.reduceLT, Int.reduceLE, Classical.not_not, Bool.false_eq_true, fi_19, ft_19_0, ft_19_1, ft_19_2, ft_19_3, ft_19_5, ft_19_6, ft_19_7, ft_19_8, ft_19_12, ft_19_13, ft_19_14, ft_19_15, ft_19_16, ft_19_21, xi_20, xi_21, xi_22, xi_23, xi_24, xi_25, xi_26, xi_27, xi_28, xi_29, xi_30, xi_31, xi_32, xi_33, Int.toNat_natCast, Int.reduceToNat, h11, y1, e2, i2, c', lI_0, lI_1, lI_add]
        exact g
      · rw [if_neg c, Nat.add_zero] at g
        have z1 : (mq cb r i : Int) + 1 + 0 = (mq cb r i : Int) + 1 := by omega
        simp (disch := omega) only [eX6_nextOf_0, eX6_nextOf_1, eX6_nextOf_2, eX6_nextOf_3, eX6_nextOf_7, eX6_nextOf_8, eX6_nextOf_11, eX6_nextOf_14, eX6_nextOf_15, eX6_nextOf_16, eX6_nextOf_19, eX6_nextOf_20, eX6_nextOf_22, eX6_nextOf_23, eX6_nextOf_24, eX6_nextOf_25, eX6_nextOf_26, eX6_nextOf_27, eX6_nextOf_30, eX6_nextOf_31, eX6_nextOf_34, eX6_nextOf_35, eX6_nextOf_36, eX6_nextOf_37, eX6_nextOf_40, eX6_nextOf_43, eX6_nextOf_44, eX6_nextOf_47, eX6_nextOf_48, eX6_nextOf_51, eX6_nextOf_52, eX6_nextOf_53, eX6_nextOf_54, eX6_nextOf_57, en_kl_0, en_kl_i, en_kl_r, en_kl_n, en_kl_l, en_Ec_some, en_Ec_void, en_rcv, en_stk, List.map_cons, List.map_nil, List.sum_cons, List.sum_nil, Value.category, Nat.reduceAdd, Nat.reduceLeDiff, decide_true, true_and, and_true, and_self, zI_add, zI_sub, zI_mul, zI_neg, zI_lt, zI_le, zI_eq, zI_cl, zI_0, zI_1, zI_m1, zI_lit, zT_0, zT_01, zI_01, zI_11, ↓reduceIte, if_true, if_false, not_false_eq_true, not_true_eq_false, Int.reduceEq, Int.reduceLT, Int.reduceLE, Classical.not_not, Bool.false_eq_true, fi_19, ft_19_0, ft_19_1, ft_19_2, ft_19_3, ft_19_5, ft_19_6, ft_19_7, ft_19_8, ft_19_12, ft_19_13, ft_19_14, ft_19_15, ft_19_16, ft_19_21, xi_20, xi_21, xi_22, xi_23, xi_24, xi_25, xi_26, xi_27, xi_28, xi_29, xi_30, xi_31, xi_32, xi_33, Int.toNat_natCast, Int.reduceToNat, h11, y1, e2, i2, c, lI_0, lI_1, lI_add, z1]
        exact g
  have g := loop k 0 (by omega)
  have e0 : (mq cb r 0 : Int) + 1 = 1 := rfl
  rw [e0] at g
  simp (disch := omega) only [eX6_nextOf_0, eX6_nextOf_1, eX6_nextOf_2, eX6_nextOf_3, en_kl_0, en_kl_i, en_kl_r, en_kl_n, en_kl_l, en_Ec_some, en_Ec_void, en_rcv, en_stk, List.map_cons, List.map_nil, List.sum_cons, List.sum_nil, Value.category, Nat.reduceAdd, Nat.reduceLeDiff, decide_true, true_and, and_true, and_self, zI_add, zI_sub, zI_mul, zI_neg, zI_lt, zI_le, zI_eq, zI_cl, zI_0, zI_1, zI_m1, zI_lit, zT_0, zT_01, zI_01, zI_11, ↓reduceIte, if_true, if_false, not_false_eq_true, not_true_eq_false, Int.reduceEq, Int.reduceLT, Int.reduceLE, Classical.not_not, Bool.false_eq_true, lI_0, lI_1]
  exact g
theorem r_next_bad (hT : bT w n tb) (hh : ¬ ((0 ≤ r ∧ r < 10) ∧ (0 ≤ a ∧ a ≤ 1))) (r1 : -2147483648 ≤ r) (r2 : r < 2147483648) (a1 : -2147483648 ≤ a) (a2 : a < 2147483648) : ∃ w', SX6_next [.ref 19, .int (zI r), .int (zI a)] w = some (some (.long (-9223372036854775806)), w') ∧ ofr w w' := by
  obtain ⟨w1, e1, f1, -⟩ := r_reads hT
  have hno : SX6_no [.int (zI (-2))] w1 = some (some (.long (-9223372036854775806)), w1) := by
    have e : zI (-2) = (-2 : Int32) := by decide
    rw [e]
    exact r_no
  refine ⟨w1, en_val rfl (fun Q hQ => ?_), f1.o⟩
  show en_Ev XX6_next 0 [some (.ref 19), some (.int (zI r)), some (.int (zI a))] [] w Q
  by_cases c1 : 0 ≤ r ∧ r ≤ 9
  · have c2 : ¬ (0 ≤ a ∧ a ≤ 1) := fun q => hh ⟨by omega, q⟩
    simp (disch := omega) only [eX6_next_0, eX6_next_1, eX6_next_4, eX6_next_5, eX6_next_6, eX6_next_9, eX6_next_12, eX6_next_13, eX6_next_16, eX6_next_19, eX6_next_20, eX6_next_21, eX6_next_22, eX6_next_25, eX6_next_28, eX6_next_30, eX6_next_33, en_kl_0, en_kl_i, en_kl_r, en_kl_n, en_kl_l, en_Ec_some, en_Ec_void, en_rcv, en_stk, List.map_cons, List.map_nil, List.sum_cons, List.sum_nil, Value.category, Nat.reduceAdd, Nat.reduceLeDiff, decide_true, true_and, and_true, and_self, zI_add, zI_sub, zI_mul, zI_neg, zI_lt, zI_le, zI_eq, zI_cl, zI_0, zI_1, zI_m1, zI_lit, zT_0, zT_01, zI_01, zI_11, ↓reduceIte, if_true, if_false, not_false_eq_true, not_true_eq_false, Int.reduceEq, Int.reduceLT, Int.reduceLE, Classical.not_not, Bool.false_eq_true, fi_19, ft_19_0, ft_19_1, ft_19_2, ft_19_3, ft_19_5, ft_19_6, ft_19_7, ft_19_8, ft_19_12, ft_19_13, ft_19_14, ft_19_15, ft_19_16, ft_19_21, xi_20, xi_21, xi_22, xi_23, xi_24, xi_25, xi_26, xi_27, xi_28, xi_29, xi_30, xi_31, xi_32, xi_33, Int.toNat_natCast, Int.reduceToNat, e1, r_isRecord, r_isTwo, zT_t c1, zT_f c2, hno]
    exact hQ
  · simp (disch := omega) only [eX6_next_0, eX6_next_1, eX6_next_4, eX6_next_5, eX6_next_6, eX6_next_9, eX6_next_12, eX6_next_13, eX6_next_16, eX6_next_19, eX6_next_20, eX6_next_21, eX6_next_22, eX6_next_25, eX6_next_28, eX6_next_30, eX6_next_33, en_kl_0, en_kl_i, en_kl_r, en_kl_n, en_kl_l, en_Ec_some, en_Ec_void, en_rcv, en_stk, List.map_cons, List.map_nil, List.sum_cons, List.sum_nil, Value.category, Nat.reduceAdd, Nat.reduceLeDiff, decide_true, true_and, and_true, and_self, zI_add, zI_sub, zI_mul, zI_neg, zI_lt, zI_le, zI_eq, zI_cl, zI_0, zI_1, zI_m1, zI_lit, zT_0, zT_01, zI_01, zI_11, ↓reduceIte, if_true, if_false, not_false_eq_true, not_true_eq_false, Int.reduceEq, Int.reduceLT, Int.reduceLE, Classical.not_not, Bool.false_eq_true, fi_19, ft_19_0, ft_19_1, ft_19_2, ft_19_3, ft_19_5, ft_19_6, ft_19_7, ft_19_8, ft_19_12, ft_19_13, ft_19_14, ft_19_15, ft_19_16, ft_19_21, xi_20, xi_21, xi_22, xi_23, xi_24, xi_25, xi_26, xi_27, xi_28, xi_29, xi_30, xi_31, xi_32, xi_33, Int.toNat_natCast, Int.reduceToNat, e1, r_isRecord, zT_f c1, hno]
    exact hQ
theorem r_next_ok (hT : bT w n tb) (r1 : 0 ≤ r) (r2 : r < 10) (a1 : 0 ≤ a) (a2 : a ≤ 1) : ∃ w', SX6_next [.ref 19, .int (zI r), .int (zI a)] w = some (some (.long (lN (aNx n tb r a))), w') ∧ ofr w w' := by
  obtain ⟨w1, e1, f1, c1⟩ := r_reads hT
  have e2 := r_nextOf (r := r) (a := a) c1 r1 (by omega) a1 a2
  refine ⟨w1, en_val rfl (fun Q hQ => ?_), f1.o⟩
  show en_Ev XX6_next 0 [some (.ref 19), some (.int (zI r)), some (.int (zI a))] [] w Q
  simp (disch := omega) only [eX6_next_0, eX6_next_1, eX6_next_4, eX6_next_5, eX6_next_6, eX6_next_9, eX6_next_12, eX6_next_13, eX6_next_16, eX6_next_19, eX6_next_20, eX6_next_21, eX6_next_22, eX6_next_25, eX6_next_28, eX6_next_30, eX6_next_33, en_kl_0, en_kl_i, en_kl_r, en_kl_n, en_kl_l, en_Ec_some, en_Ec_void, en_rcv, en_stk, List.map_cons, List.map_nil, List.sum_cons, List.sum_nil, Value.category, Nat.reduceAdd, Nat.reduceLeDiff, decide_true, true_and, and_true, and_self, zI_add, zI_sub, zI_mul, zI_neg, zI_lt, zI_le, zI_eq, zI_cl, zI_0, zI_1, zI_m1, zI_lit, zT_0, zT_01, zI_01, zI_11, ↓reduceIte, if_true, if_false, not_false_eq_true, not_true_eq_false, Int.reduceEq, Int.reduceLT, Int.reduceLE, Classical.not_not, Bool.false_eq_true, fi_19, ft_19_0, ft_19_1, ft_19_2, ft_19_3, ft_19_5, ft_19_6, ft_19_7, ft_19_8, ft_19_12, ft_19_13, ft_19_14, ft_19_15, ft_19_16, ft_19_21, xi_20, xi_21, xi_22, xi_23, xi_24, xi_25, xi_26, xi_27, xi_28, xi_29, xi_30, xi_31, xi_32, xi_33, Int.toNat_natCast, Int.reduceToNat, e1, r_isRecord, r_isTwo, zT_t (show 0 ≤ r ∧ r ≤ 9 by omega), zT_t (And.intro a1 a2), e2]
  exact hQ
theorem r_sinceOf (hC : mC w k cm cb) (r0 : 0 ≤ r) (r1 : r ≤ 9) : SX6_sinceOf [.ref 19, .int (zI r)] w = some (some (.int (zI (mz cb r k k))), w) := by
  have hk := hC.2.1
  have h11 := hC.1
  refine en_val rfl (fun Q hQ => ?_)
  show en_Ev XX6_sinceOf 0 [some (.ref 19), some (.int (zI r)), none] [] w Q
  have loop : ∀ (d : Nat), d ≤ k → mz cb r k d = mz cb r k k → en_Ev XX6_sinceOf 7 [some (.ref 19), some (.int (zI r)), some (.int (zI ((d : Int) - 1)))] [] w Q := by
    intro d
    induction d with
    | zero =>
      intro _ hz
      have x1 : ((0 : Nat) : Int) - 1 < 0 := by omega
      have e : (k : Int) = mz cb r k k := hz
      rw [eX6_sinceOf_7]
      simp (disch := omega) only [eX6_sinceOf_0, eX6_sinceOf_1, eX6_sinceOf_4, eX6_sinceOf_5, eX6_sinceOf_6, eX6_sinceOf_8, eX6_sinceOf_11, eX6_sinceOf_12, eX6_sinceOf_15, eX6_sinceOf_16, eX6_sinceOf_17, eX6_sinceOf_18, eX6_sinceOf_19, eX6_sinceOf_20, eX6_sinceOf_21, eX6_sinceOf_22, eX6_sinceOf_25, eX6_sinceOf_28, eX6_sinceOf_31, eX6_sinceOf_32, eX6_sinceOf_35, eX6_sinceOf_36, eX6_sinceOf_37, eX6_sinceOf_38, eX6_sinceOf_39, en_kl_0, en_kl_i, en_kl_r, en_kl_n, en_kl_l, en_Ec_some, en_Ec_void, en_rcv, en_stk, List.map_cons, List.map_nil, List.sum_cons, List.sum_nil, Value.category, Nat.reduceAdd, Nat.reduceLeDiff, decide_true, true_and, and_true, and_self, zI_add, zI_sub, zI_mul, zI_neg, zI_lt, zI_le, zI_eq, zI_cl, zI_0, zI_1, zI_m1, zI_lit, zT_0, zT_01, zI_01, zI_11, ↓reduceIte, if_true, if_false, not_false_eq_true, not_true_eq_false, Int.reduceEq, Int.reduceLT, Int.reduceLE, Classical.not_not, Bool.false_eq_true, fi_19, ft_19_0, ft_19_1, ft_19_2, ft_19_3, ft_19_5, ft_19_6, ft_19_7, ft_19_8, ft_19_12, ft_19_13, ft_19_14, ft_19_15, ft_19_16, ft_19_21, xi_20, xi_21, xi_22, xi_23, xi_24, xi_25, xi_26, xi_27, xi_28, xi_29, xi_30, xi_31, xi_32, xi_33, Int.toNat_natCast, Int.reduceToNat, h11, x1]
      exact en_qI hQ (by omega)
    | succ d ih =>
      intro hd hz
      obtain ⟨i1, i2, i3, i4, i5, i6⟩ := hC.2.2 d (by omega)
      have x0 : ((d + 1 : Nat) : Int) - 1 = (d : Int) := by omega
      have x1 : ¬ (d : Int) < 0 := by omega
      have e2 : (2 * (d : Int) + 1).toNat = 2 * d + 1 := by omega
      have u : mz cb r k (d + 1) = if cb d = r then (k : Int) - 1 - d else mz cb r k d := rfl
      rw [u] at hz
      rw [x0, eX6_sinceOf_7]
      by_cases c : cb d = r
      · rw [if_pos c] at hz
        have c' : (cb d = r) = True := eq_true c
        simp (disch := omega) only [eX6_sinceOf_0, eX6_sinceOf_1, eX6_sinceOf_4, eX6_sinceOf_5, eX6_sinceOf_6, eX6_sinceOf_8, eX6_sinceOf_11, eX6_sinceOf_12, eX6_sinceOf_15, eX6_sinceOf_16, eX6_sinceOf_17, eX6_sinceOf_18, eX6_sinceOf_19, eX6_sinceOf_20, eX6_sinceOf_21, eX6_sinceOf_22, eX6_sinceOf_25, eX6_sinceOf_28, eX6_sinceOf_31, eX6_sinceOf_32, eX6_sinceOf_35, eX6_sinceOf_36, eX6_sinceOf_37, eX6_sinceOf_38, eX6_sinceOf_39, en_kl_0, en_kl_i, en_kl_r, en_kl_n, en_kl_l, en_Ec_some, en_Ec_void, en_rcv, en_stk, List.map_cons, List.map_nil, List.sum_cons, List.sum_nil, Value.category, Nat.reduceAdd, Nat.reduceLeDiff, decide_true, true_and, and_true, and_self, zI_add, zI_sub, zI_mul, zI_neg, zI_lt, zI_le, zI_eq, zI_cl, zI_0, zI_1, zI_m1, zI_lit, zT_0, zT_01, zI_01, zI_11, ↓reduceIte, if_true, if_false, not_false_eq_true, not_true_eq_false, Int.reduceEq, Int.reduceLT, Int.reduceLE, Classical.not_not, Bool.false_eq_true, fi_19, ft_19_0, ft_19_1, ft_19_2, ft_19_3, ft_19_5, ft_19_6, ft_19_7, ft_19_8, ft_19_12, ft_19_13, ft_19_14, ft_19_15, ft_19_16, ft_19_21, xi_20, xi_21, xi_22, xi_23, xi_24, xi_25, xi_26, xi_27, xi_28, xi_29, xi_30, xi_31, xi_32, xi_33, Int.toNat_natCast, Int.reduceToNat, h11, x1, e2, i2, c']
        exact en_qI hQ hz.symm
      · rw [if_neg c] at hz
        simp (disch := omega) only [eX6_sinceOf_0, eX6_sinceOf_1, eX6_sinceOf_4, eX6_sinceOf_5, eX6_sinceOf_6, eX6_sinceOf_8, eX6_sinceOf_11, eX6_sinceOf_12, eX6_sinceOf_15, eX6_sinceOf_16, eX6_sinceOf_17, eX6_sinceOf_18, eX6_sinceOf_19, eX6_sinceOf_20, eX6_sinceOf_21, eX6_sinceOf_22, eX6_sinceOf_25, eX6_sinceOf_28, eX6_sinceOf_31, eX6_sinceOf_32, eX6_sinceOf_35, eX6_sinceOf_36, eX6_sinceOf_37, eX6_sinceOf_38, eX6_sinceOf_39, en_kl_0, en_kl_i, en_kl_r, en_kl_n, en_kl_l, en_Ec_some, en_Ec_void, en_rcv, en_stk, List.map_cons, List.map_nil, List.sum_cons, List.sum_nil, Value.category, Nat.reduceAdd, Nat.reduceLeDiff, decide_true, true_and, and_true, and_self, zI_add, zI_sub, zI_mul, zI_neg, zI_lt, zI_le, zI_eq, zI_cl, zI_0, zI_1, zI_m1, zI_lit, zT_0, zT_01, zI_01, zI_11, ↓reduceIte, if_true, if_false, not_false_eq_true, not_true_eq_false, Int.reduceEq, Int.reduceLT, Int.reduceLE, Classical.not_not, Bool.false_eq_true, fi_19, ft_19_0, ft_19_1, ft_19_2, ft_19_3, ft_19_5, ft_19_6, ft_19_7, ft_19_8, ft_19_12, ft_19_13, ft_19_14, ft_19_15, ft_19_16, ft_19_21, xi_20, xi_21, xi_22, xi_23, xi_24, xi_25, xi_26, xi_27, xi_28, xi_29, xi_30, xi_31, xi_32, xi_33, Int.toNat_natCast, Int.reduceToNat, h11, x1, e2, i2, c]
        have e3 : (d : Int) + -1 = (d : Int) - 1 := by omega
        first | rw [e3] | skip
        exact ih (by omega) hz
  simp (disch := omega) only [eX6_sinceOf_0, eX6_sinceOf_1, eX6_sinceOf_4, eX6_sinceOf_5, eX6_sinceOf_6, en_kl_0, en_kl_i, en_kl_r, en_kl_n, en_kl_l, en_Ec_some, en_Ec_void, en_rcv, en_stk, List.map_cons, List.map_nil, List.sum_cons, List.sum_nil, Value.category, Nat.reduceAdd, Nat.reduceLeDiff, decide_true, true_and, and_true, and_self, zI_add, zI_sub, zI_mul, zI_neg, zI_lt, zI_le, zI_eq, zI_cl, zI_0, zI_1, zI_m1, zI_lit, zT_0, zT_01, zI_01, zI_11, ↓reduceIte, if_true, if_false, not_false_eq_true, not_true_eq_false, Int.reduceEq, Int.reduceLT, Int.reduceLE, Classical.not_not, Bool.false_eq_true, fi_19, ft_19_0, ft_19_1, ft_19_2, ft_19_3, ft_19_5, ft_19_6, ft_19_7, ft_19_8, ft_19_12, ft_19_13, ft_19_14, ft_19_15, ft_19_16, ft_19_21, xi_20, xi_21, xi_22, xi_23, xi_24, xi_25, xi_26, xi_27, xi_28, xi_29, xi_30, xi_31, xi_32, xi_33, Int.toNat_natCast, Int.reduceToNat, h11]
  exact loop k (Nat.le_refl k) rfl
theorem r_since (hT : bT w n tb) (h1 : -2147483648 ≤ r) (h2 : r < 2147483648) : ∃ w', SX6_since [.ref 19, .int (zI r)] w = some (some (.int (zI (if 0 ≤ r ∧ r < 10 then mz (tcb n tb) r (tcn n tb) (tcn n tb) else -2))), w') ∧ ofr w w' := by
  obtain ⟨w1, e1, f1, c1⟩ := r_reads hT
  refine ⟨w1, en_val rfl (fun Q hQ => ?_), f1.o⟩
  show en_Ev XX6_since 0 [some (.ref 19), some (.int (zI r))] [] w Q
  by_cases c : 0 ≤ r ∧ r ≤ 9
  · rw [if_pos (by omega)] at hQ
    have e2 := r_sinceOf (r := r) c1 c.1 c.2
    simp (disch := omega) only [eX6_since_0, eX6_since_1, eX6_since_4, eX6_since_5, eX6_since_6, eX6_since_9, eX6_since_12, eX6_since_13, eX6_since_14, eX6_since_17, eX6_since_20, eX6_since_22, en_kl_0, en_kl_i, en_kl_r, en_kl_n, en_kl_l, en_Ec_some, en_Ec_void, en_rcv, en_stk, List.map_cons, List.map_nil, List.sum_cons, List.sum_nil, Value.category, Nat.reduceAdd, Nat.reduceLeDiff, decide_true, true_and, and_true, and_self, zI_add, zI_sub, zI_mul, zI_neg, zI_lt, zI_le, zI_eq, zI_cl, zI_0, zI_1, zI_m1, zI_lit, zT_0, zT_01, zI_01, zI_11, ↓reduceIte, if_true, if_false, not_false_eq_true, not_true_eq_false, Int.reduceEq, Int.reduceLT, Int.reduceLE, Classical.not_not, Bool.false_eq_true, fi_19, ft_19_0, ft_19_1, ft_19_2, ft_19_3, ft_19_5, ft_19_6, ft_19_7, ft_19_8, ft_19_12, ft_19_13, ft_19_14, ft_19_15, ft_19_16, ft_19_21, xi_20, xi_21, xi_22, xi_23, xi_24, xi_25, xi_26, xi_27, xi_28, xi_29, xi_30, xi_31, xi_32, xi_33, Int.toNat_natCast, Int.reduceToNat, e1, r_isRecord, zT_t c, e2]
    exact hQ
  · rw [if_neg (by omega)] at hQ
    simp (disch := omega) only [eX6_since_0, eX6_since_1, eX6_since_4, eX6_since_5, eX6_since_6, eX6_since_9, eX6_since_12, eX6_since_13, eX6_since_14, eX6_since_17, eX6_since_20, eX6_since_22, en_kl_0, en_kl_i, en_kl_r, en_kl_n, en_kl_l, en_Ec_some, en_Ec_void, en_rcv, en_stk, List.map_cons, List.map_nil, List.sum_cons, List.sum_nil, Value.category, Nat.reduceAdd, Nat.reduceLeDiff, decide_true, true_and, and_true, and_self, zI_add, zI_sub, zI_mul, zI_neg, zI_lt, zI_le, zI_eq, zI_cl, zI_0, zI_1, zI_m1, zI_lit, zT_0, zT_01, zI_01, zI_11, ↓reduceIte, if_true, if_false, not_false_eq_true, not_true_eq_false, Int.reduceEq, Int.reduceLT, Int.reduceLE, Classical.not_not, Bool.false_eq_true, fi_19, ft_19_0, ft_19_1, ft_19_2, ft_19_3, ft_19_5, ft_19_6, ft_19_7, ft_19_8, ft_19_12, ft_19_13, ft_19_14, ft_19_15, ft_19_16, ft_19_21, xi_20, xi_21, xi_22, xi_23, xi_24, xi_25, xi_26, xi_27, xi_28, xi_29, xi_30, xi_31, xi_32, xi_33, Int.toNat_natCast, Int.reduceToNat, e1, r_isRecord, zT_f c]
    exact hQ
end
