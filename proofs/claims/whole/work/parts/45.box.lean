/-! ===== ThirdFavour: the fewest more ===== -/
section
variable {w : en_W} {G : Nat → Int} {s : Nat → Nat → Int} {n : Nat} {tb : Nat → Int} {kick law life pat : Int} {v r c m a h : Int}
theorem oOne_rng {mo row : Nat} (h1 : mo ≤ 2) (h2 : row < (if mo = 0 then 1 else if mo = 1 then 10 else 100)) : -1 ≤ oOne mo row ∧ oOne mo row ≤ 9 ∧ -1 ≤ oTwo mo row ∧ oTwo mo row ≤ 9 ∧ (oOne mo row = -1 → oTwo mo row = -1) := by
  unfold oOne oTwo
  have : mo = 0 ∨ mo = 1 ∨ mo = 2 := by omega
  rcases this with e | e | e
  · subst e; simp
  · subst e
    simp only [Nat.one_ne_zero, if_false, if_true] at h2 ⊢
    rw [if_pos (by omega)]
    omega
  · subst e
    simp at h2 ⊢
    omega
theorem xN_o {cn mo row : Nat} (h1 : mo ≤ 2) : xN cn (oOne mo row) (oTwo mo row) = cn + mo := by
  unfold xN oOne oTwo
  have : mo = 0 ∨ mo = 1 ∨ mo = 2 := by omega
  rcases this with e | e | e
  · subst e; simp
  · subst e
    simp only [Nat.one_ne_zero, if_false, if_true]
    rw [if_neg (by omega), if_pos (by omega)]
  · subst e
    simp only [show ¬ (2 : Nat) = 0 by decide, show ¬ (2 : Nat) = 1 by decide, show ¬ (2 : Nat) < 2 by decide, if_false]
    rw [if_neg (by omega), if_neg (by omega)]
theorem fsr_succ {p : Nat → Bool} {d i : Nat} : fsr p (d + 1) i = if p i = true then some i else fsr p d (i + 1) := rfl
theorem npi_rng {k : Nat} {len : Nat → Int} {t : NT} (hB : nB 21 t) : ∀ d i : Nat, -1 ≤ npi k len t h d i ∧ npi k len t h d i ≤ 9
  | 0, i => by unfold npi; omega
  | d + 1, i => by
    have := npi_rng (k := k) (len := len) hB d (i + 1)
    have h2 := hB.2.1 i
    unfold npi
    split
    · exact h2
    · exact this
/-- the inner search: rows from i on -/
theorem s_few_in {mo R : Nat} {len : Nat → Int} {Q : Option Value → en_W → Prop} (hT : en_slip w n tb) (hP : aP w kick law life pat) (h1 : 0 ≤ m) (h2 : m ≤ 99) (h3 : 0 ≤ r) (h4 : r < 10) (h5 : 0 ≤ h) (h6 : h < 200) (hmo : mo ≤ 2) (hR : R = if mo = 0 then 1 else if mo = 1 then 10 else 100) (hcn : tcn n tb + mo ≤ 20)
    (hq : ∀ (v : en_W) (row : Nat), en_fr NF w v → fsr (fun row => xP (tcn n tb) (tcm n tb) (tcb n tb) len law life m r h (oOne mo row) (oTwo mo row)) R 0 = some row → Q (some (.int (zI (rOf mo (oOne mo row) (oTwo mo row))))) v)
    (hk : ∀ (v : en_W) (l6 l7 l8 : Option Value), en_fr NF w v → aLen v len → fsr (fun row => xP (tcn n tb) (tcm n tb) (tcb n tb) len law life m r h (oOne mo row) (oTwo mo row)) R 0 = none → en_Ev XX5_fewestMore 128 [some (.ref 0), some (.int (zI m)), some (.int (zI r)), some (.int (zI h)), some (.int (zI R)), some (.int (zI mo)), l6, l7, l8] [] v Q) :
    ∀ (d i : Nat) (v : en_W) (l7 l8 : Option Value), i + d = R → en_fr NF w v → aLen v len → fsr (fun row => xP (tcn n tb) (tcm n tb) (tcb n tb) len law life m r h (oOne mo row) (oTwo mo row)) d i = fsr (fun row => xP (tcn n tb) (tcm n tb) (tcb n tb) len law life m r h (oOne mo row) (oTwo mo row)) R 0 → en_Ev XX5_fewestMore 40 [some (.ref 0), some (.int (zI m)), some (.int (zI r)), some (.int (zI h)), some (.int (zI R)), some (.int (zI mo)), some (.int (zI i)), l7, l8] [] v Q := by
  intro d
  have hRle : R ≤ 100 := by rw [hR]; split; omega; split <;> omega
  induction d with
  | zero =>
    intro i v l7 l8 k1 k2 k3 k4
    have c1 : (R : Int) ≤ (i : Int) := by omega
    rw [eX5_fewestMore_40]
    simp (disch := omega) only [eX5_fewestMore_0, eX5_fewestMore_1, eX5_fewestMore_4, eX5_fewestMore_5, eX5_fewestMore_7, eX5_fewestMore_8, eX5_fewestMore_12, eX5_fewestMore_13, eX5_fewestMore_16, eX5_fewestMore_17, eX5_fewestMore_20, eX5_fewestMore_23, eX5_fewestMore_26, eX5_fewestMore_28, eX5_fewestMore_29, eX5_fewestMore_31, eX5_fewestMore_34, eX5_fewestMore_36, eX5_fewestMore_37, eX5_fewestMore_38, eX5_fewestMore_42, eX5_fewestMore_44, eX5_fewestMore_47, eX5_fewestMore_49, eX5_fewestMore_52, eX5_fewestMore_53, eX5_fewestMore_56, eX5_fewestMore_58, eX5_fewestMore_59, eX5_fewestMore_62, eX5_fewestMore_64, eX5_fewestMore_67, eX5_fewestMore_69, eX5_fewestMore_71, eX5_fewestMore_72, eX5_fewestMore_74, eX5_fewestMore_76, eX5_fewestMore_77, eX5_fewestMore_80, eX5_fewestMore_81, eX5_fewestMore_84, eX5_fewestMore_86, eX5_fewestMore_88, eX5_fewestMore_89, eX5_fewestMore_91, eX5_fewestMore_92, eX5_fewestMore_93, eX5_fewestMore_95, eX5_fewestMore_97, eX5_fewestMore_100, eX5_fewestMore_101, eX5_fewestMore_104, eX5_fewestMore_105, eX5_fewestMore_108, eX5_fewestMore_109, eX5_fewestMore_112, eX5_fewestMore_114, eX5_fewestMore_116, eX5_fewestMore_118, eX5_fewestMore_121, eX5_fewestMore_122, eX5_fewestMore_125, eX5_fewestMore_130, eX5_fewestMore_132, eX5_fewestMore_133, eX5_fewestMore_135, eX5_fewestMore_138, eX5_fewestMore_141, eX5_fewestMore_142, en_kl_0, en_kl_i, en_kl_r, en_kl_n, en_kl_l, en_Ec_some, en_Ec_void, en_rcv, en_stk, List.map_cons, List.map_nil, List.sum_cons, List.sum_nil, Value.category, Nat.reduceAdd, Nat.reduceLeDiff, decide_true, true_and, and_true, and_self, zI_add, zI_sub, zI_mul, zI_neg, zI_lt, zI_le, zI_eq, zI_cl, zI_0, zI_1, zI_m1, zI_lit, zT_0, zT_01, zI_01, zI_11, ↓reduceIte, if_true, if_false, not_false_eq_true, not_true_eq_false, Int.reduceEq, Int.reduceLT, Int.reduceLE, Classical.not_not, Bool.false_eq_true, c1]
    exact hk v _ _ _ k2 k3 k4.symm
  | succ d ih =>
    intro i v l7 l8 k1 k2 k3 k4
    have c1 : ¬ (R : Int) ≤ (i : Int) := by omega
    have hrow : i < (if mo = 0 then 1 else if mo = 1 then 10 else 100) := by rw [← hR]; omega
    obtain ⟨o1, o2, o3, o4, o5⟩ := oOne_rng hmo hrow
    have hxN := xN_o (cn := tcn n tb) (row := i) hmo
    -- the rest of a row, one and two told
    have body : ∀ (x6 : Option Value), x6 = some (.int (zI i)) → en_Ev XX5_fewestMore 91 [some (.ref 0), some (.int (zI m)), some (.int (zI r)), some (.int (zI h)), some (.int (zI R)), some (.int (zI mo)), x6, some (.int (zI (oOne mo i))), some (.int (zI (oTwo mo i)))] [] v Q := by
      intro x6 hx6
      subst hx6
      obtain ⟨w2, e2, g2, f2⟩ := s_passNightWith (w := v) (m := m) (one := oOne mo i) (two := oTwo mo i) (hT.nf k2) (hP.nf k2) k3 h1 h2 o1 o2 o3 o4 o5 (by rw [hxN]; exact hcn)
      simp only [eX5_fewestMore_91, eX5_fewestMore_92, eX5_fewestMore_93, eX5_fewestMore_95, eX5_fewestMore_97, en_kl_0, en_kl_i, en_kl_r, en_kl_n, en_kl_l, en_Ec_some, en_Ec_void, en_rcv, en_stk, List.map_cons, List.map_nil, List.sum_cons, List.sum_nil, Value.category, Nat.reduceAdd, Nat.reduceLeDiff, decide_true, true_and, and_true, and_self, fi_0, ft_0_0, ft_0_1, ft_0_2, ft_0_3, ft_0_4, ft_0_5, fi_3, ft_3_0, ft_3_1, fi_5, ft_5_0, ft_5_1, fi_8, ft_8_0, ft_8_1, ft_8_2, ft_8_3, ft_8_4, ft_8_5, fi_14, ft_14_0, ft_14_1, fi_19, ft_19_0, ft_19_1, ft_19_2, ft_19_3, ft_19_5, ft_19_6, ft_19_7, ft_19_8, ft_19_12, ft_19_13, ft_19_14, ft_19_15, ft_19_16, ft_19_21, fx_4, fx_6, fx_7, fx_9, fx_10, fx_11, fx_12, fx_13, fx_15, fx_16, fx_17, fx_18, fx_20, fx_21, fx_22, fx_23, fx_24, fx_25, fx_26, fx_27, fx_28, fx_29, fx_30, fx_31, fx_32, fx_33]
      rw [e2]
      simp only [eX5_fewestMore_100, eX5_fewestMore_101, eX5_fewestMore_104, eX5_fewestMore_105, en_kl_0, en_kl_i, en_kl_r, en_kl_n, en_kl_l, en_Ec_some, en_Ec_void, en_rcv, en_stk, List.map_cons, List.map_nil, List.sum_cons, List.sum_nil, Value.category, Nat.reduceAdd, Nat.reduceLeDiff, decide_true, true_and, and_true, and_self, fi_0, ft_0_0, ft_0_1, ft_0_2, ft_0_3, ft_0_4, ft_0_5, fi_3, ft_3_0, ft_3_1, fi_5, ft_5_0, ft_5_1, fi_8, ft_8_0, ft_8_1, ft_8_2, ft_8_3, ft_8_4, ft_8_5, fi_14, ft_14_0, ft_14_1, fi_19, ft_19_0, ft_19_1, ft_19_2, ft_19_3, ft_19_5, ft_19_6, ft_19_7, ft_19_8, ft_19_12, ft_19_13, ft_19_14, ft_19_15, ft_19_16, ft_19_21, fx_4, fx_6, fx_7, fx_9, fx_10, fx_11, fx_12, fx_13, fx_15, fx_16, fx_17, fx_18, fx_20, fx_21, fx_22, fx_23, fx_24, fx_25, fx_26, fx_27, fx_28, fx_29, fx_30, fx_31, fx_32, fx_33]
      rw [s_playingIn g2 h5 h6]
      have hnp : -1 ≤ npi (xN (tcn n tb) (oOne mo i) (oTwo mo i)) len (nnight law (xN (tcn n tb) (oOne mo i) (oTwo mo i)) (xM (tcn n tb) (tcm n tb) m) (xB (tcn n tb) (tcb n tb) (oOne mo i) (oTwo mo i)) len life) h (xN (tcn n tb) (oOne mo i) (oTwo mo i)) 0 ∧ npi (xN (tcn n tb) (oOne mo i) (oTwo mo i)) len (nnight law (xN (tcn n tb) (oOne mo i) (oTwo mo i)) (xM (tcn n tb) (tcm n tb) m) (xB (tcn n tb) (tcb n tb) (oOne mo i) (oTwo mo i)) len life) h (xN (tcn n tb) (oOne mo i) (oTwo mo i)) 0 ≤ 9 := by
        have hB := g2.2.2.2.2.2.2.2.2
        exact npi_rng hB _ _
      have hxP : xP (tcn n tb) (tcm n tb) (tcb n tb) len law life m r h (oOne mo i) (oTwo mo i) = true ↔ npi (xN (tcn n tb) (oOne mo i) (oTwo mo i)) len (nnight law (xN (tcn n tb) (oOne mo i) (oTwo mo i)) (xM (tcn n tb) (tcm n tb) m) (xB (tcn n tb) (tcb n tb) (oOne mo i) (oTwo mo i)) len life) h (xN (tcn n tb) (oOne mo i) (oTwo mo i)) 0 = r := by
        unfold xP
        rw [decide_eq_true_eq]
      have k4' := k4
      rw [fsr_succ] at k4
      by_cases c2 : npi (xN (tcn n tb) (oOne mo i) (oTwo mo i)) len (nnight law (xN (tcn n tb) (oOne mo i) (oTwo mo i)) (xM (tcn n tb) (tcm n tb) m) (xB (tcn n tb) (tcb n tb) (oOne mo i) (oTwo mo i)) len life) h (xN (tcn n tb) (oOne mo i) (oTwo mo i)) 0 = r
      · rw [if_pos (hxP.mpr c2)] at k4
        simp (disch := omega) only [eX5_fewestMore_108, eX5_fewestMore_109, eX5_fewestMore_112, eX5_fewestMore_114, eX5_fewestMore_116, eX5_fewestMore_118, en_kl_0, en_kl_i, en_kl_r, en_kl_n, en_kl_l, en_Ec_some, en_Ec_void, en_rcv, en_stk, List.map_cons, List.map_nil, List.sum_cons, List.sum_nil, Value.category, Nat.reduceAdd, Nat.reduceLeDiff, decide_true, true_and, and_true, and_self, zI_add, zI_sub, zI_mul, zI_neg, zI_lt, zI_le, zI_eq, zI_cl, zI_0, zI_1, zI_m1, zI_lit, zT_0, zT_01, zI_01, zI_11, ↓reduceIte, if_true, if_false, not_false_eq_true, not_true_eq_false, Int.reduceEq, Int.reduceLT, Int.reduceLE, Classical.not_not, Bool.false_eq_true, fi_0, ft_0_0, ft_0_1, ft_0_2, ft_0_3, ft_0_4, ft_0_5, fi_3, ft_3_0, ft_3_1, fi_5, ft_5_0, ft_5_1, fi_8, ft_8_0, ft_8_1, ft_8_2, ft_8_3, ft_8_4, ft_8_5, fi_14, ft_14_0, ft_14_1, fi_19, ft_19_0, ft_19_1, ft_19_2, ft_19_3, ft_19_5, ft_19_6, ft_19_7, ft_19_8, ft_19_12, ft_19_13, ft_19_14, ft_19_15, ft_19_16, ft_19_21, fx_4, fx_6, fx_7, fx_9, fx_10, fx_11, fx_12, fx_13, fx_15, fx_16, fx_17, fx_18, fx_20, fx_21, fx_22, fx_23, fx_24, fx_25, fx_26, fx_27, fx_28, fx_29, fx_30, fx_31, fx_32, fx_33, c2]
        rw [s_rowOf hmo o1 o2 o3 o4]
        simp (disch := omega) only [eX5_fewestMore_121, en_kl_0, en_kl_i, en_kl_r, en_kl_n, en_kl_l, en_Ec_some, en_Ec_void, en_rcv, en_stk, List.map_cons, List.map_nil, List.sum_cons, List.sum_nil, Value.category, Nat.reduceAdd, Nat.reduceLeDiff, decide_true, true_and, and_true, and_self]
        exact hq w2 i (k2.tr (f2.mono (by simp [NF]))) k4.symm
      · rw [if_neg (fun q => c2 (hxP.mp q))] at k4
        simp (disch := omega) only [eX5_fewestMore_108, eX5_fewestMore_109, eX5_fewestMore_122, eX5_fewestMore_125, en_kl_0, en_kl_i, en_kl_r, en_kl_n, en_kl_l, en_Ec_some, en_Ec_void, en_rcv, en_stk, List.map_cons, List.map_nil, List.sum_cons, List.sum_nil, Value.category, Nat.reduceAdd, Nat.reduceLeDiff, decide_true, true_and, and_true, and_self, zI_add, zI_sub, zI_mul, zI_neg, zI_lt, zI_le, zI_eq, zI_cl, zI_0, zI_1, zI_m1, zI_lit, zT_0, zT_01, zI_01, zI_11, ↓reduceIte, if_true, if_false, not_false_eq_true, not_true_eq_false, Int.reduceEq, Int.reduceLT, Int.reduceLE, Classical.not_not, Bool.false_eq_true, fi_0, ft_0_0, ft_0_1, ft_0_2, ft_0_3, ft_0_4, ft_0_5, fi_3, ft_3_0, ft_3_1, fi_5, ft_5_0, ft_5_1, fi_8, ft_8_0, ft_8_1, ft_8_2, ft_8_3, ft_8_4, ft_8_5, fi_14, ft_14_0, ft_14_1, fi_19, ft_19_0, ft_19_1, ft_19_2, ft_19_3, ft_19_5, ft_19_6, ft_19_7, ft_19_8, ft_19_12, ft_19_13, ft_19_14, ft_19_15, ft_19_16, ft_19_21, fx_4, fx_6, fx_7, fx_9, fx_10, fx_11, fx_12, fx_13, fx_15, fx_16, fx_17, fx_18, fx_20, fx_21, fx_22, fx_23, fx_24, fx_25, fx_26, fx_27, fx_28, fx_29, fx_30, fx_31, fx_32, fx_33, c2]
        exact ih (i + 1) w2 _ _ (by omega) (k2.tr (f2.mono (by simp [NF]))) (fun r hr => by rw [f2 9 (by decide)]; exact k3 r hr) k4
    rw [eX5_fewestMore_40]
    have : mo = 0 ∨ mo = 1 ∨ mo = 2 := by omega
    rcases this with e | e | e
    · have e1 : oOne mo i = -1 := by rw [e]; rfl
      have e2 : oTwo mo i = -1 := by rw [e]; rfl
      rw [e1, e2] at body
      subst e
      simp (disch := omega) only [eX5_fewestMore_0, eX5_fewestMore_1, eX5_fewestMore_4, eX5_fewestMore_5, eX5_fewestMore_7, eX5_fewestMore_8, eX5_fewestMore_12, eX5_fewestMore_13, eX5_fewestMore_16, eX5_fewestMore_17, eX5_fewestMore_20, eX5_fewestMore_23, eX5_fewestMore_26, eX5_fewestMore_28, eX5_fewestMore_29, eX5_fewestMore_31, eX5_fewestMore_34, eX5_fewestMore_36, eX5_fewestMore_37, eX5_fewestMore_38, eX5_fewestMore_42, eX5_fewestMore_44, eX5_fewestMore_47, eX5_fewestMore_49, eX5_fewestMore_52, eX5_fewestMore_53, eX5_fewestMore_56, eX5_fewestMore_58, eX5_fewestMore_59, eX5_fewestMore_62, eX5_fewestMore_64, eX5_fewestMore_67, eX5_fewestMore_69, eX5_fewestMore_71, eX5_fewestMore_72, eX5_fewestMore_74, eX5_fewestMore_76, eX5_fewestMore_77, eX5_fewestMore_80, eX5_fewestMore_81, eX5_fewestMore_84, eX5_fewestMore_86, eX5_fewestMore_88, eX5_fewestMore_89, eX5_fewestMore_92, eX5_fewestMore_93, eX5_fewestMore_95, eX5_fewestMore_97, eX5_fewestMore_100, eX5_fewestMore_101, eX5_fewestMore_104, eX5_fewestMore_105, eX5_fewestMore_108, eX5_fewestMore_109, eX5_fewestMore_112, eX5_fewestMore_114, eX5_fewestMore_116, eX5_fewestMore_118, eX5_fewestMore_121, eX5_fewestMore_122, eX5_fewestMore_125, eX5_fewestMore_130, eX5_fewestMore_132, eX5_fewestMore_133, eX5_fewestMore_135, eX5_fewestMore_138, eX5_fewestMore_141, eX5_fewestMore_142, en_kl_0, en_kl_i, en_kl_r, en_kl_n, en_kl_l, en_Ec_some, en_Ec_void, en_rcv, en_stk, List.map_cons, List.map_nil, List.sum_cons, List.sum_nil, Value.category, Nat.reduceAdd, Nat.reduceLeDiff, decide_true, true_and, and_true, and_self, zI_add, zI_sub, zI_mul, zI_neg, zI_lt, zI_le, zI_eq, zI_cl, zI_0, zI_1, zI_m1, zI_lit, zT_0, zT_01, zI_01, zI_11, ↓reduceIte, if_true, if_false, not_false_eq_true, not_true_eq_false, Int.reduceEq, Int.reduceLT, Int.reduceLE, Classical.not_not, Bool.false_eq_true, c1, Int.cast_ofNat_Int, Int.natCast_zero]
      exact body _ rfl
    · have e1 : oOne mo i = i := by rw [e]; rfl
      have e2 : oTwo mo i = -1 := by rw [e]; rfl
      rw [e1, e2] at body
      subst e
      simp (disch := omega) only [eX5_fewestMore_0, eX5_fewestMore_1, eX5_fewestMore_4, eX5_fewestMore_5, eX5_fewestMore_7, eX5_fewestMore_8, eX5_fewestMore_12, eX5_fewestMore_13, eX5_fewestMore_16, eX5_fewestMore_17, eX5_fewestMore_20, eX5_fewestMore_23, eX5_fewestMore_26, eX5_fewestMore_28, eX5_fewestMore_29, eX5_fewestMore_31, eX5_fewestMore_34, eX5_fewestMore_36, eX5_fewestMore_37, eX5_fewestMore_38, eX5_fewestMore_42, eX5_fewestMore_44, eX5_fewestMore_47, eX5_fewestMore_49, eX5_fewestMore_52, eX5_fewestMore_53, eX5_fewestMore_56, eX5_fewestMore_58, eX5_fewestMore_59, eX5_fewestMore_62, eX5_fewestMore_64, eX5_fewestMore_67, eX5_fewestMore_69, eX5_fewestMore_71, eX5_fewestMore_72, eX5_fewestMore_74, eX5_fewestMore_76, eX5_fewestMore_77, eX5_fewestMore_80, eX5_fewestMore_81, eX5_fewestMore_84, eX5_fewestMore_86, eX5_fewestMore_88, eX5_fewestMore_89, eX5_fewestMore_92, eX5_fewestMore_93, eX5_fewestMore_95, eX5_fewestMore_97, eX5_fewestMore_100, eX5_fewestMore_101, eX5_fewestMore_104, eX5_fewestMore_105, eX5_fewestMore_108, eX5_fewestMore_109, eX5_fewestMore_112, eX5_fewestMore_114, eX5_fewestMore_116, eX5_fewestMore_118, eX5_fewestMore_121, eX5_fewestMore_122, eX5_fewestMore_125, eX5_fewestMore_130, eX5_fewestMore_132, eX5_fewestMore_133, eX5_fewestMore_135, eX5_fewestMore_138, eX5_fewestMore_141, eX5_fewestMore_142, en_kl_0, en_kl_i, en_kl_r, en_kl_n, en_kl_l, en_Ec_some, en_Ec_void, en_rcv, en_stk, List.map_cons, List.map_nil, List.sum_cons, List.sum_nil, Value.category, Nat.reduceAdd, Nat.reduceLeDiff, decide_true, true_and, and_true, and_self, zI_add, zI_sub, zI_mul, zI_neg, zI_lt, zI_le, zI_eq, zI_cl, zI_0, zI_1, zI_m1, zI_lit, zT_0, zT_01, zI_01, zI_11, ↓reduceIte, if_true, if_false, not_false_eq_true, not_true_eq_false, Int.reduceEq, Int.reduceLT, Int.reduceLE, Classical.not_not, Bool.false_eq_true, c1, Int.cast_ofNat_Int, Int.natCast_one]
      exact body _ rfl
    · have e1 : oOne mo i = ((i / 10 : Nat) : Int) := by rw [e]; rfl
      have e2 : oTwo mo i = ((i % 10 : Nat) : Int) := by rw [e]; rfl
      rw [e1, e2] at body
      subst e
      have d1 := zI_div (a := i) (d := 10) (by omega) (by omega) (by omega)
      have d2 := zI_rem (a := i) (d := 10) (by omega) (by omega) (by omega)
      rw [d1] at d2
      simp (disch := omega) only [eX5_fewestMore_0, eX5_fewestMore_1, eX5_fewestMore_4, eX5_fewestMore_5, eX5_fewestMore_7, eX5_fewestMore_8, eX5_fewestMore_12, eX5_fewestMore_13, eX5_fewestMore_16, eX5_fewestMore_17, eX5_fewestMore_20, eX5_fewestMore_23, eX5_fewestMore_26, eX5_fewestMore_28, eX5_fewestMore_29, eX5_fewestMore_31, eX5_fewestMore_34, eX5_fewestMore_36, eX5_fewestMore_37, eX5_fewestMore_38, eX5_fewestMore_42, eX5_fewestMore_44, eX5_fewestMore_47, eX5_fewestMore_49, eX5_fewestMore_52, eX5_fewestMore_53, eX5_fewestMore_56, eX5_fewestMore_58, eX5_fewestMore_59, eX5_fewestMore_62, eX5_fewestMore_64, eX5_fewestMore_67, eX5_fewestMore_69, eX5_fewestMore_71, eX5_fewestMore_72, eX5_fewestMore_74, eX5_fewestMore_76, eX5_fewestMore_77, eX5_fewestMore_80, eX5_fewestMore_81, eX5_fewestMore_84, eX5_fewestMore_86, eX5_fewestMore_88, eX5_fewestMore_89, eX5_fewestMore_92, eX5_fewestMore_93, eX5_fewestMore_95, eX5_fewestMore_97, eX5_fewestMore_100, eX5_fewestMore_101, eX5_fewestMore_104, eX5_fewestMore_105, eX5_fewestMore_108, eX5_fewestMore_109, eX5_fewestMore_112, eX5_fewestMore_114, eX5_fewestMore_116, eX5_fewestMore_118, eX5_fewestMore_121, eX5_fewestMore_122, eX5_fewestMore_125, eX5_fewestMore_130, eX5_fewestMore_132, eX5_fewestMore_133, eX5_fewestMore_135, eX5_fewestMore_138, eX5_fewestMore_141, eX5_fewestMore_142, en_kl_0, en_kl_i, en_kl_r, en_kl_n, en_kl_l, en_Ec_some, en_Ec_void, en_rcv, en_stk, List.map_cons, List.map_nil, List.sum_cons, List.sum_nil, Value.category, Nat.reduceAdd, Nat.reduceLeDiff, decide_true, true_and, and_true, and_self, zI_le, zI_lt, zI_eq, zI_lit, zI_0, zI_1, ↓reduceIte, if_true, if_false, Int.reduceEq, Int.reduceLT, Int.reduceLE, not_false_eq_true, c1, Int.cast_ofNat_Int]
      rw [show (10 : Int) = ((10 : Nat) : Int) from rfl, d1, d2]
      exact body _ rfl
end
