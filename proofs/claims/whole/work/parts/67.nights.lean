/-! ===== the model's nights, as they are told ===== -/
/-- only the reading's and a night's own places changed -/
def ofr (w w' : en_W) : Prop := en_fr [19, 28, 29, 30, 31, 32] w w' ∧ ∀ j, j ≠ 10 → j ≠ 11 → j ≠ 17 → j ≠ 18 → j ≠ 19 → w' 19 j = w 19 j
theorem ofr.rf {w : en_W} : ofr w w := ⟨en_fr.rf, fun _ _ _ _ _ _ => rfl⟩
theorem ofr.tr {w w1 w2 : en_W} (h : ofr w w1) (h2 : ofr w1 w2) : ofr w w2 := ⟨h.1.tr h2.1, fun j a b c d e => (h2.2 j a b c d e).trans (h.2 j a b c d e)⟩
theorem rfr.o {w w1 : en_W} (h : rfr w w1) : ofr w w1 := ⟨h.1.mono (by intro k hk; simp at hk ⊢; omega), fun j a b _ _ _ => h.2 j a b⟩
theorem nfr.o {w w1 : en_W} (h : nfr w w1) : ofr w w1 := ⟨h.1.mono (by intro k hk; simp at hk ⊢; omega), fun j _ _ c d e => h.2 j c d e⟩
theorem bG.o {w w' : en_W} {G : Nat → Int} {s : Nat → Nat → Int} (h : bG w G s) (hf : ofr w w') : bG w' G s := h.fr (hf.1 24 (by decide)) (hf.1 25 (by decide))
theorem bP.o {w w' : en_W} {kick law life pat : Int} (h : bP w kick law life pat) (hf : ofr w w') : bP w' kick law life pat := h.fr (hf.1 26 (by decide))
theorem bT.o {w w' : en_W} {n : Nat} {tb : Nat → Int} (h : bT w n tb) (hf : ofr w w') : bT w' n tb := by
  obtain ⟨h1, h2, h3⟩ := h
  refine ⟨by rw [hf.2 9 (by decide) (by decide) (by decide) (by decide) (by decide)]; exact h1, h2, fun j hj => ?_⟩
  rw [hf.1 27 (by decide)]
  exact h3 j hj
theorem srt_of {n : Nat} {cm : Nat → Int} (h : ∀ c, c + 1 < n → cm c ≤ cm (c + 1)) : srt n cm := fun i j hij hj => by
  obtain ⟨d, hd⟩ : ∃ d, j = i + d := ⟨j - i, by omega⟩
  subst hd
  clear hij
  induction d with
  | zero => exact Int.le_refl _
  | succ d ih => exact Int.le_trans (ih (by omega)) (h (i + d) (by omega))
theorem srt_t {n : Nat} {tb : Nat → Int} : srt (tcn n tb) (tcm n tb) := srt_of (fun _ hc => tcm_mono hc)
/-- what a night tells: silent, pleased, the end -/
def ngt (n : Nat) (cm : Nat → Int) (t : NT) (pat a : Int) : Int := if a = 0 then nsi n cm t else if a = 1 then npp n cm t pat n else nle t
section
variable {w : en_W} {G : Nat → Int} {s : Nat → Nat → Int} {kick law life pat : Int} {n k : Nat} {tb cm cb len : Nat → Int} {t : NT} {a m r v : Int}
theorem nwt_at {c : Nat} (hc : c < k) : nwt k cm t (c : Int) = if nch t c = -1 then -1 else nch t c - cm c := by
  unfold nwt
  rw [nat1_at hc, nat1_at hc]
theorem r_isPleased {c : Nat} (hP : bP w kick law life pat) (hC : mC w k cm cb) (hN : mN w k len t) (hF : nF k t) (hc : c < k) : SX6_isPleased [.ref 19, .int (zI c)] w = some (some (.int (zT (npl t c ≠ -1 ∧ nwt k cm t (c : Int) ≤ pat))), w) := by
  have hk := hC.2.1
  obtain ⟨e1, e2⟩ := hN.1 c hc
  have b1 := hF.1.1 c
  have b2 := hF.1.2.1 c
  obtain ⟨e3, -, b3, b4, -⟩ := hC.2.2 c hc
  obtain ⟨e4, b5, b6⟩ := hP.2.2.2
  have x0 : (2 * (c : Int)).toNat = 2 * c := by omega
  refine en_val rfl (fun Q hQ => ?_)
  show en_Ev XX6_isPleased 0 [some (.ref 19), some (.int (zI c))] [] w Q
  rw [nwt_at hc] at hQ
  by_cases c1 : npl t c = -1
  · rw [zT_f (fun z => z.1 c1)] at hQ
    rw [c1] at e2
    simp (disch := omega) only [eX6_isPleased_0, eX6_isPleased_1, eX6_isPleased_4, eX6_isPleased_5, eX6_isPleased_6, eX6_isPleased_7, eX6_isPleased_10, eX6_isPleased_11, eX6_isPleased_14, eX6_isPleased_15, eX6_isPleased_16, eX6_isPleased_17, eX6_isPleased_20, eX6_isPleased_21, eX6_isPleased_22, eX6_isPleased_23, eX6_isPleased_24, eX6_isPleased_25, eX6_isPleased_26, eX6_isPleased_29, eX6_isPleased_30, eX6_isPleased_31, eX6_isPleased_34, eX6_isPleased_35, eX6_isPleased_38, eX6_isPleased_39, en_kl_0, en_kl_i, en_kl_r, en_kl_n, en_kl_l, en_Ec_some, en_Ec_void, en_rcv, en_stk, List.map_cons, List.map_nil, List.sum_cons, List.sum_nil, Value.category, Nat.reduceAdd, Nat.reduceLeDiff, decide_true, true_and, and_true, and_self, zI_add, zI_sub, zI_mul, zI_neg, zI_lt, zI_le, zI_eq, zI_cl, zI_0, zI_1, zI_m1, zI_lit, zT_0, zT_01, zI_01, zI_11, ↓reduceIte, if_true, if_false, not_false_eq_true, not_true_eq_false, Int.reduceEq, Int.reduceLT, Int.reduceLE, Classical.not_not, Bool.false_eq_true, fi_19, ft_19_0, ft_19_1, ft_19_2, ft_19_3, ft_19_5, ft_19_6, ft_19_7, ft_19_8, ft_19_12, ft_19_13, ft_19_14, ft_19_15, ft_19_16, ft_19_21, xi_20, xi_21, xi_22, xi_23, xi_24, xi_25, xi_26, xi_27, xi_28, xi_29, xi_30, xi_31, xi_32, xi_33, Int.toNat_natCast, Int.reduceToNat, e2]
    exact hQ
  · have c2 : ¬ nch t c = -1 := fun z => c1 (hF.2.1 c z)
    rw [if_neg c2] at hQ
    by_cases c3 : nch t c - cm c ≤ pat
    · rw [zT_t ⟨c1, c3⟩] at hQ
      have c4 : ¬ pat < nch t c - cm c := by omega
      simp (disch := omega) only [eX6_isPleased_0, eX6_isPleased_1, eX6_isPleased_4, eX6_isPleased_5, eX6_isPleased_6, eX6_isPleased_7, eX6_isPleased_10, eX6_isPleased_11, eX6_isPleased_14, eX6_isPleased_15, eX6_isPleased_16, eX6_isPleased_17, eX6_isPleased_20, eX6_isPleased_21, eX6_isPleased_22, eX6_isPleased_23, eX6_isPleased_24, eX6_isPleased_25, eX6_isPleased_26, eX6_isPleased_29, eX6_isPleased_30, eX6_isPleased_31, eX6_isPleased_34, eX6_isPleased_35, eX6_isPleased_38, eX6_isPleased_39, en_kl_0, en_kl_i, en_kl_r, en_kl_n, en_kl_l, en_Ec_some, en_Ec_void, en_rcv, en_stk, List.map_cons, List.map_nil, List.sum_cons, List.sum_nil, Value.category, Nat.reduceAdd, Nat.reduceLeDiff, decide_true, true_and, and_true, and_self, zI_add, zI_sub, zI_mul, zI_neg, zI_lt, zI_le, zI_eq, zI_cl, zI_0, zI_1, zI_m1, zI_lit, zT_0, zT_01, zI_01, zI_11, ↓reduceIte, if_true, if_false, not_false_eq_true, not_true_eq_false, Int.reduceEq, Int.reduceLT, Int.reduceLE, Classical.not_not, Bool.false_eq_true, fi_19, ft_19_0, ft_19_1, ft_19_2, ft_19_3, ft_19_5, ft_19_6, ft_19_7, ft_19_8, ft_19_12, ft_19_13, ft_19_14, ft_19_15, ft_19_16, ft_19_21, xi_20, xi_21, xi_22, xi_23, xi_24, xi_25, xi_26, xi_27, xi_28, xi_29, xi_30, xi_31, xi_32, xi_33, Int.toNat_natCast, Int.reduceToNat, e1, e2, e3, e4, x0, c1, c4]
      exact hQ
    · rw [zT_f (fun z => c3 z.2)] at hQ
      have c4 : pat < nch t c - cm c := by omega
      simp (disch := omega) only [eX6_isPleased_0, eX6_isPleased_1, eX6_isPleased_4, eX6_isPleased_5, eX6_isPleased_6, eX6_isPleased_7, eX6_isPleased_10, eX6_isPleased_11, eX6_isPleased_14, eX6_isPleased_15, eX6_isPleased_16, eX6_isPleased_17, eX6_isPleased_20, eX6_isPleased_21, eX6_isPleased_22, eX6_isPleased_23, eX6_isPleased_24, eX6_isPleased_25, eX6_isPleased_26, eX6_isPleased_29, eX6_isPleased_30, eX6_isPleased_31, eX6_isPleased_34, eX6_isPleased_35, eX6_isPleased_38, eX6_isPleased_39, en_kl_0, en_kl_i, en_kl_r, en_kl_n, en_kl_l, en_Ec_some, en_Ec_void, en_rcv, en_stk, List.map_cons, List.map_nil, List.sum_cons, List.sum_nil, Value.category, Nat.reduceAdd, Nat.reduceLeDiff, decide_true, true_and, and_true, and_self, zI_add, zI_sub, zI_mul, zI_neg, zI_lt, zI_le, zI_eq, zI_cl, zI_0, zI_1, zI_m1, zI_lit, zT_0, zT_01, zI_01, zI_11, ↓reduceIte, if_true, if_false, not_false_eq_true, not_true_eq_false, Int.reduceEq, Int.reduceLT, Int.reduceLE, Classical.not_not, Bool.false_eq_true, fi_19, ft_19_0, ft_19_1, ft_19_2, ft_19_3, ft_19_5, ft_19_6, ft_19_7, ft_19_8, ft_19_12, ft_19_13, ft_19_14, ft_19_15, ft_19_16, ft_19_21, xi_20, xi_21, xi_22, xi_23, xi_24, xi_25, xi_26, xi_27, xi_28, xi_29, xi_30, xi_31, xi_32, xi_33, Int.toNat_natCast, Int.reduceToNat, e1, e2, e3, e4, x0, c1, c4]
      exact hQ
theorem r_pleased (hP : bP w kick law life pat) (hC : mC w k cm cb) (hN : mN w k len t) (hF : nF k t) : SX6_pleased [.ref 19] w = some (some (.int (zI (npp k cm t pat k))), w) := by
  have hk := hC.2.1
  have h11 := hC.1
  refine en_val rfl (fun Q hQ => ?_)
  show en_Ev XX6_pleased 0 [some (.ref 19), none, none] [] w Q
  have loop : ∀ (d i : Nat), i + d = k → en_Ev XX6_pleased 4 [some (.ref 19), some (.int (zI (npp k cm t pat i))), some (.int (zI i))] [] w Q := by
    intro d
    induction d with
    | zero =>
      intro i hi
      have x1 : (k : Int) ≤ (i : Int) := by omega
      have e : i = k := by omega
      rw [eX6_pleased_4]
      simp (disch := omega) only [eX6_pleased_0, eX6_pleased_1, eX6_pleased_2, eX6_pleased_3, eX6_pleased_5, eX6_pleased_6, eX6_pleased_9, eX6_pleased_12, eX6_pleased_13, eX6_pleased_14, eX6_pleased_15, eX6_pleased_18, eX6_pleased_21, eX6_pleased_22, eX6_pleased_25, eX6_pleased_26, eX6_pleased_27, eX6_pleased_28, eX6_pleased_31, eX6_pleased_34, eX6_pleased_35, en_kl_0, en_kl_i, en_kl_r, en_kl_n, en_kl_l, en_Ec_some, en_Ec_void, en_rcv, en_stk, List.map_cons, List.map_nil, List.sum_cons, List.sum_nil, Value.category, Nat.reduceAdd, Nat.reduceLeDiff, decide_true, true_and, and_true, and_self, zI_add, zI_sub, zI_mul, zI_neg, zI_lt, zI_le, zI_eq, zI_cl, zI_0, zI_1, zI_m1, zI_lit, zT_0, zT_01, zI_01, zI_11, ↓reduceIte, if_true, if_false, not_false_eq_true, not_true_eq_false, Int.reduceEq, Int.reduceLT, Int.reduceLE, Classical.not_not, Bool.false_eq_true, fi_19, ft_19_0, ft_19_1, ft_19_2, ft_19_3, ft_19_5, ft_19_6, ft_19_7, ft_19_8, ft_19_12, ft_19_13, ft_19_14, ft_19_15, ft_19_16, ft_19_21, xi_20, xi_21, xi_22, xi_23, xi_24, xi_25, xi_26, xi_27, xi_28, xi_29, xi_30, xi_31, xi_32, xi_33, Int.toNat_natCast, Int.reduceToNat, h11, x1]
      rw [e]
      exact hQ
    | succ d ih =>
      intro i hi
      have x1 : ¬ (k : Int) ≤ (i : Int) := by omega
      have g := ih (i + 1) (by omega)
      have b := npp_rng (n := k) (cm := cm) (t := t) (pat := pat) i
      have u : npp k cm t pat (i + 1) = npp k cm t pat i + (if npl t i ≠ -1 ∧ nwt k cm t (i : Int) ≤ pat then 1 else 0) := rfl
      rw [u] at g
      rw [eX6_pleased_4]
      by_cases c1 : npl t i ≠ -1 ∧ nwt k cm t (i : Int) ≤ pat
      · have e := r_isPleased hP hC hN hF (show i < k by omega)
        rw [zT_t c1] at e
        rw [if_pos c1] at g
        simp (disch := omega) only [eX6_pleased_0, eX6_pleased_1, eX6_pleased_2, eX6_pleased_3, eX6_pleased_5, eX6_pleased_6, eX6_pleased_9, eX6_pleased_12, eX6_pleased_13, eX6_pleased_14, eX6_pleased_15, eX6_pleased_18, eX6_pleased_21, eX6_pleased_22, eX6_pleased_25, eX6_pleased_26, eX6_pleased_27, eX6_pleased_28, eX6_pleased_31, eX6_pleased_34, eX6_pleased_35, en_kl_0, en_kl_i, en_kl_r, en_kl_n, en_kl_l, en_Ec_some, en_Ec_void, en_rcv, en_stk, List.map_cons, List.map_nil, List.sum_cons, List.sum_nil, Value.category, Nat.reduceAdd, Nat.reduceLeDiff, decide_true, true_and, and_true, and_self, zI_add, zI_sub, zI_mul, zI_neg, zI_lt, zI_le, zI_eq, zI_cl, zI_0, zI_1, zI_m1, zI_lit, zT_0, zT_01, zI_01, zI_11, ↓reduceIte, if_true, if_false, not_false_eq_true, not_true_eq_false, Int.reduceEq, Int.reduceLT, Int.reduceLE, Classical.not_not, Bool.false_eq_true, fi_19, ft_19_0, ft_19_1, ft_19_2, ft_19_3, ft_19_5, ft_19_6, ft_19_7, ft_19_8, ft_19_12, ft_19_13, ft_19_14, ft_19_15, ft_19_16, ft_19_21, xi_20, xi_21, xi_22, xi_23, xi_24, xi_25, xi_26, xi_27, xi_28, xi_29, xi_30, xi_31, xi_32, xi_33, Int.toNat_natCast, Int.reduceToNat, h11, x1, e]
        exact g
      · have e := r_isPleased hP hC hN hF (show i < k by omega)
        rw [zT_f c1] at e
        rw [if_neg c1] at g
        simp (disch := omega) only [eX6_pleased_0, eX6_pleased_1, eX6_pleased_2, eX6_pleased_3, eX6_pleased_5, eX6_pleased_6, eX6_pleased_9, eX6_pleased_12, eX6_pleased_13, eX6_pleased_14, eX6_pleased_15, eX6_pleased_18, eX6_pleased_21, eX6_pleased_22, eX6_pleased_25, eX6_pleased_26, eX6_pleased_27, eX6_pleased_28, eX6_pleased_31, eX6_pleased_34, eX6_pleased_35, en_kl_0, en_kl_i, en_kl_r, en_kl_n, en_kl_l, en_Ec_some, en_Ec_void, en_rcv, en_stk, List.map_cons, List.map_nil, List.sum_cons, List.sum_nil, Value.category, Nat.reduceAdd, Nat.reduceLeDiff, decide_true, true_and, and_true, and_self, zI_add, zI_sub, zI_mul, zI_neg, zI_lt, zI_le, zI_eq, zI_cl, zI_0, zI_1, zI_m1, zI_lit, zT_0, zT_01, zI_01, zI_11, ↓reduceIte, if_true, if_false, not_false_eq_true, not_true_eq_false, Int.reduceEq, Int.reduceLT, Int.reduceLE, Classical.not_not, Bool.false_eq_true, fi_19, ft_19_0, ft_19_1, ft_19_2, ft_19_3, ft_19_5, ft_19_6, ft_19_7, ft_19_8, ft_19_12, ft_19_13, ft_19_14, ft_19_15, ft_19_16, ft_19_21, xi_20, xi_21, xi_22, xi_23, xi_24, xi_25, xi_26, xi_27, xi_28, xi_29, xi_30, xi_31, xi_32, xi_33, Int.toNat_natCast, Int.reduceToNat, h11, x1, e]
        exact g
  simp (disch := omega) only [eX6_pleased_0, eX6_pleased_1, eX6_pleased_2, eX6_pleased_3, en_kl_0, en_kl_i, en_kl_r, en_kl_n, en_kl_l, en_Ec_some, en_Ec_void, en_rcv, en_stk, List.map_cons, List.map_nil, List.sum_cons, List.sum_nil, Value.category, Nat.reduceAdd, Nat.reduceLeDiff, decide_true, true_and, and_true, and_self, zI_add, zI_sub, zI_mul, zI_neg, zI_lt, zI_le, zI_eq, zI_cl, zI_0, zI_1, zI_m1, zI_lit, zT_0, zT_01, zI_01, zI_11, ↓reduceIte, if_true, if_false, not_false_eq_true, not_true_eq_false, Int.reduceEq, Int.reduceLT, Int.reduceLE, Classical.not_not, Bool.false_eq_true]
  exact loop k 0 (by omega)
theorem r_servedNow {c : Nat} (hC : mC w k cm cb) (hN : mN w k len t) (hF : nF k t) (hc : c < k) (a0 : 0 ≤ a) (a2 : a ≤ 2) : SX6_servedNow [.ref 19, .int (zI c), .int (zI a)] w = some (some (.int (zI (if a = 0 then nat1 k (nch t) (c : Int) else if a = 1 then nat1 k (npl t) (c : Int) else nwt k cm t (c : Int)))), w) := by
  have hk := hC.2.1
  obtain ⟨e1, e2⟩ := hN.1 c hc
  have b1 := hF.1.1 c
  have b2 := hF.1.2.1 c
  obtain ⟨e3, -, b3, b4, -⟩ := hC.2.2 c hc
  have x0 : (2 * (c : Int)).toNat = 2 * c := by omega
  refine en_val rfl (fun Q hQ => ?_)
  show en_Ev XX6_servedNow 0 [some (.ref 19), some (.int (zI c)), some (.int (zI a))] [] w Q
  rw [nwt_at hc, nat1_at hc, nat1_at hc] at hQ
  by_cases c1 : a = 0
  · rw [if_pos c1] at hQ
    subst c1
    simp (disch := omega) only [eX6_servedNow_0, eX6_servedNow_1, eX6_servedNow_4, eX6_servedNow_5, eX6_servedNow_8, eX6_servedNow_9, eX6_servedNow_10, eX6_servedNow_13, eX6_servedNow_14, eX6_servedNow_15, eX6_servedNow_18, eX6_servedNow_19, eX6_servedNow_22, eX6_servedNow_23, eX6_servedNow_24, eX6_servedNow_27, eX6_servedNow_28, eX6_servedNow_31, eX6_servedNow_32, eX6_servedNow_33, eX6_servedNow_34, eX6_servedNow_37, eX6_servedNow_38, eX6_servedNow_41, eX6_servedNow_42, eX6_servedNow_45, eX6_servedNow_46, eX6_servedNow_47, eX6_servedNow_48, eX6_servedNow_51, eX6_servedNow_52, eX6_servedNow_53, eX6_servedNow_54, eX6_servedNow_55, eX6_servedNow_56, en_kl_0, en_kl_i, en_kl_r, en_kl_n, en_kl_l, en_Ec_some, en_Ec_void, en_rcv, en_stk, List.map_cons, List.map_nil, List.sum_cons, List.sum_nil, Value.category, Nat.reduceAdd, Nat.reduceLeDiff, decide_true, true_and, and_true, and_self, zI_add, zI_sub, zI_mul, zI_neg, zI_lt, zI_le, zI_eq, zI_cl, zI_0, zI_1, zI_m1, zI_lit, zT_0, zT_01, zI_01, zI_11, ↓reduceIte, if_true, if_false, not_false_eq_true, not_true_eq_false, Int.reduceEq, Int.reduceLT, Int.reduceLE, Classical.not_not, Bool.false_eq_true, fi_19, ft_19_0, ft_19_1, ft_19_2, ft_19_3, ft_19_5, ft_19_6, ft_19_7, ft_19_8, ft_19_12, ft_19_13, ft_19_14, ft_19_15, ft_19_16, ft_19_21, xi_20, xi_21, xi_22, xi_23, xi_24, xi_25, xi_26, xi_27, xi_28, xi_29, xi_30, xi_31, xi_32, xi_33, Int.toNat_natCast, Int.reduceToNat, e1]
    exact hQ
  · rw [if_neg c1] at hQ
    by_cases c2 : a = 1
    · rw [if_pos c2] at hQ
      subst c2
      simp (disch := omega) only [eX6_servedNow_0, eX6_servedNow_1, eX6_servedNow_4, eX6_servedNow_5, eX6_servedNow_8, eX6_servedNow_9, eX6_servedNow_10, eX6_servedNow_13, eX6_servedNow_14, eX6_servedNow_15, eX6_servedNow_18, eX6_servedNow_19, eX6_servedNow_22, eX6_servedNow_23, eX6_servedNow_24, eX6_servedNow_27, eX6_servedNow_28, eX6_servedNow_31, eX6_servedNow_32, eX6_servedNow_33, eX6_servedNow_34, eX6_servedNow_37, eX6_servedNow_38, eX6_servedNow_41, eX6_servedNow_42, eX6_servedNow_45, eX6_servedNow_46, eX6_servedNow_47, eX6_servedNow_48, eX6_servedNow_51, eX6_servedNow_52, eX6_servedNow_53, eX6_servedNow_54, eX6_servedNow_55, eX6_servedNow_56, en_kl_0, en_kl_i, en_kl_r, en_kl_n, en_kl_l, en_Ec_some, en_Ec_void, en_rcv, en_stk, List.map_cons, List.map_nil, List.sum_cons, List.sum_nil, Value.category, Nat.reduceAdd, Nat.reduceLeDiff, decide_true, true_and, and_true, and_self, zI_add, zI_sub, zI_mul, zI_neg, zI_lt, zI_le, zI_eq, zI_cl, zI_0, zI_1, zI_m1, zI_lit, zT_0, zT_01, zI_01, zI_11, ↓reduceIte, if_true, if_false, not_false_eq_true, not_true_eq_false, Int.reduceEq, Int.reduceLT, Int.reduceLE, Classical.not_not, Bool.false_eq_true, fi_19, ft_19_0, ft_19_1, ft_19_2, ft_19_3, ft_19_5, ft_19_6, ft_19_7, ft_19_8, ft_19_12, ft_19_13, ft_19_14, ft_19_15, ft_19_16, ft_19_21, xi_20, xi_21, xi_22, xi_23, xi_24, xi_25, xi_26, xi_27, xi_28, xi_29, xi_30, xi_31, xi_32, xi_33, Int.toNat_natCast, Int.reduceToNat, e2]
      exact hQ
    · rw [if_neg c2] at hQ
      by_cases c3 : nch t c = -1
      · rw [if_pos c3] at hQ
        rw [c3] at e1
        simp (disch := omega) only [eX6_servedNow_0, eX6_servedNow_1, eX6_servedNow_4, eX6_servedNow_5, eX6_servedNow_8, eX6_servedNow_9, eX6_servedNow_10, eX6_servedNow_13, eX6_servedNow_14, eX6_servedNow_15, eX6_servedNow_18, eX6_servedNow_19, eX6_servedNow_22, eX6_servedNow_23, eX6_servedNow_24, eX6_servedNow_27, eX6_servedNow_28, eX6_servedNow_31, eX6_servedNow_32, eX6_servedNow_33, eX6_servedNow_34, eX6_servedNow_37, eX6_servedNow_38, eX6_servedNow_41, eX6_servedNow_42, eX6_servedNow_45, eX6_servedNow_46, eX6_servedNow_47, eX6_servedNow_48, eX6_servedNow_51, eX6_servedNow_52, eX6_servedNow_53, eX6_servedNow_54, eX6_servedNow_55, eX6_servedNow_56, en_kl_0, en_kl_i, en_kl_r, en_kl_n, en_kl_l, en_Ec_some, en_Ec_void, en_rcv, en_stk, List.map_cons, List.map_nil, List.sum_cons, List.sum_nil, Value.category, Nat.reduceAdd, Nat.reduceLeDiff, decide_true, true_and, and_true, and_self, zI_add, zI_sub, zI_mul, zI_neg, zI_lt, zI_le, zI_eq, zI_cl, zI_0, zI_1, zI_m1, zI_lit, zT_0, zT_01, zI_01, zI_11, ↓reduceIte, if_true, if_false, not_false_eq_true, not_true_eq_false, Int.reduceEq, Int.reduceLT, Int.reduceLE, Classical.not_not, Bool.false_eq_true, fi_19, ft_19_0, ft_19_1, ft_19_2, ft_19_3, ft_19_5, ft_19_6, ft_19_7, ft_19_8, ft_19_12, ft_19_13, ft_19_14, ft_19_15, ft_19_16, ft_19_21, xi_20, xi_21, xi_22, xi_23, xi_24, xi_25, xi_26, xi_27, xi_28, xi_29, xi_30, xi_31, xi_32, xi_33, Int.toNat_natCast, Int.reduceToNat, e1, c1, c2]
        exact hQ
      · rw [if_neg c3] at hQ
        simp (disch := omega) only [eX6_servedNow_0, eX6_servedNow_1, eX6_servedNow_4, eX6_servedNow_5, eX6_servedNow_8, eX6_servedNow_9, eX6_servedNow_10, eX6_servedNow_13, eX6_servedNow_14, eX6_servedNow_15, eX6_servedNow_18, eX6_servedNow_19, eX6_servedNow_22, eX6_servedNow_23, eX6_servedNow_24, eX6_servedNow_27, eX6_servedNow_28, eX6_servedNow_31, eX6_servedNow_32, eX6_servedNow_33, eX6_servedNow_34, eX6_servedNow_37, eX6_servedNow_38, eX6_servedNow_41, eX6_servedNow_42, eX6_servedNow_45, eX6_servedNow_46, eX6_servedNow_47, eX6_servedNow_48, eX6_servedNow_51, eX6_servedNow_52, eX6_servedNow_53, eX6_servedNow_54, eX6_servedNow_55, eX6_servedNow_56, en_kl_0, en_kl_i, en_kl_r, en_kl_n, en_kl_l, en_Ec_some, en_Ec_void, en_rcv, en_stk, List.map_cons, List.map_nil, List.sum_cons, List.sum_nil, Value.category, Nat.reduceAdd, Nat.reduceLeDiff, decide_true, true_and, and_true, and_self, zI_add, zI_sub, zI_mul, zI_neg, zI_lt, zI_le, zI_eq, zI_cl, zI_0, zI_1, zI_m1, zI_lit, zT_0, zT_01, zI_01, zI_11, ↓reduceIte, if_true, if_false, not_false_eq_true, not_true_eq_false, Int.reduceEq, Int.reduceLT, Int.reduceLE, Classical.not_not, Bool.false_eq_true, fi_19, ft_19_0, ft_19_1, ft_19_2, ft_19_3, ft_19_5, ft_19_6, ft_19_7, ft_19_8, ft_19_12, ft_19_13, ft_19_14, ft_19_15, ft_19_16, ft_19_21, xi_20, xi_21, xi_22, xi_23, xi_24, xi_25, xi_26, xi_27, xi_28, xi_29, xi_30, xi_31, xi_32, xi_33, Int.toNat_natCast, Int.reduceToNat, e1, e3, x0, c1, c2, c3]
        exact hQ
theorem nsi_at (hF : nF k t) (hk : k ≤ 20) : nsi k cm t = if npm t = 0 then 0 else nle t - cm 0 - npm t := by
  have h1 := hF.2.2.2
  have h2 := hF.1.2.2.2
  unfold nsi
  by_cases c : nps t = 0
  · rw [if_pos c, if_pos (h1.2 c)]
  · have h0 : 0 < k := by omega
    have e : nat1 k cm 0 = cm 0 := by
      have := nat1_at (f := cm) h0
      exact this
    rw [if_neg c, if_neg (by omega), e]
theorem r_nightOf {la : Int} (hG : bG w G s) (hP : bP w kick law life pat) (hC : mC w k cm cb) (hs : srt k cm) (l1 : 0 ≤ la) (l2 : la ≤ 3) (a0 : 0 ≤ a) (a2 : a ≤ 2) : ∃ w', SX6_nightOf [.ref 19, .int (zI la), .int (zI a)] w = some (some (.int (zI (ngt k cm (nnight la k cm cb (ml G s kick) life) pat a))), w') ∧ nfr w w' := by
  obtain ⟨w1, e1, hN, hF, f1⟩ := r_runs hG hP hC hs l1 l2
  obtain ⟨t, ht⟩ : ∃ t, nnight la k cm cb (ml G s kick) life = t := ⟨_, rfl⟩
  rw [ht] at hN hF
  have hk := hC.2.1
  have hC1 := hC.nf f1
  have hP1 := hP.nf f1
  have h17 := hN.2.2.1
  have h18 := hN.2.2.2.1
  have b18 := hF.1.2.2.2
  refine ⟨w1, en_val rfl (fun Q hQ => ?_), f1⟩
  show en_Ev XX6_nightOf 0 [some (.ref 19), some (.int (zI la)), some (.int (zI a))] [] w Q
  rw [ht] at hQ
  unfold ngt at hQ
  by_cases c1 : a = 0
  · rw [if_pos c1, nsi_at hF hk] at hQ
    subst c1
    by_cases c2 : npm t = 0
    · rw [if_pos c2] at hQ
      rw [c2] at h18
      simp (disch := omega) only [eX6_nightOf_0, eX6_nightOf_1, eX6_nightOf_2, eX6_nightOf_5, eX6_nightOf_6, eX6_nightOf_9, eX6_nightOf_10, eX6_nightOf_13, eX6_nightOf_16, eX6_nightOf_17, eX6_nightOf_20, eX6_nightOf_21, eX6_nightOf_24, eX6_nightOf_25, eX6_nightOf_28, eX6_nightOf_29, eX6_nightOf_30, eX6_nightOf_31, eX6_nightOf_32, eX6_nightOf_35, eX6_nightOf_36, eX6_nightOf_39, eX6_nightOf_40, eX6_nightOf_41, eX6_nightOf_44, eX6_nightOf_45, eX6_nightOf_48, eX6_nightOf_51, eX6_nightOf_52, eX6_nightOf_55, en_kl_0, en_kl_i, en_kl_r, en_kl_n, en_kl_l, en_Ec_some, en_Ec_void, en_rcv, en_stk, List.map_cons, List.map_nil, List.sum_cons, List.sum_nil, Value.category, Nat.reduceAdd, Nat.reduceLeDiff, decide_true, true_and, and_true, and_self, zI_add, zI_sub, zI_mul, zI_neg, zI_lt, zI_le, zI_eq, zI_cl, zI_0, zI_1, zI_m1, zI_lit, zT_0, zT_01, zI_01, zI_11, ↓reduceIte, if_true, if_false, not_false_eq_true, not_true_eq_false, Int.reduceEq, Int.reduceLT, Int.reduceLE, Classical.not_not, Bool.false_eq_true, fi_19, ft_19_0, ft_19_1, ft_19_2, ft_19_3, ft_19_5, ft_19_6, ft_19_7, ft_19_8, ft_19_12, ft_19_13, ft_19_14, ft_19_15, ft_19_16, ft_19_21, xi_20, xi_21, xi_22, xi_23, xi_24, xi_25, xi_26, xi_27, xi_28, xi_29, xi_30, xi_31, xi_32, xi_33, Int.toNat_natCast, Int.reduceToNat, e1, h18]
      exact hQ
    · rw [if_neg c2] at hQ
      have h0 : 0 < k := by
        have := hF.2.2.2.2
        omega
      have x0 : w1 28 0 = zI (cm 0) := (hC1.2.2 0 h0).1
      simp (disch := omega) only [eX6_nightOf_0, eX6_nightOf_1, eX6_nightOf_2, eX6_nightOf_5, eX6_nightOf_6, eX6_nightOf_9, eX6_nightOf_10, eX6_nightOf_13, eX6_nightOf_16, eX6_nightOf_17, eX6_nightOf_20, eX6_nightOf_21, eX6_nightOf_24, eX6_nightOf_25, eX6_nightOf_28, eX6_nightOf_29, eX6_nightOf_30, eX6_nightOf_31, eX6_nightOf_32, eX6_nightOf_35, eX6_nightOf_36, eX6_nightOf_39, eX6_nightOf_40, eX6_nightOf_41, eX6_nightOf_44, eX6_nightOf_45, eX6_nightOf_48, eX6_nightOf_51, eX6_nightOf_52, eX6_nightOf_55, en_kl_0, en_kl_i, en_kl_r, en_kl_n, en_kl_l, en_Ec_some, en_Ec_void, en_rcv, en_stk, List.map_cons, List.map_nil, List.sum_cons, List.sum_nil, Value.category, Nat.reduceAdd, Nat.reduceLeDiff, decide_true, true_and, and_true, and_self, zI_add, zI_sub, zI_mul, zI_neg, zI_lt, zI_le, zI_eq, zI_cl, zI_0, zI_1, zI_m1, zI_lit, zT_0, zT_01, zI_01, zI_11, ↓reduceIte, if_true, if_false, not_false_eq_true, not_true_eq_false, Int.reduceEq, Int.reduceLT, Int.reduceLE, Classical.not_not, Bool.false_eq_true, fi_19, ft_19_0, ft_19_1, ft_19_2, ft_19_3, ft_19_5, ft_19_6, ft_19_7, ft_19_8, ft_19_12, ft_19_13, ft_19_14, ft_19_15, ft_19_16, ft_19_21, xi_20, xi_21, xi_22, xi_23, xi_24, xi_25, xi_26, xi_27, xi_28, xi_29, xi_30, xi_31, xi_32, xi_33, Int.toNat_natCast, Int.reduceToNat, e1, h17, h18, c2, x0, Int.toNat_zero]
      exact hQ
  · rw [if_neg c1] at hQ
    by_cases c2 : a = 1
    · rw [if_pos c2] at hQ
      subst c2
      have e2 := r_pleased hP1 hC1 hN hF
      simp (disch := omega) only [eX6_nightOf_0, eX6_nightOf_1, eX6_nightOf_2, eX6_nightOf_5, eX6_nightOf_6, eX6_nightOf_9, eX6_nightOf_10, eX6_nightOf_13, eX6_nightOf_16, eX6_nightOf_17, eX6_nightOf_20, eX6_nightOf_21, eX6_nightOf_24, eX6_nightOf_25, eX6_nightOf_28, eX6_nightOf_29, eX6_nightOf_30, eX6_nightOf_31, eX6_nightOf_32, eX6_nightOf_35, eX6_nightOf_36, eX6_nightOf_39, eX6_nightOf_40, eX6_nightOf_41, eX6_nightOf_44, eX6_nightOf_45, eX6_nightOf_48, eX6_nightOf_51, eX6_nightOf_52, eX6_nightOf_55, en_kl_0, en_kl_i, en_kl_r, en_kl_n, en_kl_l, en_Ec_some, en_Ec_void, en_rcv, en_stk, List.map_cons, List.map_nil, List.sum_cons, List.sum_nil, Value.category, Nat.reduceAdd, Nat.reduceLeDiff, decide_true, true_and, and_true, and_self, zI_add, zI_sub, zI_mul, zI_neg, zI_lt, zI_le, zI_eq, zI_cl, zI_0, zI_1, zI_m1, zI_lit, zT_0, zT_01, zI_01, zI_11, ↓reduceIte, if_true, if_false, not_false_eq_true, not_true_eq_false, Int.reduceEq, Int.reduceLT, Int.reduceLE, Classical.not_not, Bool.false_eq_true, fi_19, ft_19_0, ft_19_1, ft_19_2, ft_19_3, ft_19_5, ft_19_6, ft_19_7, ft_19_8, ft_19_12, ft_19_13, ft_19_14, ft_19_15, ft_19_16, ft_19_21, xi_20, xi_21, xi_22, xi_23, xi_24, xi_25, xi_26, xi_27, xi_28, xi_29, xi_30, xi_31, xi_32, xi_33, Int.toNat_natCast, Int.reduceToNat, e1, e2]
      exact hQ
    · rw [if_neg c2] at hQ
      simp (disch := omega) only [eX6_nightOf_0, eX6_nightOf_1, eX6_nightOf_2, eX6_nightOf_5, eX6_nightOf_6, eX6_nightOf_9, eX6_nightOf_10, eX6_nightOf_13, eX6_nightOf_16, eX6_nightOf_17, eX6_nightOf_20, eX6_nightOf_21, eX6_nightOf_24, eX6_nightOf_25, eX6_nightOf_28, eX6_nightOf_29, eX6_nightOf_30, eX6_nightOf_31, eX6_nightOf_32, eX6_nightOf_35, eX6_nightOf_36, eX6_nightOf_39, eX6_nightOf_40, eX6_nightOf_41, eX6_nightOf_44, eX6_nightOf_45, eX6_nightOf_48, eX6_nightOf_51, eX6_nightOf_52, eX6_nightOf_55, en_kl_0, en_kl_i, en_kl_r, en_kl_n, en_kl_l, en_Ec_some, en_Ec_void, en_rcv, en_stk, List.map_cons, List.map_nil, List.sum_cons, List.sum_nil, Value.category, Nat.reduceAdd, Nat.reduceLeDiff, decide_true, true_and, and_true, and_self, zI_add, zI_sub, zI_mul, zI_neg, zI_lt, zI_le, zI_eq, zI_cl, zI_0, zI_1, zI_m1, zI_lit, zT_0, zT_01, zI_01, zI_11, ↓reduceIte, if_true, if_false, not_false_eq_true, not_true_eq_false, Int.reduceEq, Int.reduceLT, Int.reduceLE, Classical.not_not, Bool.false_eq_true, fi_19, ft_19_0, ft_19_1, ft_19_2, ft_19_3, ft_19_5, ft_19_6, ft_19_7, ft_19_8, ft_19_12, ft_19_13, ft_19_14, ft_19_15, ft_19_16, ft_19_21, xi_20, xi_21, xi_22, xi_23, xi_24, xi_25, xi_26, xi_27, xi_28, xi_29, xi_30, xi_31, xi_32, xi_33, Int.toNat_natCast, Int.reduceToNat, e1, h17, c1, c2]
      exact hQ
theorem r_bestNow (hG : bG w G s) (hP : bP w kick law life pat) (hC : mC w k cm cb) (hs : srt k cm) : ∃ w', SX6_bestNow [.ref 19] w = some (some (.int (zI (aBe (fun la => npp k cm (nnight la k cm cb (ml G s kick) life) pat k) 4).1)), w') ∧ nfr w w' := by
  have hk := hC.2.1
  obtain ⟨f, hf⟩ : ∃ f : Nat → Int, (fun la : Nat => npp k cm (nnight la k cm cb (ml G s kick) life) pat k) = f := ⟨_, rfl⟩
  have hf' : ∀ la : Nat, f la = npp k cm (nnight la k cm cb (ml G s kick) life) pat k := fun la => by rw [← hf]
  have hb : ∀ la : Nat, 0 ≤ f la ∧ f la ≤ 20 := fun la => by
    rw [hf']
    have := npp_rng (n := k) (cm := cm) (t := nnight la k cm cb (ml G s kick) life) (pat := pat) k
    omega
  rw [hf]
  refine en_exq rfl (fun Q hQ => ?_)
  show en_Ev XX6_bestNow 0 [some (.ref 19), none, none, none, none] [] w Q
  have loop : ∀ (d i : Nat) (v : en_W) (l4 : Option Value), i + d = 4 → nfr w v → en_Ev XX6_bestNow 6 [some (.ref 19), some (.int (zI (aBe f i).1)), some (.int (zI (aBe f i).2)), some (.int (zI i)), l4] [] v Q := by
    intro d
    induction d with
    | zero =>
      intro i v l4 hi hv
      have x1 : (4 : Int) ≤ (i : Int) := by omega
      have e : i = 4 := by omega
      rw [eX6_bestNow_6]
      simp (disch := omega) only [eX6_bestNow_0, eX6_bestNow_1, eX6_bestNow_2, eX6_bestNow_3, eX6_bestNow_4, eX6_bestNow_5, eX6_bestNow_7, eX6_bestNow_8, eX6_bestNow_11, eX6_bestNow_12, eX6_bestNow_13, eX6_bestNow_14, eX6_bestNow_17, eX6_bestNow_19, eX6_bestNow_21, eX6_bestNow_22, eX6_bestNow_25, eX6_bestNow_26, eX6_bestNow_29, eX6_bestNow_30, eX6_bestNow_31, eX6_bestNow_33, eX6_bestNow_34, eX6_bestNow_37, eX6_bestNow_39, eX6_bestNow_42, eX6_bestNow_43, eX6_bestNow_44, eX6_bestNow_47, eX6_bestNow_50, eX6_bestNow_51, en_kl_0, en_kl_i, en_kl_r, en_kl_n, en_kl_l, en_Ec_some, en_Ec_void, en_rcv, en_stk, List.map_cons, List.map_nil, List.sum_cons, List.sum_nil, Value.category, Nat.reduceAdd, Nat.reduceLeDiff, decide_true, true_and, and_true, and_self, zI_add, zI_sub, zI_mul, zI_neg, zI_lt, zI_le, zI_eq, zI_cl, zI_0, zI_1, zI_m1, zI_lit, zT_0, zT_01, zI_01, zI_11, ↓reduceIte, if_true, if_false, not_false_eq_true, not_true_eq_false, Int.reduceEq, Int.reduceLT, Int.reduceLE, Classical.not_not, Bool.false_eq_true, fi_19, ft_19_0, ft_19_1, ft_19_2, ft_19_3, ft_19_5, ft_19_6, ft_19_7, ft_19_8, ft_19_12, ft_19_13, ft_19_14, ft_19_15, ft_19_16, ft_19_21, xi_20, xi_21, xi_22, xi_23, xi_24, xi_25, xi_26, xi_27, xi_28, xi_29, xi_30, xi_31, xi_32, xi_33, Int.toNat_natCast, Int.reduceToNat, x1]
      rw [e]
      exact hQ v hv
    | succ d ih =>
      intro i v l4 hi hv
      have x1 : ¬ (4 : Int) ≤ (i : Int) := by omega
      obtain ⟨w1, e1, f1⟩ := r_nightOf (la := (i : Int)) (a := 1) (hG.nf hv) (hP.nf hv) (hC.nf hv) hs (by omega) (by omega) (by omega) (by omega)
      have e2 : ngt k cm (nnight i k cm cb (ml G s kick) life) pat 1 = f i := by
        rw [hf']
        rfl
      rw [e2] at e1
      have r0 := aBe_rng hb i (by omega)
      have r1 := hb i
      have u : aBe f (i + 1) = if (aBe f i).2 < f i then ((i : Int), f i) else aBe f i := rfl
      have g := fun l4 => ih (i + 1) w1 l4 (by omega) (hv.tr f1)
      rw [u] at g
      rw [eX6_bestNow_6]
      by_cases c1 : (aBe f i).2 < f i
      · rw [if_pos c1] at g
        have c2 : ¬ f i ≤ (aBe f i).2 := by omega
        simp (disch := omega) only [eX6_bestNow_0, eX6_bestNow_1, eX6_bestNow_2, eX6_bestNow_3, eX6_bestNow_4, eX6_bestNow_5, eX6_bestNow_7, eX6_bestNow_8, eX6_bestNow_11, eX6_bestNow_12, eX6_bestNow_13, eX6_bestNow_14, eX6_bestNow_17, eX6_bestNow_19, eX6_bestNow_21, eX6_bestNow_22, eX6_bestNow_25, eX6_bestNow_26, eX6_bestNow_29, eX6_bestNow_30, eX6_bestNow_31, eX6_bestNow_33, eX6_bestNow_34, eX6_bestNow_37, eX6_bestNow_39, eX6_bestNow_42, eX6_bestNow_43, eX6_bestNow_44, eX6_bestNow_47, eX6_bestNow_50, eX6_bestNow_51, en_kl_0, en_kl_i, en_kl_r, en_kl_n, en_kl_l, en_Ec_some, en_Ec_void, en_rcv, en_stk, List.map_cons, List.map_nil, List.sum_cons, List.sum_nil, Value.category, Nat.reduceAdd, Nat.reduceLeDiff, decide_true, true_and, and_true, and_self, zI_add, zI_sub, zI_mul, zI_neg, zI_lt, zI_le, zI_eq, zI_cl, zI_0, zI_1, zI_m1, zI_lit, zT_0, zT_01, zI_01, zI_11, ↓reduceIte, if_true, if_false, not_false_eq_true, not_true_eq_false, Int.reduceEq, Int.reduceLT, Int.reduceLE, Classical.not_not, Bool.false_eq_true, fi_19, ft_19_0, ft_19_1, ft_19_2, ft_19_3, ft_19_5, ft_19_6, ft_19_7, ft_19_8, ft_19_12, ft_19_13, ft_19_14, ft_19_15, ft_19_16, ft_19_21, xi_20, xi_21, xi_22, xi_23, xi_24, xi_25, xi_26, xi_27, xi_28, xi_29, xi_30, xi_31, xi_32, xi_33, Int.toNat_natCast, Int.reduceToNat, x1, e1, c2]
        exact g _
      · rw [if_neg c1] at g
        have c2 : f i ≤ (aBe f i).2 := by omega
        simp (disch := omega) only [eX6_bestNow_0, eX6_bestNow_1, eX6_bestNow_2, eX6_bestNow_3, eX6_bestNow_4, eX6_bestNow_5, eX6_bestNow_7, eX6_bestNow_8, eX6_bestNow_11, eX6_bestNow_12, eX6_bestNow_13, eX6_bestNow_14, eX6_bestNow_17, eX6_bestNow_19, eX6_bestNow_21, eX6_bestNow_22, eX6_bestNow_25, eX6_bestNow_26, eX6_bestNow_29, eX6_bestNow_30, eX6_bestNow_31, eX6_bestNow_33, eX6_bestNow_34, eX6_bestNow_37, eX6_bestNow_39, eX6_bestNow_42, eX6_bestNow_43, eX6_bestNow_44, eX6_bestNow_47, eX6_bestNow_50, eX6_bestNow_51, en_kl_0, en_kl_i, en_kl_r, en_kl_n, en_kl_l, en_Ec_some, en_Ec_void, en_rcv, en_stk, List.map_cons, List.map_nil, List.sum_cons, List.sum_nil, Value.category, Nat.reduceAdd, Nat.reduceLeDiff, decide_true, true_and, and_true, and_self, zI_add, zI_sub, zI_mul, zI_neg, zI_lt, zI_le, zI_eq, zI_cl, zI_0, zI_1, zI_m1, zI_lit, zT_0, zT_01, zI_01, zI_11, ↓reduceIte, if_true, if_false, not_false_eq_true, not_true_eq_false, Int.reduceEq, Int.reduceLT, Int.reduceLE, Classical.not_not, Bool.false_eq_true, fi_19, ft_19_0, ft_19_1, ft_19_2, ft_19_3, ft_19_5, ft_19_6, ft_19_7, ft_19_8, ft_19_12, ft_19_13, ft_19_14, ft_19_15, ft_19_16, ft_19_21, xi_20, xi_21, xi_22, xi_23, xi_24, xi_25, xi_26, xi_27, xi_28, xi_29, xi_30, xi_31, xi_32, xi_33, Int.toNat_natCast, Int.reduceToNat, x1, e1, c2]
        exact g _
  simp (disch := omega) only [eX6_bestNow_0, eX6_bestNow_1, eX6_bestNow_2, eX6_bestNow_3, eX6_bestNow_4, eX6_bestNow_5, en_kl_0, en_kl_i, en_kl_r, en_kl_n, en_kl_l, en_Ec_some, en_Ec_void, en_rcv, en_stk, List.map_cons, List.map_nil, List.sum_cons, List.sum_nil, Value.category, Nat.reduceAdd, Nat.reduceLeDiff, decide_true, true_and, and_true, and_self, zI_add, zI_sub, zI_mul, zI_neg, zI_lt, zI_le, zI_eq, zI_cl, zI_0, zI_1, zI_m1, zI_lit, zT_0, zT_01, zI_01, zI_11, ↓reduceIte, if_true, if_false, not_false_eq_true, not_true_eq_false, Int.reduceEq, Int.reduceLT, Int.reduceLE, Classical.not_not, Bool.false_eq_true]
  exact loop 4 0 w _ (by omega) nfr.rf
/-- reading, and the night as it is -/
theorem r_now (hG : bG w G s) (hP : bP w kick law life pat) (hT : bT w n tb) : ∃ w1 w2, SX6_reads [.ref 19] w = some (some (.int (zI (tfault n tb))), w1) ∧ SX6_nightNow [.ref 19] w1 = some (none, w2) ∧ rfr w w1 ∧ mC w1 (tcn n tb) (tcm n tb) (tcb n tb) ∧ mC w2 (tcn n tb) (tcm n tb) (tcb n tb) ∧ mN w2 (tcn n tb) (ml G s kick) (aNt G s n tb kick life law) ∧ nF (tcn n tb) (aNt G s n tb kick life law) ∧ ofr w w2 := by
  obtain ⟨w1, e1, f1, c1⟩ := r_reads hT
  obtain ⟨w2, e2, n2, F2, f2⟩ := r_nightNow (hG.o f1.o) (hP.o f1.o) c1 srt_t
  exact ⟨w1, w2, e1, e2, f1, c1, c1.nf f2, n2, F2, f1.o.tr f2.o⟩
theorem r_at_bad (h : ¬ (0 ≤ m ∧ m ≤ 199)) (h1 : -2147483648 ≤ m) (h2 : m < 2147483648) : SX6_at [.ref 19, .int (zI m)] w = some (some (.int (zI (-2))), w) := by
  refine en_val rfl (fun Q hQ => ?_)
  show en_Ev XX6_at 0 [some (.ref 19), some (.int (zI m))] [] w Q
  simp (disch := omega) only [eX6_at_0, eX6_at_1, eX6_at_2, eX6_at_3, eX6_at_6, eX6_at_9, eX6_at_12, eX6_at_14, eX6_at_15, eX6_at_16, eX6_at_19, eX6_at_20, eX6_at_21, eX6_at_24, eX6_at_25, eX6_at_28, eX6_at_29, eX6_at_30, en_kl_0, en_kl_i, en_kl_r, en_kl_n, en_kl_l, en_Ec_some, en_Ec_void, en_rcv, en_stk, List.map_cons, List.map_nil, List.sum_cons, List.sum_nil, Value.category, Nat.reduceAdd, Nat.reduceLeDiff, decide_true, true_and, and_true, and_self, zI_add, zI_sub, zI_mul, zI_neg, zI_lt, zI_le, zI_eq, zI_cl, zI_0, zI_1, zI_m1, zI_lit, zT_0, zT_01, zI_01, zI_11, ↓reduceIte, if_true, if_false, not_false_eq_true, not_true_eq_false, Int.reduceEq, Int.reduceLT, Int.reduceLE, Classical.not_not, Bool.false_eq_true, lI_of, lI_0, lI_1, lI_m1, lI_lit, lI_neg, lI_add, lI_sub, lI_mul, lc_lt, lc_gt, lc_le, lc_ge, fi_19, ft_19_0, ft_19_1, ft_19_2, ft_19_3, ft_19_5, ft_19_6, ft_19_7, ft_19_8, ft_19_12, ft_19_13, ft_19_14, ft_19_15, ft_19_16, ft_19_21, xi_20, xi_21, xi_22, xi_23, xi_24, xi_25, xi_26, xi_27, xi_28, xi_29, xi_30, xi_31, xi_32, xi_33, Int.toNat_natCast, Int.reduceToNat, r_in, zT_f h]
  exact hQ
theorem r_at_ok (hG : bG w G s) (hP : bP w kick law life pat) (hT : bT w n tb) (h1 : 0 ≤ m) (h2 : m ≤ 199) : ∃ w', SX6_at [.ref 19, .int (zI m)] w = some (some (.int (zI (aAt G s n tb kick life law m))), w') ∧ ofr w w' := by
  obtain ⟨w1, w2, e1, e2, f1, c1, c2, hN, hF, f2⟩ := r_now hG hP hT
  refine ⟨w2, en_val rfl (fun Q hQ => ?_), f2⟩
  show en_Ev XX6_at 0 [some (.ref 19), some (.int (zI m))] [] w Q
  have g := hN.2.2.2.2.2 m.toNat (by omega)
  rw [Int.toNat_of_nonneg h1] at g
  simp (disch := omega) only [eX6_at_0, eX6_at_1, eX6_at_2, eX6_at_3, eX6_at_6, eX6_at_9, eX6_at_12, eX6_at_14, eX6_at_15, eX6_at_16, eX6_at_19, eX6_at_20, eX6_at_21, eX6_at_24, eX6_at_25, eX6_at_28, eX6_at_29, eX6_at_30, en_kl_0, en_kl_i, en_kl_r, en_kl_n, en_kl_l, en_Ec_some, en_Ec_void, en_rcv, en_stk, List.map_cons, List.map_nil, List.sum_cons, List.sum_nil, Value.category, Nat.reduceAdd, Nat.reduceLeDiff, decide_true, true_and, and_true, and_self, zI_add, zI_sub, zI_mul, zI_neg, zI_lt, zI_le, zI_eq, zI_cl, zI_0, zI_1, zI_m1, zI_lit, zT_0, zT_01, zI_01, zI_11, ↓reduceIte, if_true, if_false, not_false_eq_true, not_true_eq_false, Int.reduceEq, Int.reduceLT, Int.reduceLE, Classical.not_not, Bool.false_eq_true, lI_of, lI_0, lI_1, lI_m1, lI_lit, lI_neg, lI_add, lI_sub, lI_mul, lc_lt, lc_gt, lc_le, lc_ge, fi_19, ft_19_0, ft_19_1, ft_19_2, ft_19_3, ft_19_5, ft_19_6, ft_19_7, ft_19_8, ft_19_12, ft_19_13, ft_19_14, ft_19_15, ft_19_16, ft_19_21, xi_20, xi_21, xi_22, xi_23, xi_24, xi_25, xi_26, xi_27, xi_28, xi_29, xi_30, xi_31, xi_32, xi_33, Int.toNat_natCast, Int.reduceToNat, r_in, zT_t (And.intro h1 h2), e1, e2, g]
  exact hQ
theorem r_served_bad (hT : bT w n tb) (h : ¬ ((0 ≤ v ∧ v < tcn n tb) ∧ (0 ≤ a ∧ a ≤ 2))) (h1 : -2147483648 ≤ v) (h2 : v < 2147483648) (h3 : -2147483648 ≤ a) (h4 : a < 2147483648) : ∃ w', SX6_served [.ref 19, .int (zI v), .int (zI a)] w = some (some (.int (zI (-2))), w') ∧ ofr w w' := by
  obtain ⟨w1, e1, r1, hm⟩ := r_isCoin (v := v) hT h1 h2
  refine ⟨w1, en_val rfl (fun Q hQ => ?_), r1.o⟩
  show en_Ev XX6_served 0 [some (.ref 19), some (.int (zI v)), some (.int (zI a))] [] w Q
  by_cases c1 : 0 ≤ v ∧ v ≤ (tcn n tb : Int) - 1
  · have c2 : ¬ (0 ≤ a ∧ a ≤ 2) := fun z => h ⟨by omega, z⟩
    rw [zT_t c1] at e1
    simp (disch := omega) only [eX6_served_0, eX6_served_1, eX6_served_2, eX6_served_5, eX6_served_8, eX6_served_9, eX6_served_10, eX6_served_11, eX6_served_14, eX6_served_17, eX6_served_20, eX6_served_22, eX6_served_23, eX6_served_24, eX6_served_27, eX6_served_28, eX6_served_29, eX6_served_30, eX6_served_33, en_kl_0, en_kl_i, en_kl_r, en_kl_n, en_kl_l, en_Ec_some, en_Ec_void, en_rcv, en_stk, List.map_cons, List.map_nil, List.sum_cons, List.sum_nil, Value.category, Nat.reduceAdd, Nat.reduceLeDiff, decide_true, true_and, and_true, and_self, zI_add, zI_sub, zI_mul, zI_neg, zI_lt, zI_le, zI_eq, zI_cl, zI_0, zI_1, zI_m1, zI_lit, zT_0, zT_01, zI_01, zI_11, ↓reduceIte, if_true, if_false, not_false_eq_true, not_true_eq_false, Int.reduceEq, Int.reduceLT, Int.reduceLE, Classical.not_not, Bool.false_eq_true, lI_of, lI_0, lI_1, lI_m1, lI_lit, lI_neg, lI_add, lI_sub, lI_mul, lc_lt, lc_gt, lc_le, lc_ge, fi_19, ft_19_0, ft_19_1, ft_19_2, ft_19_3, ft_19_5, ft_19_6, ft_19_7, ft_19_8, ft_19_12, ft_19_13, ft_19_14, ft_19_15, ft_19_16, ft_19_21, xi_20, xi_21, xi_22, xi_23, xi_24, xi_25, xi_26, xi_27, xi_28, xi_29, xi_30, xi_31, xi_32, xi_33, Int.toNat_natCast, Int.reduceToNat, e1, r_in, zT_f c2]
    exact hQ
  · rw [zT_f c1] at e1
    simp (disch := omega) only [eX6_served_0, eX6_served_1, eX6_served_2, eX6_served_5, eX6_served_8, eX6_served_9, eX6_served_10, eX6_served_11, eX6_served_14, eX6_served_17, eX6_served_20, eX6_served_22, eX6_served_23, eX6_served_24, eX6_served_27, eX6_served_28, eX6_served_29, eX6_served_30, eX6_served_33, en_kl_0, en_kl_i, en_kl_r, en_kl_n, en_kl_l, en_Ec_some, en_Ec_void, en_rcv, en_stk, List.map_cons, List.map_nil, List.sum_cons, List.sum_nil, Value.category, Nat.reduceAdd, Nat.reduceLeDiff, decide_true, true_and, and_true, and_self, zI_add, zI_sub, zI_mul, zI_neg, zI_lt, zI_le, zI_eq, zI_cl, zI_0, zI_1, zI_m1, zI_lit, zT_0, zT_01, zI_01, zI_11, ↓reduceIte, if_true, if_false, not_false_eq_true, not_true_eq_false, Int.reduceEq, Int.reduceLT, Int.reduceLE, Classical.not_not, Bool.false_eq_true, lI_of, lI_0, lI_1, lI_m1, lI_lit, lI_neg, lI_add, lI_sub, lI_mul, lc_lt, lc_gt, lc_le, lc_ge, fi_19, ft_19_0, ft_19_1, ft_19_2, ft_19_3, ft_19_5, ft_19_6, ft_19_7, ft_19_8, ft_19_12, ft_19_13, ft_19_14, ft_19_15, ft_19_16, ft_19_21, xi_20, xi_21, xi_22, xi_23, xi_24, xi_25, xi_26, xi_27, xi_28, xi_29, xi_30, xi_31, xi_32, xi_33, Int.toNat_natCast, Int.reduceToNat, e1]
    exact hQ
theorem r_served_ok (hG : bG w G s) (hP : bP w kick law life pat) (hT : bT w n tb) (c0 : 0 ≤ v) (c1 : v < tcn n tb) (h3 : 0 ≤ a) (h4 : a ≤ 2) : ∃ w', SX6_served [.ref 19, .int (zI v), .int (zI a)] w = some (some (.int (zI (aSv G s n tb kick life law v a))), w') ∧ ofr w w' := by
  obtain ⟨w1, e1, r1, hm⟩ := r_isCoin (v := v) hT (by omega) (by have := hT.2.1; have := tcn_le (tb := tb) hT.2.1; omega)
  rw [zT_t (by omega)] at e1
  obtain ⟨w2, e2, hN, hF, f2⟩ := r_nightNow (hG.o r1.o) (hP.o r1.o) hm srt_t
  obtain ⟨c, hc⟩ : ∃ c : Nat, v = (c : Int) := ⟨v.toNat, by omega⟩
  subst hc
  have e3 := r_servedNow (a := a) (hm.nf f2) hN hF (show c < tcn n tb by omega) h3 h4
  refine ⟨w2, en_val rfl (fun Q hQ => ?_), r1.o.tr f2.o⟩
  show en_Ev XX6_served 0 [some (.ref 19), some (.int (zI c)), some (.int (zI a))] [] w Q
  simp (disch := omega) only [eX6_served_0, eX6_served_1, eX6_served_2, eX6_served_5, eX6_served_8, eX6_served_9, eX6_served_10, eX6_served_11, eX6_served_14, eX6_served_17, eX6_served_20, eX6_served_22, eX6_served_23, eX6_served_24, eX6_served_27, eX6_served_28, eX6_served_29, eX6_served_30, eX6_served_33, en_kl_0, en_kl_i, en_kl_r, en_kl_n, en_kl_l, en_Ec_some, en_Ec_void, en_rcv, en_stk, List.map_cons, List.map_nil, List.sum_cons, List.sum_nil, Value.category, Nat.reduceAdd, Nat.reduceLeDiff, decide_true, true_and, and_true, and_self, zI_add, zI_sub, zI_mul, zI_neg, zI_lt, zI_le, zI_eq, zI_cl, zI_0, zI_1, zI_m1, zI_lit, zT_0, zT_01, zI_01, zI_11, ↓reduceIte, if_true, if_false, not_false_eq_true, not_true_eq_false, Int.reduceEq, Int.reduceLT, Int.reduceLE, Classical.not_not, Bool.false_eq_true, lI_of, lI_0, lI_1, lI_m1, lI_lit, lI_neg, lI_add, lI_sub, lI_mul, lc_lt, lc_gt, lc_le, lc_ge, fi_19, ft_19_0, ft_19_1, ft_19_2, ft_19_3, ft_19_5, ft_19_6, ft_19_7, ft_19_8, ft_19_12, ft_19_13, ft_19_14, ft_19_15, ft_19_16, ft_19_21, xi_20, xi_21, xi_22, xi_23, xi_24, xi_25, xi_26, xi_27, xi_28, xi_29, xi_30, xi_31, xi_32, xi_33, Int.toNat_natCast, Int.reduceToNat, e1, r_in, zT_t (And.intro h3 h4), e2, e3]
  exact hQ
theorem r_night_bad (hT : bT w n tb) (h : ¬ ((0 ≤ v ∧ v ≤ 3) ∧ (0 ≤ a ∧ a ≤ 2))) (h1 : -2147483648 ≤ v) (h2 : v < 2147483648) (h3 : -2147483648 ≤ a) (h4 : a < 2147483648) : ∃ w', SX6_night [.ref 19, .int (zI v), .int (zI a)] w = some (some (.int (zI (-2))), w') ∧ ofr w w' := by
  obtain ⟨w1, e1, f1, c1⟩ := r_reads hT
  refine ⟨w1, en_val rfl (fun Q hQ => ?_), f1.o⟩
  show en_Ev XX6_night 0 [some (.ref 19), some (.int (zI v)), some (.int (zI a))] [] w Q
  by_cases d1 : 0 ≤ v ∧ v ≤ 3
  · have d2 : ¬ (0 ≤ a ∧ a ≤ 2) := fun z => h ⟨d1, z⟩
    simp (disch := omega) only [eX6_night_0, eX6_night_1, eX6_night_4, eX6_night_5, eX6_night_6, eX6_night_7, eX6_night_8, eX6_night_11, eX6_night_14, eX6_night_17, eX6_night_18, eX6_night_19, eX6_night_20, eX6_night_23, eX6_night_26, eX6_night_29, eX6_night_30, eX6_night_31, eX6_night_32, eX6_night_35, eX6_night_38, eX6_night_40, en_kl_0, en_kl_i, en_kl_r, en_kl_n, en_kl_l, en_Ec_some, en_Ec_void, en_rcv, en_stk, List.map_cons, List.map_nil, List.sum_cons, List.sum_nil, Value.category, Nat.reduceAdd, Nat.reduceLeDiff, decide_true, true_and, and_true, and_self, zI_add, zI_sub, zI_mul, zI_neg, zI_lt, zI_le, zI_eq, zI_cl, zI_0, zI_1, zI_m1, zI_lit, zT_0, zT_01, zI_01, zI_11, ↓reduceIte, if_true, if_false, not_false_eq_true, not_true_eq_false, Int.reduceEq, Int.reduceLT, Int.reduceLE, Classical.not_not, Bool.false_eq_true, lI_of, lI_0, lI_1, lI_m1, lI_lit, lI_neg, lI_add, lI_sub, lI_mul, lc_lt, lc_gt, lc_le, lc_ge, fi_19, ft_19_0, ft_19_1, ft_19_2, ft_19_3, ft_19_5, ft_19_6, ft_19_7, ft_19_8, ft_19_12, ft_19_13, ft_19_14, ft_19_15, ft_19_16, ft_19_21, xi_20, xi_21, xi_22, xi_23, xi_24, xi_25, xi_26, xi_27, xi_28, xi_29, xi_30, xi_31, xi_32, xi_33, Int.toNat_natCast, Int.reduceToNat, e1, r_in, zT_t d1, zT_f d2]
    exact hQ
  · simp (disch := omega) only [eX6_night_0, eX6_night_1, eX6_night_4, eX6_night_5, eX6_night_6, eX6_night_7, eX6_night_8, eX6_night_11, eX6_night_14, eX6_night_17, eX6_night_18, eX6_night_19, eX6_night_20, eX6_night_23, eX6_night_26, eX6_night_29, eX6_night_30, eX6_night_31, eX6_night_32, eX6_night_35, eX6_night_38, eX6_night_40, en_kl_0, en_kl_i, en_kl_r, en_kl_n, en_kl_l, en_Ec_some, en_Ec_void, en_rcv, en_stk, List.map_cons, List.map_nil, List.sum_cons, List.sum_nil, Value.category, Nat.reduceAdd, Nat.reduceLeDiff, decide_true, true_and, and_true, and_self, zI_add, zI_sub, zI_mul, zI_neg, zI_lt, zI_le, zI_eq, zI_cl, zI_0, zI_1, zI_m1, zI_lit, zT_0, zT_01, zI_01, zI_11, ↓reduceIte, if_true, if_false, not_false_eq_true, not_true_eq_false, Int.reduceEq, Int.reduceLT, Int.reduceLE, Classical.not_not, Bool.false_eq_true, lI_of, lI_0, lI_1, lI_m1, lI_lit, lI_neg, lI_add, lI_sub, lI_mul, lc_lt, lc_gt, lc_le, lc_ge, fi_19, ft_19_0, ft_19_1, ft_19_2, ft_19_3, ft_19_5, ft_19_6, ft_19_7, ft_19_8, ft_19_12, ft_19_13, ft_19_14, ft_19_15, ft_19_16, ft_19_21, xi_20, xi_21, xi_22, xi_23, xi_24, xi_25, xi_26, xi_27, xi_28, xi_29, xi_30, xi_31, xi_32, xi_33, Int.toNat_natCast, Int.reduceToNat, e1, r_in, zT_f d1]
    exact hQ
theorem r_night_ok (hG : bG w G s) (hP : bP w kick law life pat) (hT : bT w n tb) (h1 : 0 ≤ v) (h2 : v ≤ 3) (h3 : 0 ≤ a) (h4 : a ≤ 2) : ∃ w', SX6_night [.ref 19, .int (zI v), .int (zI a)] w = some (some (.int (zI (aNg G s n tb kick life pat v a))), w') ∧ ofr w w' := by
  obtain ⟨w1, e1, f1, c1⟩ := r_reads hT
  obtain ⟨w2, e2, f2⟩ := r_nightOf (la := v) (a := a) (hG.o f1.o) (hP.o f1.o) c1 srt_t h1 h2 h3 h4
  refine ⟨w2, en_val rfl (fun Q hQ => ?_), f1.o.tr f2.o⟩
  show en_Ev XX6_night 0 [some (.ref 19), some (.int (zI v)), some (.int (zI a))] [] w Q
  simp (disch := omega) only [eX6_night_0, eX6_night_1, eX6_night_4, eX6_night_5, eX6_night_6, eX6_night_7, eX6_night_8, eX6_night_11, eX6_night_14, eX6_night_17, eX6_night_18, eX6_night_19, eX6_night_20, eX6_night_23, eX6_night_26, eX6_night_29, eX6_night_30, eX6_night_31, eX6_night_32, eX6_night_35, eX6_night_38, eX6_night_40, en_kl_0, en_kl_i, en_kl_r, en_kl_n, en_kl_l, en_Ec_some, en_Ec_void, en_rcv, en_stk, List.map_cons, List.map_nil, List.sum_cons, List.sum_nil, Value.category, Nat.reduceAdd, Nat.reduceLeDiff, decide_true, true_and, and_true, and_self, zI_add, zI_sub, zI_mul, zI_neg, zI_lt, zI_le, zI_eq, zI_cl, zI_0, zI_1, zI_m1, zI_lit, zT_0, zT_01, zI_01, zI_11, ↓reduceIte, if_true, if_false, not_false_eq_true, not_true_eq_false, Int.reduceEq, Int.reduceLT, Int.reduceLE, Classical.not_not, Bool.false_eq_true, lI_of, lI_0, lI_1, lI_m1, lI_lit, lI_neg, lI_add, lI_sub, lI_mul, lc_lt, lc_gt, lc_le, lc_ge, fi_19, ft_19_0, ft_19_1, ft_19_2, ft_19_3, ft_19_5, ft_19_6, ft_19_7, ft_19_8, ft_19_12, ft_19_13, ft_19_14, ft_19_15, ft_19_16, ft_19_21, xi_20, xi_21, xi_22, xi_23, xi_24, xi_25, xi_26, xi_27, xi_28, xi_29, xi_30, xi_31, xi_32, xi_33, Int.toNat_natCast, Int.reduceToNat, e1, r_in, zT_t (And.intro h1 h2), zT_t (And.intro h3 h4), e2]
  exact hQ
theorem r_best (hG : bG w G s) (hP : bP w kick law life pat) (hT : bT w n tb) : ∃ w', SX6_best [.ref 19] w = some (some (.int (zI (aBe (fun la => aPl G s n tb kick life pat la) 4).1)), w') ∧ ofr w w' := by
  obtain ⟨w1, e1, f1, c1⟩ := r_reads hT
  obtain ⟨w2, e2, f2⟩ := r_bestNow (hG.o f1.o) (hP.o f1.o) c1 srt_t
  refine ⟨w2, en_val rfl (fun Q hQ => ?_), f1.o.tr f2.o⟩
  show en_Ev XX6_best 0 [some (.ref 19)] [] w Q
  simp (disch := omega) only [eX6_best_0, eX6_best_1, eX6_best_4, eX6_best_5, eX6_best_6, eX6_best_9, en_kl_0, en_kl_i, en_kl_r, en_kl_n, en_kl_l, en_Ec_some, en_Ec_void, en_rcv, en_stk, List.map_cons, List.map_nil, List.sum_cons, List.sum_nil, Value.category, Nat.reduceAdd, Nat.reduceLeDiff, decide_true, true_and, and_true, and_self, zI_add, zI_sub, zI_mul, zI_neg, zI_lt, zI_le, zI_eq, zI_cl, zI_0, zI_1, zI_m1, zI_lit, zT_0, zT_01, zI_01, zI_11, ↓reduceIte, if_true, if_false, not_false_eq_true, not_true_eq_false, Int.reduceEq, Int.reduceLT, Int.reduceLE, Classical.not_not, Bool.false_eq_true, fi_19, ft_19_0, ft_19_1, ft_19_2, ft_19_3, ft_19_5, ft_19_6, ft_19_7, ft_19_8, ft_19_12, ft_19_13, ft_19_14, ft_19_15, ft_19_16, ft_19_21, xi_20, xi_21, xi_22, xi_23, xi_24, xi_25, xi_26, xi_27, xi_28, xi_29, xi_30, xi_31, xi_32, xi_33, Int.toNat_natCast, Int.reduceToNat, e1, e2]
  exact hQ
theorem r_times_bad (hG : bG w G s) (hP : bP w kick law life pat) (hT : bT w n tb) (h : ¬ (0 ≤ r ∧ r < 10)) (h1 : -2147483648 ≤ r) (h2 : r < 2147483648) : ∃ w', SX6_times [.ref 19, .int (zI r)] w = some (some (.int (zI (-2))), w') ∧ ofr w w' := by
  obtain ⟨w1, w2, e1, e2, f1, c1, c2, hN, hF, f2⟩ := r_now hG hP hT
  refine ⟨w2, en_val rfl (fun Q hQ => ?_), f2⟩
  show en_Ev XX6_times 0 [some (.ref 19), some (.int (zI r))] [] w Q
  simp (disch := omega) only [eX6_times_0, eX6_times_1, eX6_times_4, eX6_times_5, eX6_times_6, eX6_times_9, eX6_times_10, eX6_times_13, eX6_times_16, eX6_times_17, eX6_times_20, eX6_times_21, eX6_times_22, eX6_times_25, eX6_times_27, en_kl_0, en_kl_i, en_kl_r, en_kl_n, en_kl_l, en_Ec_some, en_Ec_void, en_rcv, en_stk, List.map_cons, List.map_nil, List.sum_cons, List.sum_nil, Value.category, Nat.reduceAdd, Nat.reduceLeDiff, decide_true, true_and, and_true, and_self, zI_add, zI_sub, zI_mul, zI_neg, zI_lt, zI_le, zI_eq, zI_cl, zI_0, zI_1, zI_m1, zI_lit, zT_0, zT_01, zI_01, zI_11, ↓reduceIte, if_true, if_false, not_false_eq_true, not_true_eq_false, Int.reduceEq, Int.reduceLT, Int.reduceLE, Classical.not_not, Bool.false_eq_true, fi_19, ft_19_0, ft_19_1, ft_19_2, ft_19_3, ft_19_5, ft_19_6, ft_19_7, ft_19_8, ft_19_12, ft_19_13, ft_19_14, ft_19_15, ft_19_16, ft_19_21, xi_20, xi_21, xi_22, xi_23, xi_24, xi_25, xi_26, xi_27, xi_28, xi_29, xi_30, xi_31, xi_32, xi_33, Int.toNat_natCast, Int.reduceToNat, e1, e2, r_isRecord, zT_f (show ¬ (0 ≤ r ∧ r ≤ 9) by omega)]
  exact hQ
theorem r_times_ok (hG : bG w G s) (hP : bP w kick law life pat) (hT : bT w n tb) (h1 : 0 ≤ r) (h2 : r < 10) : ∃ w', SX6_times [.ref 19, .int (zI r)] w = some (some (.int (zI (ntm (aNt G s n tb kick life law) r.toNat))), w') ∧ ofr w w' := by
  obtain ⟨w1, w2, e1, e2, f1, c1, c2, hN, hF, f2⟩ := r_now hG hP hT
  have g := hN.2.1 r.toNat (by omega)
  refine ⟨w2, en_val rfl (fun Q hQ => ?_), f2⟩
  show en_Ev XX6_times 0 [some (.ref 19), some (.int (zI r))] [] w Q
  simp (disch := omega) only [eX6_times_0, eX6_times_1, eX6_times_4, eX6_times_5, eX6_times_6, eX6_times_9, eX6_times_10, eX6_times_13, eX6_times_16, eX6_times_17, eX6_times_20, eX6_times_21, eX6_times_22, eX6_times_25, eX6_times_27, en_kl_0, en_kl_i, en_kl_r, en_kl_n, en_kl_l, en_Ec_some, en_Ec_void, en_rcv, en_stk, List.map_cons, List.map_nil, List.sum_cons, List.sum_nil, Value.category, Nat.reduceAdd, Nat.reduceLeDiff, decide_true, true_and, and_true, and_self, zI_add, zI_sub, zI_mul, zI_neg, zI_lt, zI_le, zI_eq, zI_cl, zI_0, zI_1, zI_m1, zI_lit, zT_0, zT_01, zI_01, zI_11, ↓reduceIte, if_true, if_false, not_false_eq_true, not_true_eq_false, Int.reduceEq, Int.reduceLT, Int.reduceLE, Classical.not_not, Bool.false_eq_true, fi_19, ft_19_0, ft_19_1, ft_19_2, ft_19_3, ft_19_5, ft_19_6, ft_19_7, ft_19_8, ft_19_12, ft_19_13, ft_19_14, ft_19_15, ft_19_16, ft_19_21, xi_20, xi_21, xi_22, xi_23, xi_24, xi_25, xi_26, xi_27, xi_28, xi_29, xi_30, xi_31, xi_32, xi_33, Int.toNat_natCast, Int.reduceToNat, e1, e2, r_isRecord, zT_t (show 0 ≤ r ∧ r ≤ 9 by omega), g]
  exact hQ
theorem r_first (hG : bG w G s) (hP : bP w kick law life pat) (hT : bT w n tb) : ∃ w', SX6_first [.ref 19] w = some (some (.int (zI (nwo (aNt G s n tb kick life law)))), w') ∧ ofr w w' := by
  obtain ⟨w1, w2, e1, e2, f1, c1, c2, hN, hF, f2⟩ := r_now hG hP hT
  have g := hN.2.2.2.2.1
  refine ⟨w2, en_val rfl (fun Q hQ => ?_), f2⟩
  show en_Ev XX6_first 0 [some (.ref 19)] [] w Q
  simp (disch := omega) only [eX6_first_0, eX6_first_1, eX6_first_4, eX6_first_5, eX6_first_6, eX6_first_9, eX6_first_10, eX6_first_13, en_kl_0, en_kl_i, en_kl_r, en_kl_n, en_kl_l, en_Ec_some, en_Ec_void, en_rcv, en_stk, List.map_cons, List.map_nil, List.sum_cons, List.sum_nil, Value.category, Nat.reduceAdd, Nat.reduceLeDiff, decide_true, true_and, and_true, and_self, zI_add, zI_sub, zI_mul, zI_neg, zI_lt, zI_le, zI_eq, zI_cl, zI_0, zI_1, zI_m1, zI_lit, zT_0, zT_01, zI_01, zI_11, ↓reduceIte, if_true, if_false, not_false_eq_true, not_true_eq_false, Int.reduceEq, Int.reduceLT, Int.reduceLE, Classical.not_not, Bool.false_eq_true, fi_19, ft_19_0, ft_19_1, ft_19_2, ft_19_3, ft_19_5, ft_19_6, ft_19_7, ft_19_8, ft_19_12, ft_19_13, ft_19_14, ft_19_15, ft_19_16, ft_19_21, xi_20, xi_21, xi_22, xi_23, xi_24, xi_25, xi_26, xi_27, xi_28, xi_29, xi_30, xi_31, xi_32, xi_33, Int.toNat_natCast, Int.reduceToNat, e1, e2, g]
  exact hQ
end
