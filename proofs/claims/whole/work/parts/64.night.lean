/-! ===== the model starts a play ===== -/
theorem bG.fr {w w' : en_W} {G : Nat → Int} {s : Nat → Nat → Int} (h : bG w G s) (h1 : w' 24 = w 24) (h2 : w' 25 = w 25) : bG w' G s := by
  unfold bG at h ⊢
  rw [h1, h2]
  exact h
theorem bP.fr {w w' : en_W} {kick law life pat : Int} (h : bP w kick law life pat) (h1 : w' 26 = w 26) : bP w' kick law life pat := by
  unfold bP at h ⊢
  rw [h1]
  exact h
/-- only a night's own places changed -/
def nfr (w w' : en_W) : Prop := en_fr [19, 29, 30, 31, 32] w w' ∧ ∀ j, j ≠ 17 → j ≠ 18 → j ≠ 19 → w' 19 j = w 19 j
theorem nfr.rf {w : en_W} : nfr w w := ⟨en_fr.rf, fun _ _ _ _ => rfl⟩
theorem nfr.tr {w w1 w2 : en_W} (h : nfr w w1) (h2 : nfr w1 w2) : nfr w w2 := ⟨h.1.tr h2.1, fun j a b c => (h2.2 j a b c).trans (h.2 j a b c)⟩
theorem nfr.up {w w1 : en_W} {j : Nat} {x : Int32} (h : nfr w w1) (hj : j = 17 ∨ j = 18 ∨ j = 19) : nfr w (en_up w1 19 j x) := ⟨h.1.up (by simp), fun i a b c => by rw [en_up_eq, upd_ne (by omega)]; exact h.2 i a b c⟩
theorem nfr.upk {w w1 : en_W} {k j : Nat} {x : Int32} (h : nfr w w1) (hk : k = 29 ∨ k = 30 ∨ k = 31 ∨ k = 32) : nfr w (en_up w1 k j x) := ⟨h.1.up (by rcases hk with e | e | e | e <;> subst e <;> simp), fun i a b c => by rw [en_up_ne (by omega)]; exact h.2 i a b c⟩
theorem bG.nf {w w' : en_W} {G : Nat → Int} {s : Nat → Nat → Int} (h : bG w G s) (hf : nfr w w') : bG w' G s := h.fr (hf.1 24 (by decide)) (hf.1 25 (by decide))
theorem bP.nf {w w' : en_W} {kick law life pat : Int} (h : bP w kick law life pat) (hf : nfr w w') : bP w' kick law life pat := h.fr (hf.1 26 (by decide))
theorem mC.nf {w w' : en_W} {n : Nat} {cm cb : Nat → Int} (h : mC w n cm cb) (hf : nfr w w') : mC w' n cm cb := by
  obtain ⟨h1, h2, h3⟩ := h
  refine ⟨by rw [hf.2 11 (by decide) (by decide) (by decide)]; exact h1, h2, fun i hi => ?_⟩
  rw [hf.1 28 (by decide)]
  exact h3 i hi
section
variable {w : en_W} {G : Nat → Int} {s : Nat → Nat → Int} {kick law life pat : Int}
theorem r_starts {c r M : Nat} {T wo pm : Int} (hG : bG w G s) (hP : bP w kick law life pat) (hc : c < 20) (hr : r < 10) (hM : M < 200) (hT : w 32 r = zI T) (T0 : 0 ≤ T) (T1 : T ≤ 99) (hwo : w 19 19 = zI wo) (wo0 : -1 ≤ wo) (wo1 : wo ≤ 9) (hpm : w 19 18 = zI pm) : ∃ w', SX6_starts [.ref 19, .int (zI c), .int (zI r), .int (zI M)] w = some (some (.int (zI ((M : Int) + ml G s kick r))), w') ∧ (w' 30 = upd (w 30) c (zI r) ∧ w' 32 = upd (w 32) r (zI (T + 1)) ∧ w' 19 19 = zI (if wo = -1 ∧ T + 1 = life then (r : Int) else wo) ∧ w' 19 18 = zI (pm + ml G s kick r) ∧ w' 19 17 = zI ((M : Int) + ml G s kick r) ∧ (∀ h : Nat, h < 200 → w' 31 h = if M ≤ h ∧ (h : Int) < (M : Int) + ml G s kick r then zI r else w 31 h) ∧ w' 29 = w 29 ∧ nfr w w') := by
  have hml : 1 ≤ ml G s kick r ∧ ml G s kick r ≤ 60 := mn_rng hP.1.2.1 hP.1.2.2 9 0 (by omega)
  obtain ⟨L, hL⟩ : ∃ L : Nat, ml G s kick r = L := ⟨(ml G s kick r).toNat, by omega⟩
  rw [hL] at hml ⊢
  have hlife := hP.2.2.1
  obtain ⟨X, hX⟩ : ∃ X : Int, (if wo = -1 ∧ T + 1 = life then (r : Int) else wo) = X := ⟨_, rfl⟩
  rw [hX]
  refine en_exq rfl (fun Q hQ => ?_)
  show en_Ev XX6_starts 0 [some (.ref 19), some (.int (zI c)), some (.int (zI r)), some (.int (zI M)), none, none] [] w Q
  obtain ⟨wA, hwA⟩ : ∃ wA, en_up (en_up w 30 c (zI r)) 32 r (zI (T + 1)) = wA := ⟨_, rfl⟩
  have fA : nfr w wA := hwA ▸ (nfr.rf.upk (by simp)).upk (by simp)
  have a30 : wA 30 = upd (w 30) c (zI r) := by rw [← hwA, en_up_ne (by decide), en_up_eq]
  have a32 : wA 32 = upd (w 32) r (zI (T + 1)) := by rw [← hwA, en_up_eq, en_up_ne (by decide)]
  have a32r : wA 32 r = zI (T + 1) := by rw [a32, upd_eq]
  have a19 : wA 19 = w 19 := by rw [← hwA, en_up_ne (by decide), en_up_ne (by decide)]
  have a31 : wA 31 = w 31 := by rw [← hwA, en_up_ne (by decide), en_up_ne (by decide)]
  have a29 : wA 29 = w 29 := by rw [← hwA, en_up_ne (by decide), en_up_ne (by decide)]
  have awo : wA 19 19 = zI wo := by rw [a19]; exact hwo
  have ali : wA 26 2 = zI life := by rw [fA.1 26 (by decide)]; exact hlife.1
  have e30 : en_up w 30 c (zI r) 32 r = zI T := by rw [en_up_ne (by decide)]; exact hT
  -- from 52 on
  have go : ∀ wB, wB = en_up wA 19 19 (zI X) → en_Ev XX6_starts 52 [some (.ref 19), some (.int (zI c)), some (.int (zI r)), some (.int (zI M)), none, none] [] wB Q := by
    intro wB hwB
    have fB : nfr w wB := hwB ▸ fA.up (by simp)
    have hpl := r_playsOf (hG.nf fB) (hP.nf fB) hr
    rw [hL] at hpl
    have bX : wB 19 19 = zI X := by rw [hwB, en_up_eq, upd_eq]
    have bpm : wB 19 18 = zI pm := by rw [hwB, en_up_eq, upd_ne (by decide), a19]; exact hpm
    have b30 : wB 30 = upd (w 30) c (zI r) := by rw [hwB, en_up_ne (by decide)]; exact a30
    have b32 : wB 32 = upd (w 32) r (zI (T + 1)) := by rw [hwB, en_up_ne (by decide)]; exact a32
    have b31 : wB 31 = w 31 := by rw [hwB, en_up_ne (by decide)]; exact a31
    have b29 : wB 29 = w 29 := by rw [hwB, en_up_ne (by decide)]; exact a29
    have fin : ∀ (w1 : en_W) (l5 : Option Value), w1 19 = wB 19 → w1 30 = wB 30 → w1 32 = wB 32 → w1 29 = wB 29 → nfr w w1 → (∀ h : Nat, h < 200 → w1 31 h = if M ≤ h ∧ (h : Int) < (M : Int) + L then zI r else w 31 h) → en_Ev XX6_starts 93 [some (.ref 19), some (.int (zI c)), some (.int (zI r)), some (.int (zI M)), some (.int (zI L)), l5] [] w1 Q := by
      intro w1 l5 h19 h30 h32 h29 hf h31
      have p1 : w1 19 18 = zI pm := by rw [h19]; exact bpm
      obtain ⟨w2, hw2⟩ : ∃ w2, en_up (en_up w1 19 18 (zI (pm + L))) 19 17 (zI ((M : Int) + L)) = w2 := ⟨_, rfl⟩
      have e1 : w2 19 17 = zI ((M : Int) + L) := by rw [← hw2, en_up_eq, upd_eq]
      simp (disch := omega) only [eX6_starts_0, eX6_starts_1, eX6_starts_4, eX6_starts_5, eX6_starts_6, eX6_starts_7, eX6_starts_8, eX6_starts_11, eX6_starts_12, eX6_starts_13, eX6_starts_14, eX6_starts_15, eX6_starts_16, eX6_starts_17, eX6_starts_18, eX6_starts_19, eX6_starts_22, eX6_starts_23, eX6_starts_26, eX6_starts_27, eX6_starts_30, eX6_starts_31, eX6_starts_32, eX6_starts_33, eX6_starts_36, eX6_starts_37, eX6_starts_38, eX6_starts_41, eX6_starts_42, eX6_starts_45, eX6_starts_46, eX6_starts_49, eX6_starts_52, eX6_starts_53, eX6_starts_54, eX6_starts_57, eX6_starts_59, eX6_starts_60, eX6_starts_64, eX6_starts_65, eX6_starts_67, eX6_starts_68, eX6_starts_71, eX6_starts_73, eX6_starts_76, eX6_starts_79, eX6_starts_80, eX6_starts_83, eX6_starts_85, eX6_starts_86, eX6_starts_87, eX6_starts_90, eX6_starts_93, eX6_starts_94, eX6_starts_94i, eX6_starts_95, eX6_starts_98, eX6_starts_100, eX6_starts_101, eX6_starts_104, eX6_starts_105, eX6_starts_106, eX6_starts_108, eX6_starts_109, eX6_starts_112, eX6_starts_113, eX6_starts_116, en_kl_0, en_kl_i, en_kl_r, en_kl_n, en_kl_l, en_Ec_some, en_Ec_void, en_rcv, en_stk, List.map_cons, List.map_nil, List.sum_cons, List.sum_nil, Value.category, Nat.reduceAdd, Nat.reduceLeDiff, decide_true, true_and, and_true, and_self, zI_add, zI_sub, zI_mul, zI_neg, zI_lt, zI_le, zI_eq, zI_cl, zI_0, zI_1, zI_m1, zI_lit, zT_0, zT_01, zI_01, zI_11, ↓reduceIte, if_true, if_false, not_false_eq_true, not_true_eq_false, Int.reduceEq, Int.reduceLT, Int.reduceLE, Classical.not_not, Bool.false_eq_true, fi_19, ft_19_0, ft_19_1, ft_19_2, ft_19_3, ft_19_5, ft_19_6, ft_19_7, ft_19_8, ft_19_12, ft_19_13, ft_19_14, ft_19_15, ft_19_16, ft_19_21, xi_20, xi_21, xi_22, xi_23, xi_24, xi_25, xi_26, xi_27, xi_28, xi_29, xi_30, xi_31, xi_32, xi_33, Int.toNat_natCast, Int.reduceToNat, p1, hw2, e1]
      refine hQ w2 ⟨?_, ?_, ?_, ?_, e1, fun h hh => ?_, ?_, ?_⟩
      · rw [← hw2, en_up_ne (by decide), en_up_ne (by decide), h30]; exact b30
      · rw [← hw2, en_up_ne (by decide), en_up_ne (by decide), h32]; exact b32
      · rw [← hw2, en_up_eq, upd_ne (by decide), en_up_eq, upd_ne (by decide), h19]; exact bX
      · rw [← hw2, en_up_eq, upd_ne (by decide), en_up_eq, upd_eq]
      · rw [← hw2, en_up_ne (by decide), en_up_ne (by decide)]; exact h31 h hh
      · rw [← hw2, en_up_ne (by decide), en_up_ne (by decide), h29]; exact b29
      · rw [← hw2]; exact (hf.up (by simp)).up (by simp)
    have loop : ∀ (d h : Nat) (w1 : en_W), h + d = M + L → M ≤ h → h ≤ 200 → w1 19 = wB 19 → w1 30 = wB 30 → w1 32 = wB 32 → w1 29 = wB 29 → nfr w w1 → (∀ g : Nat, g < 200 → w1 31 g = if M ≤ g ∧ g < h then zI r else w 31 g) → en_Ev XX6_starts 62 [some (.ref 19), some (.int (zI c)), some (.int (zI r)), some (.int (zI M)), some (.int (zI L)), some (.int (zI h))] [] w1 Q := by
      intro d
      induction d with
      | zero =>
        intro h w1 h1 h2 h3 h19 h30 h32 h29 hf h31
        have x1 : (M : Int) + L ≤ (h : Int) := by omega
        rw [eX6_starts_62]
        simp (disch := omega) only [eX6_starts_64, eX6_starts_65, eX6_starts_67, eX6_starts_68, en_kl_0, en_kl_i, en_kl_r, en_kl_n, en_kl_l, en_Ec_some, en_Ec_void, en_rcv, en_stk, List.map_cons, List.map_nil, List.sum_cons, List.sum_nil, Value.category, Nat.reduceAdd, Nat.reduceLeDiff, decide_true, true_and, and_true, and_self, zI_add, zI_sub, zI_mul, zI_neg, zI_lt, zI_le, zI_eq, zI_cl, zI_0, zI_1, zI_m1, zI_lit, zT_0, zT_01, zI_01, zI_11, ↓reduceIte, if_true, if_false, not_false_eq_true, not_true_eq_false, Int.reduceEq, Int.reduceLT, Int.reduceLE, Classical.not_not, Bool.false_eq_true, x1]
        exact fin w1 _ h19 h30 h32 h29 hf (fun g hg => by
          rw [h31 g hg]
          by_cases z : M ≤ g ∧ g < h
          · rw [if_pos z, if_pos (by omega)]
          · rw [if_neg z, if_neg (by omega)])
      | succ d ih =>
        intro h w1 h1 h2 h3 h19 h30 h32 h29 hf h31
        have x1 : ¬ (M : Int) + L ≤ (h : Int) := by omega
        rw [eX6_starts_62]
        by_cases x2 : h = 200
        · have x2' : (200 : Int) ≤ (h : Int) := by omega
          simp (disch := omega) only [eX6_starts_64, eX6_starts_65, eX6_starts_67, eX6_starts_68, eX6_starts_71, eX6_starts_73, eX6_starts_76, en_kl_0, en_kl_i, en_kl_r, en_kl_n, en_kl_l, en_Ec_some, en_Ec_void, en_rcv, en_stk, List.map_cons, List.map_nil, List.sum_cons, List.sum_nil, Value.category, Nat.reduceAdd, Nat.reduceLeDiff, decide_true, true_and, and_true, and_self, zI_add, zI_sub, zI_mul, zI_neg, zI_lt, zI_le, zI_eq, zI_cl, zI_0, zI_1, zI_m1, zI_lit, zT_0, zT_01, zI_01, zI_11, ↓reduceIte, if_true, if_false, not_false_eq_true, not_true_eq_false, Int.reduceEq, Int.reduceLT, Int.reduceLE, Classical.not_not, Bool.false_eq_true, x1, x2']
          exact fin w1 _ h19 h30 h32 h29 hf (fun g hg => by
            rw [h31 g hg]
            by_cases z : M ≤ g ∧ g < h
            · rw [if_pos z, if_pos (by omega)]
            · rw [if_neg z, if_neg (by omega)])
        · have x2' : ¬ (200 : Int) ≤ (h : Int) := by omega
          simp (disch := omega) only [eX6_starts_0, eX6_starts_1, eX6_starts_4, eX6_starts_5, eX6_starts_6, eX6_starts_7, eX6_starts_8, eX6_starts_11, eX6_starts_12, eX6_starts_13, eX6_starts_14, eX6_starts_15, eX6_starts_16, eX6_starts_17, eX6_starts_18, eX6_starts_19, eX6_starts_22, eX6_starts_23, eX6_starts_26, eX6_starts_27, eX6_starts_30, eX6_starts_31, eX6_starts_32, eX6_starts_33, eX6_starts_36, eX6_starts_37, eX6_starts_38, eX6_starts_41, eX6_starts_42, eX6_starts_45, eX6_starts_46, eX6_starts_49, eX6_starts_52, eX6_starts_53, eX6_starts_54, eX6_starts_57, eX6_starts_59, eX6_starts_60, eX6_starts_64, eX6_starts_65, eX6_starts_67, eX6_starts_68, eX6_starts_71, eX6_starts_73, eX6_starts_76, eX6_starts_79, eX6_starts_80, eX6_starts_83, eX6_starts_85, eX6_starts_86, eX6_starts_87, eX6_starts_90, eX6_starts_93, eX6_starts_94, eX6_starts_94i, eX6_starts_95, eX6_starts_98, eX6_starts_100, eX6_starts_101, eX6_starts_104, eX6_starts_105, eX6_starts_106, eX6_starts_108, eX6_starts_109, eX6_starts_112, eX6_starts_113, eX6_starts_116, en_kl_0, en_kl_i, en_kl_r, en_kl_n, en_kl_l, en_Ec_some, en_Ec_void, en_rcv, en_stk, List.map_cons, List.map_nil, List.sum_cons, List.sum_nil, Value.category, Nat.reduceAdd, Nat.reduceLeDiff, decide_true, true_and, and_true, and_self, zI_add, zI_sub, zI_mul, zI_neg, zI_lt, zI_le, zI_eq, zI_cl, zI_0, zI_1, zI_m1, zI_lit, zT_0, zT_01, zI_01, zI_11, ↓reduceIte, if_true, if_false, not_false_eq_true, not_true_eq_false, Int.reduceEq, Int.reduceLT, Int.reduceLE, Classical.not_not, Bool.false_eq_true, fi_19, ft_19_0, ft_19_1, ft_19_2, ft_19_3, ft_19_5, ft_19_6, ft_19_7, ft_19_8, ft_19_12, ft_19_13, ft_19_14, ft_19_15, ft_19_16, ft_19_21, xi_20, xi_21, xi_22, xi_23, xi_24, xi_25, xi_26, xi_27, xi_28, xi_29, xi_30, xi_31, xi_32, xi_33, Int.toNat_natCast, Int.reduceToNat, x1, x2']
          refine ih (h + 1) _ (by omega) (by omega) (by omega) ?_ ?_ ?_ ?_ (hf.upk (by simp)) (fun g hg => ?_)
          · rw [en_up_ne (by decide)]; exact h19
          · rw [en_up_ne (by decide)]; exact h30
          · rw [en_up_ne (by decide)]; exact h32
          · rw [en_up_ne (by decide)]; exact h29
          · rw [en_up_eq]
            by_cases e : g = h
            · rw [e, upd_eq, if_pos (by omega)]
            · rw [upd_ne e, h31 g hg]
              by_cases z : M ≤ g ∧ g < h
              · rw [if_pos z, if_pos (by omega)]
              · rw [if_neg z, if_neg (by omega)]
    simp (disch := omega) only [eX6_starts_52, eX6_starts_53, eX6_starts_54, eX6_starts_57, eX6_starts_59, eX6_starts_60, en_kl_0, en_kl_i, en_kl_r, en_kl_n, en_kl_l, en_Ec_some, en_Ec_void, en_rcv, en_stk, List.map_cons, List.map_nil, List.sum_cons, List.sum_nil, Value.category, Nat.reduceAdd, Nat.reduceLeDiff, decide_true, true_and, and_true, and_self, zI_add, zI_sub, zI_mul, zI_neg, zI_lt, zI_le, zI_eq, zI_cl, zI_0, zI_1, zI_m1, zI_lit, zT_0, zT_01, zI_01, zI_11, ↓reduceIte, if_true, if_false, not_false_eq_true, not_true_eq_false, Int.reduceEq, Int.reduceLT, Int.reduceLE, Classical.not_not, Bool.false_eq_true, fi_19, ft_19_0, ft_19_1, ft_19_2, ft_19_3, ft_19_5, ft_19_6, ft_19_7, ft_19_8, ft_19_12, ft_19_13, ft_19_14, ft_19_15, ft_19_16, ft_19_21, xi_20, xi_21, xi_22, xi_23, xi_24, xi_25, xi_26, xi_27, xi_28, xi_29, xi_30, xi_31, xi_32, xi_33, Int.toNat_natCast, Int.reduceToNat, hpl]
    exact loop L M wB (by omega) (Nat.le_refl M) (by omega) rfl rfl rfl rfl fB (fun g hg => by rw [b31, if_neg (by omega)])
  by_cases c1 : wo = -1
  · by_cases c2 : T + 1 = life
    · rw [if_pos ⟨c1, c2⟩] at hX
      have g := go _ rfl
      rw [← hX] at g
      rw [c1] at awo
      rw [← c2] at ali
      simp (disch := omega) only [eX6_starts_0, eX6_starts_1, eX6_starts_4, eX6_starts_5, eX6_starts_6, eX6_starts_7, eX6_starts_8, eX6_starts_11, eX6_starts_12, eX6_starts_13, eX6_starts_14, eX6_starts_15, eX6_starts_16, eX6_starts_17, eX6_starts_18, eX6_starts_19, eX6_starts_22, eX6_starts_23, eX6_starts_26, eX6_starts_27, eX6_starts_30, eX6_starts_31, eX6_starts_32, eX6_starts_33, eX6_starts_36, eX6_starts_37, eX6_starts_38, eX6_starts_41, eX6_starts_42, eX6_starts_45, eX6_starts_46, eX6_starts_49, eX6_starts_53, eX6_starts_54, eX6_starts_57, eX6_starts_59, eX6_starts_60, eX6_starts_64, eX6_starts_65, eX6_starts_67, eX6_starts_68, eX6_starts_71, eX6_starts_73, eX6_starts_76, eX6_starts_79, eX6_starts_80, eX6_starts_83, eX6_starts_85, eX6_starts_86, eX6_starts_87, eX6_starts_90, eX6_starts_93, eX6_starts_94, eX6_starts_94i, eX6_starts_95, eX6_starts_98, eX6_starts_100, eX6_starts_101, eX6_starts_104, eX6_starts_105, eX6_starts_106, eX6_starts_108, eX6_starts_109, eX6_starts_112, eX6_starts_113, eX6_starts_116, en_kl_0, en_kl_i, en_kl_r, en_kl_n, en_kl_l, en_Ec_some, en_Ec_void, en_rcv, en_stk, List.map_cons, List.map_nil, List.sum_cons, List.sum_nil, Value.category, Nat.reduceAdd, Nat.reduceLeDiff, decide_true, true_and, and_true, and_self, zI_add, zI_sub, zI_mul, zI_neg, zI_lt, zI_le, zI_eq, zI_cl, zI_0, zI_1, zI_m1, zI_lit, zT_0, zT_01, zI_01, zI_11, ↓reduceIte, if_true, if_false, not_false_eq_true, not_true_eq_false, Int.reduceEq, Int.reduceLT, Int.reduceLE, Classical.not_not, Bool.false_eq_true, fi_19, ft_19_0, ft_19_1, ft_19_2, ft_19_3, ft_19_5, ft_19_6, ft_19_7, ft_19_8, ft_19_12, ft_19_13, ft_19_14, ft_19_15, ft_19_16, ft_19_21, xi_20, xi_21, xi_22, xi_23, xi_24, xi_25, xi_26, xi_27, xi_28, xi_29, xi_30, xi_31, xi_32, xi_33, Int.toNat_natCast, Int.reduceToNat, e30, hwA, awo, a32r, ali]
      exact g
    · rw [if_neg (fun z => c2 z.2)] at hX
      have g := go _ rfl
      rw [← hX] at g
      rw [c1] at awo g
      simp (disch := omega) only [eX6_starts_0, eX6_starts_1, eX6_starts_4, eX6_starts_5, eX6_starts_6, eX6_starts_7, eX6_starts_8, eX6_starts_11, eX6_starts_12, eX6_starts_13, eX6_starts_14, eX6_starts_15, eX6_starts_16, eX6_starts_17, eX6_starts_18, eX6_starts_19, eX6_starts_22, eX6_starts_23, eX6_starts_26, eX6_starts_27, eX6_starts_30, eX6_starts_31, eX6_starts_32, eX6_starts_33, eX6_starts_36, eX6_starts_37, eX6_starts_38, eX6_starts_41, eX6_starts_42, eX6_starts_45, eX6_starts_46, eX6_starts_49, eX6_starts_53, eX6_starts_54, eX6_starts_57, eX6_starts_59, eX6_starts_60, eX6_starts_64, eX6_starts_65, eX6_starts_67, eX6_starts_68, eX6_starts_71, eX6_starts_73, eX6_starts_76, eX6_starts_79, eX6_starts_80, eX6_starts_83, eX6_starts_85, eX6_starts_86, eX6_starts_87, eX6_starts_90, eX6_starts_93, eX6_starts_94, eX6_starts_94i, eX6_starts_95, eX6_starts_98, eX6_starts_100, eX6_starts_101, eX6_starts_104, eX6_starts_105, eX6_starts_106, eX6_starts_108, eX6_starts_109, eX6_starts_112, eX6_starts_113, eX6_starts_116, en_kl_0, en_kl_i, en_kl_r, en_kl_n, en_kl_l, en_Ec_some, en_Ec_void, en_rcv, en_stk, List.map_cons, List.map_nil, List.sum_cons, List.sum_nil, Value.category, Nat.reduceAdd, Nat.reduceLeDiff, decide_true, true_and, and_true, and_self, zI_add, zI_sub, zI_mul, zI_neg, zI_lt, zI_le, zI_eq, zI_cl, zI_0, zI_1, zI_m1, zI_lit, zT_0, zT_01, zI_01, zI_11, ↓reduceIte, if_true, if_false, not_false_eq_true, not_true_eq_false, Int.reduceEq, Int.reduceLT, Int.reduceLE, Classical.not_not, Bool.false_eq_true, fi_19, ft_19_0, ft_19_1, ft_19_2, ft_19_3, ft_19_5, ft_19_6, ft_19_7, ft_19_8, ft_19_12, ft_19_13, ft_19_14, ft_19_15, ft_19_16, ft_19_21, xi_20, xi_21, xi_22, xi_23, xi_24, xi_25, xi_26, xi_27, xi_28, xi_29, xi_30, xi_31, xi_32, xi_33, Int.toNat_natCast, Int.reduceToNat, e30, hwA, awo, a32r, ali, c2]
      exact g
  · rw [if_neg (fun z => c1 z.1)] at hX
    have g := go _ rfl
    rw [← hX] at g
    simp (disch := omega) only [eX6_starts_0, eX6_starts_1, eX6_starts_4, eX6_starts_5, eX6_starts_6, eX6_starts_7, eX6_starts_8, eX6_starts_11, eX6_starts_12, eX6_starts_13, eX6_starts_14, eX6_starts_15, eX6_starts_16, eX6_starts_17, eX6_starts_18, eX6_starts_19, eX6_starts_22, eX6_starts_23, eX6_starts_26, eX6_starts_27, eX6_starts_30, eX6_starts_31, eX6_starts_32, eX6_starts_33, eX6_starts_36, eX6_starts_37, eX6_starts_38, eX6_starts_41, eX6_starts_42, eX6_starts_45, eX6_starts_46, eX6_starts_49, eX6_starts_53, eX6_starts_54, eX6_starts_57, eX6_starts_59, eX6_starts_60, eX6_starts_64, eX6_starts_65, eX6_starts_67, eX6_starts_68, eX6_starts_71, eX6_starts_73, eX6_starts_76, eX6_starts_79, eX6_starts_80, eX6_starts_83, eX6_starts_85, eX6_starts_86, eX6_starts_87, eX6_starts_90, eX6_starts_93, eX6_starts_94, eX6_starts_94i, eX6_starts_95, eX6_starts_98, eX6_starts_100, eX6_starts_101, eX6_starts_104, eX6_starts_105, eX6_starts_106, eX6_starts_108, eX6_starts_109, eX6_starts_112, eX6_starts_113, eX6_starts_116, en_kl_0, en_kl_i, en_kl_r, en_kl_n, en_kl_l, en_Ec_some, en_Ec_void, en_rcv, en_stk, List.map_cons, List.map_nil, List.sum_cons, List.sum_nil, Value.category, Nat.reduceAdd, Nat.reduceLeDiff, decide_true, true_and, and_true, and_self, zI_add, zI_sub, zI_mul, zI_neg, zI_lt, zI_le, zI_eq, zI_cl, zI_0, zI_1, zI_m1, zI_lit, zT_0, zT_01, zI_01, zI_11, ↓reduceIte, if_true, if_false, not_false_eq_true, not_true_eq_false, Int.reduceEq, Int.reduceLT, Int.reduceLE, Classical.not_not, Bool.false_eq_true, fi_19, ft_19_0, ft_19_1, ft_19_2, ft_19_3, ft_19_5, ft_19_6, ft_19_7, ft_19_8, ft_19_12, ft_19_13, ft_19_14, ft_19_15, ft_19_16, ft_19_21, xi_20, xi_21, xi_22, xi_23, xi_24, xi_25, xi_26, xi_27, xi_28, xi_29, xi_30, xi_31, xi_32, xi_33, Int.toNat_natCast, Int.reduceToNat, e30, hwA, awo, c1]
    exact g
end
