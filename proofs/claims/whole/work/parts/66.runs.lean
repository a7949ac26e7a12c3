/-! ===== the model's whole night ===== -/
section
variable {w : en_W} {G : Nat → Int} {s : Nat → Nat → Int} {kick law life pat : Int} {n : Nat} {cm cb : Nat → Int}
theorem r_runs {la : Int} (hG : bG w G s) (hP : bP w kick law life pat) (hC : mC w n cm cb) (hs : srt n cm) (l1 : 0 ≤ la) (l2 : la ≤ 3) : ∃ w', SX6_runs [.ref 19, .int (zI la)] w = some (none, w') ∧ (mN w' n (ml G s kick) (nnight la n cm cb (ml G s kick) life) ∧ nF n (nnight la n cm cb (ml G s kick) life) ∧ nfr w w') := by
  obtain ⟨len, hlen⟩ : ∃ len, ml G s kick = len := ⟨_, rfl⟩
  have hl : ∀ r, r < 10 → 1 ≤ len r ∧ len r ≤ 60 := fun r hr => by
    rw [← hlen]
    exact mn_rng hP.1.2.1 hP.1.2.2 9 0 (by omega)
  have hn := hC.2.1
  have h11 := hC.1
  have hcb : ∀ i, i < n → 0 ≤ cb i ∧ cb i ≤ 9 := fun i hi => (hC.2.2 i hi).2.2.2.2
  have hcm : ∀ i, i < n → 0 ≤ cm i ∧ cm i ≤ 99 := fun i hi => ⟨(hC.2.2 i hi).2.2.1, (hC.2.2 i hi).2.2.2.1⟩
  have hlife := hP.2.2.1
  obtain ⟨T, hT⟩ : ∃ T, nnight la n cm cb len life = T := ⟨_, rfl⟩
  rw [hlen, hT]
  refine en_exv rfl ?_
  show en_Ev XX6_runs 0 [some (.ref 19), some (.int (zI la)), none, none, none] [] w _
  obtain ⟨P, hP0⟩ : ∃ P : Option Value → en_W → Prop, (fun (r : Option Value) (w' : en_W) => r = none ∧ (mN w' n len T ∧ nF n T ∧ nfr w w')) = P := ⟨_, rfl⟩
  rw [hP0]
  have exit : ∀ (v : en_W) (m : Int) (l3 l4 : Option Value), 200 ≤ m → m ≤ 1000 → mN v n len T → nF n T → nfr w v → en_Ev XX6_runs 90 [some (.ref 19), some (.int (zI la)), some (.int (zI m)), l3, l4] [] v P := by
    intro v m l3 l4 m0 m1 k1 k2 k3
    rw [eX6_runs_90]
    simp (disch := omega) only [eX6_runs_91, eX6_runs_94, eX6_runs_197, en_kl_0, en_kl_i, en_kl_r, en_kl_n, en_kl_l, en_Ec_some, en_Ec_void, en_rcv, en_stk, List.map_cons, List.map_nil, List.sum_cons, List.sum_nil, Value.category, Nat.reduceAdd, Nat.reduceLeDiff, decide_true, true_and, and_true, and_self, zI_add, zI_sub, zI_mul, zI_neg, zI_lt, zI_le, zI_eq, zI_cl, zI_0, zI_1, zI_m1, zI_lit, zT_0, zT_01, zI_01, zI_11, ↓reduceIte, if_true, if_false, not_false_eq_true, not_true_eq_false, Int.reduceEq, Int.reduceLT, Int.reduceLE, Classical.not_not, Bool.false_eq_true, m0]
    rw [← hP0]
    exact ⟨rfl, k1, k2, k3⟩
  have loop : ∀ (k : Nat) (v : en_W) (t : NT) (m : Int) (l3 l4 : Option Value), k = nlf (nch t) n → mN v n len t → nB (n - k) t → nG n len t m → 0 ≤ m → m ≤ 260 → nfr w v → (nit la n cm cb len life k (t, m)).1 = T → en_Ev XX6_runs 90 [some (.ref 19), some (.int (zI la)), some (.int (zI m)), l3, l4] [] v P := by
    intro k
    induction k with
    | zero =>
      intro v t m l3 l4 hk hN hB hg m0 m1 hf hT'
      have e' : t = T := hT'
      have hFt : nF n T := by
        rw [← e']
        exact ⟨nB_mono hB (by omega), hg.1, hg.2.1, hg.2.2.1, hg.2.2.2.1⟩
      have hNt : mN v n len T := by rw [← e']; exact hN
      by_cases c1 : 200 ≤ m
      · exact exit v m l3 l4 c1 (by omega) hNt hFt hf
      · have hK : mK v n (nch t) := fun i hi => ⟨(hN.1 i hi).1, (hB.1 i).1, (hB.1 i).2⟩
        have hz := (nlf_z n).mp hk.symm
        have hnf : nfl (nch t) n 0 = -1 := by
          rcases nfl_n (ch := nch t) (n := n) with ⟨a1, -⟩ | ⟨a, a1, a2, a3, a4⟩
          · exact a1
          · exact absurd a3 (hz a a1)
        have hwf : wf cm (nch t) m n = -1 := by
          rcases wf_spec (cm := cm) (ch := nch t) (m := m) n with ⟨a1, -⟩ | ⟨a, a1, a2, a3, a4⟩
          · exact a1
          · exact absurd a3.1 (hz a a1)
        have hch := r_chooses (m := m) (law := la) (hC.nf hf) hK m0 (by omega) l1 l2
        rw [hwf, if_pos rfl] at hch
        have hnx := r_nextCoin (hC.nf hf) hK
        have enx : nnx cm (nch t) n = 200 := by
          unfold nnx
          rw [if_pos hnf]
        rw [enx] at hnx
        rw [eX6_runs_90]
        simp (disch := omega) only [eX6_runs_0, eX6_runs_1, eX6_runs_2, eX6_runs_3, eX6_runs_4, eX6_runs_7, eX6_runs_10, eX6_runs_11, eX6_runs_14, eX6_runs_15, eX6_runs_16, eX6_runs_17, eX6_runs_18, eX6_runs_21, eX6_runs_22, eX6_runs_23, eX6_runs_24, eX6_runs_27, eX6_runs_30, eX6_runs_31, eX6_runs_32, eX6_runs_33, eX6_runs_36, eX6_runs_39, eX6_runs_40, eX6_runs_43, eX6_runs_44, eX6_runs_45, eX6_runs_46, eX6_runs_49, eX6_runs_52, eX6_runs_53, eX6_runs_54, eX6_runs_55, eX6_runs_57, eX6_runs_60, eX6_runs_61, eX6_runs_64, eX6_runs_65, eX6_runs_66, eX6_runs_67, eX6_runs_70, eX6_runs_73, eX6_runs_74, eX6_runs_75, eX6_runs_78, eX6_runs_79, eX6_runs_80, eX6_runs_83, eX6_runs_84, eX6_runs_85, eX6_runs_88, eX6_runs_89, eX6_runs_91, eX6_runs_94, eX6_runs_97, eX6_runs_98, eX6_runs_99, eX6_runs_100, eX6_runs_103, eX6_runs_104, eX6_runs_105, eX6_runs_106, eX6_runs_109, eX6_runs_110, eX6_runs_113, eX6_runs_114, eX6_runs_117, eX6_runs_118, eX6_runs_121, eX6_runs_122, eX6_runs_123, eX6_runs_124, eX6_runs_125, eX6_runs_126, eX6_runs_129, eX6_runs_130, eX6_runs_133, eX6_runs_134, eX6_runs_135, eX6_runs_136, eX6_runs_137, eX6_runs_138, eX6_runs_139, eX6_runs_142, eX6_runs_143, eX6_runs_144, eX6_runs_147, eX6_runs_148, eX6_runs_151, eX6_runs_152, eX6_runs_155, eX6_runs_156, eX6_runs_157, eX6_runs_158, eX6_runs_159, eX6_runs_160, eX6_runs_161, eX6_runs_163, eX6_runs_165, eX6_runs_166, eX6_runs_169, eX6_runs_170, eX6_runs_173, eX6_runs_175, eX6_runs_176, eX6_runs_177, eX6_runs_180, eX6_runs_181, eX6_runs_182, eX6_runs_185, eX6_runs_186, eX6_runs_187, eX6_runs_189, eX6_runs_190, eX6_runs_193, eX6_runs_194, eX6_runs_197, en_kl_0, en_kl_i, en_kl_r, en_kl_n, en_kl_l, en_Ec_some, en_Ec_void, en_rcv, en_stk, List.map_cons, List.map_nil, List.sum_cons, List.sum_nil, Value.category, Nat.reduceAdd, Nat.reduceLeDiff, decide_true, true_and, and_true, and_self, zI_add, zI_sub, zI_mul, zI_neg, zI_lt, zI_le, zI_eq, zI_cl, zI_0, zI_1, zI_m1, zI_lit, zT_0, zT_01, zI_01, zI_11, ↓reduceIte, if_true, if_false, not_false_eq_true, not_true_eq_false, Int.reduceEq, Int.reduceLT, Int.reduceLE, Classical.not_not, Bool.false_eq_true, fi_19, ft_19_0, ft_19_1, ft_19_2, ft_19_3, ft_19_5, ft_19_6, ft_19_7, ft_19_8, ft_19_12, ft_19_13, ft_19_14, ft_19_15, ft_19_16, ft_19_21, xi_20, xi_21, xi_22, xi_23, xi_24, xi_25, xi_26, xi_27, xi_28, xi_29, xi_30, xi_31, xi_32, xi_33, Int.toNat_natCast, Int.reduceToNat, hch, hnx, c1]
        exact exit v 200 _ _ (by omega) (by omega) hNt hFt hf
    | succ k ih =>
      intro v t m l3 l4 hk hN hB hg m0 m1 hf hT'
      have hkn := nlf_le (ch := nch t) n
      by_cases c1 : 200 ≤ m
      · have e := nit_stop (law := la) (n := n) (cm := cm) (cb := cb) (len := len) (life := life) (k + 1) (t, m) (by show 200 ≤ max m _; omega)
        rw [hT'] at e
        have e' : T = t := e
        exact exit v m l3 l4 c1 (by omega) (by rw [e']; exact hN) (by rw [e']; exact ⟨nB_mono hB (by omega), hg.1, hg.2.1, hg.2.2.1, hg.2.2.2.1⟩) hf
      · have hK : mK v n (nch t) := fun i hi => ⟨(hN.1 i hi).1, (hB.1 i).1, (hB.1 i).2⟩
        rcases nfl_n (ch := nch t) (n := n) with ⟨a1, a2⟩ | ⟨a, a1, a2, a3, a4⟩
        · have := (nlf_z n).mpr a2
          omega
        · have core : ∀ (m : Int) (l3 l4 : Option Value), 0 ≤ m → m < 200 → cm a ≤ m → nG n len t m → (nit la n cm cb len life (k + 1) (t, m)).1 = T → en_Ev XX6_runs 90 [some (.ref 19), some (.int (zI la)), some (.int (zI m)), l3, l4] [] v P := by
            intro m l3 l4 m0 m2 cma hg hT'
            have c1 : ¬ 200 ≤ m := by omega
            obtain ⟨hwf1, hwf2⟩ := (wf_nfl (m := m) (ch := nch t) hs).1 a a1 a2 cma
            obtain ⟨c, cn, ec, wc⟩ := npk_wai (law := la) hcb hwf2 a1
            have hch := r_chooses (m := m) (law := la) (hC.nf hf) hK m0 (by omega) l1 l2
            rw [hwf1, if_neg (by omega), ec] at hch
            have e1 : (nit la n cm cb len life k (nst la n cm cb len life (t, m))).1 = T := hT'
            rw [nst_at a2 a1 cma m2 ec cn] at e1
            obtain ⟨r, hr⟩ : ∃ r, nrec la n cb c = r := ⟨_, rfl⟩
            rw [hr] at e1
            have rr : -1 ≤ r ∧ r ≤ 9 := by
              rw [← hr]
              unfold nrec nat1
              obtain ⟨z, hz⟩ : ∃ z : Int, (if la = 1 then (c : Int) - 2 else (c : Int)) = z := ⟨_, rfl⟩
              rw [hz]
              by_cases q : 0 ≤ z ∧ z < n
              · rw [if_pos q]
                have := hcb z.toNat (by omega)
                omega
              · rw [if_neg q]
                omega
            have lc : c < 20 := by omega
            have cge : ¬ (c : Int) = -1 := by omega
            obtain ⟨t1, L1, hnsv⟩ : ∃ t1 L1, nsv len life t c r m = (t1, L1) := ⟨_, _, rfl⟩
            have f_ch : nch t1 = iu (nch t) c m := by
              have := nsv_ch (len := len) (life := life) (t := t) (c := c) (r := r) (m := m)
              rw [hnsv] at this
              exact this
            have f_B : nB (n - k) t1 ∧ 0 ≤ L1 ∧ L1 ≤ 60 := by
              have := nsv_B (c := c) (r := r) (life := life) (m := m) hB hl m0 m2
              rw [hnsv, show n - (k + 1) + 1 = n - k by omega] at this
              exact this
            have f_G : nG n len t1 (m + L1) := by
              have := nsv_G (life := life) (r := r) hg hB hl wc.1 m0
              rw [hnsv] at this
              exact this
            have f_k : k = nlf (nch t1) n := by
              have := nlf_iu (m := m) wc.1 (by omega) n
              rw [if_pos cn, ← f_ch] at this
              omega
            rw [hnsv] at e1
            obtain ⟨M, hM⟩ : ∃ M : Nat, m = (M : Int) := ⟨m.toNat, by omega⟩
            obtain ⟨u, hu⟩ : ∃ u, en_up v 29 c (zI m) = u := ⟨_, rfl⟩
            have fu : nfr w u := hu ▸ hf.upk (.inl rfl)
            have u29 : u 29 = upd (v 29) c (zI m) := by rw [← hu, en_up_eq]
            have u30 : u 30 = v 30 := by rw [← hu, en_up_ne (by decide)]
            have u31 : u 31 = v 31 := by rw [← hu, en_up_ne (by decide)]
            have u32 : u 32 = v 32 := by rw [← hu, en_up_ne (by decide)]
            have u19 : u 19 = v 19 := by rw [← hu, en_up_ne (by decide)]
            have u26 : u 26 2 = zI life := by rw [fu.1 26 (by decide)]; exact hlife.1
            have uC := hC.nf fu
            obtain ⟨n1, n2, n3, n4, n5, n6⟩ := hN
            have n29 : ∀ i, i < n → u 29 i = zI (nch t1 i) := fun i hi => by
              rw [u29, f_ch]
              exact upd_iu (n1 i hi).1
            have hB' := hB.2.2.1
            have hwo := hB.2.2.2.2.2.2.2.2.2
            have tail : en_Ev XX6_runs 163 [some (.ref 19), some (.int (zI la)), some (.int (zI m)), some (.int (zI c)), some (.int (zI r))] [] u P := by
              by_cases p1 : (0 ≤ r ∧ r < 10) ∧ ntm t r.toNat < life
              · have hp := (nsv_play p1).symm.trans hnsv
                obtain ⟨q1, q2⟩ := Prod.mk.inj hp
                obtain ⟨R, hR⟩ : ∃ R : Nat, r = (R : Int) := ⟨r.toNat, by omega⟩
                have eR : r.toNat = R := by omega
                rw [eR] at q1 q2 p1
                have hrR := hB' R
                have hst := r_starts (c := c) (r := R) (M := M) (T := ntm t R) (wo := nwo t) (pm := npm t) (hG.nf fu) (hP.nf fu) lc (by omega) (by omega) (by rw [u32]; exact n2 R (by omega)) hrR.1 (by omega) (by rw [u19]; exact n5) hwo.1 hwo.2 (by rw [u19]; exact n4)
                rw [hlen] at hst
                obtain ⟨u2, s1, s30, s32, s19, s18, s17, s31, s29, sf⟩ := hst
                have x1 : ¬ (R : Int) = -1 := by omega
                have x2 : ¬ life ≤ ntm t R := by omega
                have x3 : u 32 R = zI (ntm t R) := by rw [u32]; exact n2 R (by omega)
                rw [hR, hM]
                simp (disch := omega) only [eX6_runs_0, eX6_runs_1, eX6_runs_2, eX6_runs_3, eX6_runs_4, eX6_runs_7, eX6_runs_10, eX6_runs_11, eX6_runs_14, eX6_runs_15, eX6_runs_16, eX6_runs_17, eX6_runs_18, eX6_runs_21, eX6_runs_22, eX6_runs_23, eX6_runs_24, eX6_runs_27, eX6_runs_30, eX6_runs_31, eX6_runs_32, eX6_runs_33, eX6_runs_36, eX6_runs_39, eX6_runs_40, eX6_runs_43, eX6_runs_44, eX6_runs_45, eX6_runs_46, eX6_runs_49, eX6_runs_52, eX6_runs_53, eX6_runs_54, eX6_runs_55, eX6_runs_57, eX6_runs_60, eX6_runs_61, eX6_runs_64, eX6_runs_65, eX6_runs_66, eX6_runs_67, eX6_runs_70, eX6_runs_73, eX6_runs_74, eX6_runs_75, eX6_runs_78, eX6_runs_79, eX6_runs_80, eX6_runs_83, eX6_runs_84, eX6_runs_85, eX6_runs_88, eX6_runs_89, eX6_runs_91, eX6_runs_94, eX6_runs_97, eX6_runs_98, eX6_runs_99, eX6_runs_100, eX6_runs_103, eX6_runs_104, eX6_runs_105, eX6_runs_106, eX6_runs_109, eX6_runs_110, eX6_runs_113, eX6_runs_114, eX6_runs_117, eX6_runs_118, eX6_runs_121, eX6_runs_122, eX6_runs_123, eX6_runs_124, eX6_runs_125, eX6_runs_126, eX6_runs_129, eX6_runs_130, eX6_runs_133, eX6_runs_134, eX6_runs_135, eX6_runs_136, eX6_runs_137, eX6_runs_138, eX6_runs_139, eX6_runs_142, eX6_runs_143, eX6_runs_144, eX6_runs_147, eX6_runs_148, eX6_runs_151, eX6_runs_152, eX6_runs_155, eX6_runs_156, eX6_runs_157, eX6_runs_158, eX6_runs_159, eX6_runs_160, eX6_runs_161, eX6_runs_163, eX6_runs_165, eX6_runs_166, eX6_runs_169, eX6_runs_170, eX6_runs_173, eX6_runs_175, eX6_runs_176, eX6_runs_177, eX6_runs_180, eX6_runs_181, eX6_runs_182, eX6_runs_185, eX6_runs_186, eX6_runs_187, eX6_runs_189, eX6_runs_190, eX6_runs_193, eX6_runs_194, eX6_runs_197, en_kl_0, en_kl_i, en_kl_r, en_kl_n, en_kl_l, en_Ec_some, en_Ec_void, en_rcv, en_stk, List.map_cons, List.map_nil, List.sum_cons, List.sum_nil, Value.category, Nat.reduceAdd, Nat.reduceLeDiff, decide_true, true_and, and_true, and_self, zI_add, zI_sub, zI_mul, zI_neg, zI_lt, zI_le, zI_eq, zI_cl, zI_0, zI_1, zI_m1, zI_lit, zT_0, zT_01, zI_01, zI_11, ↓reduceIte, if_true, if_false, not_false_eq_true, not_true_eq_false, Int.reduceEq, Int.reduceLT, Int.reduceLE, Classical.not_not, Bool.false_eq_true, fi_19, ft_19_0, ft_19_1, ft_19_2, ft_19_3, ft_19_5, ft_19_6, ft_19_7, ft_19_8, ft_19_12, ft_19_13, ft_19_14, ft_19_15, ft_19_16, ft_19_21, xi_20, xi_21, xi_22, xi_23, xi_24, xi_25, xi_26, xi_27, xi_28, xi_29, xi_30, xi_31, xi_32, xi_33, Int.toNat_natCast, Int.reduceToNat, x1, x2, x3, u26, s1]
                rw [q2, ← hM]
                refine ih u2 t1 (m + L1) _ _ f_k ⟨fun i hi => ⟨?_, ?_⟩, fun r' hr' => ?_, ?_, ?_, ?_, fun h hh => ?_⟩ f_B.1 f_G (by omega) (by omega) (fu.tr sf) e1
                · rw [s29]; exact n29 i hi
                · rw [s30, u30, ← q1, ← hR]
                  exact upd_iu (n1 i hi).2
                · rw [s32, u32, ← q1]
                  exact upd_iu (n2 r' hr')
                · rw [s17, ← q1, ← hM]; rfl
                · rw [s18, ← q1]; rfl
                · rw [s19, ← q1, ← hR]; rfl
                · have hq := nsv_npi_play (n := n) (len := len) (life := life) (r := r) (m := m) (t := t) (c := c) (h := (h : Int)) hg wc.1 cn (by rw [eR]; exact p1)
                  rw [hnsv, eR] at hq
                  have hq' : npi n len t1 (h : Int) n 0 = if m ≤ (h : Int) ∧ (h : Int) < m + len R then r else npi n len t h n 0 := hq
                  rw [s31 h hh, hq', u31]
                  by_cases z : m ≤ (h : Int) ∧ (h : Int) < m + len R
                  · rw [if_pos z, if_pos (by omega), hR]
                  · rw [if_neg z, if_neg (by omega)]
                    exact n6 h hh
              · have hp := (nsv_not p1).symm.trans hnsv
                obtain ⟨q1, q2⟩ := Prod.mk.inj hp
                have go : en_Ev XX6_runs 90 [some (.ref 19), some (.int (zI la)), some (.int (zI m)), some (.int (zI c)), some (.int (zI r))] [] u P := by
                  have e0 : m + L1 = m := by omega
                  rw [e0] at e1 f_G
                  refine ih u t1 m _ _ f_k ⟨fun i hi => ⟨n29 i hi, ?_⟩, fun r' hr' => ?_, ?_, ?_, ?_, fun h hh => ?_⟩ f_B.1 f_G (by omega) (by omega) fu e1
                  · rw [u30, ← q1]; exact (n1 i hi).2
                  · rw [u32, ← q1]; exact n2 r' hr'
                  · rw [u19, ← q1]; exact n3
                  · rw [u19, ← q1]; exact n4
                  · rw [u19, ← q1]; exact n5
                  · have hq := nsv_npi_not (n := n) (len := len) (life := life) (r := r) (m := m) (t := t) (c := c) (h := (h : Int)) hg wc.1 p1
                    rw [hnsv] at hq
                    have hq' : npi n len t1 (h : Int) n 0 = npi n len t h n 0 := hq
                    rw [hq', u31]
                    exact n6 h hh
                by_cases z : r = -1
                · rw [z] at go ⊢
                  simp (disch := omega) only [eX6_runs_0, eX6_runs_1, eX6_runs_2, eX6_runs_3, eX6_runs_4, eX6_runs_7, eX6_runs_10, eX6_runs_11, eX6_runs_14, eX6_runs_15, eX6_runs_16, eX6_runs_17, eX6_runs_18, eX6_runs_21, eX6_runs_22, eX6_runs_23, eX6_runs_24, eX6_runs_27, eX6_runs_30, eX6_runs_31, eX6_runs_32, eX6_runs_33, eX6_runs_36, eX6_runs_39, eX6_runs_40, eX6_runs_43, eX6_runs_44, eX6_runs_45, eX6_runs_46, eX6_runs_49, eX6_runs_52, eX6_runs_53, eX6_runs_54, eX6_runs_55, eX6_runs_57, eX6_runs_60, eX6_runs_61, eX6_runs_64, eX6_runs_65, eX6_runs_66, eX6_runs_67, eX6_runs_70, eX6_runs_73, eX6_runs_74, eX6_runs_75, eX6_runs_78, eX6_runs_79, eX6_runs_80, eX6_runs_83, eX6_runs_84, eX6_runs_85, eX6_runs_88, eX6_runs_89, eX6_runs_91, eX6_runs_94, eX6_runs_97, eX6_runs_98, eX6_runs_99, eX6_runs_100, eX6_runs_103, eX6_runs_104, eX6_runs_105, eX6_runs_106, eX6_runs_109, eX6_runs_110, eX6_runs_113, eX6_runs_114, eX6_runs_117, eX6_runs_118, eX6_runs_121, eX6_runs_122, eX6_runs_123, eX6_runs_124, eX6_runs_125, eX6_runs_126, eX6_runs_129, eX6_runs_130, eX6_runs_133, eX6_runs_134, eX6_runs_135, eX6_runs_136, eX6_runs_137, eX6_runs_138, eX6_runs_139, eX6_runs_142, eX6_runs_143, eX6_runs_144, eX6_runs_147, eX6_runs_148, eX6_runs_151, eX6_runs_152, eX6_runs_155, eX6_runs_156, eX6_runs_157, eX6_runs_158, eX6_runs_159, eX6_runs_160, eX6_runs_161, eX6_runs_163, eX6_runs_165, eX6_runs_166, eX6_runs_169, eX6_runs_170, eX6_runs_173, eX6_runs_175, eX6_runs_176, eX6_runs_177, eX6_runs_180, eX6_runs_181, eX6_runs_182, eX6_runs_185, eX6_runs_186, eX6_runs_187, eX6_runs_189, eX6_runs_190, eX6_runs_193, eX6_runs_194, eX6_runs_197, en_kl_0, en_kl_i, en_kl_r, en_kl_n, en_kl_l, en_Ec_some, en_Ec_void, en_rcv, en_stk, List.map_cons, List.map_nil, List.sum_cons, List.sum_nil, Value.category, Nat.reduceAdd, Nat.reduceLeDiff, decide_true, true_and, and_true, and_self, zI_add, zI_sub, zI_mul, zI_neg, zI_lt, zI_le, zI_eq, zI_cl, zI_0, zI_1, zI_m1, zI_lit, zT_0, zT_01, zI_01, zI_11, ↓reduceIte, if_true, if_false, not_false_eq_true, not_true_eq_false, Int.reduceEq, Int.reduceLT, Int.reduceLE, Classical.not_not, Bool.false_eq_true, fi_19, ft_19_0, ft_19_1, ft_19_2, ft_19_3, ft_19_5, ft_19_6, ft_19_7, ft_19_8, ft_19_12, ft_19_13, ft_19_14, ft_19_15, ft_19_16, ft_19_21, xi_20, xi_21, xi_22, xi_23, xi_24, xi_25, xi_26, xi_27, xi_28, xi_29, xi_30, xi_31, xi_32, xi_33, Int.toNat_natCast, Int.reduceToNat]
                  exact go
                · obtain ⟨R, hR⟩ : ∃ R : Nat, r = (R : Int) := ⟨r.toNat, by omega⟩
                  have eR : r.toNat = R := by omega
                  rw [eR] at p1
                  have hrR := hB' R
                  have x1 : ¬ (R : Int) = -1 := by omega
                  have x2 : life ≤ ntm t R := by omega
                  have x3 : u 32 R = zI (ntm t R) := by rw [u32]; exact n2 R (by omega)
                  rw [hR] at go ⊢
                  simp (disch := omega) only [eX6_runs_0, eX6_runs_1, eX6_runs_2, eX6_runs_3, eX6_runs_4, eX6_runs_7, eX6_runs_10, eX6_runs_11, eX6_runs_14, eX6_runs_15, eX6_runs_16, eX6_runs_17, eX6_runs_18, eX6_runs_21, eX6_runs_22, eX6_runs_23, eX6_runs_24, eX6_runs_27, eX6_runs_30, eX6_runs_31, eX6_runs_32, eX6_runs_33, eX6_runs_36, eX6_runs_39, eX6_runs_40, eX6_runs_43, eX6_runs_44, eX6_runs_45, eX6_runs_46, eX6_runs_49, eX6_runs_52, eX6_runs_53, eX6_runs_54, eX6_runs_55, eX6_runs_57, eX6_runs_60, eX6_runs_61, eX6_runs_64, eX6_runs_65, eX6_runs_66, eX6_runs_67, eX6_runs_70, eX6_runs_73, eX6_runs_74, eX6_runs_75, eX6_runs_78, eX6_runs_79, eX6_runs_80, eX6_runs_83, eX6_runs_84, eX6_runs_85, eX6_runs_88, eX6_runs_89, eX6_runs_91, eX6_runs_94, eX6_runs_97, eX6_runs_98, eX6_runs_99, eX6_runs_100, eX6_runs_103, eX6_runs_104, eX6_runs_105, eX6_runs_106, eX6_runs_109, eX6_runs_110, eX6_runs_113, eX6_runs_114, eX6_runs_117, eX6_runs_118, eX6_runs_121, eX6_runs_122, eX6_runs_123, eX6_runs_124, eX6_runs_125, eX6_runs_126, eX6_runs_129, eX6_runs_130, eX6_runs_133, eX6_runs_134, eX6_runs_135, eX6_runs_136, eX6_runs_137, eX6_runs_138, eX6_runs_139, eX6_runs_142, eX6_runs_143, eX6_runs_144, eX6_runs_147, eX6_runs_148, eX6_runs_151, eX6_runs_152, eX6_runs_155, eX6_runs_156, eX6_runs_157, eX6_runs_158, eX6_runs_159, eX6_runs_160, eX6_runs_161, eX6_runs_163, eX6_runs_165, eX6_runs_166, eX6_runs_169, eX6_runs_170, eX6_runs_173, eX6_runs_175, eX6_runs_176, eX6_runs_177, eX6_runs_180, eX6_runs_181, eX6_runs_182, eX6_runs_185, eX6_runs_186, eX6_runs_187, eX6_runs_189, eX6_runs_190, eX6_runs_193, eX6_runs_194, eX6_runs_197, en_kl_0, en_kl_i, en_kl_r, en_kl_n, en_kl_l, en_Ec_some, en_Ec_void, en_rcv, en_stk, List.map_cons, List.map_nil, List.sum_cons, List.sum_nil, Value.category, Nat.reduceAdd, Nat.reduceLeDiff, decide_true, true_and, and_true, and_self, zI_add, zI_sub, zI_mul, zI_neg, zI_lt, zI_le, zI_eq, zI_cl, zI_0, zI_1, zI_m1, zI_lit, zT_0, zT_01, zI_01, zI_11, ↓reduceIte, if_true, if_false, not_false_eq_true, not_true_eq_false, Int.reduceEq, Int.reduceLT, Int.reduceLE, Classical.not_not, Bool.false_eq_true, fi_19, ft_19_0, ft_19_1, ft_19_2, ft_19_3, ft_19_5, ft_19_6, ft_19_7, ft_19_8, ft_19_12, ft_19_13, ft_19_14, ft_19_15, ft_19_16, ft_19_21, xi_20, xi_21, xi_22, xi_23, xi_24, xi_25, xi_26, xi_27, xi_28, xi_29, xi_30, xi_31, xi_32, xi_33, Int.toNat_natCast, Int.reduceToNat, x1, x2, x3, u26]
                  exact go
            rw [eX6_runs_90]
            by_cases d1 : la = 1
            · by_cases d2 : c < 2
              · have er : r = -1 := by
                  rw [← hr]
                  unfold nrec nat1
                  rw [if_pos d1, if_neg (by omega)]
                have d3 : ¬ (2 : Int) ≤ (c : Int) := by omega
                rw [er] at tail
                subst d1
                simp (disch := omega) only [eX6_runs_0, eX6_runs_1, eX6_runs_2, eX6_runs_3, eX6_runs_4, eX6_runs_7, eX6_runs_10, eX6_runs_11, eX6_runs_14, eX6_runs_15, eX6_runs_16, eX6_runs_17, eX6_runs_18, eX6_runs_21, eX6_runs_22, eX6_runs_23, eX6_runs_24, eX6_runs_27, eX6_runs_30, eX6_runs_31, eX6_runs_32, eX6_runs_33, eX6_runs_36, eX6_runs_39, eX6_runs_40, eX6_runs_43, eX6_runs_44, eX6_runs_45, eX6_runs_46, eX6_runs_49, eX6_runs_52, eX6_runs_53, eX6_runs_54, eX6_runs_55, eX6_runs_57, eX6_runs_60, eX6_runs_61, eX6_runs_64, eX6_runs_65, eX6_runs_66, eX6_runs_67, eX6_runs_70, eX6_runs_73, eX6_runs_74, eX6_runs_75, eX6_runs_78, eX6_runs_79, eX6_runs_80, eX6_runs_83, eX6_runs_84, eX6_runs_85, eX6_runs_88, eX6_runs_89, eX6_runs_91, eX6_runs_94, eX6_runs_97, eX6_runs_98, eX6_runs_99, eX6_runs_100, eX6_runs_103, eX6_runs_104, eX6_runs_105, eX6_runs_106, eX6_runs_109, eX6_runs_110, eX6_runs_113, eX6_runs_114, eX6_runs_117, eX6_runs_118, eX6_runs_121, eX6_runs_122, eX6_runs_123, eX6_runs_124, eX6_runs_125, eX6_runs_126, eX6_runs_129, eX6_runs_130, eX6_runs_133, eX6_runs_134, eX6_runs_135, eX6_runs_136, eX6_runs_137, eX6_runs_138, eX6_runs_139, eX6_runs_142, eX6_runs_143, eX6_runs_144, eX6_runs_147, eX6_runs_148, eX6_runs_151, eX6_runs_152, eX6_runs_155, eX6_runs_156, eX6_runs_157, eX6_runs_158, eX6_runs_159, eX6_runs_160, eX6_runs_161, eX6_runs_165, eX6_runs_166, eX6_runs_169, eX6_runs_170, eX6_runs_173, eX6_runs_175, eX6_runs_176, eX6_runs_177, eX6_runs_180, eX6_runs_181, eX6_runs_182, eX6_runs_185, eX6_runs_186, eX6_runs_187, eX6_runs_189, eX6_runs_190, eX6_runs_193, eX6_runs_194, eX6_runs_197, en_kl_0, en_kl_i, en_kl_r, en_kl_n, en_kl_l, en_Ec_some, en_Ec_void, en_rcv, en_stk, List.map_cons, List.map_nil, List.sum_cons, List.sum_nil, Value.category, Nat.reduceAdd, Nat.reduceLeDiff, decide_true, true_and, and_true, and_self, zI_add, zI_sub, zI_mul, zI_neg, zI_lt, zI_le, zI_eq, zI_cl, zI_0, zI_1, zI_m1, zI_lit, zT_0, zT_01, zI_01, zI_11, ↓reduceIte, if_true, if_false, not_false_eq_true, not_true_eq_false, Int.reduceEq, Int.reduceLT, Int.reduceLE, Classical.not_not, Bool.false_eq_true, fi_19, ft_19_0, ft_19_1, ft_19_2, ft_19_3, ft_19_5, ft_19_6, ft_19_7, ft_19_8, ft_19_12, ft_19_13, ft_19_14, ft_19_15, ft_19_16, ft_19_21, xi_20, xi_21, xi_22, xi_23, xi_24, xi_25, xi_26, xi_27, xi_28, xi_29, xi_30, xi_31, xi_32, xi_33, Int.toNat_natCast, Int.reduceToNat, hch, c1, cge, d3, hu]
                exact tail
              · have er : r = cb (c - 2) := by
                  rw [← hr]
                  unfold nrec nat1
                  rw [if_pos d1, if_pos (by omega)]
                  congr 1
                  omega
                have d3 : (2 : Int) ≤ (c : Int) := by omega
                have x0 : (2 * (c : Int) - 3).toNat = 2 * (c - 2) + 1 := by omega
                have x1 : u 28 (2 * (c - 2) + 1) = zI r := by rw [er]; exact (uC.2.2 (c - 2) (by omega)).2.1
                subst d1
                simp (disch := omega) only [eX6_runs_0, eX6_runs_1, eX6_runs_2, eX6_runs_3, eX6_runs_4, eX6_runs_7, eX6_runs_10, eX6_runs_11, eX6_runs_14, eX6_runs_15, eX6_runs_16, eX6_runs_17, eX6_runs_18, eX6_runs_21, eX6_runs_22, eX6_runs_23, eX6_runs_24, eX6_runs_27, eX6_runs_30, eX6_runs_31, eX6_runs_32, eX6_runs_33, eX6_runs_36, eX6_runs_39, eX6_runs_40, eX6_runs_43, eX6_runs_44, eX6_runs_45, eX6_runs_46, eX6_runs_49, eX6_runs_52, eX6_runs_53, eX6_runs_54, eX6_runs_55, eX6_runs_57, eX6_runs_60, eX6_runs_61, eX6_runs_64, eX6_runs_65, eX6_runs_66, eX6_runs_67, eX6_runs_70, eX6_runs_73, eX6_runs_74, eX6_runs_75, eX6_runs_78, eX6_runs_79, eX6_runs_80, eX6_runs_83, eX6_runs_84, eX6_runs_85, eX6_runs_88, eX6_runs_89, eX6_runs_91, eX6_runs_94, eX6_runs_97, eX6_runs_98, eX6_runs_99, eX6_runs_100, eX6_runs_103, eX6_runs_104, eX6_runs_105, eX6_runs_106, eX6_runs_109, eX6_runs_110, eX6_runs_113, eX6_runs_114, eX6_runs_117, eX6_runs_118, eX6_runs_121, eX6_runs_122, eX6_runs_123, eX6_runs_124, eX6_runs_125, eX6_runs_126, eX6_runs_129, eX6_runs_130, eX6_runs_133, eX6_runs_134, eX6_runs_135, eX6_runs_136, eX6_runs_137, eX6_runs_138, eX6_runs_139, eX6_runs_142, eX6_runs_143, eX6_runs_144, eX6_runs_147, eX6_runs_148, eX6_runs_151, eX6_runs_152, eX6_runs_155, eX6_runs_156, eX6_runs_157, eX6_runs_158, eX6_runs_159, eX6_runs_160, eX6_runs_161, eX6_runs_165, eX6_runs_166, eX6_runs_169, eX6_runs_170, eX6_runs_173, eX6_runs_175, eX6_runs_176, eX6_runs_177, eX6_runs_180, eX6_runs_181, eX6_runs_182, eX6_runs_185, eX6_runs_186, eX6_runs_187, eX6_runs_189, eX6_runs_190, eX6_runs_193, eX6_runs_194, eX6_runs_197, en_kl_0, en_kl_i, en_kl_r, en_kl_n, en_kl_l, en_Ec_some, en_Ec_void, en_rcv, en_stk, List.map_cons, List.map_nil, List.sum_cons, List.sum_nil, Value.category, Nat.reduceAdd, Nat.reduceLeDiff, decide_true, true_and, and_true, and_self, zI_add, zI_sub, zI_mul, zI_neg, zI_lt, zI_le, zI_eq, zI_cl, zI_0, zI_1, zI_m1, zI_lit, zT_0, zT_01, zI_01, zI_11, ↓reduceIte, if_true, if_false, not_false_eq_true, not_true_eq_false, Int.reduceEq, Int.reduceLT, Int.reduceLE, Classical.not_not, Bool.false_eq_true, fi_19, ft_19_0, ft_19_1, ft_19_2, ft_19_3, ft_19_5, ft_19_6, ft_19_7, ft_19_8, ft_19_12, ft_19_13, ft_19_14, ft_19_15, ft_19_16, ft_19_21, xi_20, xi_21, xi_22, xi_23, xi_24, xi_25, xi_26, xi_27, xi_28, xi_29, xi_30, xi_31, xi_32, xi_33, Int.toNat_natCast, Int.reduceToNat, hch, c1, cge, d3, hu, x0, x1]
                exact tail
            · have er : r = cb c := by
                rw [← hr]
                unfold nrec nat1
                rw [if_neg d1, if_pos (by omega), Int.toNat_natCast]
              have x0 : (2 * (c : Int) + 1).toNat = 2 * c + 1 := by omega
              have x1 : u 28 (2 * c + 1) = zI r := by rw [er]; exact (uC.2.2 c cn).2.1
              simp (disch := omega) only [eX6_runs_0, eX6_runs_1, eX6_runs_2, eX6_runs_3, eX6_runs_4, eX6_runs_7, eX6_runs_10, eX6_runs_11, eX6_runs_14, eX6_runs_15, eX6_runs_16, eX6_runs_17, eX6_runs_18, eX6_runs_21, eX6_runs_22, eX6_runs_23, eX6_runs_24, eX6_runs_27, eX6_runs_30, eX6_runs_31, eX6_runs_32, eX6_runs_33, eX6_runs_36, eX6_runs_39, eX6_runs_40, eX6_runs_43, eX6_runs_44, eX6_runs_45, eX6_runs_46, eX6_runs_49, eX6_runs_52, eX6_runs_53, eX6_runs_54, eX6_runs_55, eX6_runs_57, eX6_runs_60, eX6_runs_61, eX6_runs_64, eX6_runs_65, eX6_runs_66, eX6_runs_67, eX6_runs_70, eX6_runs_73, eX6_runs_74, eX6_runs_75, eX6_runs_78, eX6_runs_79, eX6_runs_80, eX6_runs_83, eX6_runs_84, eX6_runs_85, eX6_runs_88, eX6_runs_89, eX6_runs_91, eX6_runs_94, eX6_runs_97, eX6_runs_98, eX6_runs_99, eX6_runs_100, eX6_runs_103, eX6_runs_104, eX6_runs_105, eX6_runs_106, eX6_runs_109, eX6_runs_110, eX6_runs_113, eX6_runs_114, eX6_runs_117, eX6_runs_118, eX6_runs_121, eX6_runs_122, eX6_runs_123, eX6_runs_124, eX6_runs_125, eX6_runs_126, eX6_runs_129, eX6_runs_130, eX6_runs_133, eX6_runs_134, eX6_runs_135, eX6_runs_136, eX6_runs_137, eX6_runs_138, eX6_runs_139, eX6_runs_142, eX6_runs_143, eX6_runs_144, eX6_runs_147, eX6_runs_148, eX6_runs_151, eX6_runs_152, eX6_runs_155, eX6_runs_156, eX6_runs_157, eX6_runs_158, eX6_runs_159, eX6_runs_160, eX6_runs_161, eX6_runs_165, eX6_runs_166, eX6_runs_169, eX6_runs_170, eX6_runs_173, eX6_runs_175, eX6_runs_176, eX6_runs_177, eX6_runs_180, eX6_runs_181, eX6_runs_182, eX6_runs_185, eX6_runs_186, eX6_runs_187, eX6_runs_189, eX6_runs_190, eX6_runs_193, eX6_runs_194, eX6_runs_197, en_kl_0, en_kl_i, en_kl_r, en_kl_n, en_kl_l, en_Ec_some, en_Ec_void, en_rcv, en_stk, List.map_cons, List.map_nil, List.sum_cons, List.sum_nil, Value.category, Nat.reduceAdd, Nat.reduceLeDiff, decide_true, true_and, and_true, and_self, zI_add, zI_sub, zI_mul, zI_neg, zI_lt, zI_le, zI_eq, zI_cl, zI_0, zI_1, zI_m1, zI_lit, zT_0, zT_01, zI_01, zI_11, ↓reduceIte, if_true, if_false, not_false_eq_true, not_true_eq_false, Int.reduceEq, Int.reduceLT, Int.reduceLE, Classical.not_not, Bool.false_eq_true, fi_19, ft_19_0, ft_19_1, ft_19_2, ft_19_3, ft_19_5, ft_19_6, ft_19_7, ft_19_8, ft_19_12, ft_19_13, ft_19_14, ft_19_15, ft_19_16, ft_19_21, xi_20, xi_21, xi_22, xi_23, xi_24, xi_25, xi_26, xi_27, xi_28, xi_29, xi_30, xi_31, xi_32, xi_33, Int.toNat_natCast, Int.reduceToNat, hch, c1, cge, d1, hu, x0, x1]
              exact tail
          by_cases c2 : cm a ≤ m
          · exact core m l3 l4 m0 (by omega) c2 hg hT'
          · have hwf := (wf_nfl (m := m) (ch := nch t) hs).2 (fun b hb1 hb2 => by
              have : b = a := by omega
              subst this
              omega)
            have hch := r_chooses (m := m) (law := la) (hC.nf hf) hK m0 (by omega) l1 l2
            rw [hwf, if_pos rfl] at hch
            have hnx := r_nextCoin (hC.nf hf) hK
            have enx : nnx cm (nch t) n = cm a := by
              unfold nnx
              rw [a2, if_neg (by omega), Int.toNat_natCast]
            rw [enx] at hnx
            have b1 := hcm a a1
            rw [eX6_runs_90]
            simp (disch := omega) only [eX6_runs_0, eX6_runs_1, eX6_runs_2, eX6_runs_3, eX6_runs_4, eX6_runs_7, eX6_runs_10, eX6_runs_11, eX6_runs_14, eX6_runs_15, eX6_runs_16, eX6_runs_17, eX6_runs_18, eX6_runs_21, eX6_runs_22, eX6_runs_23, eX6_runs_24, eX6_runs_27, eX6_runs_30, eX6_runs_31, eX6_runs_32, eX6_runs_33, eX6_runs_36, eX6_runs_39, eX6_runs_40, eX6_runs_43, eX6_runs_44, eX6_runs_45, eX6_runs_46, eX6_runs_49, eX6_runs_52, eX6_runs_53, eX6_runs_54, eX6_runs_55, eX6_runs_57, eX6_runs_60, eX6_runs_61, eX6_runs_64, eX6_runs_65, eX6_runs_66, eX6_runs_67, eX6_runs_70, eX6_runs_73, eX6_runs_74, eX6_runs_75, eX6_runs_78, eX6_runs_79, eX6_runs_80, eX6_runs_83, eX6_runs_84, eX6_runs_85, eX6_runs_88, eX6_runs_89, eX6_runs_91, eX6_runs_94, eX6_runs_97, eX6_runs_98, eX6_runs_99, eX6_runs_100, eX6_runs_103, eX6_runs_104, eX6_runs_105, eX6_runs_106, eX6_runs_109, eX6_runs_110, eX6_runs_113, eX6_runs_114, eX6_runs_117, eX6_runs_118, eX6_runs_121, eX6_runs_122, eX6_runs_123, eX6_runs_124, eX6_runs_125, eX6_runs_126, eX6_runs_129, eX6_runs_130, eX6_runs_133, eX6_runs_134, eX6_runs_135, eX6_runs_136, eX6_runs_137, eX6_runs_138, eX6_runs_139, eX6_runs_142, eX6_runs_143, eX6_runs_144, eX6_runs_147, eX6_runs_148, eX6_runs_151, eX6_runs_152, eX6_runs_155, eX6_runs_156, eX6_runs_157, eX6_runs_158, eX6_runs_159, eX6_runs_160, eX6_runs_161, eX6_runs_163, eX6_runs_165, eX6_runs_166, eX6_runs_169, eX6_runs_170, eX6_runs_173, eX6_runs_175, eX6_runs_176, eX6_runs_177, eX6_runs_180, eX6_runs_181, eX6_runs_182, eX6_runs_185, eX6_runs_186, eX6_runs_187, eX6_runs_189, eX6_runs_190, eX6_runs_193, eX6_runs_194, eX6_runs_197, en_kl_0, en_kl_i, en_kl_r, en_kl_n, en_kl_l, en_Ec_some, en_Ec_void, en_rcv, en_stk, List.map_cons, List.map_nil, List.sum_cons, List.sum_nil, Value.category, Nat.reduceAdd, Nat.reduceLeDiff, decide_true, true_and, and_true, and_self, zI_add, zI_sub, zI_mul, zI_neg, zI_lt, zI_le, zI_eq, zI_cl, zI_0, zI_1, zI_m1, zI_lit, zT_0, zT_01, zI_01, zI_11, ↓reduceIte, if_true, if_false, not_false_eq_true, not_true_eq_false, Int.reduceEq, Int.reduceLT, Int.reduceLE, Classical.not_not, Bool.false_eq_true, fi_19, ft_19_0, ft_19_1, ft_19_2, ft_19_3, ft_19_5, ft_19_6, ft_19_7, ft_19_8, ft_19_12, ft_19_13, ft_19_14, ft_19_15, ft_19_16, ft_19_21, xi_20, xi_21, xi_22, xi_23, xi_24, xi_25, xi_26, xi_27, xi_28, xi_29, xi_30, xi_31, xi_32, xi_33, Int.toNat_natCast, Int.reduceToNat, hch, hnx, c1]
            refine core (cm a) _ _ b1.1 (by omega) (Int.le_refl _) (nG_mono hg (by omega)) ?_
            show (nit la n cm cb len life k (nst la n cm cb len life (t, cm a))).1 = T
            rw [← nst_up (m := m) a2 a1 (by omega)]
            exact hT'
  -- the rows that are made empty first
  have start : ∀ v : en_W, nfr w v → (∀ i, i < n → v 29 i = zI (-1) ∧ v 30 i = zI (-1)) → (∀ h, h < 200 → v 31 h = zI (-1)) → (∀ r, r < 10 → v 32 r = zI 0) → ∀ l2 : Option Value, en_Ev XX6_runs 73 [some (.ref 19), some (.int (zI la)), l2, none, none] [] v P := by
    intro v hf h1 h2 h3 l2
    simp (disch := omega) only [eX6_runs_0, eX6_runs_1, eX6_runs_2, eX6_runs_3, eX6_runs_4, eX6_runs_7, eX6_runs_10, eX6_runs_11, eX6_runs_14, eX6_runs_15, eX6_runs_16, eX6_runs_17, eX6_runs_18, eX6_runs_21, eX6_runs_22, eX6_runs_23, eX6_runs_24, eX6_runs_27, eX6_runs_30, eX6_runs_31, eX6_runs_32, eX6_runs_33, eX6_runs_36, eX6_runs_39, eX6_runs_40, eX6_runs_43, eX6_runs_44, eX6_runs_45, eX6_runs_46, eX6_runs_49, eX6_runs_52, eX6_runs_53, eX6_runs_54, eX6_runs_55, eX6_runs_57, eX6_runs_60, eX6_runs_61, eX6_runs_64, eX6_runs_65, eX6_runs_66, eX6_runs_67, eX6_runs_70, eX6_runs_73, eX6_runs_74, eX6_runs_75, eX6_runs_78, eX6_runs_79, eX6_runs_80, eX6_runs_83, eX6_runs_84, eX6_runs_85, eX6_runs_88, eX6_runs_89, eX6_runs_91, eX6_runs_94, eX6_runs_97, eX6_runs_98, eX6_runs_99, eX6_runs_100, eX6_runs_103, eX6_runs_104, eX6_runs_105, eX6_runs_106, eX6_runs_109, eX6_runs_110, eX6_runs_113, eX6_runs_114, eX6_runs_117, eX6_runs_118, eX6_runs_121, eX6_runs_122, eX6_runs_123, eX6_runs_124, eX6_runs_125, eX6_runs_126, eX6_runs_129, eX6_runs_130, eX6_runs_133, eX6_runs_134, eX6_runs_135, eX6_runs_136, eX6_runs_137, eX6_runs_138, eX6_runs_139, eX6_runs_142, eX6_runs_143, eX6_runs_144, eX6_runs_147, eX6_runs_148, eX6_runs_151, eX6_runs_152, eX6_runs_155, eX6_runs_156, eX6_runs_157, eX6_runs_158, eX6_runs_159, eX6_runs_160, eX6_runs_161, eX6_runs_163, eX6_runs_165, eX6_runs_166, eX6_runs_169, eX6_runs_170, eX6_runs_173, eX6_runs_175, eX6_runs_176, eX6_runs_177, eX6_runs_180, eX6_runs_181, eX6_runs_182, eX6_runs_185, eX6_runs_186, eX6_runs_187, eX6_runs_189, eX6_runs_190, eX6_runs_193, eX6_runs_194, eX6_runs_197, en_kl_0, en_kl_i, en_kl_r, en_kl_n, en_kl_l, en_Ec_some, en_Ec_void, en_rcv, en_stk, List.map_cons, List.map_nil, List.sum_cons, List.sum_nil, Value.category, Nat.reduceAdd, Nat.reduceLeDiff, decide_true, true_and, and_true, and_self, zI_add, zI_sub, zI_mul, zI_neg, zI_lt, zI_le, zI_eq, zI_cl, zI_0, zI_1, zI_m1, zI_lit, zT_0, zT_01, zI_01, zI_11, ↓reduceIte, if_true, if_false, not_false_eq_true, not_true_eq_false, Int.reduceEq, Int.reduceLT, Int.reduceLE, Classical.not_not, Bool.false_eq_true, fi_19, ft_19_0, ft_19_1, ft_19_2, ft_19_3, ft_19_5, ft_19_6, ft_19_7, ft_19_8, ft_19_12, ft_19_13, ft_19_14, ft_19_15, ft_19_16, ft_19_21, xi_20, xi_21, xi_22, xi_23, xi_24, xi_25, xi_26, xi_27, xi_28, xi_29, xi_30, xi_31, xi_32, xi_33, Int.toNat_natCast, Int.reduceToNat]
    refine loop n _ nt0 0 none none (nlf_all n (fun j _ => rfl)).symm ⟨fun i hi => ?_, fun r hr => ?_, ?_, ?_, ?_, fun h hh => ?_⟩ (by rw [Nat.sub_self]; exact nB_0) nG_0 (by omega) (by omega) (((hf.up (.inl rfl)).up (.inr (.inl rfl))).up (.inr (.inr rfl))) hT
    · rw [en_up_ne (by decide), en_up_ne (by decide), en_up_ne (by decide), en_up_ne (by decide), en_up_ne (by decide), en_up_ne (by decide)]
      exact h1 i hi
    · rw [en_up_ne (by decide), en_up_ne (by decide), en_up_ne (by decide)]
      exact h3 r hr
    · rw [en_up_eq, upd_ne (by decide), en_up_eq, upd_ne (by decide), en_up_eq, upd_eq]; rfl
    · rw [en_up_eq, upd_ne (by decide), en_up_eq, upd_eq]; rfl
    · rw [en_up_eq, upd_eq]; rfl
    · rw [en_up_ne (by decide), en_up_ne (by decide), en_up_ne (by decide), h2 h hh, npi_none n 0 (fun j _ _ z => absurd z.1 (by show ¬ (0 : Int) ≤ -1; omega))]
  have loopC : ∀ (d i : Nat) (v : en_W), i + d = 10 → nfr w v → (∀ i, i < n → v 29 i = zI (-1) ∧ v 30 i = zI (-1)) → (∀ h, h < 200 → v 31 h = zI (-1)) → (∀ r, r < i → v 32 r = zI 0) → en_Ev XX6_runs 54 [some (.ref 19), some (.int (zI la)), some (.int (zI i)), none, none] [] v P := by
    intro d
    induction d with
    | zero =>
      intro i v hi hf h1 h2 h3
      have x1 : (10 : Int) ≤ (i : Int) := by omega
      rw [eX6_runs_54]
      simp (disch := omega) only [eX6_runs_55, eX6_runs_57, en_kl_0, en_kl_i, en_kl_r, en_kl_n, en_kl_l, en_Ec_some, en_Ec_void, en_rcv, en_stk, List.map_cons, List.map_nil, List.sum_cons, List.sum_nil, Value.category, Nat.reduceAdd, Nat.reduceLeDiff, decide_true, true_and, and_true, and_self, zI_add, zI_sub, zI_mul, zI_neg, zI_lt, zI_le, zI_eq, zI_cl, zI_0, zI_1, zI_m1, zI_lit, zT_0, zT_01, zI_01, zI_11, ↓reduceIte, if_true, if_false, not_false_eq_true, not_true_eq_false, Int.reduceEq, Int.reduceLT, Int.reduceLE, Classical.not_not, Bool.false_eq_true, x1]
      exact start v hf h1 h2 (fun r hr => h3 r (by omega)) _
    | succ d ih =>
      intro i v hi hf h1 h2 h3
      have x1 : ¬ (10 : Int) ≤ (i : Int) := by omega
      rw [eX6_runs_54]
      simp (disch := omega) only [eX6_runs_0, eX6_runs_1, eX6_runs_2, eX6_runs_3, eX6_runs_4, eX6_runs_7, eX6_runs_10, eX6_runs_11, eX6_runs_14, eX6_runs_15, eX6_runs_16, eX6_runs_17, eX6_runs_18, eX6_runs_21, eX6_runs_22, eX6_runs_23, eX6_runs_24, eX6_runs_27, eX6_runs_30, eX6_runs_31, eX6_runs_32, eX6_runs_33, eX6_runs_36, eX6_runs_39, eX6_runs_40, eX6_runs_43, eX6_runs_44, eX6_runs_45, eX6_runs_46, eX6_runs_49, eX6_runs_52, eX6_runs_53, eX6_runs_55, eX6_runs_57, eX6_runs_60, eX6_runs_61, eX6_runs_64, eX6_runs_65, eX6_runs_66, eX6_runs_67, eX6_runs_70, eX6_runs_74, eX6_runs_75, eX6_runs_78, eX6_runs_79, eX6_runs_80, eX6_runs_83, eX6_runs_84, eX6_runs_85, eX6_runs_88, eX6_runs_89, eX6_runs_90, eX6_runs_91, eX6_runs_94, eX6_runs_97, eX6_runs_98, eX6_runs_99, eX6_runs_100, eX6_runs_103, eX6_runs_104, eX6_runs_105, eX6_runs_106, eX6_runs_109, eX6_runs_110, eX6_runs_113, eX6_runs_114, eX6_runs_117, eX6_runs_118, eX6_runs_121, eX6_runs_122, eX6_runs_123, eX6_runs_124, eX6_runs_125, eX6_runs_126, eX6_runs_129, eX6_runs_130, eX6_runs_133, eX6_runs_134, eX6_runs_135, eX6_runs_136, eX6_runs_137, eX6_runs_138, eX6_runs_139, eX6_runs_142, eX6_runs_143, eX6_runs_144, eX6_runs_147, eX6_runs_148, eX6_runs_151, eX6_runs_152, eX6_runs_155, eX6_runs_156, eX6_runs_157, eX6_runs_158, eX6_runs_159, eX6_runs_160, eX6_runs_161, eX6_runs_163, eX6_runs_165, eX6_runs_166, eX6_runs_169, eX6_runs_170, eX6_runs_173, eX6_runs_175, eX6_runs_176, eX6_runs_177, eX6_runs_180, eX6_runs_181, eX6_runs_182, eX6_runs_185, eX6_runs_186, eX6_runs_187, eX6_runs_189, eX6_runs_190, eX6_runs_193, eX6_runs_194, eX6_runs_197, en_kl_0, en_kl_i, en_kl_r, en_kl_n, en_kl_l, en_Ec_some, en_Ec_void, en_rcv, en_stk, List.map_cons, List.map_nil, List.sum_cons, List.sum_nil, Value.category, Nat.reduceAdd, Nat.reduceLeDiff, decide_true, true_and, and_true, and_self, zI_add, zI_sub, zI_mul, zI_neg, zI_lt, zI_le, zI_eq, zI_cl, zI_0, zI_1, zI_m1, zI_lit, zT_0, zT_01, zI_01, zI_11, ↓reduceIte, if_true, if_false, not_false_eq_true, not_true_eq_false, Int.reduceEq, Int.reduceLT, Int.reduceLE, Classical.not_not, Bool.false_eq_true, fi_19, ft_19_0, ft_19_1, ft_19_2, ft_19_3, ft_19_5, ft_19_6, ft_19_7, ft_19_8, ft_19_12, ft_19_13, ft_19_14, ft_19_15, ft_19_16, ft_19_21, xi_20, xi_21, xi_22, xi_23, xi_24, xi_25, xi_26, xi_27, xi_28, xi_29, xi_30, xi_31, xi_32, xi_33, Int.toNat_natCast, Int.reduceToNat, x1]
      refine ih (i + 1) _ (by omega) (hf.upk (by simp)) (fun j hj => ?_) (fun h hh => ?_) (fun r hr => ?_)
      · rw [en_up_ne (by decide), en_up_ne (by decide)]; exact h1 j hj
      · rw [en_up_ne (by decide)]; exact h2 h hh
      · rw [en_up_eq]
        by_cases e : r = i
        · rw [e, upd_eq]
        · rw [upd_ne e]; exact h3 r (by omega)
  have loopB : ∀ (d i : Nat) (v : en_W), i + d = 200 → nfr w v → (∀ i, i < n → v 29 i = zI (-1) ∧ v 30 i = zI (-1)) → (∀ h, h < i → v 31 h = zI (-1)) → en_Ev XX6_runs 32 [some (.ref 19), some (.int (zI la)), some (.int (zI i)), none, none] [] v P := by
    intro d
    induction d with
    | zero =>
      intro i v hi hf h1 h2
      have x1 : (200 : Int) ≤ (i : Int) := by omega
      rw [eX6_runs_32]
      simp (disch := omega) only [eX6_runs_33, eX6_runs_36, eX6_runs_52, eX6_runs_53, en_kl_0, en_kl_i, en_kl_r, en_kl_n, en_kl_l, en_Ec_some, en_Ec_void, en_rcv, en_stk, List.map_cons, List.map_nil, List.sum_cons, List.sum_nil, Value.category, Nat.reduceAdd, Nat.reduceLeDiff, decide_true, true_and, and_true, and_self, zI_add, zI_sub, zI_mul, zI_neg, zI_lt, zI_le, zI_eq, zI_cl, zI_0, zI_1, zI_m1, zI_lit, zT_0, zT_01, zI_01, zI_11, ↓reduceIte, if_true, if_false, not_false_eq_true, not_true_eq_false, Int.reduceEq, Int.reduceLT, Int.reduceLE, Classical.not_not, Bool.false_eq_true, x1]
      exact loopC 10 0 v (by omega) hf h1 (fun r hr => h2 r (by omega)) (fun r hr => absurd hr (Nat.not_lt_zero r))
    | succ d ih =>
      intro i v hi hf h1 h2
      have x1 : ¬ (200 : Int) ≤ (i : Int) := by omega
      rw [eX6_runs_32]
      simp (disch := omega) only [eX6_runs_0, eX6_runs_1, eX6_runs_2, eX6_runs_3, eX6_runs_4, eX6_runs_7, eX6_runs_10, eX6_runs_11, eX6_runs_14, eX6_runs_15, eX6_runs_16, eX6_runs_17, eX6_runs_18, eX6_runs_21, eX6_runs_22, eX6_runs_23, eX6_runs_24, eX6_runs_27, eX6_runs_30, eX6_runs_31, eX6_runs_33, eX6_runs_36, eX6_runs_39, eX6_runs_40, eX6_runs_43, eX6_runs_44, eX6_runs_45, eX6_runs_46, eX6_runs_49, eX6_runs_53, eX6_runs_54, eX6_runs_55, eX6_runs_57, eX6_runs_60, eX6_runs_61, eX6_runs_64, eX6_runs_65, eX6_runs_66, eX6_runs_67, eX6_runs_70, eX6_runs_73, eX6_runs_74, eX6_runs_75, eX6_runs_78, eX6_runs_79, eX6_runs_80, eX6_runs_83, eX6_runs_84, eX6_runs_85, eX6_runs_88, eX6_runs_89, eX6_runs_90, eX6_runs_91, eX6_runs_94, eX6_runs_97, eX6_runs_98, eX6_runs_99, eX6_runs_100, eX6_runs_103, eX6_runs_104, eX6_runs_105, eX6_runs_106, eX6_runs_109, eX6_runs_110, eX6_runs_113, eX6_runs_114, eX6_runs_117, eX6_runs_118, eX6_runs_121, eX6_runs_122, eX6_runs_123, eX6_runs_124, eX6_runs_125, eX6_runs_126, eX6_runs_129, eX6_runs_130, eX6_runs_133, eX6_runs_134, eX6_runs_135, eX6_runs_136, eX6_runs_137, eX6_runs_138, eX6_runs_139, eX6_runs_142, eX6_runs_143, eX6_runs_144, eX6_runs_147, eX6_runs_148, eX6_runs_151, eX6_runs_152, eX6_runs_155, eX6_runs_156, eX6_runs_157, eX6_runs_158, eX6_runs_159, eX6_runs_160, eX6_runs_161, eX6_runs_163, eX6_runs_165, eX6_runs_166, eX6_runs_169, eX6_runs_170, eX6_runs_173, eX6_runs_175, eX6_runs_176, eX6_runs_177, eX6_runs_180, eX6_runs_181, eX6_runs_182, eX6_runs_185, eX6_runs_186, eX6_runs_187, eX6_runs_189, eX6_runs_190, eX6_runs_193, eX6_runs_194, eX6_runs_197, en_kl_0, en_kl_i, en_kl_r, en_kl_n, en_kl_l, en_Ec_some, en_Ec_void, en_rcv, en_stk, List.map_cons, List.map_nil, List.sum_cons, List.sum_nil, Value.category, Nat.reduceAdd, Nat.reduceLeDiff, decide_true, true_and, and_true, and_self, zI_add, zI_sub, zI_mul, zI_neg, zI_lt, zI_le, zI_eq, zI_cl, zI_0, zI_1, zI_m1, zI_lit, zT_0, zT_01, zI_01, zI_11, ↓reduceIte, if_true, if_false, not_false_eq_true, not_true_eq_false, Int.reduceEq, Int.reduceLT, Int.reduceLE, Classical.not_not, Bool.false_eq_true, fi_19, ft_19_0, ft_19_1, ft_19_2, ft_19_3, ft_19_5, ft_19_6, ft_19_7, ft_19_8, ft_19_12, ft_19_13, ft_19_14, ft_19_15, ft_19_16, ft_19_21, xi_20, xi_21, xi_22, xi_23, xi_24, xi_25, xi_26, xi_27, xi_28, xi_29, xi_30, xi_31, xi_32, xi_33, Int.toNat_natCast, Int.reduceToNat, x1]
      refine ih (i + 1) _ (by omega) (hf.upk (by simp)) (fun j hj => ?_) (fun r hr => ?_)
      · rw [en_up_ne (by decide), en_up_ne (by decide)]; exact h1 j hj
      · rw [en_up_eq]
        by_cases e : r = i
        · rw [e, upd_eq]
        · rw [upd_ne e]; exact h2 r (by omega)
  have loopA : ∀ (d i : Nat) (v : en_W), i + d = n → nfr w v → (∀ j, j < i → v 29 j = zI (-1) ∧ v 30 j = zI (-1)) → en_Ev XX6_runs 2 [some (.ref 19), some (.int (zI la)), some (.int (zI i)), none, none] [] v P := by
    intro d
    induction d with
    | zero =>
      intro i v hi hf h1
      have x1 : (n : Int) ≤ (i : Int) := by omega
      have v11 : v 19 11 = zI n := (hC.nf hf).1
      rw [eX6_runs_2]
      simp (disch := omega) only [eX6_runs_3, eX6_runs_4, eX6_runs_7, eX6_runs_30, eX6_runs_31, en_kl_0, en_kl_i, en_kl_r, en_kl_n, en_kl_l, en_Ec_some, en_Ec_void, en_rcv, en_stk, List.map_cons, List.map_nil, List.sum_cons, List.sum_nil, Value.category, Nat.reduceAdd, Nat.reduceLeDiff, decide_true, true_and, and_true, and_self, zI_add, zI_sub, zI_mul, zI_neg, zI_lt, zI_le, zI_eq, zI_cl, zI_0, zI_1, zI_m1, zI_lit, zT_0, zT_01, zI_01, zI_11, ↓reduceIte, if_true, if_false, not_false_eq_true, not_true_eq_false, Int.reduceEq, Int.reduceLT, Int.reduceLE, Classical.not_not, Bool.false_eq_true, fi_19, ft_19_0, ft_19_1, ft_19_2, ft_19_3, ft_19_5, ft_19_6, ft_19_7, ft_19_8, ft_19_12, ft_19_13, ft_19_14, ft_19_15, ft_19_16, ft_19_21, xi_20, xi_21, xi_22, xi_23, xi_24, xi_25, xi_26, xi_27, xi_28, xi_29, xi_30, xi_31, xi_32, xi_33, Int.toNat_natCast, Int.reduceToNat, v11, x1]
      exact loopB 200 0 v (by omega) hf (fun j hj => h1 j (by omega)) (fun r hr => absurd hr (Nat.not_lt_zero r))
    | succ d ih =>
      intro i v hi hf h1
      have x1 : ¬ (n : Int) ≤ (i : Int) := by omega
      have v11 : v 19 11 = zI n := (hC.nf hf).1
      rw [eX6_runs_2]
      simp (disch := omega) only [eX6_runs_0, eX6_runs_1, eX6_runs_3, eX6_runs_4, eX6_runs_7, eX6_runs_10, eX6_runs_11, eX6_runs_14, eX6_runs_15, eX6_runs_16, eX6_runs_17, eX6_runs_18, eX6_runs_21, eX6_runs_22, eX6_runs_23, eX6_runs_24, eX6_runs_27, eX6_runs_31, eX6_runs_32, eX6_runs_33, eX6_runs_36, eX6_runs_39, eX6_runs_40, eX6_runs_43, eX6_runs_44, eX6_runs_45, eX6_runs_46, eX6_runs_49, eX6_runs_52, eX6_runs_53, eX6_runs_54, eX6_runs_55, eX6_runs_57, eX6_runs_60, eX6_runs_61, eX6_runs_64, eX6_runs_65, eX6_runs_66, eX6_runs_67, eX6_runs_70, eX6_runs_73, eX6_runs_74, eX6_runs_75, eX6_runs_78, eX6_runs_79, eX6_runs_80, eX6_runs_83, eX6_runs_84, eX6_runs_85, eX6_runs_88, eX6_runs_89, eX6_runs_90, eX6_runs_91, eX6_runs_94, eX6_runs_97, eX6_runs_98, eX6_runs_99, eX6_runs_100, eX6_runs_103, eX6_runs_104, eX6_runs_105, eX6_runs_106, eX6_runs_109, eX6_runs_110, eX6_runs_113, eX6_runs_114, eX6_runs_117, eX6_runs_118, eX6_runs_121, eX6_runs_122, eX6_runs_123, eX6_runs_124, eX6_runs_125, eX6_runs_126, eX6_runs_129, eX6_runs_130, eX6_runs_133, eX6_runs_134, eX6_runs_135, eX6_runs_136, eX6_runs_137, eX6_runs_138, eX6_runs_139, eX6_runs_142, eX6_runs_143, eX6_runs_144, eX6_runs_147, eX6_runs_148, eX6_runs_151, eX6_runs_152, eX6_runs_155, eX6_runs_156, eX6_runs_157, eX6_runs_158, eX6_runs_159, eX6_runs_160, eX6_runs_161, eX6_runs_163, eX6_runs_165, eX6_runs_166, eX6_runs_169, eX6_runs_170, eX6_runs_173, eX6_runs_175, eX6_runs_176, eX6_runs_177, eX6_runs_180, eX6_runs_181, eX6_runs_182, eX6_runs_185, eX6_runs_186, eX6_runs_187, eX6_runs_189, eX6_runs_190, eX6_runs_193, eX6_runs_194, eX6_runs_197, en_kl_0, en_kl_i, en_kl_r, en_kl_n, en_kl_l, en_Ec_some, en_Ec_void, en_rcv, en_stk, List.map_cons, List.map_nil, List.sum_cons, List.sum_nil, Value.category, Nat.reduceAdd, Nat.reduceLeDiff, decide_true, true_and, and_true, and_self, zI_add, zI_sub, zI_mul, zI_neg, zI_lt, zI_le, zI_eq, zI_cl, zI_0, zI_1, zI_m1, zI_lit, zT_0, zT_01, zI_01, zI_11, ↓reduceIte, if_true, if_false, not_false_eq_true, not_true_eq_false, Int.reduceEq, Int.reduceLT, Int.reduceLE, Classical.not_not, Bool.false_eq_true, fi_19, ft_19_0, ft_19_1, ft_19_2, ft_19_3, ft_19_5, ft_19_6, ft_19_7, ft_19_8, ft_19_12, ft_19_13, ft_19_14, ft_19_15, ft_19_16, ft_19_21, xi_20, xi_21, xi_22, xi_23, xi_24, xi_25, xi_26, xi_27, xi_28, xi_29, xi_30, xi_31, xi_32, xi_33, Int.toNat_natCast, Int.reduceToNat, v11, x1]
      refine ih (i + 1) _ (by omega) ((hf.upk (by simp)).upk (by simp)) (fun j hj => ?_)
      rw [en_up_ne (by decide), en_up_eq, en_up_eq, en_up_ne (by decide)]
      by_cases e : j = i
      · rw [e, upd_eq, upd_eq]; exact ⟨rfl, rfl⟩
      · rw [upd_ne e, upd_ne e]; exact h1 j (by omega)
  simp (disch := omega) only [eX6_runs_0, eX6_runs_1, en_kl_0, en_kl_i, en_kl_r, en_kl_n, en_kl_l, en_Ec_some, en_Ec_void, en_rcv, en_stk, List.map_cons, List.map_nil, List.sum_cons, List.sum_nil, Value.category, Nat.reduceAdd, Nat.reduceLeDiff, decide_true, true_and, and_true, and_self, zI_add, zI_sub, zI_mul, zI_neg, zI_lt, zI_le, zI_eq, zI_cl, zI_0, zI_1, zI_m1, zI_lit, zT_0, zT_01, zI_01, zI_11, ↓reduceIte, if_true, if_false, not_false_eq_true, not_true_eq_false, Int.reduceEq, Int.reduceLT, Int.reduceLE, Classical.not_not, Bool.false_eq_true]
  exact loopA n 0 w (by omega) nfr.rf (fun j hj => absurd hj (Nat.not_lt_zero j))
theorem r_nightNow (hG : bG w G s) (hP : bP w kick law life pat) (hC : mC w n cm cb) (hs : srt n cm) : ∃ w', SX6_nightNow [.ref 19] w = some (none, w') ∧ (mN w' n (ml G s kick) (nnight law n cm cb (ml G s kick) life) ∧ nF n (nnight law n cm cb (ml G s kick) life) ∧ nfr w w') := by
  obtain ⟨w1, e1, h1⟩ := r_runs (la := law) hG hP hC hs hP.2.1.2.1 hP.2.1.2.2
  have hl := hP.2.1.1
  refine ⟨w1, en_val rfl (fun Q hQ => ?_), h1⟩
  show en_Ev XX6_nightNow 0 [some (.ref 19)] [] w Q
  simp (disch := omega) only [eX6_nightNow_0, eX6_nightNow_1, eX6_nightNow_2, eX6_nightNow_5, eX6_nightNow_6, eX6_nightNow_7, eX6_nightNow_10, en_kl_0, en_kl_i, en_kl_r, en_kl_n, en_kl_l, en_Ec_some, en_Ec_void, en_rcv, en_stk, List.map_cons, List.map_nil, List.sum_cons, List.sum_nil, Value.category, Nat.reduceAdd, Nat.reduceLeDiff, decide_true, true_and, and_true, and_self, zI_add, zI_sub, zI_mul, zI_neg, zI_lt, zI_le, zI_eq, zI_cl, zI_0, zI_1, zI_m1, zI_lit, zT_0, zT_01, zI_01, zI_11, ↓reduceIte, if_true, if_false, not_false_eq_true, not_true_eq_false, Int.reduceEq, Int.reduceLT, Int.reduceLE, Classical.not_not, Bool.false_eq_true, fi_19, ft_19_0, ft_19_1, ft_19_2, ft_19_3, ft_19_5, ft_19_6, ft_19_7, ft_19_8, ft_19_12, ft_19_13, ft_19_14, ft_19_15, ft_19_16, ft_19_21, xi_20, xi_21, xi_22, xi_23, xi_24, xi_25, xi_26, xi_27, xi_28, xi_29, xi_30, xi_31, xi_32, xi_33, Int.toNat_natCast, Int.reduceToNat, hl, e1]
  exact hQ
end
