/-! ===== the model asks, and is stuck ===== -/
theorem tRow_rOf {mo row : Nat} {a : Int} (h1 : mo ≤ 2) (h2 : row < (if mo = 0 then 1 else if mo = 1 then 10 else 100)) (a0 : 0 ≤ a) (a2 : a ≤ 2) : tRow (rOf mo (oOne mo row) (oTwo mo row)) a = if a = 0 then (mo : Int) else if a = 1 then oOne mo row else oTwo mo row := by
  obtain ⟨o1, o2, o3, o4, -⟩ := oOne_rng h1 h2
  obtain ⟨x, hx⟩ : ∃ x, oOne mo row = x := ⟨_, rfl⟩
  obtain ⟨y, hy⟩ : ∃ y, oTwo mo row = y := ⟨_, rfl⟩
  rw [hx] at o1 o2 ⊢
  rw [hy] at o3 o4 ⊢
  unfold tRow rOf
  rw [if_neg (by omega)]
  by_cases c1 : a = 0
  · rw [if_pos c1, if_pos c1]
    omega
  · rw [if_neg c1, if_neg c1]
    by_cases c2 : a = 1
    · rw [if_pos c2, if_pos c2]
      omega
    · rw [if_neg c2, if_neg c2]
      omega
theorem tRow_neg {x a : Int} (h : x < 0) : tRow x a = x := by
  unfold tRow
  rw [if_pos h]
section
variable {w v u u3 : en_W} {G : Nat → Int} {s : Nat → Nat → Int} {kick law life pat : Int} {n k cn mo : Nat} {tb cm cb len : Nat → Int} {t : NT} {a m r h one two : Int} {y : Int32}
theorem mC_more (hC : mC v cn cm cb) (hmo : cn + mo ≤ 20) (hm : 1 ≤ mo) (hm2 : mo ≤ 2) (m0 : 0 ≤ m) (m1 : m ≤ 99) (o : 0 ≤ one ∧ one ≤ 9) (ht : mo = 2 → y = zI two ∧ 0 ≤ two ∧ two ≤ 9) (h11 : u 19 11 = zI ((cn : Int) + mo)) (h28 : u 28 = upd (upd (upd (upd (v 28) (2 * cn) (zI m)) (2 * cn + 1) (zI one)) (2 * cn + 2) (zI m)) (2 * cn + 3) y) : mC u (cn + mo) (xM cn cm m) (xB cn cb one two) := by
  have a0 : ∀ q, q < 2 * cn → u 28 q = v 28 q := fun q hq => by rw [h28, upd_ne (by omega), upd_ne (by omega), upd_ne (by omega), upd_ne (by omega)]
  have a1 : u 28 (2 * cn) = zI m := by rw [h28, upd_ne (by omega), upd_ne (by omega), upd_ne (by omega), upd_eq]
  have a2 : u 28 (2 * cn + 1) = zI one := by rw [h28, upd_ne (by omega), upd_ne (by omega), upd_eq]
  have a3 : u 28 (2 * cn + 2) = zI m := by rw [h28, upd_ne (by omega), upd_eq]
  have a4 : u 28 (2 * cn + 3) = y := by rw [h28, upd_eq]
  have e : ((cn + mo : Nat) : Int) = (cn : Int) + mo := by omega
  refine ⟨by rw [e]; exact h11, hmo, fun j hj => ?_⟩
  unfold xM xB
  by_cases c1 : j < cn
  · rw [if_neg (by omega), if_neg (by omega), if_neg (by omega), a0 (2 * j) (by omega), a0 (2 * j + 1) (by omega)]
    exact hC.2.2 j c1
  · rw [if_pos (show cn ≤ j by omega)]
    by_cases c2 : j = cn
    · rw [if_pos c2, c2]
      exact ⟨a1, a2, m0, m1, o.1, o.2⟩
    · have c3 : j = cn + 1 := by omega
      obtain ⟨t1, t2, t3⟩ := ht (by omega)
      rw [if_neg c2, if_pos c3, c3]
      exact ⟨a3, by rw [← t1]; exact a4, m0, m1, t2, t3⟩
theorem mC_less (hC : mC u (cn + mo) (xM cn cm m) (xB cn cb one two)) (hC0 : mC v cn cm cb) (h11 : u3 19 11 = zI cn) (h28 : u3 28 = u 28) : mC u3 cn cm cb := by
  refine ⟨h11, hC0.2.1, fun j hj => ?_⟩
  have h1 := hC.2.2 j (by omega)
  unfold xM xB at h1
  rw [if_neg (by omega), if_neg (by omega), if_neg (by omega)] at h1
  rw [h28]
  exact h1
theorem srt_more (hs : srt cn cm) (hl : ∀ i, i < cn → cm i ≤ m) : srt (cn + mo) (xM cn cm m) := fun i j hij hj => by
  unfold xM
  by_cases c1 : cn ≤ i
  · rw [if_pos c1, if_pos (by omega)]
    exact Int.le_refl _
  · rw [if_neg c1]
    by_cases c2 : cn ≤ j
    · rw [if_pos c2]
      exact hl i (by omega)
    · rw [if_neg c2]
      exact hs i j hij (by omega)
theorem mC.cong {cm' cb' : Nat → Int} (h : mC w cn cm cb) (hc : ∀ i, i < cn → cm i = cm' i ∧ cb i = cb' i) : mC w cn cm' cb' := ⟨h.1, h.2.1, fun i hi => by
  rw [← (hc i hi).1, ← (hc i hi).2]
  exact h.2.2 i hi⟩
theorem r_isPlaying (hG : bG w G s) (hP : bP w kick law life pat) (hC : mC w k cm cb) (hs : srt k cm) (h5 : 0 ≤ h) (h6 : h < 200) (r0 : 0 ≤ r) (r1 : r ≤ 9) : ∃ w', SX6_isPlaying [.ref 19, .int (zI r), .int (zI h)] w = some (some (.int (zT (npi k (ml G s kick) (nnight law k cm cb (ml G s kick) life) h k 0 = r))), w') ∧ nfr w w' := by
  have hk := hC.2.1
  obtain ⟨w1, e1, hN, hF, f1⟩ := r_nightNow hG hP hC hs
  have g := hN.2.2.2.2.2 h.toNat (by omega)
  rw [Int.toNat_of_nonneg h5] at g
  have b := npi_rng (k := k) (len := ml G s kick) (h := h) (nB_mono hF.1 (show k ≤ 21 by omega)) k 0
  refine ⟨w1, en_val rfl (fun Q hQ => ?_), f1⟩
  show en_Ev XX6_isPlaying 0 [some (.ref 19), some (.int (zI r)), some (.int (zI h))] [] w Q
  obtain ⟨z, hz⟩ : ∃ z, npi k (ml G s kick) (nnight law k cm cb (ml G s kick) life) h k 0 = z := ⟨_, rfl⟩
  rw [hz] at g b hQ
  by_cases c : z = r
  · rw [zT_t c] at hQ
    subst c
    simp (disch := omega) only [eX6_isPlaying_0, eX6_isPlaying_1, eX6_isPlaying_4, eX6_isPlaying_5, eX6_isPlaying_8, eX6_isPlaying_9, eX6_isPlaying_10, eX6_isPlaying_11, eX6_isPlaying_14, eX6_isPlaying_15, eX6_isPlaying_18, eX6_isPlaying_19, en_kl_0, en_kl_i, en_kl_r, en_kl_n, en_kl_l, en_Ec_some, en_Ec_void, en_rcv, en_stk, List.map_cons, List.map_nil, List.sum_cons, List.sum_nil, Value.category, Nat.reduceAdd, Nat.reduceLeDiff, decide_true, true_and, and_true, and_self, zI_add, zI_sub, zI_mul, zI_neg, zI_lt, zI_le, zI_eq, zI_cl, zI_0, zI_1, zI_m1, zI_lit, zT_0, zT_01, zI_01, zI_11, ↓reduceIte, if_true, if_false, not_false_eq_true, not_true_eq_false, Int.reduceEq, Int.reduceLT, Int.reduceLE, Classical.not_not, Bool.false_eq_true, fi_19, ft_19_0, ft_19_1, ft_19_2, ft_19_3, ft_19_5, ft_19_6, ft_19_7, ft_19_8, ft_19_12, ft_19_13, ft_19_14, ft_19_15, ft_19_16, ft_19_21, xi_20, xi_21, xi_22, xi_23, xi_24, xi_25, xi_26, xi_27, xi_28, xi_29, xi_30, xi_31, xi_32, xi_33, Int.toNat_natCast, Int.reduceToNat, e1, g]
    exact hQ
  · rw [zT_f c] at hQ
    simp (disch := omega) only [eX6_isPlaying_0, eX6_isPlaying_1, eX6_isPlaying_4, eX6_isPlaying_5, eX6_isPlaying_8, eX6_isPlaying_9, eX6_isPlaying_10, eX6_isPlaying_11, eX6_isPlaying_14, eX6_isPlaying_15, eX6_isPlaying_18, eX6_isPlaying_19, en_kl_0, en_kl_i, en_kl_r, en_kl_n, en_kl_l, en_Ec_some, en_Ec_void, en_rcv, en_stk, List.map_cons, List.map_nil, List.sum_cons, List.sum_nil, Value.category, Nat.reduceAdd, Nat.reduceLeDiff, decide_true, true_and, and_true, and_self, zI_add, zI_sub, zI_mul, zI_neg, zI_lt, zI_le, zI_eq, zI_cl, zI_0, zI_1, zI_m1, zI_lit, zT_0, zT_01, zI_01, zI_11, ↓reduceIte, if_true, if_false, not_false_eq_true, not_true_eq_false, Int.reduceEq, Int.reduceLT, Int.reduceLE, Classical.not_not, Bool.false_eq_true, fi_19, ft_19_0, ft_19_1, ft_19_2, ft_19_3, ft_19_5, ft_19_6, ft_19_7, ft_19_8, ft_19_12, ft_19_13, ft_19_14, ft_19_15, ft_19_16, ft_19_21, xi_20, xi_21, xi_22, xi_23, xi_24, xi_25, xi_26, xi_27, xi_28, xi_29, xi_30, xi_31, xi_32, xi_33, Int.toNat_natCast, Int.reduceToNat, e1, g, c]
    exact hQ
theorem r_askOf (hG : bG w G s) (hP : bP w kick law life pat) (hC : mC w cn cm cb) (hs : srt cn cm) (hl : ∀ i, i < cn → cm i ≤ m) (m0 : 0 ≤ m) (m1 : m ≤ 99) (r0 : 0 ≤ r) (r1 : r ≤ 9) (h5 : 0 ≤ h) (h6 : h < 200) (a0 : 0 ≤ a) (a2 : a ≤ 2) : ∃ w', SX6_askOf [.ref 19, .int (zI m), .int (zI r), .int (zI h), .int (zI a)] w = some (some (.int (zI (tRow (aFew cn cm cb (ml G s kick) law life m r h) a))), w') ∧ ofr w w' := by
  obtain ⟨len, hlen⟩ : ∃ len, ml G s kick = len := ⟨_, rfl⟩
  have hcn := hC.2.1
  have h11 := hC.1
  obtain ⟨p, hp⟩ : ∃ p : Nat → Nat → Bool, (fun mo row => xP cn cm cb len law life m r h (oOne mo row) (oTwo mo row)) = p := ⟨_, rfl⟩
  have hp' : ∀ mo row, p mo row = xP cn cm cb len law life m r h (oOne mo row) (oTwo mo row) := fun mo row => by rw [← hp]
  have hfew : aFew cn cm cb len law life m r h = match fsr (p 0) 1 0 with
    | some row => rOf 0 (oOne 0 row) (oTwo 0 row)
    | none => if 20 < cn + 1 then -4 else
      match fsr (p 1) 10 0 with
      | some row => rOf 1 (oOne 1 row) (oTwo 1 row)
      | none => if 20 < cn + 2 then -4 else
        match fsr (p 2) 100 0 with
        | some row => rOf 2 (oOne 2 row) (oTwo 2 row)
        | none => -1 := by
    rw [← hp]
    rfl
  obtain ⟨F, hF⟩ : ∃ F, aFew cn cm cb len law life m r h = F := ⟨_, rfl⟩
  rw [hF] at hfew
  rw [hlen, hF]
  refine en_exq rfl (fun Q hQ => ?_)
  show en_Ev XX6_askOf 0 [some (.ref 19), some (.int (zI m)), some (.int (zI r)), some (.int (zI h)), some (.int (zI a)), none, none, none, none, none] [] w Q
  -- the rows of one number of coins
  have inner : ∀ (mo R : Nat), 1 ≤ mo → mo ≤ 2 → R = (if mo = 0 then 1 else if mo = 1 then 10 else 100) → cn + mo ≤ 20 →
      (∀ (v : en_W) (row : Nat), ofr w v → row < R → fsr (p mo) R 0 = some row → Q (some (.int (zI (if a = 0 then (mo : Int) else if a = 1 then oOne mo row else oTwo mo row)))) v) →
      (∀ (v : en_W) (l8 l9 : Option Value), ofr w v → mC v cn cm cb → fsr (p mo) R 0 = none → en_Ev XX6_askOf 218 [some (.ref 19), some (.int (zI m)), some (.int (zI r)), some (.int (zI h)), some (.int (zI a)), some (.int (zI cn)), some (.int (zI mo)), some (.int (zI R)), l8, l9] [] v Q) →
      ∀ (d i : Nat) (v : en_W) (l9 : Option Value), i + d = R → ofr w v → mC v cn cm cb → fsr (p mo) d i = fsr (p mo) R 0 → en_Ev XX6_askOf 66 [some (.ref 19), some (.int (zI m)), some (.int (zI r)), some (.int (zI h)), some (.int (zI a)), some (.int (zI cn)), some (.int (zI mo)), some (.int (zI R)), some (.int (zI i)), l9] [] v Q := by
    intro mo R hm hm2 hR hmo hq hk d
    have hRle : R ≤ 100 := by rw [hR]; split; omega; split <;> omega
    induction d with
    | zero =>
      intro i v l9 k1 k2 k3 k4
      have c1 : (R : Int) ≤ (i : Int) := by omega
      rw [eX6_askOf_66]
      simp (disch := omega) only [eX6_askOf_68, eX6_askOf_70, en_kl_0, en_kl_i, en_kl_r, en_kl_n, en_kl_l, en_Ec_some, en_Ec_void, en_rcv, en_stk, List.map_cons, List.map_nil, List.sum_cons, List.sum_nil, Value.category, Nat.reduceAdd, Nat.reduceLeDiff, decide_true, true_and, and_true, and_self, zI_add, zI_sub, zI_mul, zI_neg, zI_lt, zI_le, zI_eq, zI_cl, zI_0, zI_1, zI_m1, zI_lit, zT_0, zT_01, zI_01, zI_11, ↓reduceIte, if_true, if_false, not_false_eq_true, not_true_eq_false, Int.reduceEq, Int.reduceLT, Int.reduceLE, Classical.not_not, Bool.false_eq_true, c1]
      exact hk v _ _ k2 k3 k4.symm
    | succ d ih =>
      intro i v l9 k1 k2 k3 k4
      have c1 : ¬ (R : Int) ≤ (i : Int) := by omega
      have hrow : i < (if mo = 0 then 1 else if mo = 1 then 10 else 100) := by rw [← hR]; omega
      obtain ⟨o1, o2, o3, o4, -⟩ := oOne_rng hm2 hrow
      have hxN := xN_o (cn := cn) (row := i) hm2
      rw [fsr_succ] at k4
      have d1 : zI (i : Int) / zI 10 = zI ((i / 10 : Nat) : Int) := zI_div (d := 10) (by omega) (by omega) (by omega)
      have d2 : (i : Int) - ((i / 10 : Nat) : Int) * 10 = ((i % 10 : Nat) : Int) := by omega
      have c3 : ¬ (10 : Int) = 0 := by omega
      obtain ⟨hlast, hone, htwo⟩ : (mo = 2 → oTwo mo i = ((i % 10 : Nat) : Int)) ∧ 0 ≤ oOne mo i ∧ (mo = 1 → oTwo mo i = -1) := by
        refine ⟨fun e => ?_, ?_, fun e => ?_⟩
        · subst e; rfl
        · have : mo = 1 ∨ mo = 2 := by omega
          rcases this with e | e <;> subst e
          · show (0 : Int) ≤ (i : Int); omega
          · show (0 : Int) ≤ ((i / 10 : Nat) : Int); omega
        · subst e; rfl
      have body : ∀ (u : en_W) (l9 : Option Value), ofr w u → mC u (cn + mo) (xM cn cm m) (xB cn cb (oOne mo i) (oTwo mo i)) → en_Ev XX6_askOf 147 [some (.ref 19), some (.int (zI m)), some (.int (zI r)), some (.int (zI h)), some (.int (zI a)), some (.int (zI cn)), some (.int (zI mo)), some (.int (zI R)), some (.int (zI i)), l9] [] u Q := by
        intro u l9 fu uC
        obtain ⟨u2, e2, f2⟩ := r_isPlaying (h := h) (r := r) (hG.o fu) (hP.o fu) uC (srt_more hs hl) h5 h6 r0 r1
        rw [hlen] at e2
        have hxP : p mo i = true ↔ npi (cn + mo) len (nnight law (cn + mo) (xM cn cm m) (xB cn cb (oOne mo i) (oTwo mo i)) len life) h (cn + mo) 0 = r := by
          rw [hp']
          unfold xP
          rw [decide_eq_true_eq, hxN]
        obtain ⟨u3, hu3⟩ : ∃ u3, en_up u2 19 11 (zI cn) = u3 := ⟨_, rfl⟩
        have f3 : ofr w u3 := by
          refine (fu.tr f2.o).tr ⟨?_, fun j _ b _ _ _ => ?_⟩
          · rw [← hu3]; exact en_fr.rf.up (by simp)
          · rw [← hu3, en_up_eq, upd_ne b]
        have u28 : u3 28 = u 28 := by rw [← hu3, en_up_ne (by decide)]; exact f2.1 28 (by decide)
        have u11 : u3 19 11 = zI cn := by rw [← hu3, en_up_eq, upd_eq]
        have C3 : mC u3 cn cm cb := mC_less uC k3 u11 u28
        have x1 : u3 28 (2 * cn + 1) = zI (oOne mo i) := by
          rw [u28]
          have := (uC.2.2 cn (by omega)).2.1
          unfold xB at this
          rw [if_pos rfl] at this
          exact this
        have x0 : (2 * (cn : Int) + 1).toNat = 2 * cn + 1 := by omega
        by_cases c2 : npi (cn + mo) len (nnight law (cn + mo) (xM cn cm m) (xB cn cb (oOne mo i) (oTwo mo i)) len life) h (cn + mo) 0 = r
        · rw [zT_t c2] at e2
          rw [if_pos (hxP.mpr c2)] at k4
          have g := hq u3 i f3 (by omega) k4.symm
          by_cases b1 : a = 0
          · rw [if_pos b1] at g
            have b1' : (a = 0) = True := eq_true b1
            simp (disch := omega) only [eX6_askOf_0, eX6_askOf_1, eX6_askOf_4, eX6_askOf_6, eX6_askOf_7, eX6_askOf_8, eX6_askOf_9, eX6_askOf_12, eX6_askOf_15, eX6_askOf_17, eX6_askOf_20, eX6_askOf_21, eX6_askOf_24, eX6_askOf_25, eX6_askOf_26, eX6_askOf_27, eX6_askOf_31, eX6_askOf_32, eX6_askOf_35, eX6_askOf_37, eX6_askOf_39, eX6_askOf_40, eX6_askOf_42, eX6_askOf_45, eX6_askOf_47, eX6_askOf_48, eX6_askOf_50, eX6_askOf_51, eX6_askOf_54, eX6_askOf_56, eX6_askOf_59, eX6_askOf_61, eX6_askOf_63, eX6_askOf_64, eX6_askOf_68, eX6_askOf_70, eX6_askOf_73, eX6_askOf_74, eX6_askOf_76, eX6_askOf_78, eX6_askOf_79, eX6_askOf_82, eX6_askOf_83, eX6_askOf_86, eX6_askOf_87, eX6_askOf_89, eX6_askOf_90, eX6_askOf_91, eX6_askOf_92, eX6_askOf_93, eX6_askOf_96, eX6_askOf_97, eX6_askOf_99, eX6_askOf_100, eX6_askOf_101, eX6_askOf_102, eX6_askOf_104, eX6_askOf_105, eX6_askOf_108, eX6_askOf_110, eX6_askOf_113, eX6_askOf_115, eX6_askOf_117, eX6_askOf_118, eX6_askOf_119, eX6_askOf_120, eX6_askOf_123, eX6_askOf_124, eX6_askOf_126, eX6_askOf_127, eX6_askOf_128, eX6_askOf_129, eX6_askOf_130, eX6_askOf_131, eX6_askOf_132, eX6_askOf_135, eX6_askOf_136, eX6_askOf_138, eX6_askOf_139, eX6_askOf_140, eX6_askOf_141, eX6_askOf_143, eX6_askOf_145, eX6_askOf_146, eX6_askOf_147, eX6_askOf_148, eX6_askOf_149, eX6_askOf_150, eX6_askOf_153, eX6_askOf_155, eX6_askOf_156, eX6_askOf_158, eX6_askOf_161, eX6_askOf_163, eX6_askOf_166, eX6_askOf_168, eX6_askOf_171, eX6_askOf_173, eX6_askOf_176, eX6_askOf_178, eX6_askOf_179, eX6_askOf_182, eX6_askOf_183, eX6_askOf_186, eX6_askOf_187, eX6_askOf_189, eX6_askOf_190, eX6_askOf_191, eX6_askOf_192, eX6_askOf_193, eX6_askOf_196, eX6_askOf_198, eX6_askOf_199, eX6_askOf_202, eX6_askOf_203, eX6_askOf_206, eX6_askOf_208, eX6_askOf_210, eX6_askOf_211, eX6_askOf_212, eX6_askOf_215, eX6_askOf_221, eX6_askOf_224, eX6_askOf_225, en_kl_0, en_kl_i, en_kl_r, en_kl_n, en_kl_l, en_Ec_some, en_Ec_void, en_rcv, en_stk, List.map_cons, List.map_nil, List.sum_cons, List.sum_nil, Value.category, Nat.reduceAdd, Nat.reduceLeDiff, decide_true, true_and, and_true, and_self, zI_add, zI_sub, zI_mul, zI_neg, zI_lt, zI_le, zI_eq, zI_cl, zI_0, zI_1, zI_m1, zI_lit, zT_0, zT_01, zI_01, zI_11, ↓reduceIte, if_true, if_false, not_false_eq_true, not_true_eq_false, Int.reduceEq, Int.reduceLT, Int.reduceLE, Classical.not_not, Bool.false_eq_true, fi_19, ft_19_0, ft_19_1, ft_19_2, ft_19_3, ft_19_5, ft_19_6, ft_19_7, ft_19_8, ft_19_12, ft_19_13, ft_19_14, ft_19_15, ft_19_16, ft_19_21, xi_20, xi_21, xi_22, xi_23, xi_24, xi_25, xi_26, xi_27, xi_28, xi_29, xi_30, xi_31, xi_32, xi_33, Int.toNat_natCast, Int.reduceToNat, e2, hu3, b1']
            exact g
          · rw [if_neg b1] at g
            by_cases b2 : a = 1
            · rw [if_pos b2] at g
              have b2' : (a = 1) = True := eq_true b2
              simp (disch := omega) only [eX6_askOf_0, eX6_askOf_1, eX6_askOf_4, eX6_askOf_6, eX6_askOf_7, eX6_askOf_8, eX6_askOf_9, eX6_askOf_12, eX6_askOf_15, eX6_askOf_17, eX6_askOf_20, eX6_askOf_21, eX6_askOf_24, eX6_askOf_25, eX6_askOf_26, eX6_askOf_27, eX6_askOf_31, eX6_askOf_32, eX6_askOf_35, eX6_askOf_37, eX6_askOf_39, eX6_askOf_40, eX6_askOf_42, eX6_askOf_45, eX6_askOf_47, eX6_askOf_48, eX6_askOf_50, eX6_askOf_51, eX6_askOf_54, eX6_askOf_56, eX6_askOf_59, eX6_askOf_61, eX6_askOf_63, eX6_askOf_64, eX6_askOf_68, eX6_askOf_70, eX6_askOf_73, eX6_askOf_74, eX6_askOf_76, eX6_askOf_78, eX6_askOf_79, eX6_askOf_82, eX6_askOf_83, eX6_askOf_86, eX6_askOf_87, eX6_askOf_89, eX6_askOf_90, eX6_askOf_91, eX6_askOf_92, eX6_askOf_93, eX6_askOf_96, eX6_askOf_97, eX6_askOf_99, eX6_askOf_100, eX6_askOf_101, eX6_askOf_102, eX6_askOf_104, eX6_askOf_105, eX6_askOf_108, eX6_askOf_110, eX6_askOf_113, eX6_askOf_115, eX6_askOf_117, eX6_askOf_118, eX6_askOf_119, eX6_askOf_120, eX6_askOf_123, eX6_askOf_124, eX6_askOf_126, eX6_askOf_127, eX6_askOf_128, eX6_askOf_129, eX6_askOf_130, eX6_askOf_131, eX6_askOf_132, eX6_askOf_135, eX6_askOf_136, eX6_askOf_138, eX6_askOf_139, eX6_askOf_140, eX6_askOf_141, eX6_askOf_143, eX6_askOf_145, eX6_askOf_146, eX6_askOf_147, eX6_askOf_148, eX6_askOf_149, eX6_askOf_150, eX6_askOf_153, eX6_askOf_155, eX6_askOf_156, eX6_askOf_158, eX6_askOf_161, eX6_askOf_163, eX6_askOf_166, eX6_askOf_168, eX6_askOf_171, eX6_askOf_173, eX6_askOf_176, eX6_askOf_178, eX6_askOf_179, eX6_askOf_182, eX6_askOf_183, eX6_askOf_186, eX6_askOf_187, eX6_askOf_189, eX6_askOf_190, eX6_askOf_191, eX6_askOf_192, eX6_askOf_193, eX6_askOf_196, eX6_askOf_198, eX6_askOf_199, eX6_askOf_202, eX6_askOf_203, eX6_askOf_206, eX6_askOf_208, eX6_askOf_210, eX6_askOf_211, eX6_askOf_212, eX6_askOf_215, eX6_askOf_221, eX6_askOf_224, eX6_askOf_225, en_kl_0, en_kl_i, en_kl_r, en_kl_n, en_kl_l, en_Ec_some, en_Ec_void, en_rcv, en_stk, List.map_cons, List.map_nil, List.sum_cons, List.sum_nil, Value.category, Nat.reduceAdd, Nat.reduceLeDiff, decide_true, true_and, and_true, and_self, zI_add, zI_sub, zI_mul, zI_neg, zI_lt, zI_le, zI_eq, zI_cl, zI_0, zI_1, zI_m1, zI_lit, zT_0, zT_01, zI_01, zI_11, ↓reduceIte, if_true, if_false, not_false_eq_true, not_true_eq_false, Int.reduceEq, Int.reduceLT, Int.reduceLE, Classical.not_not, Bool.false_eq_true, fi_19, ft_19_0, ft_19_1, ft_19_2, ft_19_3, ft_19_5, ft_19_6, ft_19_7, ft_19_8, ft_19_12, ft_19_13, ft_19_14, ft_19_15, ft_19_16, ft_19_21, xi_20, xi_21, xi_22, xi_23, xi_24, xi_25, xi_26, xi_27, xi_28, xi_29, xi_30, xi_31, xi_32, xi_33, Int.toNat_natCast, Int.reduceToNat, e2, hu3, b1, b2', x0, x1]
              exact g
            · rw [if_neg b2] at g
              by_cases b3 : mo = 1
              · rw [htwo b3] at g
                have b3' : ((mo : Int) = 1) = True := eq_true (by omega)
                simp (disch := omega) only [eX6_askOf_0, eX6_askOf_1, eX6_askOf_4, eX6_askOf_6, eX6_askOf_7, eX6_askOf_8, eX6_askOf_9, eX6_askOf_12, eX6_askOf_15, eX6_askOf_17, eX6_askOf_20, eX6_askOf_21, eX6_askOf_24, eX6_askOf_25, eX6_askOf_26, eX6_askOf_27, eX6_askOf_31, eX6_askOf_32, eX6_askOf_35, eX6_askOf_37, eX6_askOf_39, eX6_askOf_40, eX6_askOf_42, eX6_askOf_45, eX6_askOf_47, eX6_askOf_48, eX6_askOf_50, eX6_askOf_51, eX6_askOf_54, eX6_askOf_56, eX6_askOf_59, eX6_askOf_61, eX6_askOf_63, eX6_askOf_64, eX6_askOf_68, eX6_askOf_70, eX6_askOf_73, eX6_askOf_74, eX6_askOf_76, eX6_askOf_78, eX6_askOf_79, eX6_askOf_82, eX6_askOf_83, eX6_askOf_86, eX6_askOf_87, eX6_askOf_89, eX6_askOf_90, eX6_askOf_91, eX6_askOf_92, eX6_askOf_93, eX6_askOf_96, eX6_askOf_97, eX6_askOf_99, eX6_askOf_100, eX6_askOf_101, eX6_askOf_102, eX6_askOf_104, eX6_askOf_105, eX6_askOf_108, eX6_askOf_110, eX6_askOf_113, eX6_askOf_115, eX6_askOf_117, eX6_askOf_118, eX6_askOf_119, eX6_askOf_120, eX6_askOf_123, eX6_askOf_124, eX6_askOf_126, eX6_askOf_127, eX6_askOf_128, eX6_askOf_129, eX6_askOf_130, eX6_askOf_131, eX6_askOf_132, eX6_askOf_135, eX6_askOf_136, eX6_askOf_138, eX6_askOf_139, eX6_askOf_140, eX6_askOf_141, eX6_askOf_143, eX6_askOf_145, eX6_askOf_146, eX6_askOf_147, eX6_askOf_148, eX6_askOf_149, eX6_askOf_150, eX6_askOf_153, eX6_askOf_155, eX6_askOf_156, eX6_askOf_158, eX6_askOf_161, eX6_askOf_163, eX6_askOf_166, eX6_askOf_168, eX6_askOf_171, eX6_askOf_173, eX6_askOf_176, eX6_askOf_178, eX6_askOf_179, eX6_askOf_182, eX6_askOf_183, eX6_askOf_186, eX6_askOf_187, eX6_askOf_189, eX6_askOf_190, eX6_askOf_191, eX6_askOf_192, eX6_askOf_193, eX6_askOf_196, eX6_askOf_198, eX6_askOf_199, eX6_askOf_202, eX6_askOf_203, eX6_askOf_206, eX6_askOf_208, eX6_askOf_210, eX6_askOf_211, eX6_askOf_212, eX6_askOf_215, eX6_askOf_221, eX6_askOf_224, eX6_askOf_225, en_kl_0, en_kl_i, en_kl_r, en_kl_n, en_kl_l, en_Ec_some, en_Ec_void, en_rcv, en_stk, List.map_cons, List.map_nil, List.sum_cons, List.sum_nil, Value.category, Nat.reduceAdd, Nat.reduceLeDiff, decide_true, true_and, and_true, and_self, zI_add, zI_sub, zI_mul, zI_neg, zI_lt, zI_le, zI_eq, zI_cl, zI_0, zI_1, zI_m1, zI_lit, zT_0, zT_01, zI_01, zI_11, ↓reduceIte, if_true, if_false, not_false_eq_true, not_true_eq_false, Int.reduceEq, Int.reduceLT, Int.reduceLE, Classical.not_not, Bool.false_eq_true, fi_19, ft_19_0, ft_19_1, ft_19_2, ft_19_3, ft_19_5, ft_19_6, ft_19_7, ft_19_8, ft_19_12, ft_19_13, ft_19_14, ft_19_15, ft_19_16, ft_19_21, xi_20, xi_21, xi_22, xi_23, xi_24, xi_25, xi_26, xi_27, xi_28, xi_29, xi_30, xi_31, xi_32, xi_33, Int.toNat_natCast, Int.reduceToNat, e2, hu3, b1, b2, b3']
                exact g
              · rw [hlast (by omega)] at g
                have b3' : ¬ ((mo : Int) = 1) := by omega
                simp (disch := omega) only [eX6_askOf_0, eX6_askOf_1, eX6_askOf_4, eX6_askOf_6, eX6_askOf_7, eX6_askOf_8, eX6_askOf_9, eX6_askOf_12, eX6_askOf_15, eX6_askOf_17, eX6_askOf_20, eX6_askOf_21, eX6_askOf_24, eX6_askOf_25, eX6_askOf_26, eX6_askOf_27, eX6_askOf_31, eX6_askOf_32, eX6_askOf_35, eX6_askOf_37, eX6_askOf_39, eX6_askOf_40, eX6_askOf_42, eX6_askOf_45, eX6_askOf_47, eX6_askOf_48, eX6_askOf_50, eX6_askOf_51, eX6_askOf_54, eX6_askOf_56, eX6_askOf_59, eX6_askOf_61, eX6_askOf_63, eX6_askOf_64, eX6_askOf_68, eX6_askOf_70, eX6_askOf_73, eX6_askOf_74, eX6_askOf_76, eX6_askOf_78, eX6_askOf_79, eX6_askOf_82, eX6_askOf_83, eX6_askOf_86, eX6_askOf_87, eX6_askOf_89, eX6_askOf_90, eX6_askOf_91, eX6_askOf_92, eX6_askOf_93, eX6_askOf_96, eX6_askOf_97, eX6_askOf_99, eX6_askOf_100, eX6_askOf_101, eX6_askOf_102, eX6_askOf_104, eX6_askOf_105, eX6_askOf_108, eX6_askOf_110, eX6_askOf_113, eX6_askOf_115, eX6_askOf_117, eX6_askOf_118, eX6_askOf_119, eX6_askOf_120, eX6_askOf_123, eX6_askOf_124, eX6_askOf_126, eX6_askOf_127, eX6_askOf_128, eX6_askOf_129, eX6_askOf_130, eX6_askOf_131, eX6_askOf_132, eX6_askOf_135, eX6_askOf_136, eX6_askOf_138, eX6_askOf_139, eX6_askOf_140, eX6_askOf_141, eX6_askOf_143, eX6_askOf_145, eX6_askOf_146, eX6_askOf_147, eX6_askOf_148, eX6_askOf_149, eX6_askOf_150, eX6_askOf_153, eX6_askOf_155, eX6_askOf_156, eX6_askOf_158, eX6_askOf_161, eX6_askOf_163, eX6_askOf_166, eX6_askOf_168, eX6_askOf_171, eX6_askOf_173, eX6_askOf_176, eX6_askOf_178, eX6_askOf_179, eX6_askOf_182, eX6_askOf_183, eX6_askOf_186, eX6_askOf_187, eX6_askOf_189, eX6_askOf_190, eX6_askOf_191, eX6_askOf_192, eX6_askOf_193, eX6_askOf_196, eX6_askOf_198, eX6_askOf_199, eX6_askOf_202, eX6_askOf_203, eX6_askOf_206, eX6_askOf_208, eX6_askOf_210, eX6_askOf_211, eX6_askOf_212, eX6_askOf_215, eX6_askOf_221, eX6_askOf_224, eX6_askOf_225, en_kl_0, en_kl_i, en_kl_r, en_kl_n, en_kl_l, en_Ec_some, en_Ec_void, en_rcv, en_stk, List.map_cons, List.map_nil, List.sum_cons, List.sum_nil, Value.category, Nat.reduceAdd, Nat.reduceLeDiff, decide_true, true_and, and_true, and_self, zI_add, zI_sub, zI_mul, zI_neg, zI_lt, zI_le, zI_eq, zI_cl, zI_0, zI_1, zI_m1, zI_lit, zT_0, zT_01, zI_01, zI_11, ↓reduceIte, if_true, if_false, not_false_eq_true, not_true_eq_false, Int.reduceEq, Int.reduceLT, Int.reduceLE, Classical.not_not, Bool.false_eq_true, fi_19, ft_19_0, ft_19_1, ft_19_2, ft_19_3, ft_19_5, ft_19_6, ft_19_7, ft_19_8, ft_19_12, ft_19_13, ft_19_14, ft_19_15, ft_19_16, ft_19_21, xi_20, xi_21, xi_22, xi_23, xi_24, xi_25, xi_26, xi_27, xi_28, xi_29, xi_30, xi_31, xi_32, xi_33, Int.toNat_natCast, Int.reduceToNat, e2, hu3, b1, b2, b3', d1, d2, c3]
                exact g
        · rw [zT_f c2] at e2
          rw [if_neg (fun q => c2 (hxP.mp q))] at k4
          simp (disch := omega) only [eX6_askOf_0, eX6_askOf_1, eX6_askOf_4, eX6_askOf_6, eX6_askOf_7, eX6_askOf_8, eX6_askOf_9, eX6_askOf_12, eX6_askOf_15, eX6_askOf_17, eX6_askOf_20, eX6_askOf_21, eX6_askOf_24, eX6_askOf_25, eX6_askOf_26, eX6_askOf_27, eX6_askOf_31, eX6_askOf_32, eX6_askOf_35, eX6_askOf_37, eX6_askOf_39, eX6_askOf_40, eX6_askOf_42, eX6_askOf_45, eX6_askOf_47, eX6_askOf_48, eX6_askOf_50, eX6_askOf_51, eX6_askOf_54, eX6_askOf_56, eX6_askOf_59, eX6_askOf_61, eX6_askOf_63, eX6_askOf_64, eX6_askOf_68, eX6_askOf_70, eX6_askOf_73, eX6_askOf_74, eX6_askOf_76, eX6_askOf_78, eX6_askOf_79, eX6_askOf_82, eX6_askOf_83, eX6_askOf_86, eX6_askOf_87, eX6_askOf_89, eX6_askOf_90, eX6_askOf_91, eX6_askOf_92, eX6_askOf_93, eX6_askOf_96, eX6_askOf_97, eX6_askOf_99, eX6_askOf_100, eX6_askOf_101, eX6_askOf_102, eX6_askOf_104, eX6_askOf_105, eX6_askOf_108, eX6_askOf_110, eX6_askOf_113, eX6_askOf_115, eX6_askOf_117, eX6_askOf_118, eX6_askOf_119, eX6_askOf_120, eX6_askOf_123, eX6_askOf_124, eX6_askOf_126, eX6_askOf_127, eX6_askOf_128, eX6_askOf_129, eX6_askOf_130, eX6_askOf_131, eX6_askOf_132, eX6_askOf_135, eX6_askOf_136, eX6_askOf_138, eX6_askOf_139, eX6_askOf_140, eX6_askOf_141, eX6_askOf_143, eX6_askOf_145, eX6_askOf_146, eX6_askOf_147, eX6_askOf_148, eX6_askOf_149, eX6_askOf_150, eX6_askOf_153, eX6_askOf_155, eX6_askOf_156, eX6_askOf_158, eX6_askOf_161, eX6_askOf_163, eX6_askOf_166, eX6_askOf_168, eX6_askOf_171, eX6_askOf_173, eX6_askOf_176, eX6_askOf_178, eX6_askOf_179, eX6_askOf_182, eX6_askOf_183, eX6_askOf_186, eX6_askOf_187, eX6_askOf_189, eX6_askOf_190, eX6_askOf_191, eX6_askOf_192, eX6_askOf_193, eX6_askOf_196, eX6_askOf_198, eX6_askOf_199, eX6_askOf_202, eX6_askOf_203, eX6_askOf_206, eX6_askOf_208, eX6_askOf_210, eX6_askOf_211, eX6_askOf_212, eX6_askOf_215, eX6_askOf_221, eX6_askOf_224, eX6_askOf_225, en_kl_0, en_kl_i, en_kl_r, en_kl_n, en_kl_l, en_Ec_some, en_Ec_void, en_rcv, en_stk, List.map_cons, List.map_nil, List.sum_cons, List.sum_nil, Value.category, Nat.reduceAdd, Nat.reduceLeDiff, decide_true, true_and, and_true, and_self, zI_add, zI_sub, zI_mul, zI_neg, zI_lt, zI_le, zI_eq, zI_cl, zI_0, zI_1, zI_m1, zI_lit, zT_0, zT_01, zI_01, zI_11, ↓reduceIte, if_true, if_false, not_false_eq_true, not_true_eq_false, Int.reduceEq, Int.reduceLT, Int.reduceLE, Classical.not_not, Bool.false_eq_true, fi_19, ft_19_0, ft_19_1, ft_19_2, ft_19_3, ft_19_5, ft_19_6, ft_19_7, ft_19_8, ft_19_12, ft_19_13, ft_19_14, ft_19_15, ft_19_16, ft_19_21, xi_20, xi_21, xi_22, xi_23, xi_24, xi_25, xi_26, xi_27, xi_28, xi_29, xi_30, xi_31, xi_32, xi_33, Int.toNat_natCast, Int.reduceToNat, e2, hu3]
          exact ih (i + 1) u3 _ (by omega) f3 C3 k4
      have x0 : (2 * (cn : Int)).toNat = 2 * cn := by omega
      have x1 : (2 * (cn : Int) + 1).toNat = 2 * cn + 1 := by omega
      have x2 : (2 * (cn : Int) + 2).toNat = 2 * cn + 2 := by omega
      have x3 : (2 * (cn : Int) + 3).toNat = 2 * cn + 3 := by omega
      obtain ⟨u, hu⟩ : ∃ u, en_up (en_up (en_up (en_up (en_up v 19 11 (zI ((cn : Int) + mo))) 28 (2 * cn) (zI m)) 28 (2 * cn + 1) (zI (oOne mo i))) 28 (2 * cn + 2) (zI m)) 28 (2 * cn + 3) (zI ((i % 10 : Nat) : Int)) = u := ⟨_, rfl⟩
      have fu : ofr w u := by
        refine k2.tr ⟨?_, fun j _ b _ _ _ => ?_⟩
        · rw [← hu]
          exact ((((en_fr.rf.up (by simp)).up (by simp)).up (by simp)).up (by simp)).up (by simp)
        · rw [← hu, en_up_ne (by decide), en_up_ne (by decide), en_up_ne (by decide), en_up_ne (by decide), en_up_eq, upd_ne b]
      have u11 : u 19 11 = zI ((cn : Int) + mo) := by rw [← hu, en_up_ne (by decide), en_up_ne (by decide), en_up_ne (by decide), en_up_ne (by decide), en_up_eq, upd_eq]
      have u28 : u 28 = upd (upd (upd (upd (v 28) (2 * cn) (zI m)) (2 * cn + 1) (zI (oOne mo i))) (2 * cn + 2) (zI m)) (2 * cn + 3) (zI ((i % 10 : Nat) : Int)) := by
        rw [← hu, en_up_eq, en_up_eq, en_up_eq, en_up_eq, en_up_ne (by decide)]
      have uC := mC_more k3 hmo hm hm2 m0 m1 ⟨hone, o2⟩ (fun e => ⟨by rw [hlast e], by rw [hlast e]; omega, o4⟩) u11 u28
      have g := fun l9 => body u l9 fu uC
      rw [eX6_askOf_66]
      have : mo = 1 ∨ mo = 2 := by omega
      rcases this with e | e
      · have e1 : oOne mo i = (i : Int) := by rw [e]; rfl
        have b3' : ((mo : Int) = 1) = True := eq_true (by omega)
        rw [e1] at hu
        simp (disch := omega) only [eX6_askOf_0, eX6_askOf_1, eX6_askOf_4, eX6_askOf_6, eX6_askOf_7, eX6_askOf_8, eX6_askOf_9, eX6_askOf_12, eX6_askOf_15, eX6_askOf_17, eX6_askOf_20, eX6_askOf_21, eX6_askOf_24, eX6_askOf_25, eX6_askOf_26, eX6_askOf_27, eX6_askOf_31, eX6_askOf_32, eX6_askOf_35, eX6_askOf_37, eX6_askOf_39, eX6_askOf_40, eX6_askOf_42, eX6_askOf_45, eX6_askOf_47, eX6_askOf_48, eX6_askOf_50, eX6_askOf_51, eX6_askOf_54, eX6_askOf_56, eX6_askOf_59, eX6_askOf_61, eX6_askOf_63, eX6_askOf_64, eX6_askOf_68, eX6_askOf_70, eX6_askOf_73, eX6_askOf_74, eX6_askOf_76, eX6_askOf_78, eX6_askOf_79, eX6_askOf_82, eX6_askOf_83, eX6_askOf_86, eX6_askOf_87, eX6_askOf_89, eX6_askOf_90, eX6_askOf_91, eX6_askOf_92, eX6_askOf_93, eX6_askOf_96, eX6_askOf_97, eX6_askOf_99, eX6_askOf_100, eX6_askOf_101, eX6_askOf_102, eX6_askOf_104, eX6_askOf_105, eX6_askOf_108, eX6_askOf_110, eX6_askOf_113, eX6_askOf_115, eX6_askOf_117, eX6_askOf_118, eX6_askOf_119, eX6_askOf_120, eX6_askOf_123, eX6_askOf_124, eX6_askOf_126, eX6_askOf_127, eX6_askOf_128, eX6_askOf_129, eX6_askOf_130, eX6_askOf_131, eX6_askOf_132, eX6_askOf_135, eX6_askOf_136, eX6_askOf_138, eX6_askOf_139, eX6_askOf_140, eX6_askOf_141, eX6_askOf_143, eX6_askOf_145, eX6_askOf_146, eX6_askOf_148, eX6_askOf_149, eX6_askOf_150, eX6_askOf_153, eX6_askOf_155, eX6_askOf_156, eX6_askOf_158, eX6_askOf_161, eX6_askOf_163, eX6_askOf_166, eX6_askOf_168, eX6_askOf_171, eX6_askOf_173, eX6_askOf_176, eX6_askOf_178, eX6_askOf_179, eX6_askOf_182, eX6_askOf_183, eX6_askOf_186, eX6_askOf_187, eX6_askOf_189, eX6_askOf_190, eX6_askOf_191, eX6_askOf_192, eX6_askOf_193, eX6_askOf_196, eX6_askOf_198, eX6_askOf_199, eX6_askOf_202, eX6_askOf_203, eX6_askOf_206, eX6_askOf_208, eX6_askOf_210, eX6_askOf_211, eX6_askOf_212, eX6_askOf_215, eX6_askOf_221, eX6_askOf_224, eX6_askOf_225, en_kl_0, en_kl_i, en_kl_r, en_kl_n, en_kl_l, en_Ec_some, en_Ec_void, en_rcv, en_stk, List.map_cons, List.map_nil, List.sum_cons, List.sum_nil, Value.category, Nat.reduceAdd, Nat.reduceLeDiff, decide_true, true_and, and_true, and_self, zI_add, zI_sub, zI_mul, zI_neg, zI_lt, zI_le, zI_eq, zI_cl, zI_0, zI_1, zI_m1, zI_lit, zT_0, zT_01, zI_01, zI_11, ↓reduceIte, if_true, if_false, not_false_eq_true, not_true_eq_false, Int.reduceEq, Int.reduceLT, Int.reduceLE, Classical.not_not, Bool.false_eq_true, fi_19, ft_19_0, ft_19_1, ft_19_2, ft_19_3, ft_19_5, ft_19_6, ft_19_7, ft_19_8, ft_19_12, ft_19_13, ft_19_14, ft_19_15, ft_19_16, ft_19_21, xi_20, xi_21, xi_22, xi_23, xi_24, xi_25, xi_26, xi_27, xi_28, xi_29, xi_30, xi_31, xi_32, xi_33, Int.toNat_natCast, Int.reduceToNat, c1, b3', d1, d2, c3, x0, x1, x2, x3, hu]
        exact g _
      · have e1 : oOne mo i = ((i / 10 : Nat) : Int) := by rw [e]; rfl
        have b3' : ¬ ((mo : Int) = 1) := by omega
        rw [e1] at hu
        simp (disch := omega) only [eX6_askOf_0, eX6_askOf_1, eX6_askOf_4, eX6_askOf_6, eX6_askOf_7, eX6_askOf_8, eX6_askOf_9, eX6_askOf_12, eX6_askOf_15, eX6_askOf_17, eX6_askOf_20, eX6_askOf_21, eX6_askOf_24, eX6_askOf_25, eX6_askOf_26, eX6_askOf_27, eX6_askOf_31, eX6_askOf_32, eX6_askOf_35, eX6_askOf_37, eX6_askOf_39, eX6_askOf_40, eX6_askOf_42, eX6_askOf_45, eX6_askOf_47, eX6_askOf_48, eX6_askOf_50, eX6_askOf_51, eX6_askOf_54, eX6_askOf_56, eX6_askOf_59, eX6_askOf_61, eX6_askOf_63, eX6_askOf_64, eX6_askOf_68, eX6_askOf_70, eX6_askOf_73, eX6_askOf_74, eX6_askOf_76, eX6_askOf_78, eX6_askOf_79, eX6_askOf_82, eX6_askOf_83, eX6_askOf_86, eX6_askOf_87, eX6_askOf_89, eX6_askOf_90, eX6_askOf_91, eX6_askOf_92, eX6_askOf_93, eX6_askOf_96, eX6_askOf_97, eX6_askOf_99, eX6_askOf_100, eX6_askOf_101, eX6_askOf_102, eX6_askOf_104, eX6_askOf_105, eX6_askOf_108, eX6_askOf_110, eX6_askOf_113, eX6_askOf_115, eX6_askOf_117, eX6_askOf_118, eX6_askOf_119, eX6_askOf_120, eX6_askOf_123, eX6_askOf_124, eX6_askOf_126, eX6_askOf_127, eX6_askOf_128, eX6_askOf_129, eX6_askOf_130, eX6_askOf_131, eX6_askOf_132, eX6_askOf_135, eX6_askOf_136, eX6_askOf_138, eX6_askOf_139, eX6_askOf_140, eX6_askOf_141, eX6_askOf_143, eX6_askOf_145, eX6_askOf_146, eX6_askOf_148, eX6_askOf_149, eX6_askOf_150, eX6_askOf_153, eX6_askOf_155, eX6_askOf_156, eX6_askOf_158, eX6_askOf_161, eX6_askOf_163, eX6_askOf_166, eX6_askOf_168, eX6_askOf_171, eX6_askOf_173, eX6_askOf_176, eX6_askOf_178, eX6_askOf_179, eX6_askOf_182, eX6_askOf_183, eX6_askOf_186, eX6_askOf_187, eX6_askOf_189, eX6_askOf_190, eX6_askOf_191, eX6_askOf_192, eX6_askOf_193, eX6_askOf_196, eX6_askOf_198, eX6_askOf_199, eX6_askOf_202, eX6_askOf_203, eX6_askOf_206, eX6_askOf_208, eX6_askOf_210, eX6_askOf_211, eX6_askOf_212, eX6_askOf_215, eX6_askOf_221, eX6_askOf_224, eX6_askOf_225, en_kl_0, en_kl_i, en_kl_r, en_kl_n, en_kl_l, en_Ec_some, en_Ec_void, en_rcv, en_stk, List.map_cons, List.map_nil, List.sum_cons, List.sum_nil, Value.category, Nat.reduceAdd, Nat.reduceLeDiff, decide_true, true_and, and_true, and_self, zI_add, zI_sub, zI_mul, zI_neg, zI_lt, zI_le, zI_eq, zI_cl, zI_0, zI_1, zI_m1, zI_lit, zT_0, zT_01, zI_01, zI_11, ↓reduceIte, if_true, if_false, not_false_eq_true, not_true_eq_false, Int.reduceEq, Int.reduceLT, Int.reduceLE, Classical.not_not, Bool.false_eq_true, fi_19, ft_19_0, ft_19_1, ft_19_2, ft_19_3, ft_19_5, ft_19_6, ft_19_7, ft_19_8, ft_19_12, ft_19_13, ft_19_14, ft_19_15, ft_19_16, ft_19_21, xi_20, xi_21, xi_22, xi_23, xi_24, xi_25, xi_26, xi_27, xi_28, xi_29, xi_30, xi_31, xi_32, xi_33, Int.toNat_natCast, Int.reduceToNat, c1, b3', d1, d2, c3, x0, x1, x2, x3, hu]
        exact g _
  -- as it is
  have C0 : mC w cn (xM cn cm m) (xB cn cb (oOne 0 0) (oTwo 0 0)) := hC.cong (fun i hi => ⟨(if_neg (by omega)).symm, by
    unfold xB
    rw [if_neg (by omega), if_neg (by omega)]⟩)
  obtain ⟨w1, e1, f1⟩ := r_isPlaying (h := h) (r := r) hG hP C0 (srt_more (mo := 0) hs hl) h5 h6 r0 r1
  rw [hlen] at e1
  have hx0 : p 0 0 = true ↔ npi cn len (nnight law cn (xM cn cm m) (xB cn cb (oOne 0 0) (oTwo 0 0)) len life) h cn 0 = r := by
    rw [hp']
    unfold xP
    have q1 : xN cn (oOne 0 0) (oTwo 0 0) = cn := xN_o (cn := cn) (row := 0) (Nat.zero_le 2)
    rw [decide_eq_true_eq, q1]
  have hf0 : fsr (p 0) 1 0 = if p 0 0 = true then some 0 else none := rfl
  by_cases c0 : npi cn len (nnight law cn (xM cn cm m) (xB cn cb (oOne 0 0) (oTwo 0 0)) len life) h cn 0 = r
  · rw [zT_t c0] at e1
    rw [hf0, if_pos (hx0.mpr c0)] at hfew
    have hfew' : F = rOf 0 (oOne 0 0) (oTwo 0 0) := hfew
    have ht := tRow_rOf (mo := 0) (row := 0) (a := a) (by omega) (by decide) a0 a2
    rw [← hfew'] at ht
    have g := hQ w1 f1.o
    rw [ht] at g
    by_cases b1 : a = 0
    · rw [if_pos b1] at g
      have b1' : (a = 0) = True := eq_true b1
      simp (disch := omega) only [eX6_askOf_0, eX6_askOf_1, eX6_askOf_4, eX6_askOf_6, eX6_askOf_7, eX6_askOf_8, eX6_askOf_9, eX6_askOf_12, eX6_askOf_15, eX6_askOf_17, eX6_askOf_20, eX6_askOf_21, eX6_askOf_24, eX6_askOf_25, eX6_askOf_26, eX6_askOf_27, eX6_askOf_31, eX6_askOf_32, eX6_askOf_35, eX6_askOf_37, eX6_askOf_39, eX6_askOf_40, eX6_askOf_42, eX6_askOf_45, eX6_askOf_47, eX6_askOf_48, eX6_askOf_50, eX6_askOf_51, eX6_askOf_54, eX6_askOf_56, eX6_askOf_59, eX6_askOf_61, eX6_askOf_63, eX6_askOf_64, eX6_askOf_68, eX6_askOf_70, eX6_askOf_73, eX6_askOf_74, eX6_askOf_76, eX6_askOf_78, eX6_askOf_79, eX6_askOf_82, eX6_askOf_83, eX6_askOf_86, eX6_askOf_87, eX6_askOf_89, eX6_askOf_90, eX6_askOf_91, eX6_askOf_92, eX6_askOf_93, eX6_askOf_96, eX6_askOf_97, eX6_askOf_99, eX6_askOf_100, eX6_askOf_101, eX6_askOf_102, eX6_askOf_104, eX6_askOf_105, eX6_askOf_108, eX6_askOf_110, eX6_askOf_113, eX6_askOf_115, eX6_askOf_117, eX6_askOf_118, eX6_askOf_119, eX6_askOf_120, eX6_askOf_123, eX6_askOf_124, eX6_askOf_126, eX6_askOf_127, eX6_askOf_128, eX6_askOf_129, eX6_askOf_130, eX6_askOf_131, eX6_askOf_132, eX6_askOf_135, eX6_askOf_136, eX6_askOf_138, eX6_askOf_139, eX6_askOf_140, eX6_askOf_141, eX6_askOf_143, eX6_askOf_145, eX6_askOf_146, eX6_askOf_148, eX6_askOf_149, eX6_askOf_150, eX6_askOf_153, eX6_askOf_155, eX6_askOf_156, eX6_askOf_158, eX6_askOf_161, eX6_askOf_163, eX6_askOf_166, eX6_askOf_168, eX6_askOf_171, eX6_askOf_173, eX6_askOf_176, eX6_askOf_178, eX6_askOf_179, eX6_askOf_182, eX6_askOf_183, eX6_askOf_186, eX6_askOf_187, eX6_askOf_189, eX6_askOf_190, eX6_askOf_191, eX6_askOf_192, eX6_askOf_193, eX6_askOf_196, eX6_askOf_198, eX6_askOf_199, eX6_askOf_202, eX6_askOf_203, eX6_askOf_206, eX6_askOf_208, eX6_askOf_210, eX6_askOf_211, eX6_askOf_212, eX6_askOf_215, eX6_askOf_221, eX6_askOf_224, eX6_askOf_225, en_kl_0, en_kl_i, en_kl_r, en_kl_n, en_kl_l, en_Ec_some, en_Ec_void, en_rcv, en_stk, List.map_cons, List.map_nil, List.sum_cons, List.sum_nil, Value.category, Nat.reduceAdd, Nat.reduceLeDiff, decide_true, true_and, and_true, and_self, zI_add, zI_sub, zI_mul, zI_neg, zI_lt, zI_le, zI_eq, zI_cl, zI_0, zI_1, zI_m1, zI_lit, zT_0, zT_01, zI_01, zI_11, ↓reduceIte, if_true, if_false, not_false_eq_true, not_true_eq_false, Int.reduceEq, Int.reduceLT, Int.reduceLE, Classical.not_not, Bool.false_eq_true, fi_19, ft_19_0, ft_19_1, ft_19_2, ft_19_3, ft_19_5, ft_19_6, ft_19_7, ft_19_8, ft_19_12, ft_19_13, ft_19_14, ft_19_15, ft_19_16, ft_19_21, xi_20, xi_21, xi_22, xi_23, xi_24, xi_25, xi_26, xi_27, xi_28, xi_29, xi_30, xi_31, xi_32, xi_33, Int.toNat_natCast, Int.reduceToNat, h11, e1, b1']
      exact g
    · rw [if_neg b1] at g
      have e2 : (if a = 1 then oOne 0 0 else oTwo 0 0) = -1 := by split <;> rfl
      rw [e2] at g
      simp (disch := omega) only [eX6_askOf_0, eX6_askOf_1, eX6_askOf_4, eX6_askOf_6, eX6_askOf_7, eX6_askOf_8, eX6_askOf_9, eX6_askOf_12, eX6_askOf_15, eX6_askOf_17, eX6_askOf_20, eX6_askOf_21, eX6_askOf_24, eX6_askOf_25, eX6_askOf_26, eX6_askOf_27, eX6_askOf_31, eX6_askOf_32, eX6_askOf_35, eX6_askOf_37, eX6_askOf_39, eX6_askOf_40, eX6_askOf_42, eX6_askOf_45, eX6_askOf_47, eX6_askOf_48, eX6_askOf_50, eX6_askOf_51, eX6_askOf_54, eX6_askOf_56, eX6_askOf_59, eX6_askOf_61, eX6_askOf_63, eX6_askOf_64, eX6_askOf_68, eX6_askOf_70, eX6_askOf_73, eX6_askOf_74, eX6_askOf_76, eX6_askOf_78, eX6_askOf_79, eX6_askOf_82, eX6_askOf_83, eX6_askOf_86, eX6_askOf_87, eX6_askOf_89, eX6_askOf_90, eX6_askOf_91, eX6_askOf_92, eX6_askOf_93, eX6_askOf_96, eX6_askOf_97, eX6_askOf_99, eX6_askOf_100, eX6_askOf_101, eX6_askOf_102, eX6_askOf_104, eX6_askOf_105, eX6_askOf_108, eX6_askOf_110, eX6_askOf_113, eX6_askOf_115, eX6_askOf_117, eX6_askOf_118, eX6_askOf_119, eX6_askOf_120, eX6_askOf_123, eX6_askOf_124, eX6_askOf_126, eX6_askOf_127, eX6_askOf_128, eX6_askOf_129, eX6_askOf_130, eX6_askOf_131, eX6_askOf_132, eX6_askOf_135, eX6_askOf_136, eX6_askOf_138, eX6_askOf_139, eX6_askOf_140, eX6_askOf_141, eX6_askOf_143, eX6_askOf_145, eX6_askOf_146, eX6_askOf_148, eX6_askOf_149, eX6_askOf_150, eX6_askOf_153, eX6_askOf_155, eX6_askOf_156, eX6_askOf_158, eX6_askOf_161, eX6_askOf_163, eX6_askOf_166, eX6_askOf_168, eX6_askOf_171, eX6_askOf_173, eX6_askOf_176, eX6_askOf_178, eX6_askOf_179, eX6_askOf_182, eX6_askOf_183, eX6_askOf_186, eX6_askOf_187, eX6_askOf_189, eX6_askOf_190, eX6_askOf_191, eX6_askOf_192, eX6_askOf_193, eX6_askOf_196, eX6_askOf_198, eX6_askOf_199, eX6_askOf_202, eX6_askOf_203, eX6_askOf_206, eX6_askOf_208, eX6_askOf_210, eX6_askOf_211, eX6_askOf_212, eX6_askOf_215, eX6_askOf_221, eX6_askOf_224, eX6_askOf_225, en_kl_0, en_kl_i, en_kl_r, en_kl_n, en_kl_l, en_Ec_some, en_Ec_void, en_rcv, en_stk, List.map_cons, List.map_nil, List.sum_cons, List.sum_nil, Value.category, Nat.reduceAdd, Nat.reduceLeDiff, decide_true, true_and, and_true, and_self, zI_add, zI_sub, zI_mul, zI_neg, zI_lt, zI_le, zI_eq, zI_cl, zI_0, zI_1, zI_m1, zI_lit, zT_0, zT_01, zI_01, zI_11, ↓reduceIte, if_true, if_false, not_false_eq_true, not_true_eq_false, Int.reduceEq, Int.reduceLT, Int.reduceLE, Classical.not_not, Bool.false_eq_true, fi_19, ft_19_0, ft_19_1, ft_19_2, ft_19_3, ft_19_5, ft_19_6, ft_19_7, ft_19_8, ft_19_12, ft_19_13, ft_19_14, ft_19_15, ft_19_16, ft_19_21, xi_20, xi_21, xi_22, xi_23, xi_24, xi_25, xi_26, xi_27, xi_28, xi_29, xi_30, xi_31, xi_32, xi_33, Int.toNat_natCast, Int.reduceToNat, h11, e1, b1]
      exact g
  · rw [zT_f c0] at e1
    rw [hf0, if_neg (fun q => c0 (hx0.mp q))] at hfew
    have hfew1 : F = if 20 < cn + 1 then -4 else
      match fsr (p 1) 10 0 with
      | some row => rOf 1 (oOne 1 row) (oTwo 1 row)
      | none => if 20 < cn + 2 then -4 else
        match fsr (p 2) 100 0 with
        | some row => rOf 2 (oOne 2 row) (oTwo 2 row)
        | none => -1 := hfew
    have C1 : mC w1 cn cm cb := hC.nf f1
    have three : ∀ (v : en_W) (l7 l8 l9 : Option Value), ofr w v → F = -1 → en_Ev XX6_askOf 29 [some (.ref 19), some (.int (zI m)), some (.int (zI r)), some (.int (zI h)), some (.int (zI a)), some (.int (zI cn)), some (.int (zI 3)), l7, l8, l9] [] v Q := by
      intro v l7 l8 l9 fv e
      have g := hQ v fv
      rw [e, tRow_neg (by omega)] at g
      rw [eX6_askOf_29]
      simp (disch := omega) only [eX6_askOf_0, eX6_askOf_1, eX6_askOf_4, eX6_askOf_6, eX6_askOf_7, eX6_askOf_8, eX6_askOf_9, eX6_askOf_12, eX6_askOf_15, eX6_askOf_17, eX6_askOf_20, eX6_askOf_21, eX6_askOf_24, eX6_askOf_25, eX6_askOf_26, eX6_askOf_27, eX6_askOf_31, eX6_askOf_32, eX6_askOf_35, eX6_askOf_37, eX6_askOf_39, eX6_askOf_40, eX6_askOf_42, eX6_askOf_45, eX6_askOf_47, eX6_askOf_48, eX6_askOf_50, eX6_askOf_51, eX6_askOf_54, eX6_askOf_56, eX6_askOf_59, eX6_askOf_61, eX6_askOf_63, eX6_askOf_64, eX6_askOf_68, eX6_askOf_70, eX6_askOf_73, eX6_askOf_74, eX6_askOf_76, eX6_askOf_78, eX6_askOf_79, eX6_askOf_82, eX6_askOf_83, eX6_askOf_86, eX6_askOf_87, eX6_askOf_89, eX6_askOf_90, eX6_askOf_91, eX6_askOf_92, eX6_askOf_93, eX6_askOf_96, eX6_askOf_97, eX6_askOf_99, eX6_askOf_100, eX6_askOf_101, eX6_askOf_102, eX6_askOf_104, eX6_askOf_105, eX6_askOf_108, eX6_askOf_110, eX6_askOf_113, eX6_askOf_115, eX6_askOf_117, eX6_askOf_118, eX6_askOf_119, eX6_askOf_120, eX6_askOf_123, eX6_askOf_124, eX6_askOf_126, eX6_askOf_127, eX6_askOf_128, eX6_askOf_129, eX6_askOf_130, eX6_askOf_131, eX6_askOf_132, eX6_askOf_135, eX6_askOf_136, eX6_askOf_138, eX6_askOf_139, eX6_askOf_140, eX6_askOf_141, eX6_askOf_143, eX6_askOf_145, eX6_askOf_146, eX6_askOf_148, eX6_askOf_149, eX6_askOf_150, eX6_askOf_153, eX6_askOf_155, eX6_askOf_156, eX6_askOf_158, eX6_askOf_161, eX6_askOf_163, eX6_askOf_166, eX6_askOf_168, eX6_askOf_171, eX6_askOf_173, eX6_askOf_176, eX6_askOf_178, eX6_askOf_179, eX6_askOf_182, eX6_askOf_183, eX6_askOf_186, eX6_askOf_187, eX6_askOf_189, eX6_askOf_190, eX6_askOf_191, eX6_askOf_192, eX6_askOf_193, eX6_askOf_196, eX6_askOf_198, eX6_askOf_199, eX6_askOf_202, eX6_askOf_203, eX6_askOf_206, eX6_askOf_208, eX6_askOf_210, eX6_askOf_211, eX6_askOf_212, eX6_askOf_215, eX6_askOf_221, eX6_askOf_224, eX6_askOf_225, en_kl_0, en_kl_i, en_kl_r, en_kl_n, en_kl_l, en_Ec_some, en_Ec_void, en_rcv, en_stk, List.map_cons, List.map_nil, List.sum_cons, List.sum_nil, Value.category, Nat.reduceAdd, Nat.reduceLeDiff, decide_true, true_and, and_true, and_self, zI_add, zI_sub, zI_mul, zI_neg, zI_lt, zI_le, zI_eq, zI_cl, zI_0, zI_1, zI_m1, zI_lit, zT_0, zT_01, zI_01, zI_11, ↓reduceIte, if_true, if_false, not_false_eq_true, not_true_eq_false, Int.reduceEq, Int.reduceLT, Int.reduceLE, Classical.not_not, Bool.false_eq_true, fi_19, ft_19_0, ft_19_1, ft_19_2, ft_19_3, ft_19_5, ft_19_6, ft_19_7, ft_19_8, ft_19_12, ft_19_13, ft_19_14, ft_19_15, ft_19_16, ft_19_21, xi_20, xi_21, xi_22, xi_23, xi_24, xi_25, xi_26, xi_27, xi_28, xi_29, xi_30, xi_31, xi_32, xi_33, Int.toNat_natCast, Int.reduceToNat]
      exact g
    have full : ∀ (mo : Nat) (v : en_W) (l7 l8 l9 : Option Value), 1 ≤ mo → mo ≤ 2 → ofr w v → F = -4 → 20 < cn + mo → en_Ev XX6_askOf 29 [some (.ref 19), some (.int (zI m)), some (.int (zI r)), some (.int (zI h)), some (.int (zI a)), some (.int (zI cn)), some (.int (zI mo)), l7, l8, l9] [] v Q := by
      intro mo v l7 l8 l9 h1 h2 fv e hh
      have g := hQ v fv
      rw [e, tRow_neg (by omega)] at g
      have c1 : ¬ (3 : Int) ≤ (mo : Int) := by omega
      have c2 : ¬ (cn : Int) + (mo : Int) ≤ 20 := by omega
      rw [eX6_askOf_29]
      simp (disch := omega) only [eX6_askOf_0, eX6_askOf_1, eX6_askOf_4, eX6_askOf_6, eX6_askOf_7, eX6_askOf_8, eX6_askOf_9, eX6_askOf_12, eX6_askOf_15, eX6_askOf_17, eX6_askOf_20, eX6_askOf_21, eX6_askOf_24, eX6_askOf_25, eX6_askOf_26, eX6_askOf_27, eX6_askOf_31, eX6_askOf_32, eX6_askOf_35, eX6_askOf_37, eX6_askOf_39, eX6_askOf_40, eX6_askOf_42, eX6_askOf_45, eX6_askOf_47, eX6_askOf_48, eX6_askOf_50, eX6_askOf_51, eX6_askOf_54, eX6_askOf_56, eX6_askOf_59, eX6_askOf_61, eX6_askOf_63, eX6_askOf_64, eX6_askOf_68, eX6_askOf_70, eX6_askOf_73, eX6_askOf_74, eX6_askOf_76, eX6_askOf_78, eX6_askOf_79, eX6_askOf_82, eX6_askOf_83, eX6_askOf_86, eX6_askOf_87, eX6_askOf_89, eX6_askOf_90, eX6_askOf_91, eX6_askOf_92, eX6_askOf_93, eX6_askOf_96, eX6_askOf_97, eX6_askOf_99, eX6_askOf_100, eX6_askOf_101, eX6_askOf_102, eX6_askOf_104, eX6_askOf_105, eX6_askOf_108, eX6_askOf_110, eX6_askOf_113, eX6_askOf_115, eX6_askOf_117, eX6_askOf_118, eX6_askOf_119, eX6_askOf_120, eX6_askOf_123, eX6_askOf_124, eX6_askOf_126, eX6_askOf_127, eX6_askOf_128, eX6_askOf_129, eX6_askOf_130, eX6_askOf_131, eX6_askOf_132, eX6_askOf_135, eX6_askOf_136, eX6_askOf_138, eX6_askOf_139, eX6_askOf_140, eX6_askOf_141, eX6_askOf_143, eX6_askOf_145, eX6_askOf_146, eX6_askOf_148, eX6_askOf_149, eX6_askOf_150, eX6_askOf_153, eX6_askOf_155, eX6_askOf_156, eX6_askOf_158, eX6_askOf_161, eX6_askOf_163, eX6_askOf_166, eX6_askOf_168, eX6_askOf_171, eX6_askOf_173, eX6_askOf_176, eX6_askOf_178, eX6_askOf_179, eX6_askOf_182, eX6_askOf_183, eX6_askOf_186, eX6_askOf_187, eX6_askOf_189, eX6_askOf_190, eX6_askOf_191, eX6_askOf_192, eX6_askOf_193, eX6_askOf_196, eX6_askOf_198, eX6_askOf_199, eX6_askOf_202, eX6_askOf_203, eX6_askOf_206, eX6_askOf_208, eX6_askOf_210, eX6_askOf_211, eX6_askOf_212, eX6_askOf_215, eX6_askOf_221, eX6_askOf_224, eX6_askOf_225, en_kl_0, en_kl_i, en_kl_r, en_kl_n, en_kl_l, en_Ec_some, en_Ec_void, en_rcv, en_stk, List.map_cons, List.map_nil, List.sum_cons, List.sum_nil, Value.category, Nat.reduceAdd, Nat.reduceLeDiff, decide_true, true_and, and_true, and_self, zI_add, zI_sub, zI_mul, zI_neg, zI_lt, zI_le, zI_eq, zI_cl, zI_0, zI_1, zI_m1, zI_lit, zT_0, zT_01, zI_01, zI_11, ↓reduceIte, if_true, if_false, not_false_eq_true, not_true_eq_false, Int.reduceEq, Int.reduceLT, Int.reduceLE, Classical.not_not, Bool.false_eq_true, fi_19, ft_19_0, ft_19_1, ft_19_2, ft_19_3, ft_19_5, ft_19_6, ft_19_7, ft_19_8, ft_19_12, ft_19_13, ft_19_14, ft_19_15, ft_19_16, ft_19_21, xi_20, xi_21, xi_22, xi_23, xi_24, xi_25, xi_26, xi_27, xi_28, xi_29, xi_30, xi_31, xi_32, xi_33, Int.toNat_natCast, Int.reduceToNat, c1, c2]
      exact g
    have go : ∀ (mo R : Nat) (v : en_W) (l7 l8 l9 : Option Value), 1 ≤ mo → mo ≤ 2 → R = (if mo = 0 then 1 else if mo = 1 then 10 else 100) → cn + mo ≤ 20 → ofr w v → mC v cn cm cb →
        (∀ (row : Nat), row < R → fsr (p mo) R 0 = some row → F = rOf mo (oOne mo row) (oTwo mo row)) →
        (∀ (v : en_W) (l7 l8 l9 : Option Value), ofr w v → mC v cn cm cb → fsr (p mo) R 0 = none → en_Ev XX6_askOf 29 [some (.ref 19), some (.int (zI m)), some (.int (zI r)), some (.int (zI h)), some (.int (zI a)), some (.int (zI cn)), some (.int (zI ((mo : Int) + 1))), l7, l8, l9] [] v Q) →
        en_Ev XX6_askOf 29 [some (.ref 19), some (.int (zI m)), some (.int (zI r)), some (.int (zI h)), some (.int (zI a)), some (.int (zI cn)), some (.int (zI mo)), l7, l8, l9] [] v Q := by
      intro mo R v l7 l8 l9 h1 h2 hR hh fv vC q1 q2
      have c1 : ¬ (3 : Int) ≤ (mo : Int) := by omega
      have c2 : (cn : Int) + (mo : Int) ≤ 20 := by omega
      have g := inner mo R h1 h2 hR hh (fun u row fu hrow hf => by
          have g := hQ u fu
          rw [q1 row hrow hf, tRow_rOf h2 (by rw [← hR]; exact hrow) a0 a2] at g
          exact g) (fun u l8 l9 fu uC hf => by
          simp (disch := omega) only [eX6_askOf_218, eX6_askOf_221, en_kl_0, en_kl_i, en_kl_r, en_kl_n, en_kl_l, en_Ec_some, en_Ec_void, en_rcv, en_stk, List.map_cons, List.map_nil, List.sum_cons, List.sum_nil, Value.category, Nat.reduceAdd, Nat.reduceLeDiff, decide_true, true_and, and_true, and_self, zI_add, zI_sub, zI_mul, zI_neg, zI_lt, zI_le, zI_eq, zI_cl, zI_0, zI_1, zI_m1, zI_lit, zT_0, zT_01, zI_01, zI_11, ↓reduceIte, if_true, if_false, not_false_eq_true, not_true_eq_false, Int.reduceEq, Int.reduceLT, Int.reduceLE, Classical.not_not, Bool.false_eq_true]
          exact q2 u _ _ _ fu uC hf) R 0 v
      rw [eX6_askOf_29]
      have : mo = 1 ∨ mo = 2 := by omega
      rcases this with e | e
      · have b3' : ((mo : Int) = 1) = True := eq_true (by omega)
        have e10 : (R : Int) = 10 := by
          rw [hR, e]
          rfl
        rw [e10] at g
        simp (disch := omega) only [eX6_askOf_0, eX6_askOf_1, eX6_askOf_4, eX6_askOf_6, eX6_askOf_7, eX6_askOf_8, eX6_askOf_9, eX6_askOf_12, eX6_askOf_15, eX6_askOf_17, eX6_askOf_20, eX6_askOf_21, eX6_askOf_24, eX6_askOf_25, eX6_askOf_26, eX6_askOf_27, eX6_askOf_31, eX6_askOf_32, eX6_askOf_35, eX6_askOf_37, eX6_askOf_39, eX6_askOf_40, eX6_askOf_42, eX6_askOf_45, eX6_askOf_47, eX6_askOf_48, eX6_askOf_50, eX6_askOf_51, eX6_askOf_54, eX6_askOf_56, eX6_askOf_59, eX6_askOf_61, eX6_askOf_63, eX6_askOf_64, eX6_askOf_68, eX6_askOf_70, eX6_askOf_73, eX6_askOf_74, eX6_askOf_76, eX6_askOf_78, eX6_askOf_79, eX6_askOf_82, eX6_askOf_83, eX6_askOf_86, eX6_askOf_87, eX6_askOf_89, eX6_askOf_90, eX6_askOf_91, eX6_askOf_92, eX6_askOf_93, eX6_askOf_96, eX6_askOf_97, eX6_askOf_99, eX6_askOf_100, eX6_askOf_101, eX6_askOf_102, eX6_askOf_104, eX6_askOf_105, eX6_askOf_108, eX6_askOf_110, eX6_askOf_113, eX6_askOf_115, eX6_askOf_117, eX6_askOf_118, eX6_askOf_119, eX6_askOf_120, eX6_askOf_123, eX6_askOf_124, eX6_askOf_126, eX6_askOf_127, eX6_askOf_128, eX6_askOf_129, eX6_askOf_130, eX6_askOf_131, eX6_askOf_132, eX6_askOf_135, eX6_askOf_136, eX6_askOf_138, eX6_askOf_139, eX6_askOf_140, eX6_askOf_141, eX6_askOf_143, eX6_askOf_145, eX6_askOf_146, eX6_askOf_148, eX6_askOf_149, eX6_askOf_150, eX6_askOf_153, eX6_askOf_155, eX6_askOf_156, eX6_askOf_158, eX6_askOf_161, eX6_askOf_163, eX6_askOf_166, eX6_askOf_168, eX6_askOf_171, eX6_askOf_173, eX6_askOf_176, eX6_askOf_178, eX6_askOf_179, eX6_askOf_182, eX6_askOf_183, eX6_askOf_186, eX6_askOf_187, eX6_askOf_189, eX6_askOf_190, eX6_askOf_191, eX6_askOf_192, eX6_askOf_193, eX6_askOf_196, eX6_askOf_198, eX6_askOf_199, eX6_askOf_202, eX6_askOf_203, eX6_askOf_206, eX6_askOf_208, eX6_askOf_210, eX6_askOf_211, eX6_askOf_212, eX6_askOf_215, eX6_askOf_221, eX6_askOf_224, eX6_askOf_225, en_kl_0, en_kl_i, en_kl_r, en_kl_n, en_kl_l, en_Ec_some, en_Ec_void, en_rcv, en_stk, List.map_cons, List.map_nil, List.sum_cons, List.sum_nil, Value.category, Nat.reduceAdd, Nat.reduceLeDiff, decide_true, true_and, and_true, and_self, zI_add, zI_sub, zI_mul, zI_neg, zI_lt, zI_le, zI_eq, zI_cl, zI_0, zI_1, zI_m1, zI_lit, zT_0, zT_01, zI_01, zI_11, ↓reduceIte, if_true, if_false, not_false_eq_true, not_true_eq_false, Int.reduceEq, Int.reduceLT, Int.reduceLE, Classical.not_not, Bool.false_eq_true, fi_19, ft_19_0, ft_19_1, ft_19_2, ft_19_3, ft_19_5, ft_19_6, ft_19_7, ft_19_8, ft_19_12, ft_19_13, ft_19_14, ft_19_15, ft_19_16, ft_19_21, xi_20, xi_21, xi_22, xi_23, xi_24, xi_25, xi_26, xi_27, xi_28, xi_29, xi_30, xi_31, xi_32, xi_33, Int.toNat_natCast, Int.reduceToNat, c1, c2, b3']
        exact g _ (by omega) fv vC rfl
      · have b3' : ¬ ((mo : Int) = 1) := by omega
        have e10 : (R : Int) = 100 := by
          rw [hR, e]
          rfl
        rw [e10] at g
        simp (disch := omega) only [eX6_askOf_0, eX6_askOf_1, eX6_askOf_4, eX6_askOf_6, eX6_askOf_7, eX6_askOf_8, eX6_askOf_9, eX6_askOf_12, eX6_askOf_15, eX6_askOf_17, eX6_askOf_20, eX6_askOf_21, eX6_askOf_24, eX6_askOf_25, eX6_askOf_26, eX6_askOf_27, eX6_askOf_31, eX6_askOf_32, eX6_askOf_35, eX6_askOf_37, eX6_askOf_39, eX6_askOf_40, eX6_askOf_42, eX6_askOf_45, eX6_askOf_47, eX6_askOf_48, eX6_askOf_50, eX6_askOf_51, eX6_askOf_54, eX6_askOf_56, eX6_askOf_59, eX6_askOf_61, eX6_askOf_63, eX6_askOf_64, eX6_askOf_68, eX6_askOf_70, eX6_askOf_73, eX6_askOf_74, eX6_askOf_76, eX6_askOf_78, eX6_askOf_79, eX6_askOf_82, eX6_askOf_83, eX6_askOf_86, eX6_askOf_87, eX6_askOf_89, eX6_askOf_90, eX6_askOf_91, eX6_askOf_92, eX6_askOf_93, eX6_askOf_96, eX6_askOf_97, eX6_askOf_99, eX6_askOf_100, eX6_askOf_101, eX6_askOf_102, eX6_askOf_104, eX6_askOf_105, eX6_askOf_108, eX6_askOf_110, eX6_askOf_113, eX6_askOf_115, eX6_askOf_117, eX6_askOf_118, eX6_askOf_119, eX6_askOf_120, eX6_askOf_123, eX6_askOf_124, eX6_askOf_126, eX6_askOf_127, eX6_askOf_128, eX6_askOf_129, eX6_askOf_130, eX6_askOf_131, eX6_askOf_132, eX6_askOf_135, eX6_askOf_136, eX6_askOf_138, eX6_askOf_139, eX6_askOf_140, eX6_askOf_141, eX6_askOf_143, eX6_askOf_145, eX6_askOf_146, eX6_askOf_148, eX6_askOf_149, eX6_askOf_150, eX6_askOf_153, eX6_askOf_155, eX6_askOf_156, eX6_askOf_158, eX6_askOf_161, eX6_askOf_163, eX6_askOf_166, eX6_askOf_168, eX6_askOf_171, eX6_askOf_173, eX6_askOf_176, eX6_askOf_178, eX6_askOf_179, eX6_askOf_182, eX6_askOf_183, eX6_askOf_186, eX6_askOf_187, eX6_askOf_189, eX6_askOf_190, eX6_askOf_191, eX6_askOf_192, eX6_askOf_193, eX6_askOf_196, eX6_askOf_198, eX6_askOf_199, eX6_askOf_202, eX6_askOf_203, eX6_askOf_206, eX6_askOf_208, eX6_askOf_210, eX6_askOf_211, eX6_askOf_212, eX6_askOf_215, eX6_askOf_221, eX6_askOf_224, eX6_askOf_225, en_kl_0, en_kl_i, en_kl_r, en_kl_n, en_kl_l, en_Ec_some, en_Ec_void, en_rcv, en_stk, List.map_cons, List.map_nil, List.sum_cons, List.sum_nil, Value.category, Nat.reduceAdd, Nat.reduceLeDiff, decide_true, true_and, and_true, and_self, zI_add, zI_sub, zI_mul, zI_neg, zI_lt, zI_le, zI_eq, zI_cl, zI_0, zI_1, zI_m1, zI_lit, zT_0, zT_01, zI_01, zI_11, ↓reduceIte, if_true, if_false, not_false_eq_true, not_true_eq_false, Int.reduceEq, Int.reduceLT, Int.reduceLE, Classical.not_not, Bool.false_eq_true, fi_19, ft_19_0, ft_19_1, ft_19_2, ft_19_3, ft_19_5, ft_19_6, ft_19_7, ft_19_8, ft_19_12, ft_19_13, ft_19_14, ft_19_15, ft_19_16, ft_19_21, xi_20, xi_21, xi_22, xi_23, xi_24, xi_25, xi_26, xi_27, xi_28, xi_29, xi_30, xi_31, xi_32, xi_33, Int.toNat_natCast, Int.reduceToNat, c1, c2, b3']
        exact g _ (by omega) fv vC rfl
    have start : en_Ev XX6_askOf 29 [some (.ref 19), some (.int (zI m)), some (.int (zI r)), some (.int (zI h)), some (.int (zI a)), some (.int (zI cn)), some (.int (zI ((1 : Nat) : Int))), none, none, none] [] w1 Q := by
      by_cases d1 : 20 < cn + 1
      · rw [if_pos d1] at hfew1
        exact full 1 w1 _ _ _ (by omega) (by omega) f1.o hfew1 d1
      · rw [if_neg d1] at hfew1
        refine go 1 10 w1 _ _ _ (by omega) (by omega) rfl (by omega) f1.o C1 (fun row _ hf => ?_) (fun v l7 l8 l9 fv vC hf => ?_)
        · rw [hf] at hfew1
          exact hfew1
        · rw [hf] at hfew1
          have hfew2 : F = if 20 < cn + 2 then -4 else
            match fsr (p 2) 100 0 with
            | some row => rOf 2 (oOne 2 row) (oTwo 2 row)
            | none => -1 := hfew1
          show en_Ev XX6_askOf 29 [some (.ref 19), some (.int (zI m)), some (.int (zI r)), some (.int (zI h)), some (.int (zI a)), some (.int (zI cn)), some (.int (zI ((2 : Nat) : Int))), l7, l8, l9] [] v Q
          by_cases d2 : 20 < cn + 2
          · rw [if_pos d2] at hfew2
            exact full 2 v _ _ _ (by omega) (by omega) fv hfew2 d2
          · rw [if_neg d2] at hfew2
            refine go 2 100 v _ _ _ (by omega) (by omega) rfl (by omega) fv vC (fun row _ hf => ?_) (fun v l7 l8 l9 fv vC hf => ?_)
            · rw [hf] at hfew2
              exact hfew2
            · rw [hf] at hfew2
              exact three v l7 l8 l9 fv hfew2
    simp (disch := omega) only [eX6_askOf_0, eX6_askOf_1, eX6_askOf_4, eX6_askOf_6, eX6_askOf_7, eX6_askOf_8, eX6_askOf_9, eX6_askOf_12, eX6_askOf_15, eX6_askOf_17, eX6_askOf_20, eX6_askOf_21, eX6_askOf_24, eX6_askOf_25, eX6_askOf_26, eX6_askOf_27, eX6_askOf_31, eX6_askOf_32, eX6_askOf_35, eX6_askOf_37, eX6_askOf_39, eX6_askOf_40, eX6_askOf_42, eX6_askOf_45, eX6_askOf_47, eX6_askOf_48, eX6_askOf_50, eX6_askOf_51, eX6_askOf_54, eX6_askOf_56, eX6_askOf_59, eX6_askOf_61, eX6_askOf_63, eX6_askOf_64, eX6_askOf_68, eX6_askOf_70, eX6_askOf_73, eX6_askOf_74, eX6_askOf_76, eX6_askOf_78, eX6_askOf_79, eX6_askOf_82, eX6_askOf_83, eX6_askOf_86, eX6_askOf_87, eX6_askOf_89, eX6_askOf_90, eX6_askOf_91, eX6_askOf_92, eX6_askOf_93, eX6_askOf_96, eX6_askOf_97, eX6_askOf_99, eX6_askOf_100, eX6_askOf_101, eX6_askOf_102, eX6_askOf_104, eX6_askOf_105, eX6_askOf_108, eX6_askOf_110, eX6_askOf_113, eX6_askOf_115, eX6_askOf_117, eX6_askOf_118, eX6_askOf_119, eX6_askOf_120, eX6_askOf_123, eX6_askOf_124, eX6_askOf_126, eX6_askOf_127, eX6_askOf_128, eX6_askOf_129, eX6_askOf_130, eX6_askOf_131, eX6_askOf_132, eX6_askOf_135, eX6_askOf_136, eX6_askOf_138, eX6_askOf_139, eX6_askOf_140, eX6_askOf_141, eX6_askOf_143, eX6_askOf_145, eX6_askOf_146, eX6_askOf_148, eX6_askOf_149, eX6_askOf_150, eX6_askOf_153, eX6_askOf_155, eX6_askOf_156, eX6_askOf_158, eX6_askOf_161, eX6_askOf_163, eX6_askOf_166, eX6_askOf_168, eX6_askOf_171, eX6_askOf_173, eX6_askOf_176, eX6_askOf_178, eX6_askOf_179, eX6_askOf_182, eX6_askOf_183, eX6_askOf_186, eX6_askOf_187, eX6_askOf_189, eX6_askOf_190, eX6_askOf_191, eX6_askOf_192, eX6_askOf_193, eX6_askOf_196, eX6_askOf_198, eX6_askOf_199, eX6_askOf_202, eX6_askOf_203, eX6_askOf_206, eX6_askOf_208, eX6_askOf_210, eX6_askOf_211, eX6_askOf_212, eX6_askOf_215, eX6_askOf_221, eX6_askOf_224, eX6_askOf_225, en_kl_0, en_kl_i, en_kl_r, en_kl_n, en_kl_l, en_Ec_some, en_Ec_void, en_rcv, en_stk, List.map_cons, List.map_nil, List.sum_cons, List.sum_nil, Value.category, Nat.reduceAdd, Nat.reduceLeDiff, decide_true, true_and, and_true, and_self, zI_add, zI_sub, zI_mul, zI_neg, zI_lt, zI_le, zI_eq, zI_cl, zI_0, zI_1, zI_m1, zI_lit, zT_0, zT_01, zI_01, zI_11, ↓reduceIte, if_true, if_false, not_false_eq_true, not_true_eq_false, Int.reduceEq, Int.reduceLT, Int.reduceLE, Classical.not_not, Bool.false_eq_true, fi_19, ft_19_0, ft_19_1, ft_19_2, ft_19_3, ft_19_5, ft_19_6, ft_19_7, ft_19_8, ft_19_12, ft_19_13, ft_19_14, ft_19_15, ft_19_16, ft_19_21, xi_20, xi_21, xi_22, xi_23, xi_24, xi_25, xi_26, xi_27, xi_28, xi_29, xi_30, xi_31, xi_32, xi_33, Int.toNat_natCast, Int.reduceToNat, h11, e1]
    exact start
end
