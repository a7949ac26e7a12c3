/-! ===== the model's wax ===== -/
theorem one_ok : ∀ v, v < 512 → v ≠ 0 → ((nI v &&& (nI v - zI 1)) = nI (v &&& (v - 1)) ∧ (v &&& (v - 1)) < v ∧ pcn 9 (v &&& (v - 1)) + 1 = pcn 9 v) := by decide +kernel
theorem nI_and {a b : Nat} (ha : a < 2147483648) (hb : b < 2147483648) : nI a &&& nI b = nI (a &&& b) := by
  show Int32.ofNat a &&& Int32.ofNat b = Int32.ofNat _
  apply Int32.toBitVec_inj.mp
  rw [Int32.toBitVec_and]
  show BitVec.ofNat 32 a &&& BitVec.ofNat 32 b = BitVec.ofNat 32 _
  apply BitVec.eq_of_toNat_eq
  simp only [BitVec.toNat_and, BitVec.toNat_ofNat]
  rw [Nat.mod_eq_of_lt (show a < 2 ^ 32 by omega), Nat.mod_eq_of_lt (show b < 2 ^ 32 by omega), Nat.mod_eq_of_lt (a := _ &&& b)]
  exact Nat.lt_of_le_of_lt Nat.and_le_right (by omega)
theorem nI_inj {a b : Nat} (ha : a < 2147483648) (hb : b < 2147483648) : nI a = nI b ↔ a = b := by
  rw [zI_nI, zI_nI, zI_eq (by omega) (by omega) (by omega) (by omega)]
  omega
theorem nI_sbm {i N : Nat} (hi : i < 2147483648) (hN : N < 2147483648) : (nI i &&& (nI N ^^^ zI (-1)) = zI 0) = sbm i N := by
  have e : (nI i &&& (nI N ^^^ zI (-1)) = zI 0) ↔ nI i &&& nI N = nI i := by
    have h : ∀ x y : BitVec 32, (x &&& (y ^^^ BitVec.allOnes 32) = 0#32) ↔ x &&& y = x := by
      intro x y
      rw [BitVec.xor_allOnes]
      constructor
      · intro h
        apply BitVec.eq_of_getLsbD_eq
        intro i hi
        have := congrArg (fun z => z.getLsbD i) h
        simp only [BitVec.getLsbD_and, BitVec.getLsbD_not, BitVec.getLsbD_zero, hi, decide_true, Bool.true_and] at this ⊢
        revert this
        cases x.getLsbD i <;> cases y.getLsbD i <;> simp
      · intro h
        apply BitVec.eq_of_getLsbD_eq
        intro i hi
        have := congrArg (fun z => z.getLsbD i) h
        simp only [BitVec.getLsbD_and, BitVec.getLsbD_not, BitVec.getLsbD_zero, hi, decide_true, Bool.true_and] at this ⊢
        revert this
        cases x.getLsbD i <;> cases y.getLsbD i <;> simp
    have h2 := h (nI i).toBitVec (nI N).toBitVec
    rw [← Int32.toBitVec_inj, ← Int32.toBitVec_inj, Int32.toBitVec_and, Int32.toBitVec_xor, Int32.toBitVec_and]
    exact h2
  rw [nI_and hi hN, nI_inj (Nat.lt_of_le_of_lt Nat.and_le_right hN) hi] at e
  exact propext e
def bI : Option Nat → Int
  | none => -1
  | some v => v
theorem mb_bit {G : Int} {s : Nat → Int} : ∀ n g : Nat, g < n → (mb G s n).testBit g = decide ((g : Int) < G ∧ s g ≠ -1)
  | 0, g, h => by omega
  | n + 1, g, h => by
    have hlt := mb_lt G s n
    unfold mb
    by_cases e : g = n
    · subst e
      by_cases c : (g : Int) < G ∧ s g ≠ -1
      · rw [if_pos c, Nat.add_comm, Nat.testBit_two_pow_add_eq, Nat.testBit_lt_two_pow hlt]
        simp [c]
      · rw [if_neg c, Nat.add_zero, Nat.testBit_lt_two_pow hlt]
        simp [c]
    · by_cases c : (n : Int) < G ∧ s n ≠ -1
      · rw [if_pos c, Nat.add_comm, Nat.testBit_two_pow_add_gt (by omega)]
        exact mb_bit n g (by omega)
      · rw [if_neg c, Nat.add_zero]
        exact mb_bit n g (by omega)
theorem mgd_full {G : Int} {s : Nat → Int} (h1 : 1 ≤ G) (h9 : G ≤ 9) : mgd G s (mb G s 9) = true := by
  have key : ∀ n : Nat, mp G s (mb G s 9) n = if (n : Int) < G then (n : Int) else -1 := by
    intro n
    induction n with
    | zero => unfold mp; rw [if_pos (by omega)]; rfl
    | succ n ih =>
      show mx G s _ (mp G s (mb G s 9) n) = _
      rw [ih]
      by_cases c : (n : Int) < G
      · rw [if_pos c, mx_rx (by omega)]
        have hr : rx s (mb G s 9) n = (n : Int) + 1 := by
          unfold rx
          rw [if_pos]
          rw [mb_bit 9 n (by omega), decide_eq_true_eq]
          by_cases c2 : s n = -1
          · exact .inl c2
          · exact .inr ⟨c, c2⟩
        rw [hr]
        by_cases c3 : G ≤ (n : Int) + 1
        · rw [if_pos c3, if_neg (by omega)]
        · rw [if_neg c3, if_pos (by omega)]
          rfl
      · rw [if_neg c, mx_m1, if_neg (by omega)]
  unfold mgd
  rw [key 9, if_neg (by omega)]
  rfl
section
variable {w : en_W} {G : Nat → Int} {s : Nat → Nat → Int} {kick law life pat : Int} {v a m : Int} {r g p : Nat}
theorem r_ones (hp : p < 512) : SX6_ones [.int (nI p)] w = some (some (.int (nI (pcn 9 p))), w) := by
  refine en_val rfl (fun Q hQ => ?_)
  show en_Ev XX6_ones 0 [some (.int (nI p)), none, none] [] w Q
  have loop : ∀ (d c v : Nat), v < d → v < 512 → c + pcn 9 v = pcn 9 p → en_Ev XX6_ones 4 [some (.int (nI p)), some (.int (zI c)), some (.int (nI v))] [] w Q := by
    intro d
    induction d with
    | zero => intro c v h1; omega
    | succ d ih =>
      intro c v h1 h2 h3
      rw [eX6_ones_4]
      by_cases e : v = 0
      · subst e
        have e0 : nI 0 = zI 0 := by decide
        have : pcn 9 0 = 0 := by decide
        rw [zI_nI] at hQ
        simp (disch := omega) only [eX6_ones_0, eX6_ones_1, eX6_ones_2, eX6_ones_3, eX6_ones_5, eX6_ones_8, eX6_ones_11, eX6_ones_12, eX6_ones_13, eX6_ones_14, eX6_ones_15, eX6_ones_16, eX6_ones_17, eX6_ones_20, eX6_ones_21, en_kl_0, en_kl_i, en_kl_r, en_kl_n, en_kl_l, en_Ec_some, en_Ec_void, en_rcv, en_stk, List.map_cons, List.map_nil, List.sum_cons, List.sum_nil, Value.category, Nat.reduceAdd, Nat.reduceLeDiff, decide_true, true_and, and_true, and_self, zI_add, zI_sub, zI_mul, zI_neg, zI_lt, zI_le, zI_eq, zI_cl, zI_0, zI_1, zI_m1, zI_lit, zT_0, zT_01, zI_01, zI_11, ↓reduceIte, if_true, if_false, not_false_eq_true, not_true_eq_false, Int.reduceEq, Int.reduceLT, Int.reduceLE, Classical.not_not, Bool.false_eq_true, e0]
        rw [show c = pcn 9 p by omega]
        exact hQ
      · obtain ⟨o1, o2, o3⟩ := one_ok v h2 e
        have c2 : ¬ nI v = zI 0 := by
          rw [zI_nI, zI_eq (by omega) (by omega) (by omega) (by omega)]
          omega
        simp (disch := omega) only [eX6_ones_0, eX6_ones_1, eX6_ones_2, eX6_ones_3, eX6_ones_5, eX6_ones_8, eX6_ones_11, eX6_ones_12, eX6_ones_13, eX6_ones_14, eX6_ones_15, eX6_ones_16, eX6_ones_17, eX6_ones_20, eX6_ones_21, en_kl_0, en_kl_i, en_kl_r, en_kl_n, en_kl_l, en_Ec_some, en_Ec_void, en_rcv, en_stk, List.map_cons, List.map_nil, List.sum_cons, List.sum_nil, Value.category, Nat.reduceAdd, Nat.reduceLeDiff, decide_true, true_and, and_true, and_self, zI_add, zI_sub, zI_mul, zI_neg, zI_lt, zI_le, zI_eq, zI_cl, zI_0, zI_1, zI_m1, zI_lit, zT_0, zT_01, zI_01, zI_11, ↓reduceIte, if_true, if_false, not_false_eq_true, not_true_eq_false, Int.reduceEq, Int.reduceLT, Int.reduceLE, Classical.not_not, Bool.false_eq_true, c2, o1]
        exact ih (c + 1) (v &&& (v - 1)) (by omega) (by omega) (by omega)
  simp (disch := omega) only [eX6_ones_0, eX6_ones_1, eX6_ones_2, eX6_ones_3, en_kl_0, en_kl_i, en_kl_r, en_kl_n, en_kl_l, en_Ec_some, en_Ec_void, en_rcv, en_stk, List.map_cons, List.map_nil, List.sum_cons, List.sum_nil, Value.category, Nat.reduceAdd, Nat.reduceLeDiff, decide_true, true_and, and_true, and_self, zI_add, zI_sub, zI_mul, zI_neg, zI_lt, zI_le, zI_eq, zI_cl, zI_0, zI_1, zI_m1, zI_lit, zT_0, zT_01, zI_01, zI_11, ↓reduceIte, if_true, if_false, not_false_eq_true, not_true_eq_false, Int.reduceEq, Int.reduceLT, Int.reduceLE, Classical.not_not, Bool.false_eq_true]
  exact loop 512 0 p (by omega) hp (by omega)
theorem r_onesI {b : Option Nat} (hb : ∀ v, b = some v → v < 512) (hn : b ≠ none) : SX6_ones [.int (zI (bI b))] w = some (some (.int (zI (pcn 9 (bI b).toNat))), w) := by
  cases b with
  | none => exact absurd rfl hn
  | some v =>
    have e := r_ones (w := w) (hb v rfl)
    rw [zI_nI, zI_nI] at e
    exact e
theorem r_waxOf (hG : bG w G s) (hr : r < 10) (h3 : 0 ≤ a) (h4 : a ≤ 1) : SX6_waxOf [.ref 19, .int (zI r), .int (zI a)] w = some (some (.int (zI (aWx (G r) (s r) a))), w) := by
  obtain ⟨e1, e2, e3⟩ := hG.1 r hr
  have hN : mb (G r) (s r) 9 < 2 ^ 9 := mb_lt _ _ 9
  have hgo : ∀ p, p < 2147483648 → SX6_goes [.ref 19, .int (zI r), .int (nI p)] w = some (some (.int (zI (gN (G r) (s r) p 9 0))), w) := fun p hp => r_goes hG hr hp
  have hfull := mgd_full (s := s r) e2 e3
  refine en_val rfl (fun Q hQ => ?_)
  show en_Ev XX6_waxOf 0 [some (.ref 19), some (.int (zI r)), some (.int (zI a)), none, none, none, none] [] w Q
  have hN0 : ∀ i : Nat, ¬ (i : Int) < G r → mb (G r) (s r) i = mb (G r) (s r) 9 ∨ 9 < i := fun i hi => by
    by_cases c : 9 < i
    · exact .inr c
    · have := mb_stop (s := s r) (show G r ≤ (i : Int) by omega) (9 - i)
      rw [show i + (9 - i) = 9 by omega] at this
      exact .inl this.symm
  obtain ⟨N, eN⟩ : ∃ N, mb (G r) (s r) 9 = N := ⟨_, rfl⟩
  unfold aWx at hQ
  rw [eN] at hN hQ hfull hN0
  have hN' : N < 512 := hN
  have hWsome : wbt (mgd (G r) (s r)) N (N + 1) ≠ none := by
    rw [wbt_succ]
    cases h : wbt (mgd (G r) (s r)) N N with
    | none =>
      rw [if_pos ⟨Nat.and_self N, fun v hv => by (cases hv), hfull⟩]
      simp
    | some v =>
      split <;> simp
  have hW : bI (wbt (mgd (G r) (s r)) N (N + 1)) = (wR (mgd (G r) (s r)) N : Int) := by
    unfold wR
    cases h : wbt (mgd (G r) (s r)) N (N + 1) with
    | none => exact absurd h hWsome
    | some v => rfl
  have loop2 : ∀ (d i : Nat) (l6 : Option Value), i + d = N + 1 → en_Ev XX6_waxOf 55 [some (.ref 19), some (.int (zI r)), some (.int (zI a)), some (.int (nI N)), some (.int (zI (bI (wbt (mgd (G r) (s r)) N i)))), some (.int (zI i)), l6] [] w Q := by
    intro d
    induction d with
    | zero =>
      intro i l6 hi
      have ei : i = N + 1 := by omega
      subst ei
      have c1 : (N : Int) < ((N + 1 : Nat) : Int) := by omega
      have hle : wR (mgd (G r) (s r)) N < 512 := Nat.lt_of_le_of_lt wR_le hN'
      rw [eX6_waxOf_55]
      by_cases c : a = 0
      · subst c
        rw [if_pos rfl] at hQ
        have ho := r_ones (w := w) hle
        rw [zI_nI, zI_nI] at ho
        rw [hW]
        simp (disch := omega) only [eX6_waxOf_0, eX6_waxOf_1, eX6_waxOf_2, eX6_waxOf_3, eX6_waxOf_7, eX6_waxOf_8, eX6_waxOf_11, eX6_waxOf_12, eX6_waxOf_13, eX6_waxOf_16, eX6_waxOf_17, eX6_waxOf_18, eX6_waxOf_21, eX6_waxOf_23, eX6_waxOf_24, eX6_waxOf_25, eX6_waxOf_27, eX6_waxOf_28, eX6_waxOf_29, eX6_waxOf_30, eX6_waxOf_33, eX6_waxOf_34, eX6_waxOf_37, eX6_waxOf_38, eX6_waxOf_40, eX6_waxOf_41, eX6_waxOf_42, eX6_waxOf_43, eX6_waxOf_46, eX6_waxOf_49, eX6_waxOf_50, eX6_waxOf_52, eX6_waxOf_53, eX6_waxOf_57, eX6_waxOf_58, eX6_waxOf_61, eX6_waxOf_63, eX6_waxOf_64, eX6_waxOf_67, eX6_waxOf_69, eX6_waxOf_72, eX6_waxOf_74, eX6_waxOf_77, eX6_waxOf_80, eX6_waxOf_81, eX6_waxOf_84, eX6_waxOf_85, eX6_waxOf_87, eX6_waxOf_89, eX6_waxOf_90, eX6_waxOf_91, eX6_waxOf_92, eX6_waxOf_93, eX6_waxOf_96, eX6_waxOf_98, eX6_waxOf_101, eX6_waxOf_102, eX6_waxOf_103, eX6_waxOf_105, eX6_waxOf_108, eX6_waxOf_109, eX6_waxOf_112, eX6_waxOf_114, eX6_waxOf_117, eX6_waxOf_119, eX6_waxOf_121, eX6_waxOf_124, eX6_waxOf_127, eX6_waxOf_128, eX6_waxOf_131, eX6_waxOf_133, eX6_waxOf_136, eX6_waxOf_139, eX6_waxOf_141, en_kl_0, en_kl_i, en_kl_r, en_kl_n, en_kl_l, en_Ec_some, en_Ec_void, en_rcv, en_stk, List.map_cons, List.map_nil, List.sum_cons, List.sum_nil, Value.category, Nat.reduceAdd, Nat.reduceLeDiff, decide_true, true_and, and_true, and_self, zI_add, zI_sub, zI_mul, zI_neg, zI_lt, zI_le, zI_eq, zI_cl, zI_0, zI_1, zI_m1, zI_lit, zT_0, zT_01, zI_01, zI_11, ↓reduceIte, if_true, if_false, not_false_eq_true, not_true_eq_false, Int.reduceEq, Int.reduceLT, Int.reduceLE, Classical.not_not, Bool.false_eq_true, fi_19, ft_19_0, ft_19_1, ft_19_2, ft_19_3, ft_19_5, ft_19_6, ft_19_7, ft_19_8, ft_19_12, ft_19_13, ft_19_14, ft_19_15, ft_19_16, ft_19_21, xi_20, xi_21, xi_22, xi_23, xi_24, xi_25, xi_26, xi_27, xi_28, xi_29, xi_30, xi_31, xi_32, xi_33, Int.toNat_natCast, Int.reduceToNat, c1, zI_nI, ho]
        exact hQ
      · rw [if_neg c] at hQ
        rw [hW]
        simp (disch := omega) only [eX6_waxOf_0, eX6_waxOf_1, eX6_waxOf_2, eX6_waxOf_3, eX6_waxOf_7, eX6_waxOf_8, eX6_waxOf_11, eX6_waxOf_12, eX6_waxOf_13, eX6_waxOf_16, eX6_waxOf_17, eX6_waxOf_18, eX6_waxOf_21, eX6_waxOf_23, eX6_waxOf_24, eX6_waxOf_25, eX6_waxOf_27, eX6_waxOf_28, eX6_waxOf_29, eX6_waxOf_30, eX6_waxOf_33, eX6_waxOf_34, eX6_waxOf_37, eX6_waxOf_38, eX6_waxOf_40, eX6_waxOf_41, eX6_waxOf_42, eX6_waxOf_43, eX6_waxOf_46, eX6_waxOf_49, eX6_waxOf_50, eX6_waxOf_52, eX6_waxOf_53, eX6_waxOf_57, eX6_waxOf_58, eX6_waxOf_61, eX6_waxOf_63, eX6_waxOf_64, eX6_waxOf_67, eX6_waxOf_69, eX6_waxOf_72, eX6_waxOf_74, eX6_waxOf_77, eX6_waxOf_80, eX6_waxOf_81, eX6_waxOf_84, eX6_waxOf_85, eX6_waxOf_87, eX6_waxOf_89, eX6_waxOf_90, eX6_waxOf_91, eX6_waxOf_92, eX6_waxOf_93, eX6_waxOf_96, eX6_waxOf_98, eX6_waxOf_101, eX6_waxOf_102, eX6_waxOf_103, eX6_waxOf_105, eX6_waxOf_108, eX6_waxOf_109, eX6_waxOf_112, eX6_waxOf_114, eX6_waxOf_117, eX6_waxOf_119, eX6_waxOf_121, eX6_waxOf_124, eX6_waxOf_127, eX6_waxOf_128, eX6_waxOf_131, eX6_waxOf_133, eX6_waxOf_136, eX6_waxOf_139, eX6_waxOf_141, en_kl_0, en_kl_i, en_kl_r, en_kl_n, en_kl_l, en_Ec_some, en_Ec_void, en_rcv, en_stk, List.map_cons, List.map_nil, List.sum_cons, List.sum_nil, Value.category, Nat.reduceAdd, Nat.reduceLeDiff, decide_true, true_and, and_true, and_self, zI_add, zI_sub, zI_mul, zI_neg, zI_lt, zI_le, zI_eq, zI_cl, zI_0, zI_1, zI_m1, zI_lit, zT_0, zT_01, zI_01, zI_11, ↓reduceIte, if_true, if_false, not_false_eq_true, not_true_eq_false, Int.reduceEq, Int.reduceLT, Int.reduceLE, Classical.not_not, Bool.false_eq_true, fi_19, ft_19_0, ft_19_1, ft_19_2, ft_19_3, ft_19_5, ft_19_6, ft_19_7, ft_19_8, ft_19_12, ft_19_13, ft_19_14, ft_19_15, ft_19_16, ft_19_21, xi_20, xi_21, xi_22, xi_23, xi_24, xi_25, xi_26, xi_27, xi_28, xi_29, xi_30, xi_31, xi_32, xi_33, Int.toNat_natCast, Int.reduceToNat, c1, zI_nI, c]
        exact hQ
    | succ d ih =>
      intro i l6 hi
      have c1 : ¬ (N : Int) < (i : Int) := by omega
      have hnx := ih (i + 1)
      rw [wbt_succ] at hnx
      have hon := r_ones (w := w) (show i < 512 by omega)
      rw [zI_nI, zI_nI] at hon
      have hsb := nI_sbm (show i < 2147483648 by omega) (show N < 2147483648 by omega)
      rw [zI_nI, zI_nI] at hsb
      have hgi := hgo i (by omega)
      rw [zI_nI] at hgi
      have hrg : -1 ≤ gN (G r) (s r) i 9 0 ∧ gN (G r) (s r) i 9 0 ≤ 9 := by
        have : ∀ f n : Nat, n + f ≤ 9 → -1 ≤ gN (G r) (s r) i f n ∧ gN (G r) (s r) i f n ≤ 9 := by
          intro f
          induction f with
          | zero => intro n _; unfold gN; omega
          | succ f ihf =>
            intro n hn
            unfold gN
            split
            · omega
            · exact ihf (n + 1) (by omega)
        exact this 9 0 (by omega)
      have hgd : mgd (G r) (s r) i = true ↔ ¬ gN (G r) (s r) i 9 0 = -1 := by
        unfold mgd
        rw [decide_eq_true_eq, gN_9]
        exact ⟨fun z z2 => z2 z, fun z => Classical.not_not.mp z⟩
      have hpi := pcn_le 9 i
      -- from 87 on: whether it is fewer, told
      have tail : ∀ F : Prop, ∀ [Decidable F], (F ↔ ∀ v, wbt (mgd (G r) (s r)) N i = some v → pcn 9 i < pcn 9 v) → en_Ev XX6_waxOf 85 [some (.ref 19), some (.int (zI r)), some (.int (zI a)), some (.int (zI N)), some (.int (zI (bI (wbt (mgd (G r) (s r)) N i)))), some (.int (zI i)), l6] [.int (zT F)] w Q := by
        intro F _ hF
        by_cases k1 : sbm i N
        · have hs1 := hsb.trans (eq_true k1)
          by_cases k2 : F
          · by_cases k3 : mgd (G r) (s r) i = true
            · rw [if_pos ⟨k1, hF.mp k2, k3⟩, zI_nI] at hnx
              have k3' := hgd.mp k3
              rw [zT_t k2]
              simp (disch := omega) only [eX6_waxOf_0, eX6_waxOf_1, eX6_waxOf_2, eX6_waxOf_3, eX6_waxOf_7, eX6_waxOf_8, eX6_waxOf_11, eX6_waxOf_12, eX6_waxOf_13, eX6_waxOf_16, eX6_waxOf_17, eX6_waxOf_18, eX6_waxOf_21, eX6_waxOf_23, eX6_waxOf_24, eX6_waxOf_25, eX6_waxOf_27, eX6_waxOf_28, eX6_waxOf_29, eX6_waxOf_30, eX6_waxOf_33, eX6_waxOf_34, eX6_waxOf_37, eX6_waxOf_38, eX6_waxOf_40, eX6_waxOf_41, eX6_waxOf_42, eX6_waxOf_43, eX6_waxOf_46, eX6_waxOf_49, eX6_waxOf_50, eX6_waxOf_52, eX6_waxOf_53, eX6_waxOf_57, eX6_waxOf_58, eX6_waxOf_61, eX6_waxOf_63, eX6_waxOf_64, eX6_waxOf_67, eX6_waxOf_69, eX6_waxOf_72, eX6_waxOf_74, eX6_waxOf_77, eX6_waxOf_80, eX6_waxOf_81, eX6_waxOf_84, eX6_waxOf_85, eX6_waxOf_87, eX6_waxOf_89, eX6_waxOf_90, eX6_waxOf_91, eX6_waxOf_92, eX6_waxOf_93, eX6_waxOf_96, eX6_waxOf_98, eX6_waxOf_101, eX6_waxOf_102, eX6_waxOf_103, eX6_waxOf_105, eX6_waxOf_108, eX6_waxOf_109, eX6_waxOf_112, eX6_waxOf_114, eX6_waxOf_117, eX6_waxOf_119, eX6_waxOf_121, eX6_waxOf_124, eX6_waxOf_127, eX6_waxOf_128, eX6_waxOf_131, eX6_waxOf_133, eX6_waxOf_136, eX6_waxOf_139, eX6_waxOf_141, en_kl_0, en_kl_i, en_kl_r, en_kl_n, en_kl_l, en_Ec_some, en_Ec_void, en_rcv, en_stk, List.map_cons, List.map_nil, List.sum_cons, List.sum_nil, Value.category, Nat.reduceAdd, Nat.reduceLeDiff, decide_true, true_and, and_true, and_self, zI_add, zI_sub, zI_mul, zI_neg, zI_lt, zI_le, zI_eq, zI_cl, zI_0, zI_1, zI_m1, zI_lit, zT_0, zT_01, zI_01, zI_11, ↓reduceIte, if_true, if_false, not_false_eq_true, not_true_eq_false, Int.reduceEq, Int.reduceLT, Int.reduceLE, Classical.not_not, Bool.false_eq_true, fi_19, ft_19_0, ft_19_1, ft_19_2, ft_19_3, ft_19_5, ft_19_6, ft_19_7, ft_19_8, ft_19_12, ft_19_13, ft_19_14, ft_19_15, ft_19_16, ft_19_21, xi_20, xi_21, xi_22, xi_23, xi_24, xi_25, xi_26, xi_27, xi_28, xi_29, xi_30, xi_31, xi_32, xi_33, Int.toNat_natCast, Int.reduceToNat, hs1, hgi, k3']
              exact hnx _ (by omega)
            · rw [if_neg (fun z => k3 z.2.2), zI_nI] at hnx
              have k3' : gN (G r) (s r) i 9 0 = -1 := Classical.not_not.mp (fun z => k3 (hgd.mpr z))
              rw [k3'] at hgi
              rw [zT_t k2]
              simp (disch := omega) only [eX6_waxOf_0, eX6_waxOf_1, eX6_waxOf_2, eX6_waxOf_3, eX6_waxOf_7, eX6_waxOf_8, eX6_waxOf_11, eX6_waxOf_12, eX6_waxOf_13, eX6_waxOf_16, eX6_waxOf_17, eX6_waxOf_18, eX6_waxOf_21, eX6_waxOf_23, eX6_waxOf_24, eX6_waxOf_25, eX6_waxOf_27, eX6_waxOf_28, eX6_waxOf_29, eX6_waxOf_30, eX6_waxOf_33, eX6_waxOf_34, eX6_waxOf_37, eX6_waxOf_38, eX6_waxOf_40, eX6_waxOf_41, eX6_waxOf_42, eX6_waxOf_43, eX6_waxOf_46, eX6_waxOf_49, eX6_waxOf_50, eX6_waxOf_52, eX6_waxOf_53, eX6_waxOf_57, eX6_waxOf_58, eX6_waxOf_61, eX6_waxOf_63, eX6_waxOf_64, eX6_waxOf_67, eX6_waxOf_69, eX6_waxOf_72, eX6_waxOf_74, eX6_waxOf_77, eX6_waxOf_80, eX6_waxOf_81, eX6_waxOf_84, eX6_waxOf_85, eX6_waxOf_87, eX6_waxOf_89, eX6_waxOf_90, eX6_waxOf_91, eX6_waxOf_92, eX6_waxOf_93, eX6_waxOf_96, eX6_waxOf_98, eX6_waxOf_101, eX6_waxOf_102, eX6_waxOf_103, eX6_waxOf_105, eX6_waxOf_108, eX6_waxOf_109, eX6_waxOf_112, eX6_waxOf_114, eX6_waxOf_117, eX6_waxOf_119, eX6_waxOf_121, eX6_waxOf_124, eX6_waxOf_127, eX6_waxOf_128, eX6_waxOf_131, eX6_waxOf_133, eX6_waxOf_136, eX6_waxOf_139, eX6_waxOf_141, en_kl_0, en_kl_i, en_kl_r, en_kl_n, en_kl_l, en_Ec_some, en_Ec_void, en_rcv, en_stk, List.map_cons, List.map_nil, List.sum_cons, List.sum_nil, Value.category, Nat.reduceAdd, Nat.reduceLeDiff, decide_true, true_and, and_true, and_self, zI_add, zI_sub, zI_mul, zI_neg, zI_lt, zI_le, zI_eq, zI_cl, zI_0, zI_1, zI_m1, zI_lit, zT_0, zT_01, zI_01, zI_11, ↓reduceIte, if_true, if_false, not_false_eq_true, not_true_eq_false, Int.reduceEq, Int.reduceLT, Int.reduceLE, Classical.not_not, Bool.false_eq_true, fi_19, ft_19_0, ft_19_1, ft_19_2, ft_19_3, ft_19_5, ft_19_6, ft_19_7, ft_19_8, ft_19_12, ft_19_13, ft_19_14, ft_19_15, ft_19_16, ft_19_21, xi_20, xi_21, xi_22, xi_23, xi_24, xi_25, xi_26, xi_27, xi_28, xi_29, xi_30, xi_31, xi_32, xi_33, Int.toNat_natCast, Int.reduceToNat, hs1, hgi]
              exact hnx _ (by omega)
          · rw [if_neg (fun z => k2 (hF.mpr z.2.1)), zI_nI] at hnx
            rw [zT_f k2]
            simp (disch := omega) only [eX6_waxOf_0, eX6_waxOf_1, eX6_waxOf_2, eX6_waxOf_3, eX6_waxOf_7, eX6_waxOf_8, eX6_waxOf_11, eX6_waxOf_12, eX6_waxOf_13, eX6_waxOf_16, eX6_waxOf_17, eX6_waxOf_18, eX6_waxOf_21, eX6_waxOf_23, eX6_waxOf_24, eX6_waxOf_25, eX6_waxOf_27, eX6_waxOf_28, eX6_waxOf_29, eX6_waxOf_30, eX6_waxOf_33, eX6_waxOf_34, eX6_waxOf_37, eX6_waxOf_38, eX6_waxOf_40, eX6_waxOf_41, eX6_waxOf_42, eX6_waxOf_43, eX6_waxOf_46, eX6_waxOf_49, eX6_waxOf_50, eX6_waxOf_52, eX6_waxOf_53, eX6_waxOf_57, eX6_waxOf_58, eX6_waxOf_61, eX6_waxOf_63, eX6_waxOf_64, eX6_waxOf_67, eX6_waxOf_69, eX6_waxOf_72, eX6_waxOf_74, eX6_waxOf_77, eX6_waxOf_80, eX6_waxOf_81, eX6_waxOf_84, eX6_waxOf_85, eX6_waxOf_87, eX6_waxOf_89, eX6_waxOf_90, eX6_waxOf_91, eX6_waxOf_92, eX6_waxOf_93, eX6_waxOf_96, eX6_waxOf_98, eX6_waxOf_101, eX6_waxOf_102, eX6_waxOf_103, eX6_waxOf_105, eX6_waxOf_108, eX6_waxOf_109, eX6_waxOf_112, eX6_waxOf_114, eX6_waxOf_117, eX6_waxOf_119, eX6_waxOf_121, eX6_waxOf_124, eX6_waxOf_127, eX6_waxOf_128, eX6_waxOf_131, eX6_waxOf_133, eX6_waxOf_136, eX6_waxOf_139, eX6_waxOf_141, en_kl_0, en_kl_i, en_kl_r, en_kl_n, en_kl_l, en_Ec_some, en_Ec_void, en_rcv, en_stk, List.map_cons, List.map_nil, List.sum_cons, List.sum_nil, Value.category, Nat.reduceAdd, Nat.reduceLeDiff, decide_true, true_and, and_true, and_self, zI_add, zI_sub, zI_mul, zI_neg, zI_lt, zI_le, zI_eq, zI_cl, zI_0, zI_1, zI_m1, zI_lit, zT_0, zT_01, zI_01, zI_11, ↓reduceIte, if_true, if_false, not_false_eq_true, not_true_eq_false, Int.reduceEq, Int.reduceLT, Int.reduceLE, Classical.not_not, Bool.false_eq_true, fi_19, ft_19_0, ft_19_1, ft_19_2, ft_19_3, ft_19_5, ft_19_6, ft_19_7, ft_19_8, ft_19_12, ft_19_13, ft_19_14, ft_19_15, ft_19_16, ft_19_21, xi_20, xi_21, xi_22, xi_23, xi_24, xi_25, xi_26, xi_27, xi_28, xi_29, xi_30, xi_31, xi_32, xi_33, Int.toNat_natCast, Int.reduceToNat, hs1]
            exact hnx _ (by omega)
        · have hs1 := hsb.trans (eq_false k1)
          rw [if_neg (fun z => k1 z.1), zI_nI] at hnx
          have : ∀ y, en_Ev XX6_waxOf 87 [some (.ref 19), some (.int (zI r)), some (.int (zI a)), some (.int (zI N)), some (.int (zI (bI (wbt (mgd (G r) (s r)) N i)))), some (.int (zI i)), some (.int y)] [] w Q := by
            intro y
            simp (disch := omega) only [eX6_waxOf_0, eX6_waxOf_1, eX6_waxOf_2, eX6_waxOf_3, eX6_waxOf_7, eX6_waxOf_8, eX6_waxOf_11, eX6_waxOf_12, eX6_waxOf_13, eX6_waxOf_16, eX6_waxOf_17, eX6_waxOf_18, eX6_waxOf_21, eX6_waxOf_23, eX6_waxOf_24, eX6_waxOf_25, eX6_waxOf_27, eX6_waxOf_28, eX6_waxOf_29, eX6_waxOf_30, eX6_waxOf_33, eX6_waxOf_34, eX6_waxOf_37, eX6_waxOf_38, eX6_waxOf_40, eX6_waxOf_41, eX6_waxOf_42, eX6_waxOf_43, eX6_waxOf_46, eX6_waxOf_49, eX6_waxOf_50, eX6_waxOf_52, eX6_waxOf_53, eX6_waxOf_57, eX6_waxOf_58, eX6_waxOf_61, eX6_waxOf_63, eX6_waxOf_64, eX6_waxOf_67, eX6_waxOf_69, eX6_waxOf_72, eX6_waxOf_74, eX6_waxOf_77, eX6_waxOf_80, eX6_waxOf_81, eX6_waxOf_84, eX6_waxOf_85, eX6_waxOf_87, eX6_waxOf_89, eX6_waxOf_90, eX6_waxOf_91, eX6_waxOf_92, eX6_waxOf_93, eX6_waxOf_96, eX6_waxOf_98, eX6_waxOf_101, eX6_waxOf_102, eX6_waxOf_103, eX6_waxOf_105, eX6_waxOf_108, eX6_waxOf_109, eX6_waxOf_112, eX6_waxOf_114, eX6_waxOf_117, eX6_waxOf_119, eX6_waxOf_121, eX6_waxOf_124, eX6_waxOf_127, eX6_waxOf_128, eX6_waxOf_131, eX6_waxOf_133, eX6_waxOf_136, eX6_waxOf_139, eX6_waxOf_141, en_kl_0, en_kl_i, en_kl_r, en_kl_n, en_kl_l, en_Ec_some, en_Ec_void, en_rcv, en_stk, List.map_cons, List.map_nil, List.sum_cons, List.sum_nil, Value.category, Nat.reduceAdd, Nat.reduceLeDiff, decide_true, true_and, and_true, and_self, zI_add, zI_sub, zI_mul, zI_neg, zI_lt, zI_le, zI_eq, zI_cl, zI_0, zI_1, zI_m1, zI_lit, zT_0, zT_01, zI_01, zI_11, ↓reduceIte, if_true, if_false, not_false_eq_true, not_true_eq_false, Int.reduceEq, Int.reduceLT, Int.reduceLE, Classical.not_not, Bool.false_eq_true, fi_19, ft_19_0, ft_19_1, ft_19_2, ft_19_3, ft_19_5, ft_19_6, ft_19_7, ft_19_8, ft_19_12, ft_19_13, ft_19_14, ft_19_15, ft_19_16, ft_19_21, xi_20, xi_21, xi_22, xi_23, xi_24, xi_25, xi_26, xi_27, xi_28, xi_29, xi_30, xi_31, xi_32, xi_33, Int.toNat_natCast, Int.reduceToNat, hs1]
            exact hnx _ (by omega)
          rw [eX6_waxOf_85]
          exact this _
      rw [eX6_waxOf_55]
      rw [zI_nI]
      cases hb : wbt (mgd (G r) (s r)) N i with
      | none =>
        have t := tail True ⟨fun _ v hv => by (rw [hb] at hv; cases hv), fun _ => trivial⟩
        rw [hb, zT_t trivial] at t
        simp (disch := omega) only [eX6_waxOf_0, eX6_waxOf_1, eX6_waxOf_2, eX6_waxOf_3, eX6_waxOf_7, eX6_waxOf_8, eX6_waxOf_11, eX6_waxOf_12, eX6_waxOf_13, eX6_waxOf_16, eX6_waxOf_17, eX6_waxOf_18, eX6_waxOf_21, eX6_waxOf_23, eX6_waxOf_24, eX6_waxOf_25, eX6_waxOf_27, eX6_waxOf_28, eX6_waxOf_29, eX6_waxOf_30, eX6_waxOf_33, eX6_waxOf_34, eX6_waxOf_37, eX6_waxOf_38, eX6_waxOf_40, eX6_waxOf_41, eX6_waxOf_42, eX6_waxOf_43, eX6_waxOf_46, eX6_waxOf_49, eX6_waxOf_50, eX6_waxOf_52, eX6_waxOf_53, eX6_waxOf_57, eX6_waxOf_58, eX6_waxOf_61, eX6_waxOf_63, eX6_waxOf_64, eX6_waxOf_67, eX6_waxOf_69, eX6_waxOf_72, eX6_waxOf_74, eX6_waxOf_77, eX6_waxOf_80, eX6_waxOf_81, eX6_waxOf_84, eX6_waxOf_87, eX6_waxOf_89, eX6_waxOf_90, eX6_waxOf_91, eX6_waxOf_92, eX6_waxOf_93, eX6_waxOf_96, eX6_waxOf_98, eX6_waxOf_101, eX6_waxOf_102, eX6_waxOf_103, eX6_waxOf_105, eX6_waxOf_108, eX6_waxOf_109, eX6_waxOf_112, eX6_waxOf_114, eX6_waxOf_117, eX6_waxOf_119, eX6_waxOf_121, eX6_waxOf_124, eX6_waxOf_127, eX6_waxOf_128, eX6_waxOf_131, eX6_waxOf_133, eX6_waxOf_136, eX6_waxOf_139, eX6_waxOf_141, en_kl_0, en_kl_i, en_kl_r, en_kl_n, en_kl_l, en_Ec_some, en_Ec_void, en_rcv, en_stk, List.map_cons, List.map_nil, List.sum_cons, List.sum_nil, Value.category, Nat.reduceAdd, Nat.reduceLeDiff, decide_true, true_and, and_true, and_self, zI_add, zI_sub, zI_mul, zI_neg, zI_lt, zI_le, zI_eq, zI_cl, zI_0, zI_1, zI_m1, zI_lit, zT_0, zT_01, zI_01, zI_11, ↓reduceIte, if_true, if_false, not_false_eq_true, not_true_eq_false, Int.reduceEq, Int.reduceLT, Int.reduceLE, Classical.not_not, Bool.false_eq_true, fi_19, ft_19_0, ft_19_1, ft_19_2, ft_19_3, ft_19_5, ft_19_6, ft_19_7, ft_19_8, ft_19_12, ft_19_13, ft_19_14, ft_19_15, ft_19_16, ft_19_21, xi_20, xi_21, xi_22, xi_23, xi_24, xi_25, xi_26, xi_27, xi_28, xi_29, xi_30, xi_31, xi_32, xi_33, Int.toNat_natCast, Int.reduceToNat, c1, bI]
        exact t
      | some v =>
        have hv := wbt_lt _ _ hb
        have hv' : v < 512 := by omega
        have hov := r_ones (w := w) hv'
        rw [zI_nI, zI_nI] at hov
        have hpv := pcn_le 9 v
        have t := tail (pcn 9 i < pcn 9 v) ⟨fun z v' hv' => by (rw [hb] at hv'; cases hv'; exact z), fun z => z v hb⟩
        rw [hb] at t
        have c3 : ¬ (v : Int) = -1 := by omega
        by_cases c4 : pcn 9 i < pcn 9 v
        · rw [zT_t c4] at t
          have c5 : ¬ (pcn 9 v : Int) ≤ (pcn 9 i : Int) := by omega
          simp (disch := omega) only [eX6_waxOf_0, eX6_waxOf_1, eX6_waxOf_2, eX6_waxOf_3, eX6_waxOf_7, eX6_waxOf_8, eX6_waxOf_11, eX6_waxOf_12, eX6_waxOf_13, eX6_waxOf_16, eX6_waxOf_17, eX6_waxOf_18, eX6_waxOf_21, eX6_waxOf_23, eX6_waxOf_24, eX6_waxOf_25, eX6_waxOf_27, eX6_waxOf_28, eX6_waxOf_29, eX6_waxOf_30, eX6_waxOf_33, eX6_waxOf_34, eX6_waxOf_37, eX6_waxOf_38, eX6_waxOf_40, eX6_waxOf_41, eX6_waxOf_42, eX6_waxOf_43, eX6_waxOf_46, eX6_waxOf_49, eX6_waxOf_50, eX6_waxOf_52, eX6_waxOf_53, eX6_waxOf_57, eX6_waxOf_58, eX6_waxOf_61, eX6_waxOf_63, eX6_waxOf_64, eX6_waxOf_67, eX6_waxOf_69, eX6_waxOf_72, eX6_waxOf_74, eX6_waxOf_77, eX6_waxOf_80, eX6_waxOf_81, eX6_waxOf_84, eX6_waxOf_87, eX6_waxOf_89, eX6_waxOf_90, eX6_waxOf_91, eX6_waxOf_92, eX6_waxOf_93, eX6_waxOf_96, eX6_waxOf_98, eX6_waxOf_101, eX6_waxOf_102, eX6_waxOf_103, eX6_waxOf_105, eX6_waxOf_108, eX6_waxOf_109, eX6_waxOf_112, eX6_waxOf_114, eX6_waxOf_117, eX6_waxOf_119, eX6_waxOf_121, eX6_waxOf_124, eX6_waxOf_127, eX6_waxOf_128, eX6_waxOf_131, eX6_waxOf_133, eX6_waxOf_136, eX6_waxOf_139, eX6_waxOf_141, en_kl_0, en_kl_i, en_kl_r, en_kl_n, en_kl_l, en_Ec_some, en_Ec_void, en_rcv, en_stk, List.map_cons, List.map_nil, List.sum_cons, List.sum_nil, Value.category, Nat.reduceAdd, Nat.reduceLeDiff, decide_true, true_and, and_true, and_self, zI_add, zI_sub, zI_mul, zI_neg, zI_lt, zI_le, zI_eq, zI_cl, zI_0, zI_1, zI_m1, zI_lit, zT_0, zT_01, zI_01, zI_11, ↓reduceIte, if_true, if_false, not_false_eq_true, not_true_eq_false, Int.reduceEq, Int.reduceLT, Int.reduceLE, Classical.not_not, Bool.false_eq_true, fi_19, ft_19_0, ft_19_1, ft_19_2, ft_19_3, ft_19_5, ft_19_6, ft_19_7, ft_19_8, ft_19_12, ft_19_13, ft_19_14, ft_19_15, ft_19_16, ft_19_21, xi_20, xi_21, xi_22, xi_23, xi_24, xi_25, xi_26, xi_27, xi_28, xi_29, xi_30, xi_31, xi_32, xi_33, Int.toNat_natCast, Int.reduceToNat, c1, bI, c3, hon, hov, c5]
          exact t
        · rw [zT_f c4] at t
          have c5 : (pcn 9 v : Int) ≤ (pcn 9 i : Int) := by omega
          simp (disch := omega) only [eX6_waxOf_0, eX6_waxOf_1, eX6_waxOf_2, eX6_waxOf_3, eX6_waxOf_7, eX6_waxOf_8, eX6_waxOf_11, eX6_waxOf_12, eX6_waxOf_13, eX6_waxOf_16, eX6_waxOf_17, eX6_waxOf_18, eX6_waxOf_21, eX6_waxOf_23, eX6_waxOf_24, eX6_waxOf_25, eX6_waxOf_27, eX6_waxOf_28, eX6_waxOf_29, eX6_waxOf_30, eX6_waxOf_33, eX6_waxOf_34, eX6_waxOf_37, eX6_waxOf_38, eX6_waxOf_40, eX6_waxOf_41, eX6_waxOf_42, eX6_waxOf_43, eX6_waxOf_46, eX6_waxOf_49, eX6_waxOf_50, eX6_waxOf_52, eX6_waxOf_53, eX6_waxOf_57, eX6_waxOf_58, eX6_waxOf_61, eX6_waxOf_63, eX6_waxOf_64, eX6_waxOf_67, eX6_waxOf_69, eX6_waxOf_72, eX6_waxOf_74, eX6_waxOf_77, eX6_waxOf_80, eX6_waxOf_81, eX6_waxOf_84, eX6_waxOf_87, eX6_waxOf_89, eX6_waxOf_90, eX6_waxOf_91, eX6_waxOf_92, eX6_waxOf_93, eX6_waxOf_96, eX6_waxOf_98, eX6_waxOf_101, eX6_waxOf_102, eX6_waxOf_103, eX6_waxOf_105, eX6_waxOf_108, eX6_waxOf_109, eX6_waxOf_112, eX6_waxOf_114, eX6_waxOf_117, eX6_waxOf_119, eX6_waxOf_121, eX6_waxOf_124, eX6_waxOf_127, eX6_waxOf_128, eX6_waxOf_131, eX6_waxOf_133, eX6_waxOf_136, eX6_waxOf_139, eX6_waxOf_141, en_kl_0, en_kl_i, en_kl_r, en_kl_n, en_kl_l, en_Ec_some, en_Ec_void, en_rcv, en_stk, List.map_cons, List.map_nil, List.sum_cons, List.sum_nil, Value.category, Nat.reduceAdd, Nat.reduceLeDiff, decide_true, true_and, and_true, and_self, zI_add, zI_sub, zI_mul, zI_neg, zI_lt, zI_le, zI_eq, zI_cl, zI_0, zI_1, zI_m1, zI_lit, zT_0, zT_01, zI_01, zI_11, ↓reduceIte, if_true, if_false, not_false_eq_true, not_true_eq_false, Int.reduceEq, Int.reduceLT, Int.reduceLE, Classical.not_not, Bool.false_eq_true, fi_19, ft_19_0, ft_19_1, ft_19_2, ft_19_3, ft_19_5, ft_19_6, ft_19_7, ft_19_8, ft_19_12, ft_19_13, ft_19_14, ft_19_15, ft_19_16, ft_19_21, xi_20, xi_21, xi_22, xi_23, xi_24, xi_25, xi_26, xi_27, xi_28, xi_29, xi_30, xi_31, xi_32, xi_33, Int.toNat_natCast, Int.reduceToNat, c1, bI, c3, hon, hov, c5]
          exact t
  have loop1 : ∀ (d i : Nat), i + d = 10 → (i : Int) ≤ G r → en_Ev XX6_waxOf 5 [some (.ref 19), some (.int (zI r)), some (.int (zI a)), some (.int (nI (mb (G r) (s r) i))), some (.int (zI i)), none, none] [] w Q := by
    intro d
    induction d with
    | zero => intro i h1 h2; omega
    | succ d ih =>
      intro i h1 h2
      rw [eX6_waxOf_5]
      by_cases c : (i : Int) < G r
      · have c1 : ¬ G r ≤ (i : Int) := by omega
        obtain ⟨g1, g2, g3⟩ := hG.2 r hr i (by omega)
        have e4 : (9 * (r : Int) + i).toNat = 9 * r + i := by omega
        have hor := mb_or' (G := G r) (s := s r) (show i < 9 by omega)
        have hnx := ih (i + 1) (by omega) (by omega)
        unfold mb at hnx
        by_cases c2 : s r i = -1
        · rw [if_neg (fun z => z.2 c2), Nat.add_zero] at hnx
          have e0 : nI (mb (G r) (s r) i) ||| zI 0 = nI (mb (G r) (s r) i) := by
            rw [← zI_0]
            exact Int32.or_zero
          simp (disch := omega) only [eX6_waxOf_0, eX6_waxOf_1, eX6_waxOf_2, eX6_waxOf_3, eX6_waxOf_7, eX6_waxOf_8, eX6_waxOf_11, eX6_waxOf_12, eX6_waxOf_13, eX6_waxOf_16, eX6_waxOf_17, eX6_waxOf_18, eX6_waxOf_21, eX6_waxOf_23, eX6_waxOf_24, eX6_waxOf_25, eX6_waxOf_27, eX6_waxOf_28, eX6_waxOf_29, eX6_waxOf_30, eX6_waxOf_33, eX6_waxOf_34, eX6_waxOf_37, eX6_waxOf_38, eX6_waxOf_40, eX6_waxOf_41, eX6_waxOf_42, eX6_waxOf_43, eX6_waxOf_46, eX6_waxOf_49, eX6_waxOf_50, eX6_waxOf_52, eX6_waxOf_53, eX6_waxOf_57, eX6_waxOf_58, eX6_waxOf_61, eX6_waxOf_63, eX6_waxOf_64, eX6_waxOf_67, eX6_waxOf_69, eX6_waxOf_72, eX6_waxOf_74, eX6_waxOf_77, eX6_waxOf_80, eX6_waxOf_81, eX6_waxOf_84, eX6_waxOf_85, eX6_waxOf_87, eX6_waxOf_89, eX6_waxOf_90, eX6_waxOf_91, eX6_waxOf_92, eX6_waxOf_93, eX6_waxOf_96, eX6_waxOf_98, eX6_waxOf_101, eX6_waxOf_102, eX6_waxOf_103, eX6_waxOf_105, eX6_waxOf_108, eX6_waxOf_109, eX6_waxOf_112, eX6_waxOf_114, eX6_waxOf_117, eX6_waxOf_119, eX6_waxOf_121, eX6_waxOf_124, eX6_waxOf_127, eX6_waxOf_128, eX6_waxOf_131, eX6_waxOf_133, eX6_waxOf_136, eX6_waxOf_139, eX6_waxOf_141, en_kl_0, en_kl_i, en_kl_r, en_kl_n, en_kl_l, en_Ec_some, en_Ec_void, en_rcv, en_stk, List.map_cons, List.map_nil, List.sum_cons, List.sum_nil, Value.category, Nat.reduceAdd, Nat.reduceLeDiff, decide_true, true_and, and_true, and_self, zI_add, zI_sub, zI_mul, zI_neg, zI_lt, zI_le, zI_eq, zI_cl, zI_0, zI_1, zI_m1, zI_lit, zT_0, zT_01, zI_01, zI_11, ↓reduceIte, if_true, if_false, not_false_eq_true, not_true_eq_false, Int.reduceEq, Int.reduceLT, Int.reduceLE, Classical.not_not, Bool.false_eq_true, fi_19, ft_19_0, ft_19_1, ft_19_2, ft_19_3, ft_19_5, ft_19_6, ft_19_7, ft_19_8, ft_19_12, ft_19_13, ft_19_14, ft_19_15, ft_19_16, ft_19_21, xi_20, xi_21, xi_22, xi_23, xi_24, xi_25, xi_26, xi_27, xi_28, xi_29, xi_30, xi_31, xi_32, xi_33, Int.toNat_natCast, Int.reduceToNat, e1, c1, e4, g1, c2, e0]
          exact hnx
        · rw [if_pos ⟨c, c2⟩] at hnx
          simp (disch := omega) only [eX6_waxOf_0, eX6_waxOf_1, eX6_waxOf_2, eX6_waxOf_3, eX6_waxOf_7, eX6_waxOf_8, eX6_waxOf_11, eX6_waxOf_12, eX6_waxOf_13, eX6_waxOf_16, eX6_waxOf_17, eX6_waxOf_18, eX6_waxOf_21, eX6_waxOf_23, eX6_waxOf_24, eX6_waxOf_25, eX6_waxOf_27, eX6_waxOf_28, eX6_waxOf_29, eX6_waxOf_30, eX6_waxOf_33, eX6_waxOf_34, eX6_waxOf_37, eX6_waxOf_38, eX6_waxOf_40, eX6_waxOf_41, eX6_waxOf_42, eX6_waxOf_43, eX6_waxOf_46, eX6_waxOf_49, eX6_waxOf_50, eX6_waxOf_52, eX6_waxOf_53, eX6_waxOf_57, eX6_waxOf_58, eX6_waxOf_61, eX6_waxOf_63, eX6_waxOf_64, eX6_waxOf_67, eX6_waxOf_69, eX6_waxOf_72, eX6_waxOf_74, eX6_waxOf_77, eX6_waxOf_80, eX6_waxOf_81, eX6_waxOf_84, eX6_waxOf_85, eX6_waxOf_87, eX6_waxOf_89, eX6_waxOf_90, eX6_waxOf_91, eX6_waxOf_92, eX6_waxOf_93, eX6_waxOf_96, eX6_waxOf_98, eX6_waxOf_101, eX6_waxOf_102, eX6_waxOf_103, eX6_waxOf_105, eX6_waxOf_108, eX6_waxOf_109, eX6_waxOf_112, eX6_waxOf_114, eX6_waxOf_117, eX6_waxOf_119, eX6_waxOf_121, eX6_waxOf_124, eX6_waxOf_127, eX6_waxOf_128, eX6_waxOf_131, eX6_waxOf_133, eX6_waxOf_136, eX6_waxOf_139, eX6_waxOf_141, en_kl_0, en_kl_i, en_kl_r, en_kl_n, en_kl_l, en_Ec_some, en_Ec_void, en_rcv, en_stk, List.map_cons, List.map_nil, List.sum_cons, List.sum_nil, Value.category, Nat.reduceAdd, Nat.reduceLeDiff, decide_true, true_and, and_true, and_self, zI_add, zI_sub, zI_mul, zI_neg, zI_lt, zI_le, zI_eq, zI_cl, zI_0, zI_1, zI_m1, zI_lit, zT_0, zT_01, zI_01, zI_11, ↓reduceIte, if_true, if_false, not_false_eq_true, not_true_eq_false, Int.reduceEq, Int.reduceLT, Int.reduceLE, Classical.not_not, Bool.false_eq_true, fi_19, ft_19_0, ft_19_1, ft_19_2, ft_19_3, ft_19_5, ft_19_6, ft_19_7, ft_19_8, ft_19_12, ft_19_13, ft_19_14, ft_19_15, ft_19_16, ft_19_21, xi_20, xi_21, xi_22, xi_23, xi_24, xi_25, xi_26, xi_27, xi_28, xi_29, xi_30, xi_31, xi_32, xi_33, Int.toNat_natCast, Int.reduceToNat, e1, c1, e4, g1, c2, hor]
          exact hnx
      · have c1 : G r ≤ (i : Int) := by omega
        have e4 : mb (G r) (s r) i = N := (hN0 i c).elim id (fun z => absurd z (by omega))
        rw [e4]
        simp (disch := omega) only [eX6_waxOf_0, eX6_waxOf_1, eX6_waxOf_2, eX6_waxOf_3, eX6_waxOf_7, eX6_waxOf_8, eX6_waxOf_11, eX6_waxOf_12, eX6_waxOf_13, eX6_waxOf_16, eX6_waxOf_17, eX6_waxOf_18, eX6_waxOf_21, eX6_waxOf_23, eX6_waxOf_24, eX6_waxOf_25, eX6_waxOf_27, eX6_waxOf_28, eX6_waxOf_29, eX6_waxOf_30, eX6_waxOf_33, eX6_waxOf_34, eX6_waxOf_37, eX6_waxOf_38, eX6_waxOf_40, eX6_waxOf_41, eX6_waxOf_42, eX6_waxOf_43, eX6_waxOf_46, eX6_waxOf_49, eX6_waxOf_50, eX6_waxOf_52, eX6_waxOf_53, eX6_waxOf_57, eX6_waxOf_58, eX6_waxOf_61, eX6_waxOf_63, eX6_waxOf_64, eX6_waxOf_67, eX6_waxOf_69, eX6_waxOf_72, eX6_waxOf_74, eX6_waxOf_77, eX6_waxOf_80, eX6_waxOf_81, eX6_waxOf_84, eX6_waxOf_85, eX6_waxOf_87, eX6_waxOf_89, eX6_waxOf_90, eX6_waxOf_91, eX6_waxOf_92, eX6_waxOf_93, eX6_waxOf_96, eX6_waxOf_98, eX6_waxOf_101, eX6_waxOf_102, eX6_waxOf_103, eX6_waxOf_105, eX6_waxOf_108, eX6_waxOf_109, eX6_waxOf_112, eX6_waxOf_114, eX6_waxOf_117, eX6_waxOf_119, eX6_waxOf_121, eX6_waxOf_124, eX6_waxOf_127, eX6_waxOf_128, eX6_waxOf_131, eX6_waxOf_133, eX6_waxOf_136, eX6_waxOf_139, eX6_waxOf_141, en_kl_0, en_kl_i, en_kl_r, en_kl_n, en_kl_l, en_Ec_some, en_Ec_void, en_rcv, en_stk, List.map_cons, List.map_nil, List.sum_cons, List.sum_nil, Value.category, Nat.reduceAdd, Nat.reduceLeDiff, decide_true, true_and, and_true, and_self, zI_add, zI_sub, zI_mul, zI_neg, zI_lt, zI_le, zI_eq, zI_cl, zI_0, zI_1, zI_m1, zI_lit, zT_0, zT_01, zI_01, zI_11, ↓reduceIte, if_true, if_false, not_false_eq_true, not_true_eq_false, Int.reduceEq, Int.reduceLT, Int.reduceLE, Classical.not_not, Bool.false_eq_true, fi_19, ft_19_0, ft_19_1, ft_19_2, ft_19_3, ft_19_5, ft_19_6, ft_19_7, ft_19_8, ft_19_12, ft_19_13, ft_19_14, ft_19_15, ft_19_16, ft_19_21, xi_20, xi_21, xi_22, xi_23, xi_24, xi_25, xi_26, xi_27, xi_28, xi_29, xi_30, xi_31, xi_32, xi_33, Int.toNat_natCast, Int.reduceToNat, e1, c1]
        exact loop2 (N + 1) 0 none (by omega)
  have h0 := loop1 10 0 rfl (by omega)
  have ez : nI (mb (G r) (s r) 0) = zI 0 := by
    show nI 0 = zI 0
    decide
  rw [ez] at h0
  simp (disch := omega) only [eX6_waxOf_0, eX6_waxOf_1, eX6_waxOf_2, eX6_waxOf_3, en_kl_0, en_kl_i, en_kl_r, en_kl_n, en_kl_l, en_Ec_some, en_Ec_void, en_rcv, en_stk, List.map_cons, List.map_nil, List.sum_cons, List.sum_nil, Value.category, Nat.reduceAdd, Nat.reduceLeDiff, decide_true, true_and, and_true, and_self, zI_add, zI_sub, zI_mul, zI_neg, zI_lt, zI_le, zI_eq, zI_cl, zI_0, zI_1, zI_m1, zI_lit, zT_0, zT_01, zI_01, zI_11, ↓reduceIte, if_true, if_false, not_false_eq_true, not_true_eq_false, Int.reduceEq, Int.reduceLT, Int.reduceLE, Classical.not_not, Bool.false_eq_true]
  exact h0
theorem r_wax_bad (h : ¬ ((0 ≤ v ∧ v < 10) ∧ (0 ≤ a ∧ a ≤ 1))) (h1 : -2147483648 ≤ v) (h2 : v < 2147483648) (a1 : -2147483648 ≤ a) (a2 : a < 2147483648) : SX6_wax [.ref 19, .int (zI v), .int (zI a)] w = some (some (.int (zI (-2))), w) := by
  refine en_val rfl (fun Q hQ => ?_)
  show en_Ev XX6_wax 0 [some (.ref 19), some (.int (zI v)), some (.int (zI a))] [] w Q
  by_cases c1 : 0 ≤ v ∧ v ≤ 9
  · have c2 : ¬ (0 ≤ a ∧ a ≤ 1) := fun z => h ⟨by omega, z⟩
    simp (disch := omega) only [eX6_wax_0, eX6_wax_1, eX6_wax_4, eX6_wax_7, eX6_wax_8, eX6_wax_11, eX6_wax_14, eX6_wax_15, eX6_wax_16, eX6_wax_17, eX6_wax_20, eX6_wax_23, eX6_wax_25, en_kl_0, en_kl_i, en_kl_r, en_kl_n, en_kl_l, en_Ec_some, en_Ec_void, en_rcv, en_stk, List.map_cons, List.map_nil, List.sum_cons, List.sum_nil, Value.category, Nat.reduceAdd, Nat.reduceLeDiff, decide_true, true_and, and_true, and_self, zI_add, zI_sub, zI_mul, zI_neg, zI_lt, zI_le, zI_eq, zI_cl, zI_0, zI_1, zI_m1, zI_lit, zT_0, zT_01, zI_01, zI_11, ↓reduceIte, if_true, if_false, not_false_eq_true, not_true_eq_false, Int.reduceEq, Int.reduceLT, Int.reduceLE, Classical.not_not, Bool.false_eq_true, fi_19, ft_19_0, ft_19_1, ft_19_2, ft_19_3, ft_19_5, ft_19_6, ft_19_7, ft_19_8, ft_19_12, ft_19_13, ft_19_14, ft_19_15, ft_19_16, ft_19_21, xi_20, xi_21, xi_22, xi_23, xi_24, xi_25, xi_26, xi_27, xi_28, xi_29, xi_30, xi_31, xi_32, xi_33, Int.toNat_natCast, Int.reduceToNat, r_isRecord, zT_t c1, r_isTwo, zT_f c2]
    exact hQ
  · simp (disch := omega) only [eX6_wax_0, eX6_wax_1, eX6_wax_4, eX6_wax_7, eX6_wax_8, eX6_wax_11, eX6_wax_14, eX6_wax_15, eX6_wax_16, eX6_wax_17, eX6_wax_20, eX6_wax_23, eX6_wax_25, en_kl_0, en_kl_i, en_kl_r, en_kl_n, en_kl_l, en_Ec_some, en_Ec_void, en_rcv, en_stk, List.map_cons, List.map_nil, List.sum_cons, List.sum_nil, Value.category, Nat.reduceAdd, Nat.reduceLeDiff, decide_true, true_and, and_true, and_self, zI_add, zI_sub, zI_mul, zI_neg, zI_lt, zI_le, zI_eq, zI_cl, zI_0, zI_1, zI_m1, zI_lit, zT_0, zT_01, zI_01, zI_11, ↓reduceIte, if_true, if_false, not_false_eq_true, not_true_eq_false, Int.reduceEq, Int.reduceLT, Int.reduceLE, Classical.not_not, Bool.false_eq_true, fi_19, ft_19_0, ft_19_1, ft_19_2, ft_19_3, ft_19_5, ft_19_6, ft_19_7, ft_19_8, ft_19_12, ft_19_13, ft_19_14, ft_19_15, ft_19_16, ft_19_21, xi_20, xi_21, xi_22, xi_23, xi_24, xi_25, xi_26, xi_27, xi_28, xi_29, xi_30, xi_31, xi_32, xi_33, Int.toNat_natCast, Int.reduceToNat, r_isRecord, zT_f c1]
    exact hQ
theorem r_wax_ok (hG : bG w G s) (hr : r < 10) (h3 : 0 ≤ a) (h4 : a ≤ 1) : SX6_wax [.ref 19, .int (zI r), .int (zI a)] w = some (some (.int (zI (aWx (G r) (s r) a))), w) := by
  refine en_val rfl (fun Q hQ => ?_)
  show en_Ev XX6_wax 0 [some (.ref 19), some (.int (zI r)), some (.int (zI a))] [] w Q
  simp (disch := omega) only [eX6_wax_0, eX6_wax_1, eX6_wax_4, eX6_wax_7, eX6_wax_8, eX6_wax_11, eX6_wax_14, eX6_wax_15, eX6_wax_16, eX6_wax_17, eX6_wax_20, eX6_wax_23, eX6_wax_25, en_kl_0, en_kl_i, en_kl_r, en_kl_n, en_kl_l, en_Ec_some, en_Ec_void, en_rcv, en_stk, List.map_cons, List.map_nil, List.sum_cons, List.sum_nil, Value.category, Nat.reduceAdd, Nat.reduceLeDiff, decide_true, true_and, and_true, and_self, zI_add, zI_sub, zI_mul, zI_neg, zI_lt, zI_le, zI_eq, zI_cl, zI_0, zI_1, zI_m1, zI_lit, zT_0, zT_01, zI_01, zI_11, ↓reduceIte, if_true, if_false, not_false_eq_true, not_true_eq_false, Int.reduceEq, Int.reduceLT, Int.reduceLE, Classical.not_not, Bool.false_eq_true, fi_19, ft_19_0, ft_19_1, ft_19_2, ft_19_3, ft_19_5, ft_19_6, ft_19_7, ft_19_8, ft_19_12, ft_19_13, ft_19_14, ft_19_15, ft_19_16, ft_19_21, xi_20, xi_21, xi_22, xi_23, xi_24, xi_25, xi_26, xi_27, xi_28, xi_29, xi_30, xi_31, xi_32, xi_33, Int.toNat_natCast, Int.reduceToNat, r_isRecord, zT_t (show 0 ≤ (r : Int) ∧ (r : Int) ≤ 9 by omega), r_isTwo, zT_t (show 0 ≤ a ∧ a ≤ 1 from ⟨h3, h4⟩), r_waxOf hG hr h3 h4]
  exact hQ
end
