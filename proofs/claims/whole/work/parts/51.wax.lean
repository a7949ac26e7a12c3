/-! ===== the fewest waxed ===== -/
def pcn : Nat → Nat → Nat
  | 0, _ => 0
  | k + 1, p => p % 2 + pcn k (p / 2)
abbrev sbm (q N : Nat) : Prop := q &&& N = q
theorem and2 (a b : Nat) : (a &&& b) / 2 = a / 2 &&& b / 2 ∧ (a &&& b) % 2 = (a % 2) &&& (b % 2) := by
  refine ⟨Nat.and_div_two, ?_⟩
  have := Nat.and_mod_two_pow (a := a) (b := b) (n := 1)
  exact this
theorem bits01 {a : Nat} (h : a < 2) : a = 0 ∨ a = 1 := by omega
theorem sbm_half {q N : Nat} : sbm q N ↔ (q % 2 ≤ N % 2 ∧ sbm (q / 2) (N / 2)) := by
  obtain ⟨e1, e2⟩ := and2 q N
  unfold sbm
  have hq := Nat.mod_lt q (show 2 > 0 by decide)
  have hN := Nat.mod_lt N (show 2 > 0 by decide)
  constructor
  · intro h
    rw [h] at e1 e2
    refine ⟨?_, e1.symm⟩
    rcases bits01 hq with c | c <;> rcases bits01 hN with d | d <;> rw [c, d] at e2 <;> revert e2 <;> rw [c, d] <;> decide
  · rintro ⟨h1, h2⟩
    have e3 : (q &&& N) % 2 = q % 2 := by
      rw [e2]
      rcases bits01 hq with c | c <;> rcases bits01 hN with d | d <;> rw [c, d] at h1 ⊢ <;> revert h1 <;> decide
    rw [h2] at e1
    omega
theorem sbm_le {q N : Nat} (h : sbm q N) : q ≤ N := by
  rw [← h]
  exact Nat.and_le_right
def nxt : Nat → Nat → Nat → Nat
  | 0, _, _ => 0
  | k + 1, N, p => if N % 2 = 1 ∧ p % 2 = 0 then p + 1 else 2 * nxt k (N / 2) (p / 2)
theorem nxt_c : ∀ K N p : Nat, N < 2 ^ K → sbm p N → (p + (2 ^ K - 1 - N)) &&& N = p
  | 0, N, p, hN, hp => by
    have : N = 0 := by rw [Nat.pow_zero] at hN; omega
    have := sbm_le hp
    have e : p = 0 := by omega
    subst e
    rw [show N = 0 by omega]
    decide
  | K + 1, N, p, hN, hp => by
    have hp' := sbm_half.mp hp
    rw [Nat.pow_succ] at hN
    have ih := nxt_c K (N / 2) (p / 2) (by omega) hp'.2
    have e : (p + (2 ^ (K + 1) - 1 - N)) / 2 = p / 2 + (2 ^ K - 1 - N / 2) := by rw [Nat.pow_succ]; omega
    have e2 : (p + (2 ^ (K + 1) - 1 - N)) % 2 = p % 2 + 1 - N % 2 := by rw [Nat.pow_succ]; omega
    obtain ⟨g1, g2⟩ := and2 (p + (2 ^ (K + 1) - 1 - N)) N
    rw [e, ih] at g1
    rw [e2] at g2
    have g3 : (p % 2 + 1 - N % 2) &&& N % 2 = p % 2 := by
      rcases bits01 (Nat.mod_lt p (show 2 > 0 by decide)) with c | c <;> rcases bits01 (Nat.mod_lt N (show 2 > 0 by decide)) with d | d <;> rw [c, d] <;> have hz := hp'.1 <;> rw [c, d] at hz <;> revert hz <;> decide
    rw [g3] at g2
    omega
theorem nxt_sn : ∀ k K N p : Nat, k ≤ K → N < 2 ^ k → sbm p N → ((p + (2 ^ K - N)) % 2 ^ K) &&& N = nxt k N p
  | 0, K, N, p, hk, hN, hp => by
    have : N = 0 := by rw [Nat.pow_zero] at hN; omega
    rw [this, Nat.and_zero]
    rfl
  | k + 1, 0, N, p, hk, hN, hp => by omega
  | k + 1, K + 1, N, p, hk, hN, hp => by
    have hp' := sbm_half.mp hp
    have hle := sbm_le hp
    have hle' := sbm_le hp'.2
    have hNk : N / 2 < 2 ^ k := by rw [Nat.pow_succ] at hN; omega
    have hKk : 2 ^ k ≤ 2 ^ K := Nat.pow_le_pow_right (by decide) (by omega)
    have ih := nxt_sn k K (N / 2) (p / 2) (by omega) hNk hp'.2
    obtain ⟨g1, g2⟩ := and2 ((p + (2 ^ (K + 1) - N)) % 2 ^ (K + 1)) N
    have hm : ∀ x, x % 2 ^ (K + 1) / 2 = x / 2 % 2 ^ K := fun x => by
      rw [Nat.pow_succ, Nat.mul_comm, Nat.mod_mul_right_div_self]
    have hm2 : ∀ x, x % 2 ^ (K + 1) % 2 = x % 2 := fun x => by
      rw [Nat.pow_succ, Nat.mod_mul_left_mod]
    rw [hm] at g1
    rw [hm2] at g2
    unfold nxt
    by_cases c : N % 2 = 1 ∧ p % 2 = 0
    · rw [if_pos c]
      have e : (p + (2 ^ (K + 1) - N)) / 2 = p / 2 + (2 ^ K - 1 - N / 2) := by rw [Nat.pow_succ]; omega
      have e2 : (p + (2 ^ (K + 1) - N)) % 2 = 1 := by rw [Nat.pow_succ]; omega
      rw [e, Nat.mod_eq_of_lt (show p / 2 + (2 ^ K - 1 - N / 2) < 2 ^ K by omega), nxt_c K (N / 2) (p / 2) (by omega) hp'.2] at g1
      rw [e2, c.1] at g2
      have g3 : (1 &&& 1 : Nat) = 1 := by decide
      rw [g3] at g2
      omega
    · rw [if_neg c]
      have hpn : p % 2 = N % 2 := by
        have := hp'.1
        omega
      have e : (p + (2 ^ (K + 1) - N)) / 2 = p / 2 + (2 ^ K - N / 2) := by rw [Nat.pow_succ]; omega
      have e2 : (p + (2 ^ (K + 1) - N)) % 2 = 0 := by rw [Nat.pow_succ]; omega
      rw [e, ih] at g1
      rw [e2, Nat.zero_and] at g2
      omega
theorem nxt_ok : ∀ k N p : Nat, N < 2 ^ k → sbm p N → (nxt k N p = 0 ∧ p = N) ∨ (p < nxt k N p ∧ sbm (nxt k N p) N ∧ ∀ q, sbm q N → p < q → nxt k N p ≤ q)
  | 0, N, p, hN, hp => by
    have := sbm_le hp
    rw [Nat.pow_zero] at hN
    exact .inl ⟨rfl, by omega⟩
  | k + 1, N, p, hN, hp => by
    have hp' := sbm_half.mp hp
    rw [Nat.pow_succ] at hN
    have ih := nxt_ok k (N / 2) (p / 2) (by omega) hp'.2
    unfold nxt
    by_cases c : N % 2 = 1 ∧ p % 2 = 0
    · rw [if_pos c]
      refine .inr ⟨by omega, sbm_half.mpr ⟨by omega, ?_⟩, fun q _ h => h⟩
      rw [show (p + 1) / 2 = p / 2 by omega]
      exact hp'.2
    · rw [if_neg c]
      have hpn : p % 2 = N % 2 := by
        have := hp'.1
        omega
      rcases ih with ⟨i1, i2⟩ | ⟨i1, i2, i3⟩
      · exact .inl ⟨by omega, by omega⟩
      · refine .inr ⟨by omega, sbm_half.mpr ⟨by omega, ?_⟩, fun q hq hl => ?_⟩
        · rw [show 2 * nxt k (N / 2) (p / 2) / 2 = nxt k (N / 2) (p / 2) by omega]
          exact i2
        · have hq' := sbm_half.mp hq
          have := i3 (q / 2) hq'.2 (by
            have := hq'.1
            omega)
          omega
theorem pcn_sub : ∀ k N p : Nat, N < 2 ^ k → sbm p N → pcn k p ≤ pcn k N ∧ (pcn k p = pcn k N → p = N)
  | 0, N, p, hN, hp => by
    have := sbm_le hp
    rw [Nat.pow_zero] at hN
    exact ⟨Nat.le_refl _, fun _ => by omega⟩
  | k + 1, N, p, hN, hp => by
    have hp' := sbm_half.mp hp
    rw [Nat.pow_succ] at hN
    have ih := pcn_sub k (N / 2) (p / 2) (by omega) hp'.2
    have h1 := hp'.1
    unfold pcn
    refine ⟨by omega, fun h => ?_⟩
    have := ih.2 (by omega)
    omega
theorem pcn_le : ∀ k p : Nat, pcn k p ≤ k
  | 0, p => Nat.le_refl _
  | k + 1, p => by
    have := pcn_le k (p / 2)
    unfold pcn
    omega
noncomputable def wbt (good : Nat → Bool) (N : Nat) : Nat → Option Nat
  | 0 => none
  | i + 1 => @ite _ (sbm i N ∧ (∀ v, wbt good N i = some v → pcn 9 i < pcn 9 v) ∧ good i = true) (Classical.propDecidable _) (some i) (wbt good N i)
noncomputable def wR (good : Nat → Bool) (N : Nat) : Nat := (wbt good N (N + 1)).getD N
theorem wbt_succ {good : Nat → Bool} {N i : Nat} : wbt good N (i + 1) = @ite _ (sbm i N ∧ (∀ v, wbt good N i = some v → pcn 9 i < pcn 9 v) ∧ good i = true) (Classical.propDecidable _) (some i) (wbt good N i) := rfl
theorem wbt_lt {good : Nat → Bool} {N : Nat} : ∀ (i v : Nat), wbt good N i = some v → v < i ∧ sbm v N
  | 0, v, h => by cases h
  | i + 1, v, h => by
    rw [wbt_succ] at h
    split at h
    next c => cases h; exact ⟨by omega, c.1⟩
    next => have := wbt_lt i v h; exact ⟨by omega, this.2⟩
theorem wR_le {good : Nat → Bool} {N : Nat} : wR good N ≤ N := by
  unfold wR
  cases h : wbt good N (N + 1) with
  | none => exact Nat.le_refl _
  | some v => exact sbm_le (wbt_lt _ _ h).2
theorem wbt_skip {good : Nat → Bool} {N p : Nat} : ∀ d : Nat, (∀ q, p ≤ q → q < p + d → ¬ sbm q N) → wbt good N (p + d) = wbt good N p
  | 0, _ => rfl
  | d + 1, h => by
    rw [← Nat.add_assoc, wbt_succ, if_neg (fun c => h (p + d) (by omega) (by omega) c.1)]
    exact wbt_skip d (fun q h1 h2 => h q h1 (by omega))
/-- one step of the class's look, told by what is best of those below -/
theorem wbt_step {good : Nat → Bool} {N p : Nat} (hN : N < 2 ^ 9) (hp : sbm p N) : (wbt good N (p + 1)).getD N = if pcn 9 p < pcn 9 ((wbt good N p).getD N) ∧ good p = true then p else (wbt good N p).getD N := by
  rw [wbt_succ]
  have hs := pcn_sub 9 N p hN hp
  cases h : wbt good N p with
  | none =>
    simp only [Option.getD_none]
    by_cases c : good p = true
    · rw [if_pos ⟨hp, fun v hv => by (cases hv), c⟩]
      by_cases e : p = N
      · rw [if_neg (by rw [e]; omega), Option.getD_some, e]
      · rw [if_pos ⟨by have := hs.2; omega, c⟩]
        rfl
    · rw [if_neg (fun z => c z.2.2), if_neg (fun z => c z.2)]
      rfl
  | some v =>
    simp only [Option.getD_some]
    by_cases c : pcn 9 p < pcn 9 v ∧ good p = true
    · rw [if_pos ⟨hp, fun v' hv => by (cases hv; exact c.1), c.2⟩, if_pos c]
      rfl
    · rw [if_neg (fun z => c ⟨z.2.1 v rfl, z.2.2⟩), if_neg c]
      rfl
theorem bc_ok : ∀ p, p < 512 → (let x := nI p; let x1 := x - ((x.toUInt32 >>> ((1 : Int32).toUInt32 &&& Int32.toUInt32 31)).toInt32 &&& 1431655765); let x2 := (x1 &&& 858993459) + ((x1.toUInt32 >>> ((2 : Int32).toUInt32 &&& Int32.toUInt32 31)).toInt32 &&& 858993459); let x3 := (x2 + (x2.toUInt32 >>> ((4 : Int32).toUInt32 &&& Int32.toUInt32 31)).toInt32) &&& 252645135; let x4 := x3 + (x3.toUInt32 >>> ((8 : Int32).toUInt32 &&& Int32.toUInt32 31)).toInt32; let x5 := x4 + (x4.toUInt32 >>> ((16 : Int32).toUInt32 &&& Int32.toUInt32 31)).toInt32; x5 &&& 63) = nI (pcn 9 p) := by decide +kernel
theorem nI_sn {p N : Nat} (hN : N < 2 ^ 9) (hp : sbm p N) : (nI p - nI N) &&& nI N = nI (nxt 9 N p) := by
  have hle := sbm_le hp
  have e := nxt_sn 9 32 N p (by decide) hN hp
  have hN' : N < 512 := hN
  rw [← e]
  show (Int32.ofNat p - Int32.ofNat N) &&& Int32.ofNat N = Int32.ofNat _
  apply Int32.toBitVec_inj.mp
  rw [Int32.toBitVec_and, Int32.toBitVec_sub]
  show (BitVec.ofNat 32 p - BitVec.ofNat 32 N) &&& BitVec.ofNat 32 N = BitVec.ofNat 32 _
  apply BitVec.eq_of_toNat_eq
  simp only [BitVec.toNat_and, BitVec.toNat_sub, BitVec.toNat_ofNat]
  rw [Nat.mod_eq_of_lt (show N < 2 ^ 32 by omega), Nat.mod_eq_of_lt (show p < 2 ^ 32 by omega), Nat.add_comm]
  rw [Nat.mod_eq_of_lt (a := _ &&& N)]
  exact Nat.lt_of_le_of_lt Nat.and_le_right (by omega)
section
variable {w : en_W} {k : Nat} {G : Int} {s : Nat → Int} {v g : Int}
theorem s_bitCount {p : Nat} (hp : p < 512) : SJ6_bitCount_0f7a4 [.int (nI p)] w = some (some (.int (nI (pcn 9 p))), w) := by
  refine en_val rfl (fun Q hQ => ?_)
  show en_Ev XJ6_bitCount_0f7a4 0 [some (.int (nI p))] [] w Q
  simp only [eJ6_bitCount_0f7a4_0, eJ6_bitCount_0f7a4_1, eJ6_bitCount_0f7a4_2, eJ6_bitCount_0f7a4_3, eJ6_bitCount_0f7a4_4, eJ6_bitCount_0f7a4_7, eJ6_bitCount_0f7a4_8, eJ6_bitCount_0f7a4_9, eJ6_bitCount_0f7a4_10, eJ6_bitCount_0f7a4_11, eJ6_bitCount_0f7a4_14, eJ6_bitCount_0f7a4_15, eJ6_bitCount_0f7a4_16, eJ6_bitCount_0f7a4_17, eJ6_bitCount_0f7a4_18, eJ6_bitCount_0f7a4_21, eJ6_bitCount_0f7a4_22, eJ6_bitCount_0f7a4_23, eJ6_bitCount_0f7a4_24, eJ6_bitCount_0f7a4_25, eJ6_bitCount_0f7a4_26, eJ6_bitCount_0f7a4_27, eJ6_bitCount_0f7a4_28, eJ6_bitCount_0f7a4_29, eJ6_bitCount_0f7a4_32, eJ6_bitCount_0f7a4_33, eJ6_bitCount_0f7a4_34, eJ6_bitCount_0f7a4_35, eJ6_bitCount_0f7a4_36, eJ6_bitCount_0f7a4_38, eJ6_bitCount_0f7a4_39, eJ6_bitCount_0f7a4_40, eJ6_bitCount_0f7a4_41, eJ6_bitCount_0f7a4_42, eJ6_bitCount_0f7a4_43, eJ6_bitCount_0f7a4_45, eJ6_bitCount_0f7a4_46, eJ6_bitCount_0f7a4_47, eJ6_bitCount_0f7a4_48, eJ6_bitCount_0f7a4_49, eJ6_bitCount_0f7a4_51, eJ6_bitCount_0f7a4_52, en_kl_0, en_kl_i, en_kl_r, en_kl_n, en_kl_l, en_Ec_some, en_Ec_void, en_rcv, en_stk, List.map_cons, List.map_nil, List.sum_cons, List.sum_nil, Value.category, Nat.reduceAdd, Nat.reduceLeDiff, decide_true, true_and, and_true, and_self]
  rw [← bc_ok p hp] at hQ
  exact hQ
def mgd (G : Int) (s : Nat → Int) (p : Nat) : Bool := decide (mp G s p 9 = -1)
theorem s_fewestWaxed (hd : en_dD w k G s) : SX1_fewestWaxed [.ref k] w = some (some (.int (nI (wR (mgd G s) (mb G s 9)))), w) := by
  have hN : mb G s 9 < 2 ^ 9 := mb_lt G s 9
  have hsb := s_scratchedBits hd
  have hg : ∀ p, p < 2147483648 → SX1_goesRoundWithout [.ref k, .int (nI p)] w = some (some (.int (zT (mp G s p 9 ≠ -1))), w) := fun p hp => s_goesRoundWithout hd hp
  obtain ⟨N, eN⟩ : ∃ N, mb G s 9 = N := ⟨_, rfl⟩
  rw [eN] at hN hsb ⊢
  have hN' : N < 512 := hN
  have q1 := hd.1.1
  refine en_val rfl (fun Q hQ => ?_)
  show en_Ev XX1_fewestWaxed 0 [some (.ref k), none, none, none, none] [] w Q
  have loop : ∀ (d i p : Nat), i + d = 512 → i ≤ p → sbm p N → en_Ev XX1_fewestWaxed 12 [some (.ref k), some (.int (nI N)), some (.int (nI ((wbt (mgd G s) N p).getD N))), some (.int (nI p)), some (.int (zI i))] [] w Q := by
    intro d
    induction d with
    | zero =>
      intro i p h1 h2 h3
      have := sbm_le h3
      omega
    | succ d ih =>
      intro i p h1 h2 h3
      have hle := sbm_le h3
      have c1 : ¬ (512 : Int) ≤ (i : Int) := by omega
      have hf : (wbt (mgd G s) N p).getD N < 512 := by
        cases h : wbt (mgd G s) N p with
        | none => exact hN'
        | some v => have := sbm_le (wbt_lt _ _ h).2; rw [Option.getD_some]; omega
      have hst := wbt_step (good := mgd G s) hN h3
      obtain ⟨F, eF⟩ : ∃ F, (wbt (mgd G s) N p).getD N = F := ⟨_, rfl⟩
      rw [eF] at hf hst ⊢
      have hb1 := s_bitCount (w := w) (show p < 512 by omega)
      have hb2 := s_bitCount (w := w) hf
      have hc1 := pcn_le 9 p
      have hc2 := pcn_le 9 F
      have hgp := hg p (by omega)
      have hnx := nI_sn hN h3
      have hok := nxt_ok 9 N p hN h3
      have tail : ∀ F', F' = (wbt (mgd G s) N (p + 1)).getD N → en_Ev XX1_fewestWaxed 41 [some (.ref k), some (.int (nI N)), some (.int (nI F')), some (.int (nI p)), some (.int (zI i))] [] w Q := by
        intro F' hF'
        rcases hok with ⟨o1, o2⟩ | ⟨o1, o2, o3⟩
        · have e0 : nI (nxt 9 N p) = zI 0 := by rw [o1]; decide
          simp (disch := omega) only [eX1_fewestWaxed_0, eX1_fewestWaxed_1, eX1_fewestWaxed_4, eX1_fewestWaxed_5, eX1_fewestWaxed_6, eX1_fewestWaxed_7, eX1_fewestWaxed_8, eX1_fewestWaxed_9, eX1_fewestWaxed_10, eX1_fewestWaxed_14, eX1_fewestWaxed_17, eX1_fewestWaxed_20, eX1_fewestWaxed_21, eX1_fewestWaxed_24, eX1_fewestWaxed_25, eX1_fewestWaxed_28, eX1_fewestWaxed_31, eX1_fewestWaxed_32, eX1_fewestWaxed_33, eX1_fewestWaxed_36, eX1_fewestWaxed_39, eX1_fewestWaxed_40, eX1_fewestWaxed_41, eX1_fewestWaxed_42, eX1_fewestWaxed_43, eX1_fewestWaxed_44, eX1_fewestWaxed_45, eX1_fewestWaxed_46, eX1_fewestWaxed_47, eX1_fewestWaxed_48, eX1_fewestWaxed_51, eX1_fewestWaxed_54, eX1_fewestWaxed_57, eX1_fewestWaxed_60, eX1_fewestWaxed_61, en_kl_0, en_kl_i, en_kl_r, en_kl_n, en_kl_l, en_Ec_some, en_Ec_void, en_rcv, en_stk, List.map_cons, List.map_nil, List.sum_cons, List.sum_nil, Value.category, Nat.reduceAdd, Nat.reduceLeDiff, decide_true, true_and, and_true, and_self, zI_add, zI_sub, zI_mul, zI_neg, zI_lt, zI_le, zI_eq, zI_cl, zI_0, zI_1, zI_m1, zI_lit, zT_0, zT_01, zI_01, zI_11, ↓reduceIte, if_true, if_false, not_false_eq_true, not_true_eq_false, Int.reduceEq, Int.reduceLT, Int.reduceLE, Classical.not_not, Bool.false_eq_true, hnx, e0]
          rw [hF', o2]
          exact hQ
        · have hlt : nxt 9 N p < 512 := Nat.lt_of_le_of_lt (sbm_le o2) hN'
          have c2 : ¬ ((nxt 9 N p : Nat) : Int) = 0 := by omega
          have hsk := wbt_skip (good := mgd G s) (N := N) (p := p + 1) (nxt 9 N p - (p + 1)) (fun q k1 k2 k3 => by
            have := o3 q k3 (by omega)
            omega)
          rw [show p + 1 + (nxt 9 N p - (p + 1)) = nxt 9 N p by omega] at hsk
          have := ih (i + 1) (nxt 9 N p) (by omega) (by omega) o2
          rw [hsk, ← hF'] at this
          have c2' : ¬ nI (nxt 9 N p) = zI 0 := by
            rw [zI_nI, zI_eq (by omega) (by omega) (by omega) (by omega)]
            exact c2
          simp (disch := omega) only [eX1_fewestWaxed_0, eX1_fewestWaxed_1, eX1_fewestWaxed_4, eX1_fewestWaxed_5, eX1_fewestWaxed_6, eX1_fewestWaxed_7, eX1_fewestWaxed_8, eX1_fewestWaxed_9, eX1_fewestWaxed_10, eX1_fewestWaxed_14, eX1_fewestWaxed_17, eX1_fewestWaxed_20, eX1_fewestWaxed_21, eX1_fewestWaxed_24, eX1_fewestWaxed_25, eX1_fewestWaxed_28, eX1_fewestWaxed_31, eX1_fewestWaxed_32, eX1_fewestWaxed_33, eX1_fewestWaxed_36, eX1_fewestWaxed_39, eX1_fewestWaxed_40, eX1_fewestWaxed_41, eX1_fewestWaxed_42, eX1_fewestWaxed_43, eX1_fewestWaxed_44, eX1_fewestWaxed_45, eX1_fewestWaxed_46, eX1_fewestWaxed_47, eX1_fewestWaxed_48, eX1_fewestWaxed_51, eX1_fewestWaxed_54, eX1_fewestWaxed_57, eX1_fewestWaxed_60, eX1_fewestWaxed_61, en_kl_0, en_kl_i, en_kl_r, en_kl_n, en_kl_l, en_Ec_some, en_Ec_void, en_rcv, en_stk, List.map_cons, List.map_nil, List.sum_cons, List.sum_nil, Value.category, Nat.reduceAdd, Nat.reduceLeDiff, decide_true, true_and, and_true, and_self, zI_add, zI_sub, zI_mul, zI_neg, zI_lt, zI_le, zI_eq, zI_cl, zI_0, zI_1, zI_m1, zI_lit, zT_0, zT_01, zI_01, zI_11, ↓reduceIte, if_true, if_false, not_false_eq_true, not_true_eq_false, Int.reduceEq, Int.reduceLT, Int.reduceLE, Classical.not_not, Bool.false_eq_true, hnx, c2']
          exact this
      rw [eX1_fewestWaxed_12]
      by_cases c3 : pcn 9 p < pcn 9 F
      · have c4 : (pcn 9 p : Int) < (pcn 9 F : Int) := by omega
        have c4' : ¬ (pcn 9 F : Int) ≤ (pcn 9 p : Int) := by omega
        have e1 : nI (pcn 9 p) = zI (pcn 9 p) := zI_nI _
        have e2 : nI (pcn 9 F) = zI (pcn 9 F) := zI_nI _
        by_cases c5 : mp G s p 9 = -1
        · rw [zT_f (by simp only [c5, ne_eq, not_true_eq_false, not_false_eq_true])] at hgp
          simp (disch := omega) only [eX1_fewestWaxed_0, eX1_fewestWaxed_1, eX1_fewestWaxed_4, eX1_fewestWaxed_5, eX1_fewestWaxed_6, eX1_fewestWaxed_7, eX1_fewestWaxed_8, eX1_fewestWaxed_9, eX1_fewestWaxed_10, eX1_fewestWaxed_14, eX1_fewestWaxed_17, eX1_fewestWaxed_20, eX1_fewestWaxed_21, eX1_fewestWaxed_24, eX1_fewestWaxed_25, eX1_fewestWaxed_28, eX1_fewestWaxed_31, eX1_fewestWaxed_32, eX1_fewestWaxed_33, eX1_fewestWaxed_36, eX1_fewestWaxed_39, eX1_fewestWaxed_40, eX1_fewestWaxed_42, eX1_fewestWaxed_43, eX1_fewestWaxed_44, eX1_fewestWaxed_45, eX1_fewestWaxed_46, eX1_fewestWaxed_47, eX1_fewestWaxed_48, eX1_fewestWaxed_51, eX1_fewestWaxed_54, eX1_fewestWaxed_57, eX1_fewestWaxed_60, eX1_fewestWaxed_61, en_kl_0, en_kl_i, en_kl_r, en_kl_n, en_kl_l, en_Ec_some, en_Ec_void, en_rcv, en_stk, List.map_cons, List.map_nil, List.sum_cons, List.sum_nil, Value.category, Nat.reduceAdd, Nat.reduceLeDiff, decide_true, true_and, and_true, and_self, zI_add, zI_sub, zI_mul, zI_neg, zI_lt, zI_le, zI_eq, zI_cl, zI_0, zI_1, zI_m1, zI_lit, zT_0, zT_01, zI_01, zI_11, ↓reduceIte, if_true, if_false, not_false_eq_true, not_true_eq_false, Int.reduceEq, Int.reduceLT, Int.reduceLE, Classical.not_not, Bool.false_eq_true, c1, hb1, hb2, e1, e2, c4, c4', hgp, q1]
          exact tail p (by rw [hst, if_pos ⟨c3, decide_eq_true c5⟩])
        · rw [zT_t c5] at hgp
          simp (disch := omega) only [eX1_fewestWaxed_0, eX1_fewestWaxed_1, eX1_fewestWaxed_4, eX1_fewestWaxed_5, eX1_fewestWaxed_6, eX1_fewestWaxed_7, eX1_fewestWaxed_8, eX1_fewestWaxed_9, eX1_fewestWaxed_10, eX1_fewestWaxed_14, eX1_fewestWaxed_17, eX1_fewestWaxed_20, eX1_fewestWaxed_21, eX1_fewestWaxed_24, eX1_fewestWaxed_25, eX1_fewestWaxed_28, eX1_fewestWaxed_31, eX1_fewestWaxed_32, eX1_fewestWaxed_33, eX1_fewestWaxed_36, eX1_fewestWaxed_39, eX1_fewestWaxed_40, eX1_fewestWaxed_42, eX1_fewestWaxed_43, eX1_fewestWaxed_44, eX1_fewestWaxed_45, eX1_fewestWaxed_46, eX1_fewestWaxed_47, eX1_fewestWaxed_48, eX1_fewestWaxed_51, eX1_fewestWaxed_54, eX1_fewestWaxed_57, eX1_fewestWaxed_60, eX1_fewestWaxed_61, en_kl_0, en_kl_i, en_kl_r, en_kl_n, en_kl_l, en_Ec_some, en_Ec_void, en_rcv, en_stk, List.map_cons, List.map_nil, List.sum_cons, List.sum_nil, Value.category, Nat.reduceAdd, Nat.reduceLeDiff, decide_true, true_and, and_true, and_self, zI_add, zI_sub, zI_mul, zI_neg, zI_lt, zI_le, zI_eq, zI_cl, zI_0, zI_1, zI_m1, zI_lit, zT_0, zT_01, zI_01, zI_11, ↓reduceIte, if_true, if_false, not_false_eq_true, not_true_eq_false, Int.reduceEq, Int.reduceLT, Int.reduceLE, Classical.not_not, Bool.false_eq_true, c1, hb1, hb2, e1, e2, c4, c4', hgp, q1]
          exact tail F (by rw [hst, if_neg (fun z => c5 (of_decide_eq_true z.2))])
      · have c4 : ¬ (pcn 9 p : Int) < (pcn 9 F : Int) := by omega
        have c4' : (pcn 9 F : Int) ≤ (pcn 9 p : Int) := by omega
        have e1 : nI (pcn 9 p) = zI (pcn 9 p) := zI_nI _
        have e2 : nI (pcn 9 F) = zI (pcn 9 F) := zI_nI _
        simp (disch := omega) only [eX1_fewestWaxed_0, eX1_fewestWaxed_1, eX1_fewestWaxed_4, eX1_fewestWaxed_5, eX1_fewestWaxed_6, eX1_fewestWaxed_7, eX1_fewestWaxed_8, eX1_fewestWaxed_9, eX1_fewestWaxed_10, eX1_fewestWaxed_14, eX1_fewestWaxed_17, eX1_fewestWaxed_20, eX1_fewestWaxed_21, eX1_fewestWaxed_24, eX1_fewestWaxed_25, eX1_fewestWaxed_28, eX1_fewestWaxed_31, eX1_fewestWaxed_32, eX1_fewestWaxed_33, eX1_fewestWaxed_36, eX1_fewestWaxed_39, eX1_fewestWaxed_40, eX1_fewestWaxed_42, eX1_fewestWaxed_43, eX1_fewestWaxed_44, eX1_fewestWaxed_45, eX1_fewestWaxed_46, eX1_fewestWaxed_47, eX1_fewestWaxed_48, eX1_fewestWaxed_51, eX1_fewestWaxed_54, eX1_fewestWaxed_57, eX1_fewestWaxed_60, eX1_fewestWaxed_61, en_kl_0, en_kl_i, en_kl_r, en_kl_n, en_kl_l, en_Ec_some, en_Ec_void, en_rcv, en_stk, List.map_cons, List.map_nil, List.sum_cons, List.sum_nil, Value.category, Nat.reduceAdd, Nat.reduceLeDiff, decide_true, true_and, and_true, and_self, zI_add, zI_sub, zI_mul, zI_neg, zI_lt, zI_le, zI_eq, zI_cl, zI_0, zI_1, zI_m1, zI_lit, zT_0, zT_01, zI_01, zI_11, ↓reduceIte, if_true, if_false, not_false_eq_true, not_true_eq_false, Int.reduceEq, Int.reduceLT, Int.reduceLE, Classical.not_not, Bool.false_eq_true, c1, hb1, hb2, e1, e2, c4, c4', q1]
        exact tail F (by rw [hst, if_neg (fun z => c3 z.1)])
  have h0 := loop 512 0 0 rfl (Nat.le_refl _) (by unfold sbm; exact Nat.zero_and _)
  have e0 : nI 0 = zI 0 := by decide
  rw [e0] at h0
  simp (disch := omega) only [eX1_fewestWaxed_0, eX1_fewestWaxed_1, eX1_fewestWaxed_4, eX1_fewestWaxed_5, eX1_fewestWaxed_6, eX1_fewestWaxed_7, eX1_fewestWaxed_8, eX1_fewestWaxed_9, eX1_fewestWaxed_10, en_kl_0, en_kl_i, en_kl_r, en_kl_n, en_kl_l, en_Ec_some, en_Ec_void, en_rcv, en_stk, List.map_cons, List.map_nil, List.sum_cons, List.sum_nil, Value.category, Nat.reduceAdd, Nat.reduceLeDiff, decide_true, true_and, and_true, and_self, zI_0, hsb, q1]
  exact h0
end
/-- what wax answers -/
noncomputable def aWx (G : Int) (s : Nat → Int) (a : Int) : Int := if a = 0 then pcn 9 (wR (mgd G s) (mb G s 9)) else wR (mgd G s) (mb G s 9)
section
variable {w : en_W} {G : Nat → Int} {s : Nat → Nat → Int} {r a : Int}
theorem s_wax_bad (hD : aD w G s) (h : ¬ ((0 ≤ r ∧ r < 10) ∧ (0 ≤ a ∧ a ≤ 1))) (r1 : -2147483648 ≤ r) (r2 : r < 2147483648) (a1 : -2147483648 ≤ a) (a2 : a < 2147483648) : SX5_wax [.ref 0, .int (zI r), .int (zI a)] w = some (some (.int (zI (-2))), w) := by
  refine en_val rfl (fun Q hQ => ?_)
  show en_Ev XX5_wax 0 [some (.ref 0), some (.int (zI r)), some (.int (zI a)), none, none] [] w Q
  by_cases c1 : 0 ≤ r ∧ r < 10
  · have c2 : ¬ (0 ≤ a ∧ a ≤ 1) := fun z => h ⟨c1, z⟩
    have hw := s_within (w := w) (v := a) (a := 0) (b := 1) (by omega) (by omega) (by omega) (by omega) (by omega) (by omega)
    rw [zT_f c2] at hw
    simp (disch := omega) only [eX5_wax_0, eX5_wax_1, eX5_wax_2, eX5_wax_5, eX5_wax_5n, eX5_wax_6, eX5_wax_6n, eX5_wax_7n, eX5_wax_7, eX5_wax_10, eX5_wax_11, eX5_wax_12, eX5_wax_13, eX5_wax_16, eX5_wax_19, eX5_wax_21, eX5_wax_22, eX5_wax_22n, eX5_wax_23, eX5_wax_26, eX5_wax_28, eX5_wax_29, eX5_wax_32, eX5_wax_34, eX5_wax_37, eX5_wax_40, eX5_wax_42, en_kl_0, en_kl_i, en_kl_r, en_kl_n, en_kl_l, en_Ec_some, en_Ec_void, en_rcv, en_stk, List.map_cons, List.map_nil, List.sum_cons, List.sum_nil, Value.category, Nat.reduceAdd, Nat.reduceLeDiff, decide_true, true_and, and_true, and_self, zI_add, zI_sub, zI_mul, zI_neg, zI_lt, zI_le, zI_eq, zI_cl, zI_0, zI_1, zI_m1, zI_lit, zT_0, zT_01, zI_01, zI_11, ↓reduceIte, if_true, if_false, not_false_eq_true, not_true_eq_false, Int.reduceEq, Int.reduceLT, Int.reduceLE, Classical.not_not, Bool.false_eq_true, fi_0, ft_0_0, ft_0_1, ft_0_2, ft_0_3, ft_0_4, ft_0_5, fi_3, ft_3_0, ft_3_1, fi_5, ft_5_0, ft_5_1, fi_8, ft_8_0, ft_8_1, ft_8_2, ft_8_3, ft_8_4, ft_8_5, fi_14, ft_14_0, ft_14_1, fi_19, ft_19_0, ft_19_1, ft_19_2, ft_19_3, ft_19_5, ft_19_6, ft_19_7, ft_19_8, ft_19_12, ft_19_13, ft_19_14, ft_19_15, ft_19_16, ft_19_21, fx_4, fx_6, fx_7, fx_9, fx_10, fx_11, fx_12, fx_13, fx_15, fx_16, fx_17, fx_18, fx_20, fx_21, fx_22, fx_23, fx_24, fx_25, fx_26, fx_27, fx_28, fx_29, fx_30, fx_31, fx_32, fx_33, s_discOf c1.1 c1.2, hw]
    exact hQ
  · simp (disch := omega) only [eX5_wax_0, eX5_wax_1, eX5_wax_2, eX5_wax_5, eX5_wax_5n, eX5_wax_6, eX5_wax_6n, eX5_wax_7n, eX5_wax_7, eX5_wax_10, eX5_wax_11, eX5_wax_12, eX5_wax_13, eX5_wax_16, eX5_wax_19, eX5_wax_21, eX5_wax_22, eX5_wax_22n, eX5_wax_23, eX5_wax_26, eX5_wax_28, eX5_wax_29, eX5_wax_32, eX5_wax_34, eX5_wax_37, eX5_wax_40, eX5_wax_42, en_kl_0, en_kl_i, en_kl_r, en_kl_n, en_kl_l, en_Ec_some, en_Ec_void, en_rcv, en_stk, List.map_cons, List.map_nil, List.sum_cons, List.sum_nil, Value.category, Nat.reduceAdd, Nat.reduceLeDiff, decide_true, true_and, and_true, and_self, zI_add, zI_sub, zI_mul, zI_neg, zI_lt, zI_le, zI_eq, zI_cl, zI_0, zI_1, zI_m1, zI_lit, zT_0, zT_01, zI_01, zI_11, ↓reduceIte, if_true, if_false, not_false_eq_true, not_true_eq_false, Int.reduceEq, Int.reduceLT, Int.reduceLE, Classical.not_not, Bool.false_eq_true, fi_0, ft_0_0, ft_0_1, ft_0_2, ft_0_3, ft_0_4, ft_0_5, fi_3, ft_3_0, ft_3_1, fi_5, ft_5_0, ft_5_1, fi_8, ft_8_0, ft_8_1, ft_8_2, ft_8_3, ft_8_4, ft_8_5, fi_14, ft_14_0, ft_14_1, fi_19, ft_19_0, ft_19_1, ft_19_2, ft_19_3, ft_19_5, ft_19_6, ft_19_7, ft_19_8, ft_19_12, ft_19_13, ft_19_14, ft_19_15, ft_19_16, ft_19_21, fx_4, fx_6, fx_7, fx_9, fx_10, fx_11, fx_12, fx_13, fx_15, fx_16, fx_17, fx_18, fx_20, fx_21, fx_22, fx_23, fx_24, fx_25, fx_26, fx_27, fx_28, fx_29, fx_30, fx_31, fx_32, fx_33, s_discOfN c1 r1 r2]
    exact hQ
theorem s_wax_ok (hD : aD w G s) (h1 : 0 ≤ r) (h2 : r < 10) (h3 : 0 ≤ a) (h4 : a ≤ 1) : SX5_wax [.ref 0, .int (zI r), .int (zI a)] w = some (some (.int (zI (aWx (G r.toNat) (s r.toNat) a))), w) := by
  have hd := hD r.toNat (by omega)
  have hi := hd.1.1
  have hf := s_fewestWaxed hd
  have hN : mb (G r.toNat) (s r.toNat) 9 < 2 ^ 9 := mb_lt _ _ 9
  have hle : wR (mgd (G r.toNat) (s r.toNat)) (mb (G r.toNat) (s r.toNat) 9) < 512 := Nat.lt_of_le_of_lt wR_le hN
  have hb := s_bitCount (w := w) hle
  have hw := s_within (w := w) (v := a) (a := 0) (b := 1) (by omega) (by omega) (by omega) (by omega) (by omega) (by omega)
  rw [zT_t ⟨h3, h4⟩] at hw
  refine en_val rfl (fun Q hQ => ?_)
  show en_Ev XX5_wax 0 [some (.ref 0), some (.int (zI r)), some (.int (zI a)), none, none] [] w Q
  unfold aWx at hQ
  by_cases c : a = 0
  · rw [if_pos c] at hQ
    subst c
    simp (disch := omega) only [eX5_wax_0, eX5_wax_1, eX5_wax_2, eX5_wax_5, eX5_wax_5n, eX5_wax_6, eX5_wax_6n, eX5_wax_7n, eX5_wax_7, eX5_wax_10, eX5_wax_11, eX5_wax_12, eX5_wax_13, eX5_wax_16, eX5_wax_19, eX5_wax_21, eX5_wax_22, eX5_wax_22n, eX5_wax_23, eX5_wax_26, eX5_wax_28, eX5_wax_29, eX5_wax_32, eX5_wax_34, eX5_wax_37, eX5_wax_40, eX5_wax_42, en_kl_0, en_kl_i, en_kl_r, en_kl_n, en_kl_l, en_Ec_some, en_Ec_void, en_rcv, en_stk, List.map_cons, List.map_nil, List.sum_cons, List.sum_nil, Value.category, Nat.reduceAdd, Nat.reduceLeDiff, decide_true, true_and, and_true, and_self, zI_add, zI_sub, zI_mul, zI_neg, zI_lt, zI_le, zI_eq, zI_cl, zI_0, zI_1, zI_m1, zI_lit, zT_0, zT_01, zI_01, zI_11, ↓reduceIte, if_true, if_false, not_false_eq_true, not_true_eq_false, Int.reduceEq, Int.reduceLT, Int.reduceLE, Classical.not_not, Bool.false_eq_true, fi_0, ft_0_0, ft_0_1, ft_0_2, ft_0_3, ft_0_4, ft_0_5, fi_3, ft_3_0, ft_3_1, fi_5, ft_5_0, ft_5_1, fi_8, ft_8_0, ft_8_1, ft_8_2, ft_8_3, ft_8_4, ft_8_5, fi_14, ft_14_0, ft_14_1, fi_19, ft_19_0, ft_19_1, ft_19_2, ft_19_3, ft_19_5, ft_19_6, ft_19_7, ft_19_8, ft_19_12, ft_19_13, ft_19_14, ft_19_15, ft_19_16, ft_19_21, fx_4, fx_6, fx_7, fx_9, fx_10, fx_11, fx_12, fx_13, fx_15, fx_16, fx_17, fx_18, fx_20, fx_21, fx_22, fx_23, fx_24, fx_25, fx_26, fx_27, fx_28, fx_29, fx_30, fx_31, fx_32, fx_33, s_discOf h1 h2, hw, hi, hf, hb]
    rw [zI_nI]
    exact hQ
  · rw [if_neg c] at hQ
    simp (disch := omega) only [eX5_wax_0, eX5_wax_1, eX5_wax_2, eX5_wax_5, eX5_wax_5n, eX5_wax_6, eX5_wax_6n, eX5_wax_7n, eX5_wax_7, eX5_wax_10, eX5_wax_11, eX5_wax_12, eX5_wax_13, eX5_wax_16, eX5_wax_19, eX5_wax_21, eX5_wax_22, eX5_wax_22n, eX5_wax_23, eX5_wax_26, eX5_wax_28, eX5_wax_29, eX5_wax_32, eX5_wax_34, eX5_wax_37, eX5_wax_40, eX5_wax_42, en_kl_0, en_kl_i, en_kl_r, en_kl_n, en_kl_l, en_Ec_some, en_Ec_void, en_rcv, en_stk, List.map_cons, List.map_nil, List.sum_cons, List.sum_nil, Value.category, Nat.reduceAdd, Nat.reduceLeDiff, decide_true, true_and, and_true, and_self, zI_add, zI_sub, zI_mul, zI_neg, zI_lt, zI_le, zI_eq, zI_cl, zI_0, zI_1, zI_m1, zI_lit, zT_0, zT_01, zI_01, zI_11, ↓reduceIte, if_true, if_false, not_false_eq_true, not_true_eq_false, Int.reduceEq, Int.reduceLT, Int.reduceLE, Classical.not_not, Bool.false_eq_true, fi_0, ft_0_0, ft_0_1, ft_0_2, ft_0_3, ft_0_4, ft_0_5, fi_3, ft_3_0, ft_3_1, fi_5, ft_5_0, ft_5_1, fi_8, ft_8_0, ft_8_1, ft_8_2, ft_8_3, ft_8_4, ft_8_5, fi_14, ft_14_0, ft_14_1, fi_19, ft_19_0, ft_19_1, ft_19_2, ft_19_3, ft_19_5, ft_19_6, ft_19_7, ft_19_8, ft_19_12, ft_19_13, ft_19_14, ft_19_15, ft_19_16, ft_19_21, fx_4, fx_6, fx_7, fx_9, fx_10, fx_11, fx_12, fx_13, fx_15, fx_16, fx_17, fx_18, fx_20, fx_21, fx_22, fx_23, fx_24, fx_25, fx_26, fx_27, fx_28, fx_29, fx_30, fx_31, fx_32, fx_33, s_discOf h1 h2, hw, hi, hf, c]
    rw [zI_nI]
    exact hQ
end
