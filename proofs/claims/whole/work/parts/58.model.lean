/-! ===== the model's plays ===== -/
/-- where the arm goes from g, were there grooves without end -/
def rx (s : Nat → Int) (p g : Nat) : Int := if s g = -1 ∨ p.testBit g = true then (g : Int) + 1 else s g
theorem mx_rx {G : Int} {s : Nat → Int} {p g : Nat} (h : g < 9) : mx G s p (g : Int) = if G ≤ rx s p g then -1 else rx s p g := by
  unfold mx rx
  rw [if_neg (by omega), Int.toNat_natCast]
  by_cases c : s g = -1 ∨ p.testBit g = true
  · rw [if_pos c, if_pos c]
  · rw [if_neg c, if_neg c]
/-- how many minutes with p waxed, f more to look at from minute n on; -1: it goes round -/
def gN (G : Int) (s : Nat → Int) (p : Nat) : Nat → Nat → Int
  | 0, _ => -1
  | f + 1, n => if mp G s p (n + 1) = -1 then (n : Int) + 1 else gN G s p f (n + 1)
theorem gN_m1 {G : Int} {s : Nat → Int} {p : Nat} : ∀ f n : Nat, gN G s p f n = -1 ↔ ∀ j, n < j → j ≤ n + f → mp G s p j ≠ -1
  | 0, n => ⟨fun _ j h1 h2 => absurd h1 (by omega), fun _ => rfl⟩
  | f + 1, n => by
    unfold gN
    by_cases c : mp G s p (n + 1) = -1
    · rw [if_pos c]
      exact ⟨fun h => by omega, fun h => absurd c (h (n + 1) (by omega) (by omega))⟩
    · rw [if_neg c, gN_m1 f (n + 1)]
      refine ⟨fun h j h1 h2 => ?_, fun h j h1 h2 => h j (by omega) (by omega)⟩
      by_cases e : j = n + 1
      · rw [e]; exact c
      · exact h j (by omega) (by omega)
theorem gN_at {G : Int} {s : Nat → Int} {p : Nat} : ∀ f n m : Nat, n ≤ m → m < n + f → (∀ j, n < j → j ≤ m → mp G s p j ≠ -1) → mp G s p (m + 1) = -1 → gN G s p f n = (m : Int) + 1
  | 0, n, m, h1, h2, _, _ => by omega
  | f + 1, n, m, h1, h2, h3, h4 => by
    unfold gN
    by_cases e : n = m
    · subst e; rw [if_pos h4]
    · rw [if_neg (h3 (n + 1) (by omega) (by omega))]
      exact gN_at f (n + 1) m (by omega) (by omega) (fun j k1 k2 => h3 j (by omega) k2) h4
theorem gN_mn {G : Int} {s : Nat → Int} {kick : Int} : ∀ f n : Nat, mn G s kick f n = if gN G s 0 f n = -1 then kick else gN G s 0 f n
  | 0, n => by unfold mn gN; rw [if_pos rfl]
  | f + 1, n => by
    unfold mn gN
    by_cases c : mp G s 0 (n + 1) = -1
    · rw [if_pos c, if_pos c, if_neg (by omega)]
    · rw [if_neg c, if_neg c]
      exact gN_mn f (n + 1)
theorem mp_9 {G : Int} {s : Nat → Int} {p : Nat} : (∀ j, 0 < j → j ≤ 0 + 9 → mp G s p j ≠ -1) ↔ mp G s p 9 ≠ -1 := by
  refine ⟨fun h => h 9 (by omega) (by omega), fun h j h1 h2 c => h ?_⟩
  have := mp_m1 c (9 - j)
  rw [show j + (9 - j) = 9 by omega] at this
  exact this
theorem gN_9 {G : Int} {s : Nat → Int} {p : Nat} : gN G s p 9 0 = -1 ↔ mp G s p 9 ≠ -1 := (gN_m1 9 0).trans mp_9
theorem mp_cyc {G : Int} {s : Nat → Int} {p j m : Nat} (hj : j < m) (he : mp G s p j = mp G s p m) (hn : ∀ i, i ≤ m → mp G s p i ≠ -1) : ∀ n, mp G s p n ≠ -1 := by
  have hk : ∀ k, mp G s p (j + k) = mp G s p (m + k) := by
    intro k
    induction k with
    | zero => exact he
    | succ k ih =>
      show mx G s p (mp G s p (j + k)) = mx G s p (mp G s p (m + k))
      rw [ih]
  intro n
  induction n using Nat.strongRecOn with
  | _ n ih =>
    by_cases c : n ≤ m
    · exact hn n c
    · have := hk (n - m)
      rw [show m + (n - m) = n by omega] at this
      rw [← this]
      exact ih _ (by omega)
theorem had_ok : ∀ a, a < 512 → ∀ g, g < 9 → a.testBit g = false → pcn 9 (a + 2 ^ g) = pcn 9 a + 1 ∧ a + 2 ^ g < 512 ∧ nI a ||| (zI 1 <<< (nI g &&& zI 31)) = nI (a + 2 ^ g) := by decide +kernel
theorem had_bit : ∀ a, a < 512 → ∀ g, g < 9 → a.testBit g = false → ∀ i, i < 9 → (a + 2 ^ g).testBit i = (a.testBit i || decide (g = i)) := by decide +kernel
section
variable {w : en_W} {G : Nat → Int} {s : Nat → Nat → Int} {kick law life pat : Int} {v a m : Int} {r g p : Nat}
theorem r_onFrom (hG : bG w G s) (hr : r < 10) (hg : g < 9) (hp : p < 2147483648) : SX6_onFrom [.ref 19, .int (zI r), .int (zI g), .int (nI p)] w = some (some (.int (zI (rx (s r) p g))), w) := by
  obtain ⟨e1, e3, e4⟩ := hG.2 r hr g hg
  have e2 : (9 * (r : Int) + g).toNat = 9 * r + g := by omega
  have hb := zb_bit hp (show g < 32 by omega)
  rw [zI_nI g, zI_lit 31, zI_1] at hb
  refine en_val rfl (fun Q hQ => ?_)
  show en_Ev XX6_onFrom 0 [some (.ref 19), some (.int (zI r)), some (.int (zI g)), some (.int (nI p)), none] [] w Q
  unfold rx at hQ
  by_cases c1 : s r g = -1
  · rw [if_pos (.inl c1)] at hQ
    simp (disch := omega) only [eX6_onFrom_0, eX6_onFrom_1, eX6_onFrom_4, eX6_onFrom_6, eX6_onFrom_7, eX6_onFrom_8, eX6_onFrom_9, eX6_onFrom_10, eX6_onFrom_11, eX6_onFrom_13, eX6_onFrom_15, eX6_onFrom_16, eX6_onFrom_19, eX6_onFrom_20, eX6_onFrom_21, eX6_onFrom_22, eX6_onFrom_23, eX6_onFrom_24, eX6_onFrom_25, eX6_onFrom_28, eX6_onFrom_29, eX6_onFrom_30, eX6_onFrom_31, eX6_onFrom_34, eX6_onFrom_36, en_kl_0, en_kl_i, en_kl_r, en_kl_n, en_kl_l, en_Ec_some, en_Ec_void, en_rcv, en_stk, List.map_cons, List.map_nil, List.sum_cons, List.sum_nil, Value.category, Nat.reduceAdd, Nat.reduceLeDiff, decide_true, true_and, and_true, and_self, zI_add, zI_sub, zI_mul, zI_neg, zI_lt, zI_le, zI_eq, zI_cl, zI_0, zI_1, zI_m1, zI_lit, zT_0, zT_01, zI_01, zI_11, ↓reduceIte, if_true, if_false, not_false_eq_true, not_true_eq_false, Int.reduceEq, Int.reduceLT, Int.reduceLE, Classical.not_not, Bool.false_eq_true, fi_19, ft_19_0, ft_19_1, ft_19_2, ft_19_3, ft_19_5, ft_19_6, ft_19_7, ft_19_8, ft_19_12, ft_19_13, ft_19_14, ft_19_15, ft_19_16, ft_19_21, xi_20, xi_21, xi_22, xi_23, xi_24, xi_25, xi_26, xi_27, xi_28, xi_29, xi_30, xi_31, xi_32, xi_33, Int.toNat_natCast, Int.reduceToNat, e1, e2, c1]
    exact hQ
  · by_cases c2 : p.testBit g = true
    · rw [if_pos (.inr c2)] at hQ
      rw [if_pos c2] at hb
      have hb' : nI p >>> (zI (g : Int) &&& zI 31) &&& zI 1 = zI 1 := hb.trans (by decide)
      simp (disch := omega) only [eX6_onFrom_0, eX6_onFrom_1, eX6_onFrom_4, eX6_onFrom_6, eX6_onFrom_7, eX6_onFrom_8, eX6_onFrom_9, eX6_onFrom_10, eX6_onFrom_11, eX6_onFrom_13, eX6_onFrom_15, eX6_onFrom_16, eX6_onFrom_19, eX6_onFrom_20, eX6_onFrom_21, eX6_onFrom_22, eX6_onFrom_23, eX6_onFrom_24, eX6_onFrom_25, eX6_onFrom_28, eX6_onFrom_29, eX6_onFrom_30, eX6_onFrom_31, eX6_onFrom_34, eX6_onFrom_36, en_kl_0, en_kl_i, en_kl_r, en_kl_n, en_kl_l, en_Ec_some, en_Ec_void, en_rcv, en_stk, List.map_cons, List.map_nil, List.sum_cons, List.sum_nil, Value.category, Nat.reduceAdd, Nat.reduceLeDiff, decide_true, true_and, and_true, and_self, zI_add, zI_sub, zI_mul, zI_neg, zI_lt, zI_le, zI_eq, zI_cl, zI_0, zI_1, zI_m1, zI_lit, zT_0, zT_01, zI_01, zI_11, ↓reduceIte, if_true, if_false, not_false_eq_true, not_true_eq_false, Int.reduceEq, Int.reduceLT, Int.reduceLE, Classical.not_not, Bool.false_eq_true, fi_19, ft_19_0, ft_19_1, ft_19_2, ft_19_3, ft_19_5, ft_19_6, ft_19_7, ft_19_8, ft_19_12, ft_19_13, ft_19_14, ft_19_15, ft_19_16, ft_19_21, xi_20, xi_21, xi_22, xi_23, xi_24, xi_25, xi_26, xi_27, xi_28, xi_29, xi_30, xi_31, xi_32, xi_33, Int.toNat_natCast, Int.reduceToNat, e1, e2, c1, hb']
      exact hQ
    · rw [if_neg (fun z => z.elim c1 c2)] at hQ
      rw [if_neg c2] at hb
      have hb' : nI p >>> (zI (g : Int) &&& zI 31) &&& zI 1 = zI 0 := hb.trans (by decide)
      simp (disch := omega) only [eX6_onFrom_0, eX6_onFrom_1, eX6_onFrom_4, eX6_onFrom_6, eX6_onFrom_7, eX6_onFrom_8, eX6_onFrom_9, eX6_onFrom_10, eX6_onFrom_11, eX6_onFrom_13, eX6_onFrom_15, eX6_onFrom_16, eX6_onFrom_19, eX6_onFrom_20, eX6_onFrom_21, eX6_onFrom_22, eX6_onFrom_23, eX6_onFrom_24, eX6_onFrom_25, eX6_onFrom_28, eX6_onFrom_29, eX6_onFrom_30, eX6_onFrom_31, eX6_onFrom_34, eX6_onFrom_36, en_kl_0, en_kl_i, en_kl_r, en_kl_n, en_kl_l, en_Ec_some, en_Ec_void, en_rcv, en_stk, List.map_cons, List.map_nil, List.sum_cons, List.sum_nil, Value.category, Nat.reduceAdd, Nat.reduceLeDiff, decide_true, true_and, and_true, and_self, zI_add, zI_sub, zI_mul, zI_neg, zI_lt, zI_le, zI_eq, zI_cl, zI_0, zI_1, zI_m1, zI_lit, zT_0, zT_01, zI_01, zI_11, ↓reduceIte, if_true, if_false, not_false_eq_true, not_true_eq_false, Int.reduceEq, Int.reduceLT, Int.reduceLE, Classical.not_not, Bool.false_eq_true, fi_19, ft_19_0, ft_19_1, ft_19_2, ft_19_3, ft_19_5, ft_19_6, ft_19_7, ft_19_8, ft_19_12, ft_19_13, ft_19_14, ft_19_15, ft_19_16, ft_19_21, xi_20, xi_21, xi_22, xi_23, xi_24, xi_25, xi_26, xi_27, xi_28, xi_29, xi_30, xi_31, xi_32, xi_33, Int.toNat_natCast, Int.reduceToNat, e1, e2, c1, hb']
      exact hQ
theorem rx_rng (hG : bG w G s) (hr : r < 10) (hg : g < 9) : 0 ≤ rx (s r) p g ∧ rx (s r) p g ≤ 9 := by
  have := (hG.2 r hr g hg).2
  unfold rx
  split <;> omega
theorem bG_mp (hG : bG w G s) (hr : r < 10) : ∀ n, -1 ≤ mp (G r) (s r) p n ∧ mp (G r) (s r) p n ≤ 8 := mp_rng (fun j hj => (hG.2 r hr j hj).2) (hG.1 r hr).2.2
theorem bG_mpG (hG : bG w G s) (hr : r < 10) (n : Nat) : mp (G r) (s r) p n < G r := by
  have hg := (hG.1 r hr).2
  cases n with
  | zero => unfold mp; omega
  | succ n =>
    have h := bG_mp (p := p) hG hr n
    show mx _ _ _ (mp (G r) (s r) p n) < G r
    by_cases c : mp (G r) (s r) p n = -1
    · rw [c, mx_m1]; omega
    · obtain ⟨x, hx⟩ : ∃ x : Nat, mp (G r) (s r) p n = x := ⟨(mp (G r) (s r) p n).toNat, by omega⟩
      rw [hx, mx_rx (by omega)]
      split <;> omega
theorem r_goes (hG : bG w G s) (hr : r < 10) (hp : p < 2147483648) : SX6_goes [.ref 19, .int (zI r), .int (nI p)] w = some (some (.int (zI (gN (G r) (s r) p 9 0))), w) := by
  obtain ⟨e1, e2, e3⟩ := hG.1 r hr
  have hb := bG_mp (p := p) hG hr
  have hbG := bG_mpG (p := p) hG hr
  refine en_val rfl (fun Q hQ => ?_)
  show en_Ev XX6_goes 0 [some (.ref 19), some (.int (zI r)), some (.int (nI p)), none, none, none] [] w Q
  have loop : ∀ (d m had : Nat) (g : Nat), m + d = 10 → had < 512 → pcn 9 had = m → (∀ i, i ≤ m → mp (G r) (s r) p i ≠ -1) → mp (G r) (s r) p m = (g : Int) → (∀ i, i < 9 → (had.testBit i = true ↔ ∃ j, j < m ∧ mp (G r) (s r) p j = (i : Int))) → en_Ev XX6_goes 8 [some (.ref 19), some (.int (zI r)), some (.int (nI p)), some (.int (nI had)), some (.int (zI g)), some (.int (zI m))] [] w Q := by
    intro d
    induction d with
    | zero =>
      intro m had g h1 h2 h3 h4 h5 h6
      have := pcn_le 9 had
      omega
    | succ d ih =>
      intro m had g h1 h2 h3 h4 h5 h6
      have hg9 : g < 9 := by
        have := hb m
        omega
      have hgG : ¬ G r ≤ (g : Int) := by
        have := hbG m
        omega
      have hbit := zb_bit (show had < 2 ^ 31 by omega) (show g < 32 by omega)
      rw [zI_nI g, zI_lit 31, zI_1] at hbit
      rw [eX6_goes_8]
      by_cases c : had.testBit g = true
      · obtain ⟨j, j1, j2⟩ := (h6 g hg9).mp c
        have hall := mp_cyc j1 (j2.trans h5.symm) h4
        have hv : gN (G r) (s r) p 9 0 = -1 := gN_9.mpr (hall 9)
        rw [hv] at hQ
        rw [if_pos c] at hbit
        have hb' : nI had >>> (zI (g : Int) &&& zI 31) &&& zI 1 = zI 1 := hbit.trans (by decide)
        simp (disch := omega) only [eX6_goes_0, eX6_goes_1, eX6_goes_2, eX6_goes_3, eX6_goes_5, eX6_goes_6, eX6_goes_10, eX6_goes_11, eX6_goes_14, eX6_goes_15, eX6_goes_16, eX6_goes_19, eX6_goes_20, eX6_goes_22, eX6_goes_23, eX6_goes_24, eX6_goes_25, eX6_goes_26, eX6_goes_29, eX6_goes_30, eX6_goes_31, eX6_goes_32, eX6_goes_33, eX6_goes_35, eX6_goes_36, eX6_goes_37, eX6_goes_38, eX6_goes_41, eX6_goes_42, eX6_goes_43, eX6_goes_45, eX6_goes_46, eX6_goes_49, eX6_goes_51, eX6_goes_54, eX6_goes_56, en_kl_0, en_kl_i, en_kl_r, en_kl_n, en_kl_l, en_Ec_some, en_Ec_void, en_rcv, en_stk, List.map_cons, List.map_nil, List.sum_cons, List.sum_nil, Value.category, Nat.reduceAdd, Nat.reduceLeDiff, decide_true, true_and, and_true, and_self, zI_add, zI_sub, zI_mul, zI_neg, zI_lt, zI_le, zI_eq, zI_cl, zI_0, zI_1, zI_m1, zI_lit, zT_0, zT_01, zI_01, zI_11, ↓reduceIte, if_true, if_false, not_false_eq_true, not_true_eq_false, Int.reduceEq, Int.reduceLT, Int.reduceLE, Classical.not_not, Bool.false_eq_true, fi_19, ft_19_0, ft_19_1, ft_19_2, ft_19_3, ft_19_5, ft_19_6, ft_19_7, ft_19_8, ft_19_12, ft_19_13, ft_19_14, ft_19_15, ft_19_16, ft_19_21, xi_20, xi_21, xi_22, xi_23, xi_24, xi_25, xi_26, xi_27, xi_28, xi_29, xi_30, xi_31, xi_32, xi_33, Int.toNat_natCast, Int.reduceToNat, e1, hgG, hb']
        exact hQ
      · have c' : had.testBit g = false := by simpa using c
        rw [if_neg c] at hbit
        have hb' : nI had >>> (zI (g : Int) &&& zI 31) &&& zI 1 = zI 0 := hbit.trans (by decide)
        obtain ⟨a1, a2, a3⟩ := had_ok had h2 g hg9 c'
        rw [zI_nI g] at a3
        have hon := r_onFrom (g := g) hG hr hg9 hp
        have hrg := rx_rng (p := p) hG hr hg9
        have hnx : mp (G r) (s r) p (m + 1) = if G r ≤ rx (s r) p g then -1 else rx (s r) p g := by
          show mx _ _ _ (mp (G r) (s r) p m) = _
          rw [h5]
          exact mx_rx hg9
        have hm8 : m + 1 ≤ 9 := by
          have := pcn_le 9 (had + 2 ^ g)
          omega
        simp (disch := omega) only [eX6_goes_0, eX6_goes_1, eX6_goes_2, eX6_goes_3, eX6_goes_5, eX6_goes_6, eX6_goes_10, eX6_goes_11, eX6_goes_14, eX6_goes_15, eX6_goes_16, eX6_goes_19, eX6_goes_20, eX6_goes_22, eX6_goes_23, eX6_goes_24, eX6_goes_25, eX6_goes_26, eX6_goes_29, eX6_goes_30, eX6_goes_31, eX6_goes_32, eX6_goes_33, eX6_goes_35, eX6_goes_36, eX6_goes_37, eX6_goes_38, eX6_goes_41, eX6_goes_42, eX6_goes_43, eX6_goes_45, eX6_goes_46, eX6_goes_49, eX6_goes_51, eX6_goes_54, eX6_goes_56, en_kl_0, en_kl_i, en_kl_r, en_kl_n, en_kl_l, en_Ec_some, en_Ec_void, en_rcv, en_stk, List.map_cons, List.map_nil, List.sum_cons, List.sum_nil, Value.category, Nat.reduceAdd, Nat.reduceLeDiff, decide_true, true_and, and_true, and_self, zI_add, zI_sub, zI_mul, zI_neg, zI_lt, zI_le, zI_eq, zI_cl, zI_0, zI_1, zI_m1, zI_lit, zT_0, zT_01, zI_01, zI_11, ↓reduceIte, if_true, if_false, not_false_eq_true, not_true_eq_false, Int.reduceEq, Int.reduceLT, Int.reduceLE, Classical.not_not, Bool.false_eq_true, fi_19, ft_19_0, ft_19_1, ft_19_2, ft_19_3, ft_19_5, ft_19_6, ft_19_7, ft_19_8, ft_19_12, ft_19_13, ft_19_14, ft_19_15, ft_19_16, ft_19_21, xi_20, xi_21, xi_22, xi_23, xi_24, xi_25, xi_26, xi_27, xi_28, xi_29, xi_30, xi_31, xi_32, xi_33, Int.toNat_natCast, Int.reduceToNat, e1, hgG, hb', a3, hon]
        by_cases c2 : G r ≤ rx (s r) p g
        · rw [if_pos c2] at hnx
          have hv := gN_at 9 0 m (by omega) (by omega) (fun j k1 k2 => h4 j k2) hnx
          rw [hv] at hQ
          rw [eX6_goes_8]
          simp (disch := omega) only [eX6_goes_0, eX6_goes_1, eX6_goes_2, eX6_goes_3, eX6_goes_5, eX6_goes_6, eX6_goes_10, eX6_goes_11, eX6_goes_14, eX6_goes_15, eX6_goes_16, eX6_goes_19, eX6_goes_20, eX6_goes_22, eX6_goes_23, eX6_goes_24, eX6_goes_25, eX6_goes_26, eX6_goes_29, eX6_goes_30, eX6_goes_31, eX6_goes_32, eX6_goes_33, eX6_goes_35, eX6_goes_36, eX6_goes_37, eX6_goes_38, eX6_goes_41, eX6_goes_42, eX6_goes_43, eX6_goes_45, eX6_goes_46, eX6_goes_49, eX6_goes_51, eX6_goes_54, eX6_goes_56, en_kl_0, en_kl_i, en_kl_r, en_kl_n, en_kl_l, en_Ec_some, en_Ec_void, en_rcv, en_stk, List.map_cons, List.map_nil, List.sum_cons, List.sum_nil, Value.category, Nat.reduceAdd, Nat.reduceLeDiff, decide_true, true_and, and_true, and_self, zI_add, zI_sub, zI_mul, zI_neg, zI_lt, zI_le, zI_eq, zI_cl, zI_0, zI_1, zI_m1, zI_lit, zT_0, zT_01, zI_01, zI_11, ↓reduceIte, if_true, if_false, not_false_eq_true, not_true_eq_false, Int.reduceEq, Int.reduceLT, Int.reduceLE, Classical.not_not, Bool.false_eq_true, fi_19, ft_19_0, ft_19_1, ft_19_2, ft_19_3, ft_19_5, ft_19_6, ft_19_7, ft_19_8, ft_19_12, ft_19_13, ft_19_14, ft_19_15, ft_19_16, ft_19_21, xi_20, xi_21, xi_22, xi_23, xi_24, xi_25, xi_26, xi_27, xi_28, xi_29, xi_30, xi_31, xi_32, xi_33, Int.toNat_natCast, Int.reduceToNat, e1, c2]
          exact hQ
        · rw [if_neg c2] at hnx
          obtain ⟨g', hg'⟩ : ∃ g' : Nat, rx (s r) p g = g' := ⟨(rx (s r) p g).toNat, by omega⟩
          rw [hg']
          refine ih (m + 1) (had + 2 ^ g) g' (by omega) a2 (by omega) (fun i hi => ?_) (hnx.trans hg') (fun i hi => ?_)
          · by_cases e : i = m + 1
            · rw [e, hnx]; omega
            · exact h4 i (by omega)
          · rw [had_bit had h2 g hg9 c' i hi]
            rw [Bool.or_eq_true, decide_eq_true_eq, h6 i hi]
            refine ⟨fun z => z.elim (fun ⟨j, k1, k2⟩ => ⟨j, by omega, k2⟩) (fun z => ⟨m, by omega, z ▸ h5⟩), fun ⟨j, k1, k2⟩ => ?_⟩
            by_cases e : j = m
            · right
              rw [e, h5] at k2
              omega
            · exact .inl ⟨j, by omega, k2⟩
  have h0 := loop 10 0 0 0 rfl (by decide) (by decide) (fun i hi => by
    have : i = 0 := by omega
    rw [this]
    unfold mp
    decide) rfl (fun i hi => ⟨fun z => by simp at z, fun ⟨j, k1, _⟩ => absurd k1 (by omega)⟩)
  have ez : nI 0 = zI 0 := by decide
  rw [ez] at h0
  simp (disch := omega) only [eX6_goes_0, eX6_goes_1, eX6_goes_2, eX6_goes_3, eX6_goes_5, eX6_goes_6, eX6_goes_10, eX6_goes_11, eX6_goes_14, eX6_goes_15, eX6_goes_16, eX6_goes_19, eX6_goes_20, eX6_goes_22, eX6_goes_23, eX6_goes_24, eX6_goes_25, eX6_goes_26, eX6_goes_29, eX6_goes_30, eX6_goes_31, eX6_goes_32, eX6_goes_33, eX6_goes_35, eX6_goes_36, eX6_goes_37, eX6_goes_38, eX6_goes_41, eX6_goes_42, eX6_goes_43, eX6_goes_45, eX6_goes_46, eX6_goes_49, eX6_goes_51, eX6_goes_54, eX6_goes_56, en_kl_0, en_kl_i, en_kl_r, en_kl_n, en_kl_l, en_Ec_some, en_Ec_void, en_rcv, en_stk, List.map_cons, List.map_nil, List.sum_cons, List.sum_nil, Value.category, Nat.reduceAdd, Nat.reduceLeDiff, decide_true, true_and, and_true, and_self, zI_add, zI_sub, zI_mul, zI_neg, zI_lt, zI_le, zI_eq, zI_cl, zI_0, zI_1, zI_m1, zI_lit, zT_0, zT_01, zI_01, zI_11, ↓reduceIte, if_true, if_false, not_false_eq_true, not_true_eq_false, Int.reduceEq, Int.reduceLT, Int.reduceLE, Classical.not_not, Bool.false_eq_true, fi_19, ft_19_0, ft_19_1, ft_19_2, ft_19_3, ft_19_5, ft_19_6, ft_19_7, ft_19_8, ft_19_12, ft_19_13, ft_19_14, ft_19_15, ft_19_16, ft_19_21, xi_20, xi_21, xi_22, xi_23, xi_24, xi_25, xi_26, xi_27, xi_28, xi_29, xi_30, xi_31, xi_32, xi_33, Int.toNat_natCast, Int.reduceToNat]
  exact h0
theorem r_playsOf (hG : bG w G s) (hP : bP w kick law life pat) (hr : r < 10) : SX6_playsOf [.ref 19, .int (zI r)] w = some (some (.int (zI (ml G s kick r))), w) := by
  have e := r_goes (p := 0) hG hr (by decide)
  rw [show nI 0 = zI 0 from by decide] at e
  obtain ⟨⟨p1, -⟩, -⟩ := hP
  refine en_val rfl (fun Q hQ => ?_)
  show en_Ev XX6_playsOf 0 [some (.ref 19), some (.int (zI r)), none] [] w Q
  unfold ml at hQ
  rw [gN_mn] at hQ
  have hrg : -1 ≤ gN (G r) (s r) 0 9 0 ∧ gN (G r) (s r) 0 9 0 ≤ 60 := by
    have := mn_rng (G := G r) (s := s r) (kick := 1) (by omega) (by omega) 9 0 (by omega)
    rw [gN_mn] at this
    split at this <;> omega
  by_cases c : gN (G r) (s r) 0 9 0 = -1
  · rw [if_pos c] at hQ
    rw [c] at e
    simp (disch := omega) only [eX6_playsOf_0, eX6_playsOf_1, eX6_playsOf_2, eX6_playsOf_3, eX6_playsOf_6, eX6_playsOf_7, eX6_playsOf_8, eX6_playsOf_9, eX6_playsOf_12, eX6_playsOf_13, eX6_playsOf_16, eX6_playsOf_17, eX6_playsOf_18, eX6_playsOf_21, eX6_playsOf_22, en_kl_0, en_kl_i, en_kl_r, en_kl_n, en_kl_l, en_Ec_some, en_Ec_void, en_rcv, en_stk, List.map_cons, List.map_nil, List.sum_cons, List.sum_nil, Value.category, Nat.reduceAdd, Nat.reduceLeDiff, decide_true, true_and, and_true, and_self, zI_add, zI_sub, zI_mul, zI_neg, zI_lt, zI_le, zI_eq, zI_cl, zI_0, zI_1, zI_m1, zI_lit, zT_0, zT_01, zI_01, zI_11, ↓reduceIte, if_true, if_false, not_false_eq_true, not_true_eq_false, Int.reduceEq, Int.reduceLT, Int.reduceLE, Classical.not_not, Bool.false_eq_true, fi_19, ft_19_0, ft_19_1, ft_19_2, ft_19_3, ft_19_5, ft_19_6, ft_19_7, ft_19_8, ft_19_12, ft_19_13, ft_19_14, ft_19_15, ft_19_16, ft_19_21, xi_20, xi_21, xi_22, xi_23, xi_24, xi_25, xi_26, xi_27, xi_28, xi_29, xi_30, xi_31, xi_32, xi_33, Int.toNat_natCast, Int.reduceToNat, e, Int.toNat_zero, p1]
    exact hQ
  · rw [if_neg c] at hQ
    simp (disch := omega) only [eX6_playsOf_0, eX6_playsOf_1, eX6_playsOf_2, eX6_playsOf_3, eX6_playsOf_6, eX6_playsOf_7, eX6_playsOf_8, eX6_playsOf_9, eX6_playsOf_12, eX6_playsOf_13, eX6_playsOf_16, eX6_playsOf_17, eX6_playsOf_18, eX6_playsOf_21, eX6_playsOf_22, en_kl_0, en_kl_i, en_kl_r, en_kl_n, en_kl_l, en_Ec_some, en_Ec_void, en_rcv, en_stk, List.map_cons, List.map_nil, List.sum_cons, List.sum_nil, Value.category, Nat.reduceAdd, Nat.reduceLeDiff, decide_true, true_and, and_true, and_self, zI_add, zI_sub, zI_mul, zI_neg, zI_lt, zI_le, zI_eq, zI_cl, zI_0, zI_1, zI_m1, zI_lit, zT_0, zT_01, zI_01, zI_11, ↓reduceIte, if_true, if_false, not_false_eq_true, not_true_eq_false, Int.reduceEq, Int.reduceLT, Int.reduceLE, Classical.not_not, Bool.false_eq_true, fi_19, ft_19_0, ft_19_1, ft_19_2, ft_19_3, ft_19_5, ft_19_6, ft_19_7, ft_19_8, ft_19_12, ft_19_13, ft_19_14, ft_19_15, ft_19_16, ft_19_21, xi_20, xi_21, xi_22, xi_23, xi_24, xi_25, xi_26, xi_27, xi_28, xi_29, xi_30, xi_31, xi_32, xi_33, Int.toNat_natCast, Int.reduceToNat, e, c]
    exact hQ
theorem r_plays (hG : bG w G s) (hP : bP w kick law life pat) (h1 : -2147483648 ≤ a) (h2 : a < 2147483648) : SX6_plays [.ref 19, .int (zI a)] w = some (some (.int (zI (if 0 ≤ a ∧ a < 10 then ml G s kick a.toNat else -2))), w) := by
  refine en_val rfl (fun Q hQ => ?_)
  show en_Ev XX6_plays 0 [some (.ref 19), some (.int (zI a))] [] w Q
  by_cases c : 0 ≤ a ∧ a < 10
  · rw [if_pos c] at hQ
    obtain ⟨r, rfl⟩ : ∃ r : Nat, a = r := ⟨a.toNat, by omega⟩
    rw [Int.toNat_natCast] at hQ
    simp (disch := omega) only [eX6_plays_0, eX6_plays_1, eX6_plays_4, eX6_plays_7, eX6_plays_8, eX6_plays_9, eX6_plays_12, eX6_plays_15, eX6_plays_17, en_kl_0, en_kl_i, en_kl_r, en_kl_n, en_kl_l, en_Ec_some, en_Ec_void, en_rcv, en_stk, List.map_cons, List.map_nil, List.sum_cons, List.sum_nil, Value.category, Nat.reduceAdd, Nat.reduceLeDiff, decide_true, true_and, and_true, and_self, zI_add, zI_sub, zI_mul, zI_neg, zI_lt, zI_le, zI_eq, zI_cl, zI_0, zI_1, zI_m1, zI_lit, zT_0, zT_01, zI_01, zI_11, ↓reduceIte, if_true, if_false, not_false_eq_true, not_true_eq_false, Int.reduceEq, Int.reduceLT, Int.reduceLE, Classical.not_not, Bool.false_eq_true, fi_19, ft_19_0, ft_19_1, ft_19_2, ft_19_3, ft_19_5, ft_19_6, ft_19_7, ft_19_8, ft_19_12, ft_19_13, ft_19_14, ft_19_15, ft_19_16, ft_19_21, xi_20, xi_21, xi_22, xi_23, xi_24, xi_25, xi_26, xi_27, xi_28, xi_29, xi_30, xi_31, xi_32, xi_33, Int.toNat_natCast, Int.reduceToNat, r_isRecord, zT_t (show 0 ≤ (r : Int) ∧ (r : Int) ≤ 9 by omega), r_playsOf hG hP (show r < 10 by omega)]
    exact hQ
  · rw [if_neg c] at hQ
    simp (disch := omega) only [eX6_plays_0, eX6_plays_1, eX6_plays_4, eX6_plays_7, eX6_plays_8, eX6_plays_9, eX6_plays_12, eX6_plays_15, eX6_plays_17, en_kl_0, en_kl_i, en_kl_r, en_kl_n, en_kl_l, en_Ec_some, en_Ec_void, en_rcv, en_stk, List.map_cons, List.map_nil, List.sum_cons, List.sum_nil, Value.category, Nat.reduceAdd, Nat.reduceLeDiff, decide_true, true_and, and_true, and_self, zI_add, zI_sub, zI_mul, zI_neg, zI_lt, zI_le, zI_eq, zI_cl, zI_0, zI_1, zI_m1, zI_lit, zT_0, zT_01, zI_01, zI_11, ↓reduceIte, if_true, if_false, not_false_eq_true, not_true_eq_false, Int.reduceEq, Int.reduceLT, Int.reduceLE, Classical.not_not, Bool.false_eq_true, fi_19, ft_19_0, ft_19_1, ft_19_2, ft_19_3, ft_19_5, ft_19_6, ft_19_7, ft_19_8, ft_19_12, ft_19_13, ft_19_14, ft_19_15, ft_19_16, ft_19_21, xi_20, xi_21, xi_22, xi_23, xi_24, xi_25, xi_26, xi_27, xi_28, xi_29, xi_30, xi_31, xi_32, xi_33, Int.toNat_natCast, Int.reduceToNat, r_isRecord, zT_f (show ¬ (0 ≤ a ∧ a ≤ 9) by omega)]
    exact hQ
theorem r_loopsOf (hG : bG w G s) (hr : r < 10) : SX6_loopsOf [.ref 19, .int (zI r)] w = some (some (.int (zI (mloop G s r))), w) := by
  have e := r_goes (p := 0) hG hr (by decide)
  rw [show nI 0 = zI 0 from by decide] at e
  have hrg : -1 ≤ gN (G r) (s r) 0 9 0 ∧ gN (G r) (s r) 0 9 0 ≤ 60 := by
    have := mn_rng (G := G r) (s := s r) (kick := 1) (by omega) (by omega) 9 0 (by omega)
    rw [gN_mn] at this
    split at this <;> omega
  refine en_val rfl (fun Q hQ => ?_)
  show en_Ev XX6_loopsOf 0 [some (.ref 19), some (.int (zI r))] [] w Q
  unfold mloop at hQ
  by_cases c : mp (G r) (s r) 0 9 ≠ -1
  · rw [if_pos c] at hQ
    rw [gN_9.mpr c] at e
    simp (disch := omega) only [eX6_loopsOf_0, eX6_loopsOf_1, eX6_loopsOf_2, eX6_loopsOf_3, eX6_loopsOf_6, eX6_loopsOf_7, eX6_loopsOf_10, eX6_loopsOf_11, eX6_loopsOf_14, eX6_loopsOf_15, en_kl_0, en_kl_i, en_kl_r, en_kl_n, en_kl_l, en_Ec_some, en_Ec_void, en_rcv, en_stk, List.map_cons, List.map_nil, List.sum_cons, List.sum_nil, Value.category, Nat.reduceAdd, Nat.reduceLeDiff, decide_true, true_and, and_true, and_self, zI_add, zI_sub, zI_mul, zI_neg, zI_lt, zI_le, zI_eq, zI_cl, zI_0, zI_1, zI_m1, zI_lit, zT_0, zT_01, zI_01, zI_11, ↓reduceIte, if_true, if_false, not_false_eq_true, not_true_eq_false, Int.reduceEq, Int.reduceLT, Int.reduceLE, Classical.not_not, Bool.false_eq_true, fi_19, ft_19_0, ft_19_1, ft_19_2, ft_19_3, ft_19_5, ft_19_6, ft_19_7, ft_19_8, ft_19_12, ft_19_13, ft_19_14, ft_19_15, ft_19_16, ft_19_21, xi_20, xi_21, xi_22, xi_23, xi_24, xi_25, xi_26, xi_27, xi_28, xi_29, xi_30, xi_31, xi_32, xi_33, Int.toNat_natCast, Int.reduceToNat, e]
    exact hQ
  · rw [if_neg c] at hQ
    have c' : ¬ gN (G r) (s r) 0 9 0 = -1 := fun z => c (gN_9.mp z)
    simp (disch := omega) only [eX6_loopsOf_0, eX6_loopsOf_1, eX6_loopsOf_2, eX6_loopsOf_3, eX6_loopsOf_6, eX6_loopsOf_7, eX6_loopsOf_10, eX6_loopsOf_11, eX6_loopsOf_14, eX6_loopsOf_15, en_kl_0, en_kl_i, en_kl_r, en_kl_n, en_kl_l, en_Ec_some, en_Ec_void, en_rcv, en_stk, List.map_cons, List.map_nil, List.sum_cons, List.sum_nil, Value.category, Nat.reduceAdd, Nat.reduceLeDiff, decide_true, true_and, and_true, and_self, zI_add, zI_sub, zI_mul, zI_neg, zI_lt, zI_le, zI_eq, zI_cl, zI_0, zI_1, zI_m1, zI_lit, zT_0, zT_01, zI_01, zI_11, ↓reduceIte, if_true, if_false, not_false_eq_true, not_true_eq_false, Int.reduceEq, Int.reduceLT, Int.reduceLE, Classical.not_not, Bool.false_eq_true, fi_19, ft_19_0, ft_19_1, ft_19_2, ft_19_3, ft_19_5, ft_19_6, ft_19_7, ft_19_8, ft_19_12, ft_19_13, ft_19_14, ft_19_15, ft_19_16, ft_19_21, xi_20, xi_21, xi_22, xi_23, xi_24, xi_25, xi_26, xi_27, xi_28, xi_29, xi_30, xi_31, xi_32, xi_33, Int.toNat_natCast, Int.reduceToNat, e, c']
    exact hQ
theorem r_loops (hG : bG w G s) (h1 : -2147483648 ≤ a) (h2 : a < 2147483648) : SX6_loops [.ref 19, .int (zI a)] w = some (some (.int (zI (if 0 ≤ a ∧ a < 10 then mloop G s a.toNat else -2))), w) := by
  refine en_val rfl (fun Q hQ => ?_)
  show en_Ev XX6_loops 0 [some (.ref 19), some (.int (zI a))] [] w Q
  by_cases c : 0 ≤ a ∧ a < 10
  · rw [if_pos c] at hQ
    obtain ⟨r, rfl⟩ : ∃ r : Nat, a = r := ⟨a.toNat, by omega⟩
    rw [Int.toNat_natCast] at hQ
    simp (disch := omega) only [eX6_loops_0, eX6_loops_1, eX6_loops_4, eX6_loops_7, eX6_loops_8, eX6_loops_9, eX6_loops_12, eX6_loops_15, eX6_loops_17, en_kl_0, en_kl_i, en_kl_r, en_kl_n, en_kl_l, en_Ec_some, en_Ec_void, en_rcv, en_stk, List.map_cons, List.map_nil, List.sum_cons, List.sum_nil, Value.category, Nat.reduceAdd, Nat.reduceLeDiff, decide_true, true_and, and_true, and_self, zI_add, zI_sub, zI_mul, zI_neg, zI_lt, zI_le, zI_eq, zI_cl, zI_0, zI_1, zI_m1, zI_lit, zT_0, zT_01, zI_01, zI_11, ↓reduceIte, if_true, if_false, not_false_eq_true, not_true_eq_false, Int.reduceEq, Int.reduceLT, Int.reduceLE, Classical.not_not, Bool.false_eq_true, fi_19, ft_19_0, ft_19_1, ft_19_2, ft_19_3, ft_19_5, ft_19_6, ft_19_7, ft_19_8, ft_19_12, ft_19_13, ft_19_14, ft_19_15, ft_19_16, ft_19_21, xi_20, xi_21, xi_22, xi_23, xi_24, xi_25, xi_26, xi_27, xi_28, xi_29, xi_30, xi_31, xi_32, xi_33, Int.toNat_natCast, Int.reduceToNat, r_isRecord, zT_t (show 0 ≤ (r : Int) ∧ (r : Int) ≤ 9 by omega), r_loopsOf hG (show r < 10 by omega)]
    exact hQ
  · rw [if_neg c] at hQ
    simp (disch := omega) only [eX6_loops_0, eX6_loops_1, eX6_loops_4, eX6_loops_7, eX6_loops_8, eX6_loops_9, eX6_loops_12, eX6_loops_15, eX6_loops_17, en_kl_0, en_kl_i, en_kl_r, en_kl_n, en_kl_l, en_Ec_some, en_Ec_void, en_rcv, en_stk, List.map_cons, List.map_nil, List.sum_cons, List.sum_nil, Value.category, Nat.reduceAdd, Nat.reduceLeDiff, decide_true, true_and, and_true, and_self, zI_add, zI_sub, zI_mul, zI_neg, zI_lt, zI_le, zI_eq, zI_cl, zI_0, zI_1, zI_m1, zI_lit, zT_0, zT_01, zI_01, zI_11, ↓reduceIte, if_true, if_false, not_false_eq_true, not_true_eq_false, Int.reduceEq, Int.reduceLT, Int.reduceLE, Classical.not_not, Bool.false_eq_true, fi_19, ft_19_0, ft_19_1, ft_19_2, ft_19_3, ft_19_5, ft_19_6, ft_19_7, ft_19_8, ft_19_12, ft_19_13, ft_19_14, ft_19_15, ft_19_16, ft_19_21, xi_20, xi_21, xi_22, xi_23, xi_24, xi_25, xi_26, xi_27, xi_28, xi_29, xi_30, xi_31, xi_32, xi_33, Int.toNat_natCast, Int.reduceToNat, r_isRecord, zT_f (show ¬ (0 ≤ a ∧ a ≤ 9) by omega)]
    exact hQ
theorem mp_within (hG : bG w G s) (hr : r < 10) {n : Nat} (h : ¬ ml G s kick r ≤ (n : Int)) : ∀ j, j ≤ n → mp (G r) (s r) 0 j ≠ -1 := by
  unfold ml at h
  rw [gN_mn] at h
  by_cases c : gN (G r) (s r) 0 9 0 = -1
  · have h9 := gN_9.mp c
    intro j hj c2
    by_cases e : j ≤ 9
    · have := mp_m1 c2 (9 - j)
      rw [show j + (9 - j) = 9 by omega] at this
      exact h9 this
    · -- it has come to one groove again
      have hall : ∀ i, i ≤ 9 → mp (G r) (s r) 0 i ≠ -1 := fun i hi c3 => by
        have := mp_m1 c3 (9 - i)
        rw [show i + (9 - i) = 9 by omega] at this
        exact h9 this
      have hb := bG_mp (p := 0) hG hr
      have : ∃ a b : Nat, a < b ∧ b ≤ 9 ∧ mp (G r) (s r) 0 a = mp (G r) (s r) 0 b := by
        by_cases q : ∃ a b : Nat, a < b ∧ b ≤ 9 ∧ mp (G r) (s r) 0 a = mp (G r) (s r) 0 b
        · exact q
        · exfalso
          -- ten different ones below nine
          have key : ∀ m : Nat, m ≤ 10 → ∃ had : Nat, had < 512 ∧ pcn 9 had = m ∧ ∀ i, i < 9 → (had.testBit i = true → ∃ j, j < m ∧ mp (G r) (s r) 0 j = (i : Int)) := by
            intro m
            induction m with
            | zero => intro _; exact ⟨0, by decide, by decide, fun i hi z => by simp at z⟩
            | succ m ihm =>
              intro hm
              obtain ⟨had, h2, h3, h6⟩ := ihm (by omega)
              obtain ⟨g, hg⟩ : ∃ g : Nat, mp (G r) (s r) 0 m = g := ⟨(mp (G r) (s r) 0 m).toNat, by have := hb m; have := hall m (by omega); omega⟩
              have hg9 : g < 9 := by have := hb m; omega
              have c' : had.testBit g = false := by
                cases hc : had.testBit g with
                | false => rfl
                | true =>
                  obtain ⟨j, k1, k2⟩ := h6 g hg9 hc
                  exact absurd ⟨j, m, k1, by omega, k2.trans hg.symm⟩ q
              obtain ⟨a1, a2, -⟩ := had_ok had h2 g hg9 c'
              refine ⟨had + 2 ^ g, a2, by omega, fun i hi z => ?_⟩
              rw [had_bit had h2 g hg9 c' i hi, Bool.or_eq_true, decide_eq_true_eq] at z
              rcases z with z | z
              · obtain ⟨j, k1, k2⟩ := h6 i hi z
                exact ⟨j, by omega, k2⟩
              · exact ⟨m, by omega, z ▸ hg⟩
          obtain ⟨had, -, h3, -⟩ := key 10 (Nat.le_refl _)
          have := pcn_le 9 had
          omega
      obtain ⟨a, b, k1, k2, k3⟩ := this
      exact mp_cyc k1 k3 (fun i hi => hall i (by omega)) j c2
  · rw [if_neg c] at h
    intro j hj c2
    -- the first -1 is at gN
    have hd : ∀ f i : Nat, gN (G r) (s r) 0 f i ≠ -1 → ∀ j : Nat, i < j → mp (G r) (s r) 0 j = -1 → gN (G r) (s r) 0 f i ≤ j := by
      intro f
      induction f with
      | zero => intro i hz; exact absurd rfl hz
      | succ f ihf =>
        intro i hz j hj hm
        unfold gN at hz ⊢
        by_cases c3 : mp (G r) (s r) 0 (i + 1) = -1
        · rw [if_pos c3]; omega
        · rw [if_neg c3] at hz ⊢
          refine ihf (i + 1) hz j ?_ hm
          by_cases e : j = i + 1
          · rw [e] at hm; exact absurd hm c3
          · omega
    have hj0 : 0 < j := by
      rcases Nat.eq_zero_or_pos j with z | z
      · rw [z] at c2; unfold mp at c2; omega
      · exact z
    have := hd 9 0 c j hj0 c2
    omega
theorem r_grooveOf {n : Nat} (hG : bG w G s) (hP : bP w kick law life pat) (hr : r < 10) (hn : n < 1000) : SX6_grooveOf [.ref 19, .int (zI r), .int (zI n)] w = some (some (.int (zI (if ml G s kick r ≤ (n : Int) then -1 else mp (G r) (s r) 0 n))), w) := by
  have e := r_playsOf hG hP hr
  have hml : 1 ≤ ml G s kick r ∧ ml G s kick r ≤ 60 := mn_rng hP.1.2.1 hP.1.2.2 9 0 (by omega)
  refine en_val rfl (fun Q hQ => ?_)
  show en_Ev XX6_grooveOf 0 [some (.ref 19), some (.int (zI r)), some (.int (zI n)), none, none] [] w Q
  by_cases c : ml G s kick r ≤ (n : Int)
  · rw [if_pos c] at hQ
    have c' : ¬ (n : Int) < ml G s kick r := by omega
    simp (disch := omega) only [eX6_grooveOf_0, eX6_grooveOf_1, eX6_grooveOf_2, eX6_grooveOf_3, eX6_grooveOf_6, eX6_grooveOf_9, eX6_grooveOf_10, eX6_grooveOf_11, eX6_grooveOf_12, eX6_grooveOf_13, eX6_grooveOf_14, eX6_grooveOf_18, eX6_grooveOf_19, eX6_grooveOf_22, eX6_grooveOf_23, eX6_grooveOf_24, eX6_grooveOf_25, eX6_grooveOf_26, eX6_grooveOf_29, eX6_grooveOf_30, eX6_grooveOf_33, eX6_grooveOf_36, eX6_grooveOf_37, en_kl_0, en_kl_i, en_kl_r, en_kl_n, en_kl_l, en_Ec_some, en_Ec_void, en_rcv, en_stk, List.map_cons, List.map_nil, List.sum_cons, List.sum_nil, Value.category, Nat.reduceAdd, Nat.reduceLeDiff, decide_true, true_and, and_true, and_self, zI_add, zI_sub, zI_mul, zI_neg, zI_lt, zI_le, zI_eq, zI_cl, zI_0, zI_1, zI_m1, zI_lit, zT_0, zT_01, zI_01, zI_11, ↓reduceIte, if_true, if_false, not_false_eq_true, not_true_eq_false, Int.reduceEq, Int.reduceLT, Int.reduceLE, Classical.not_not, Bool.false_eq_true, fi_19, ft_19_0, ft_19_1, ft_19_2, ft_19_3, ft_19_5, ft_19_6, ft_19_7, ft_19_8, ft_19_12, ft_19_13, ft_19_14, ft_19_15, ft_19_16, ft_19_21, xi_20, xi_21, xi_22, xi_23, xi_24, xi_25, xi_26, xi_27, xi_28, xi_29, xi_30, xi_31, xi_32, xi_33, Int.toNat_natCast, Int.reduceToNat, e, c']
    exact hQ
  · rw [if_neg c] at hQ
    have c' : (n : Int) < ml G s kick r := by omega
    have hw := mp_within hG hr c
    have hb := bG_mp (p := 0) hG hr
    have loop : ∀ d i : Nat, i + d = n → en_Ev XX6_grooveOf 16 [some (.ref 19), some (.int (zI r)), some (.int (zI n)), some (.int (zI (mp (G r) (s r) 0 i))), some (.int (zI i))] [] w Q := by
      intro d
      induction d with
      | zero =>
        intro i hi
        have c1 : (n : Int) ≤ (i : Int) := by omega
        have ei : i = n := by omega
        rw [eX6_grooveOf_16]
        simp (disch := omega) only [eX6_grooveOf_0, eX6_grooveOf_1, eX6_grooveOf_2, eX6_grooveOf_3, eX6_grooveOf_6, eX6_grooveOf_9, eX6_grooveOf_10, eX6_grooveOf_11, eX6_grooveOf_12, eX6_grooveOf_13, eX6_grooveOf_14, eX6_grooveOf_18, eX6_grooveOf_19, eX6_grooveOf_22, eX6_grooveOf_23, eX6_grooveOf_24, eX6_grooveOf_25, eX6_grooveOf_26, eX6_grooveOf_29, eX6_grooveOf_30, eX6_grooveOf_33, eX6_grooveOf_36, eX6_grooveOf_37, en_kl_0, en_kl_i, en_kl_r, en_kl_n, en_kl_l, en_Ec_some, en_Ec_void, en_rcv, en_stk, List.map_cons, List.map_nil, List.sum_cons, List.sum_nil, Value.category, Nat.reduceAdd, Nat.reduceLeDiff, decide_true, true_and, and_true, and_self, zI_add, zI_sub, zI_mul, zI_neg, zI_lt, zI_le, zI_eq, zI_cl, zI_0, zI_1, zI_m1, zI_lit, zT_0, zT_01, zI_01, zI_11, ↓reduceIte, if_true, if_false, not_false_eq_true, not_true_eq_false, Int.reduceEq, Int.reduceLT, Int.reduceLE, Classical.not_not, Bool.false_eq_true, c1]
        rw [ei]
        exact hQ
      | succ d ih =>
        intro i hi
        have c1 : ¬ (n : Int) ≤ (i : Int) := by omega
        obtain ⟨g, hg⟩ : ∃ g : Nat, mp (G r) (s r) 0 i = g := ⟨(mp (G r) (s r) 0 i).toNat, by have := hb i; have := hw i (by omega); omega⟩
        have hg9 : g < 9 := by have := hb i; omega
        have hon := r_onFrom (p := 0) hG hr hg9 (by decide)
        rw [show nI 0 = zI 0 from by decide] at hon
        have hnx : mp (G r) (s r) 0 (i + 1) = if G r ≤ rx (s r) 0 g then -1 else rx (s r) 0 g := by
          show mx _ _ _ (mp (G r) (s r) 0 i) = _
          rw [hg]
          exact mx_rx hg9
        have c2 : ¬ G r ≤ rx (s r) 0 g := fun z => by
          rw [if_pos z] at hnx
          exact hw (i + 1) (by omega) hnx
        rw [if_neg c2] at hnx
        have := ih (i + 1) (by omega)
        rw [hnx] at this
        rw [hg, eX6_grooveOf_16]
        simp (disch := omega) only [eX6_grooveOf_0, eX6_grooveOf_1, eX6_grooveOf_2, eX6_grooveOf_3, eX6_grooveOf_6, eX6_grooveOf_9, eX6_grooveOf_10, eX6_grooveOf_11, eX6_grooveOf_12, eX6_grooveOf_13, eX6_grooveOf_14, eX6_grooveOf_18, eX6_grooveOf_19, eX6_grooveOf_22, eX6_grooveOf_23, eX6_grooveOf_24, eX6_grooveOf_25, eX6_grooveOf_26, eX6_grooveOf_29, eX6_grooveOf_30, eX6_grooveOf_33, eX6_grooveOf_36, eX6_grooveOf_37, en_kl_0, en_kl_i, en_kl_r, en_kl_n, en_kl_l, en_Ec_some, en_Ec_void, en_rcv, en_stk, List.map_cons, List.map_nil, List.sum_cons, List.sum_nil, Value.category, Nat.reduceAdd, Nat.reduceLeDiff, decide_true, true_and, and_true, and_self, zI_add, zI_sub, zI_mul, zI_neg, zI_lt, zI_le, zI_eq, zI_cl, zI_0, zI_1, zI_m1, zI_lit, zT_0, zT_01, zI_01, zI_11, ↓reduceIte, if_true, if_false, not_false_eq_true, not_true_eq_false, Int.reduceEq, Int.reduceLT, Int.reduceLE, Classical.not_not, Bool.false_eq_true, fi_19, ft_19_0, ft_19_1, ft_19_2, ft_19_3, ft_19_5, ft_19_6, ft_19_7, ft_19_8, ft_19_12, ft_19_13, ft_19_14, ft_19_15, ft_19_16, ft_19_21, xi_20, xi_21, xi_22, xi_23, xi_24, xi_25, xi_26, xi_27, xi_28, xi_29, xi_30, xi_31, xi_32, xi_33, Int.toNat_natCast, Int.reduceToNat, c1, hon]
        exact this
    simp (disch := omega) only [eX6_grooveOf_0, eX6_grooveOf_1, eX6_grooveOf_2, eX6_grooveOf_3, eX6_grooveOf_6, eX6_grooveOf_9, eX6_grooveOf_10, eX6_grooveOf_11, eX6_grooveOf_12, eX6_grooveOf_13, eX6_grooveOf_14, eX6_grooveOf_18, eX6_grooveOf_19, eX6_grooveOf_22, eX6_grooveOf_23, eX6_grooveOf_24, eX6_grooveOf_25, eX6_grooveOf_26, eX6_grooveOf_29, eX6_grooveOf_30, eX6_grooveOf_33, eX6_grooveOf_36, eX6_grooveOf_37, en_kl_0, en_kl_i, en_kl_r, en_kl_n, en_kl_l, en_Ec_some, en_Ec_void, en_rcv, en_stk, List.map_cons, List.map_nil, List.sum_cons, List.sum_nil, Value.category, Nat.reduceAdd, Nat.reduceLeDiff, decide_true, true_and, and_true, and_self, zI_add, zI_sub, zI_mul, zI_neg, zI_lt, zI_le, zI_eq, zI_cl, zI_0, zI_1, zI_m1, zI_lit, zT_0, zT_01, zI_01, zI_11, ↓reduceIte, if_true, if_false, not_false_eq_true, not_true_eq_false, Int.reduceEq, Int.reduceLT, Int.reduceLE, Classical.not_not, Bool.false_eq_true, fi_19, ft_19_0, ft_19_1, ft_19_2, ft_19_3, ft_19_5, ft_19_6, ft_19_7, ft_19_8, ft_19_12, ft_19_13, ft_19_14, ft_19_15, ft_19_16, ft_19_21, xi_20, xi_21, xi_22, xi_23, xi_24, xi_25, xi_26, xi_27, xi_28, xi_29, xi_30, xi_31, xi_32, xi_33, Int.toNat_natCast, Int.reduceToNat, e, c']
    exact loop n 0 (by omega)
theorem r_groove (hG : bG w G s) (hP : bP w kick law life pat) (h1 : -2147483648 ≤ a) (h2 : a < 2147483648) (h3 : -2147483648 ≤ m) (h4 : m < 2147483648) : SX6_groove [.ref 19, .int (zI a), .int (zI m)] w = some (some (.int (zI (if (0 ≤ a ∧ a < 10) ∧ (0 ≤ m ∧ m ≤ 59) then mg G s kick a m else -2))), w) := by
  refine en_val rfl (fun Q hQ => ?_)
  show en_Ev XX6_groove 0 [some (.ref 19), some (.int (zI a)), some (.int (zI m))] [] w Q
  by_cases c : 0 ≤ a ∧ a ≤ 9
  · by_cases c2 : 0 ≤ m ∧ m ≤ 59
    · rw [if_pos ⟨by omega, c2⟩] at hQ
      unfold mg at hQ
      obtain ⟨r, rfl⟩ : ∃ r : Nat, a = r := ⟨a.toNat, by omega⟩
      obtain ⟨n, rfl⟩ : ∃ n : Nat, m = n := ⟨m.toNat, by omega⟩
      rw [Int.toNat_natCast, Int.toNat_natCast] at hQ
      simp (disch := omega) only [eX6_groove_0, eX6_groove_1, eX6_groove_4, eX6_groove_7, eX6_groove_8, eX6_groove_9, eX6_groove_10, eX6_groove_13, eX6_groove_16, eX6_groove_19, eX6_groove_20, eX6_groove_21, eX6_groove_22, eX6_groove_25, eX6_groove_28, eX6_groove_30, en_kl_0, en_kl_i, en_kl_r, en_kl_n, en_kl_l, en_Ec_some, en_Ec_void, en_rcv, en_stk, List.map_cons, List.map_nil, List.sum_cons, List.sum_nil, Value.category, Nat.reduceAdd, Nat.reduceLeDiff, decide_true, true_and, and_true, and_self, zI_add, zI_sub, zI_mul, zI_neg, zI_lt, zI_le, zI_eq, zI_cl, zI_0, zI_1, zI_m1, zI_lit, zT_0, zT_01, zI_01, zI_11, ↓reduceIte, if_true, if_false, not_false_eq_true, not_true_eq_false, Int.reduceEq, Int.reduceLT, Int.reduceLE, Classical.not_not, Bool.false_eq_true, lI_of, lI_0, lI_1, lI_m1, lI_lit, lI_neg, lI_add, lI_sub, lI_mul, lc_lt, lc_gt, lc_le, lc_ge, fi_19, ft_19_0, ft_19_1, ft_19_2, ft_19_3, ft_19_5, ft_19_6, ft_19_7, ft_19_8, ft_19_12, ft_19_13, ft_19_14, ft_19_15, ft_19_16, ft_19_21, xi_20, xi_21, xi_22, xi_23, xi_24, xi_25, xi_26, xi_27, xi_28, xi_29, xi_30, xi_31, xi_32, xi_33, Int.toNat_natCast, Int.reduceToNat, r_isRecord, r_in, zT_t c, zT_t c2, r_grooveOf hG hP (show r < 10 by omega) (show n < 1000 by omega)]
      exact hQ
    · rw [if_neg (fun z => c2 z.2)] at hQ
      simp (disch := omega) only [eX6_groove_0, eX6_groove_1, eX6_groove_4, eX6_groove_7, eX6_groove_8, eX6_groove_9, eX6_groove_10, eX6_groove_13, eX6_groove_16, eX6_groove_19, eX6_groove_20, eX6_groove_21, eX6_groove_22, eX6_groove_25, eX6_groove_28, eX6_groove_30, en_kl_0, en_kl_i, en_kl_r, en_kl_n, en_kl_l, en_Ec_some, en_Ec_void, en_rcv, en_stk, List.map_cons, List.map_nil, List.sum_cons, List.sum_nil, Value.category, Nat.reduceAdd, Nat.reduceLeDiff, decide_true, true_and, and_true, and_self, zI_add, zI_sub, zI_mul, zI_neg, zI_lt, zI_le, zI_eq, zI_cl, zI_0, zI_1, zI_m1, zI_lit, zT_0, zT_01, zI_01, zI_11, ↓reduceIte, if_true, if_false, not_false_eq_true, not_true_eq_false, Int.reduceEq, Int.reduceLT, Int.reduceLE, Classical.not_not, Bool.false_eq_true, lI_of, lI_0, lI_1, lI_m1, lI_lit, lI_neg, lI_add, lI_sub, lI_mul, lc_lt, lc_gt, lc_le, lc_ge, fi_19, ft_19_0, ft_19_1, ft_19_2, ft_19_3, ft_19_5, ft_19_6, ft_19_7, ft_19_8, ft_19_12, ft_19_13, ft_19_14, ft_19_15, ft_19_16, ft_19_21, xi_20, xi_21, xi_22, xi_23, xi_24, xi_25, xi_26, xi_27, xi_28, xi_29, xi_30, xi_31, xi_32, xi_33, Int.toNat_natCast, Int.reduceToNat, r_isRecord, r_in, zT_t c, zT_f c2]
      exact hQ
  · rw [if_neg (by omega)] at hQ
    simp (disch := omega) only [eX6_groove_0, eX6_groove_1, eX6_groove_4, eX6_groove_7, eX6_groove_8, eX6_groove_9, eX6_groove_10, eX6_groove_13, eX6_groove_16, eX6_groove_19, eX6_groove_20, eX6_groove_21, eX6_groove_22, eX6_groove_25, eX6_groove_28, eX6_groove_30, en_kl_0, en_kl_i, en_kl_r, en_kl_n, en_kl_l, en_Ec_some, en_Ec_void, en_rcv, en_stk, List.map_cons, List.map_nil, List.sum_cons, List.sum_nil, Value.category, Nat.reduceAdd, Nat.reduceLeDiff, decide_true, true_and, and_true, and_self, zI_add, zI_sub, zI_mul, zI_neg, zI_lt, zI_le, zI_eq, zI_cl, zI_0, zI_1, zI_m1, zI_lit, zT_0, zT_01, zI_01, zI_11, ↓reduceIte, if_true, if_false, not_false_eq_true, not_true_eq_false, Int.reduceEq, Int.reduceLT, Int.reduceLE, Classical.not_not, Bool.false_eq_true, lI_of, lI_0, lI_1, lI_m1, lI_lit, lI_neg, lI_add, lI_sub, lI_mul, lc_lt, lc_gt, lc_le, lc_ge, fi_19, ft_19_0, ft_19_1, ft_19_2, ft_19_3, ft_19_5, ft_19_6, ft_19_7, ft_19_8, ft_19_12, ft_19_13, ft_19_14, ft_19_15, ft_19_16, ft_19_21, xi_20, xi_21, xi_22, xi_23, xi_24, xi_25, xi_26, xi_27, xi_28, xi_29, xi_30, xi_31, xi_32, xi_33, Int.toNat_natCast, Int.reduceToNat, r_isRecord, r_in, zT_f c]
    exact hQ
end
