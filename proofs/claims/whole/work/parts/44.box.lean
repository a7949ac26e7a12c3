/-! ===== ThirdFavour: asking ===== -/
/-- the minutes and buttons with one, two coins more (-1: none) -/
def xN (cn : Nat) (one two : Int) : Nat := cn + (if one = -1 then 0 else 1) + (if two = -1 then 0 else 1)
def xM (cn : Nat) (cm : Nat → Int) (mi : Int) : Nat → Int := fun i => if cn ≤ i then mi else cm i
def xB (cn : Nat) (cb : Nat → Int) (one two : Int) : Nat → Int := fun i => if i = cn then one else if i = cn + 1 then two else cb i
/-- the first row of d from i on -/
def fsr (p : Nat → Bool) : Nat → Nat → Option Nat
  | 0, _ => none
  | d + 1, i => if p i = true then some i else fsr p d (i + 1)
def oOne (mo row : Nat) : Int := if mo = 0 then -1 else if mo = 1 then row else ((row / 10 : Nat) : Int)
def oTwo (mo row : Nat) : Int := if mo < 2 then -1 else ((row % 10 : Nat) : Int)
def rOf (mo : Nat) (one two : Int) : Int := ((mo : Int) * 11 + one + 1) * 11 + two + 1
/-- with these coins more the record plays in the minute -/
def xP (cn : Nat) (cm cb len : Nat → Int) (law life mi r h one two : Int) : Bool := decide (npi (xN cn one two) len (nnight law (xN cn one two) (xM cn cm mi) (xB cn cb one two) len life) h (xN cn one two) 0 = r)
def aFew (cn : Nat) (cm cb len : Nat → Int) (law life mi r h : Int) : Int :=
  match fsr (fun row => xP cn cm cb len law life mi r h (oOne 0 row) (oTwo 0 row)) 1 0 with
  | some row => rOf 0 (oOne 0 row) (oTwo 0 row)
  | none => if 20 < cn + 1 then -4 else
    match fsr (fun row => xP cn cm cb len law life mi r h (oOne 1 row) (oTwo 1 row)) 10 0 with
    | some row => rOf 1 (oOne 1 row) (oTwo 1 row)
    | none => if 20 < cn + 2 then -4 else
      match fsr (fun row => xP cn cm cb len law life mi r h (oOne 2 row) (oTwo 2 row)) 100 0 with
      | some row => rOf 2 (oOne 2 row) (oTwo 2 row)
      | none => -1
def tRow (row a : Int) : Int := if row < 0 then row else if a = 0 then row / 121 else if a = 1 then row / 11 % 11 - 1 else row % 11 - 1
theorem zI_divI {a d : Int} (h1 : 0 ≤ a) (h2 : a < 2147483648) (h3 : 0 < d) (h4 : d < 2147483648) : zI a / zI d = zI (a / d) := by
  have e1 : a = ((a.toNat : Nat) : Int) := by omega
  have e2 : d = ((d.toNat : Nat) : Int) := by omega
  rw [e1, e2, zI_div (by omega) (by omega) (by omega)]
  congr 1
theorem zI_remI {a d : Int} (h1 : 0 ≤ a) (h2 : a < 2147483648) (h3 : 0 < d) (h4 : d < 2147483648) : zI a - zI (a / d) * zI d = zI (a % d) := by
  have e1 : a = ((a.toNat : Nat) : Int) := by omega
  have e2 : d = ((d.toNat : Nat) : Int) := by omega
  have h := zI_rem (a := a.toNat) (d := d.toNat) (by omega) (by omega) (by omega)
  rw [zI_div (by omega) (by omega) (by omega)] at h
  rw [← e1, ← e2] at h
  have e3 : ((a.toNat / d.toNat : Nat) : Int) = a / d := by
    rw [Int.natCast_ediv, ← e1, ← e2]
  have e4 : ((a.toNat % d.toNat : Nat) : Int) = a % d := by
    rw [Int.natCast_emod, ← e1, ← e2]
  rw [e3, e4] at h
  exact h
section
variable {w : en_W} {G : Nat → Int} {s : Nat → Nat → Int} {n : Nat} {tb : Nat → Int} {kick law life pat : Int} {v r c m a h : Int}
theorem s_rowOf {mo : Nat} {one two : Int} (h1 : mo ≤ 2) (h2 : -1 ≤ one) (h3 : one ≤ 9) (h4 : -1 ≤ two) (h5 : two ≤ 9) : SX5_rowOf [.int (zI mo), .int (zI one), .int (zI two)] w = some (some (.int (zI (rOf mo one two))), w) := by
  refine en_val rfl (fun Q hQ => ?_)
  show en_Ev XX5_rowOf 0 [some (.int (zI mo)), some (.int (zI one)), some (.int (zI two))] [] w Q
  simp (disch := omega) only [eX5_rowOf_0, eX5_rowOf_1, eX5_rowOf_3, eX5_rowOf_4, eX5_rowOf_5, eX5_rowOf_6, eX5_rowOf_7, eX5_rowOf_8, eX5_rowOf_10, eX5_rowOf_11, eX5_rowOf_12, eX5_rowOf_13, eX5_rowOf_14, eX5_rowOf_15, en_kl_0, en_kl_i, en_kl_r, en_kl_n, en_kl_l, en_Ec_some, en_Ec_void, en_rcv, en_stk, List.map_cons, List.map_nil, List.sum_cons, List.sum_nil, Value.category, Nat.reduceAdd, Nat.reduceLeDiff, decide_true, true_and, and_true, and_self, zI_add, zI_sub, zI_mul, zI_neg, zI_lt, zI_le, zI_eq, zI_cl, zI_0, zI_1, zI_m1, zI_lit, zT_0, zT_01, zI_01, zI_11, ↓reduceIte, if_true, if_false, not_false_eq_true, not_true_eq_false, Int.reduceEq, Int.reduceLT, Int.reduceLE, Classical.not_not, Bool.false_eq_true]
  exact hQ
theorem s_tellRow (h1 : -4 ≤ r) (h2 : r < 100000) (h3 : 0 ≤ a) (h4 : a ≤ 2) : SX5_tellRow [.int (zI r), .int (zI a)] w = some (some (.int (zI (tRow r a))), w) := by
  refine en_val rfl (fun Q hQ => ?_)
  show en_Ev XX5_tellRow 0 [some (.int (zI r)), some (.int (zI a))] [] w Q
  unfold tRow at hQ
  by_cases c1 : r < 0
  · have c2 : ¬ 0 ≤ r := by omega
    rw [if_pos c1] at hQ
    simp (disch := omega) only [eX5_tellRow_0, eX5_tellRow_1, eX5_tellRow_4, eX5_tellRow_5, eX5_tellRow_6, eX5_tellRow_7, eX5_tellRow_32, eX5_tellRow_33, eX5_tellRow_35, eX5_tellRow_36, eX5_tellRow_37, eX5_tellRow_38, eX5_tellRow_40, eX5_tellRow_41, eX5_tellRow_43, eX5_tellRow_44, eX5_tellRow_45, eX5_tellRow_46, eX5_tellRow_47, eX5_tellRow_48, eX5_tellRow_50, eX5_tellRow_51, eX5_tellRow_52, eX5_tellRow_53, en_kl_0, en_kl_i, en_kl_r, en_kl_n, en_kl_l, en_Ec_some, en_Ec_void, en_rcv, en_stk, List.map_cons, List.map_nil, List.sum_cons, List.sum_nil, Value.category, Nat.reduceAdd, Nat.reduceLeDiff, decide_true, true_and, and_true, and_self, zI_add, zI_sub, zI_mul, zI_neg, zI_lt, zI_le, zI_eq, zI_cl, zI_0, zI_1, zI_m1, zI_lit, zT_0, zT_01, zI_01, zI_11, ↓reduceIte, if_true, if_false, not_false_eq_true, not_true_eq_false, Int.reduceEq, Int.reduceLT, Int.reduceLE, Classical.not_not, Bool.false_eq_true, c2]
    exact hQ
  · have c2 : 0 ≤ r := by omega
    rw [if_neg c1] at hQ
    by_cases c3 : a = 0
    · rw [if_pos c3] at hQ
      simp (disch := omega) only [eX5_tellRow_0, eX5_tellRow_1, eX5_tellRow_4, eX5_tellRow_5, eX5_tellRow_6, eX5_tellRow_7, eX5_tellRow_32, eX5_tellRow_33, eX5_tellRow_35, eX5_tellRow_36, eX5_tellRow_37, eX5_tellRow_38, eX5_tellRow_40, eX5_tellRow_41, eX5_tellRow_43, eX5_tellRow_44, eX5_tellRow_45, eX5_tellRow_46, eX5_tellRow_47, eX5_tellRow_48, eX5_tellRow_50, eX5_tellRow_51, eX5_tellRow_52, eX5_tellRow_53, en_kl_0, en_kl_i, en_kl_r, en_kl_n, en_kl_l, en_Ec_some, en_Ec_void, en_rcv, en_stk, List.map_cons, List.map_nil, List.sum_cons, List.sum_nil, Value.category, Nat.reduceAdd, Nat.reduceLeDiff, decide_true, true_and, and_true, and_self, zI_add, zI_sub, zI_mul, zI_neg, zI_lt, zI_le, zI_eq, zI_cl, zI_0, zI_1, zI_m1, zI_lit, zT_0, zT_01, zI_01, zI_11, ↓reduceIte, if_true, if_false, not_false_eq_true, not_true_eq_false, Int.reduceEq, Int.reduceLT, Int.reduceLE, Classical.not_not, Bool.false_eq_true, c2, c3, zI_divI]
      exact hQ
    · by_cases c4 : a = 1
      · rw [if_neg c3, if_pos c4] at hQ
        have e := zI_remI (a := r / 11) (d := 11) (by omega) (by omega) (by omega) (by omega)
        simp (disch := omega) only [eX5_tellRow_0, eX5_tellRow_1, eX5_tellRow_6, eX5_tellRow_7, eX5_tellRow_37, eX5_tellRow_38, eX5_tellRow_40, eX5_tellRow_41, eX5_tellRow_43, en_kl_0, en_kl_i, en_kl_r, en_kl_n, en_kl_l, en_Ec_some, en_Ec_void, en_rcv, en_stk, List.map_cons, List.map_nil, List.sum_cons, List.sum_nil, Value.category, Nat.reduceAdd, Nat.reduceLeDiff, decide_true, true_and, and_true, and_self, zI_le, zI_eq, zI_lit, zI_0, zI_1, Int.reduceEq, ↓reduceIte, if_true, if_false, not_false_eq_true, c2, c3, c4, zI_divI, e]
        simp (disch := omega) only [eX5_tellRow_0, eX5_tellRow_1, eX5_tellRow_4, eX5_tellRow_5, eX5_tellRow_6, eX5_tellRow_7, eX5_tellRow_32, eX5_tellRow_33, eX5_tellRow_35, eX5_tellRow_36, eX5_tellRow_37, eX5_tellRow_38, eX5_tellRow_40, eX5_tellRow_41, eX5_tellRow_43, eX5_tellRow_44, eX5_tellRow_45, eX5_tellRow_46, eX5_tellRow_47, eX5_tellRow_48, eX5_tellRow_50, eX5_tellRow_51, eX5_tellRow_52, eX5_tellRow_53, en_kl_0, en_kl_i, en_kl_r, en_kl_n, en_kl_l, en_Ec_some, en_Ec_void, en_rcv, en_stk, List.map_cons, List.map_nil, List.sum_cons, List.sum_nil, Value.category, Nat.reduceAdd, Nat.reduceLeDiff, decide_true, true_and, and_true, and_self, zI_add, zI_sub, zI_mul, zI_neg, zI_lt, zI_le, zI_eq, zI_cl, zI_0, zI_1, zI_m1, zI_lit, zT_0, zT_01, zI_01, zI_11, ↓reduceIte, if_true, if_false, not_false_eq_true, not_true_eq_false, Int.reduceEq, Int.reduceLT, Int.reduceLE, Classical.not_not, Bool.false_eq_true]
        exact hQ
      · rw [if_neg c3, if_neg c4] at hQ
        have e := zI_remI (a := r) (d := 11) (by omega) (by omega) (by omega) (by omega)
        simp (disch := omega) only [eX5_tellRow_0, eX5_tellRow_1, eX5_tellRow_6, eX5_tellRow_7, eX5_tellRow_47, eX5_tellRow_48, eX5_tellRow_50, en_kl_0, en_kl_i, en_kl_r, en_kl_n, en_kl_l, en_Ec_some, en_Ec_void, en_rcv, en_stk, List.map_cons, List.map_nil, List.sum_cons, List.sum_nil, Value.category, Nat.reduceAdd, Nat.reduceLeDiff, decide_true, true_and, and_true, and_self, zI_le, zI_eq, zI_lit, zI_0, zI_1, Int.reduceEq, ↓reduceIte, if_true, if_false, not_false_eq_true, c2, c3, c4, zI_divI, e]
        simp (disch := omega) only [eX5_tellRow_0, eX5_tellRow_1, eX5_tellRow_4, eX5_tellRow_5, eX5_tellRow_6, eX5_tellRow_7, eX5_tellRow_32, eX5_tellRow_33, eX5_tellRow_35, eX5_tellRow_36, eX5_tellRow_37, eX5_tellRow_38, eX5_tellRow_40, eX5_tellRow_41, eX5_tellRow_43, eX5_tellRow_44, eX5_tellRow_45, eX5_tellRow_46, eX5_tellRow_47, eX5_tellRow_48, eX5_tellRow_50, eX5_tellRow_51, eX5_tellRow_52, eX5_tellRow_53, en_kl_0, en_kl_i, en_kl_r, en_kl_n, en_kl_l, en_Ec_some, en_Ec_void, en_rcv, en_stk, List.map_cons, List.map_nil, List.sum_cons, List.sum_nil, Value.category, Nat.reduceAdd, Nat.reduceLeDiff, decide_true, true_and, and_true, and_self, zI_add, zI_sub, zI_mul, zI_neg, zI_lt, zI_le, zI_eq, zI_cl, zI_0, zI_1, zI_m1, zI_lit, zT_0, zT_01, zI_01, zI_11, ↓reduceIte, if_true, if_false, not_false_eq_true, not_true_eq_false, Int.reduceEq, Int.reduceLT, Int.reduceLE, Classical.not_not, Bool.false_eq_true]
        exact hQ
/-- lengths that were measured -/
def aLen (w : en_W) (len : Nat → Int) : Prop := ∀ r, r < 10 → w 9 r = zI (len r) ∧ 1 ≤ len r ∧ len r ≤ 60
theorem s_passNightWith {one two : Int} {len : Nat → Int} (hT : en_slip w n tb) (hP : aP w kick law life pat) (hL : aLen w len) (h1 : 0 ≤ m) (h2 : m ≤ 99) (h3 : -1 ≤ one) (h4 : one ≤ 9) (h5 : -1 ≤ two) (h6 : two ≤ 9) (h7 : one = -1 → two = -1) (h8 : xN (tcn n tb) one two ≤ 20) : ∃ w', SX5_passNightWith [.ref 0, .int (zI m), .int (zI one), .int (zI two)] w = some (none, w') ∧ en_nD w' (xN (tcn n tb) one two) (xM (tcn n tb) (tcm n tb) m) (xB (tcn n tb) (tcb n tb) one two) len (nnight law (xN (tcn n tb) one two) (xM (tcn n tb) (tcm n tb) m) (xB (tcn n tb) (tcb n tb) one two) len life) ∧ en_fr [8, 10, 11, 12, 13, 14, 15, 16] w w' := by
  obtain ⟨-, ⟨p1, p2, p3⟩, ⟨p4, p5, p6⟩, -⟩ := id hP
  refine en_exv rfl ?_
  show en_Ev XX5_passNightWith 0 [some (.ref 0), some (.int (zI m)), some (.int (zI one)), some (.int (zI two))] [] w _
  simp only [eX5_passNightWith_0, eX5_passNightWith_1, eX5_passNightWith_4, en_kl_0, en_kl_i, en_kl_r, en_kl_n, en_kl_l, en_Ec_some, en_Ec_void, en_rcv, en_stk, List.map_cons, List.map_nil, List.sum_cons, List.sum_nil, Value.category, Nat.reduceAdd, Nat.reduceLeDiff, decide_true, true_and, and_true, and_self, fi_0, ft_0_0, ft_0_1, ft_0_2, ft_0_3, ft_0_4, ft_0_5, fi_3, ft_3_0, ft_3_1, fi_5, ft_5_0, ft_5_1, fi_8, ft_8_0, ft_8_1, ft_8_2, ft_8_3, ft_8_4, ft_8_5, fi_14, ft_14_0, ft_14_1, fi_19, ft_19_0, ft_19_1, ft_19_2, ft_19_3, ft_19_5, ft_19_6, ft_19_7, ft_19_8, ft_19_12, ft_19_13, ft_19_14, ft_19_15, ft_19_16, ft_19_21, fx_4, fx_6, fx_7, fx_9, fx_10, fx_11, fx_12, fx_13, fx_15, fx_16, fx_17, fx_18, fx_20, fx_21, fx_22, fx_23, fx_24, fx_25, fx_26, fx_27, fx_28, fx_29, fx_30, fx_31, fx_32, fx_33]
  rw [s_nightCoins]
  simp only [eX5_passNightWith_7, eX5_passNightWith_8, eX5_passNightWith_11, en_kl_0, en_kl_i, en_kl_r, en_kl_n, en_kl_l, en_Ec_some, en_Ec_void, en_rcv, en_stk, List.map_cons, List.map_nil, List.sum_cons, List.sum_nil, Value.category, Nat.reduceAdd, Nat.reduceLeDiff, decide_true, true_and, and_true, and_self, fi_0, ft_0_0, ft_0_1, ft_0_2, ft_0_3, ft_0_4, ft_0_5, fi_3, ft_3_0, ft_3_1, fi_5, ft_5_0, ft_5_1, fi_8, ft_8_0, ft_8_1, ft_8_2, ft_8_3, ft_8_4, ft_8_5, fi_14, ft_14_0, ft_14_1, fi_19, ft_19_0, ft_19_1, ft_19_2, ft_19_3, ft_19_5, ft_19_6, ft_19_7, ft_19_8, ft_19_12, ft_19_13, ft_19_14, ft_19_15, ft_19_16, ft_19_21, fx_4, fx_6, fx_7, fx_9, fx_10, fx_11, fx_12, fx_13, fx_15, fx_16, fx_17, fx_18, fx_20, fx_21, fx_22, fx_23, fx_24, fx_25, fx_26, fx_27, fx_28, fx_29, fx_30, fx_31, fx_32, fx_33]
  rw [s_slipCoins]
  simp only [eX5_passNightWith_14, en_kl_0, en_kl_i, en_kl_r, en_kl_n, en_kl_l, en_Ec_some, en_Ec_void, en_rcv, en_stk, List.map_cons, List.map_nil, List.sum_cons, List.sum_nil, Value.category, Nat.reduceAdd, Nat.reduceLeDiff, decide_true, true_and, and_true, and_self, fi_0, ft_0_0, ft_0_1, ft_0_2, ft_0_3, ft_0_4, ft_0_5, fi_3, ft_3_0, ft_3_1, fi_5, ft_5_0, ft_5_1, fi_8, ft_8_0, ft_8_1, ft_8_2, ft_8_3, ft_8_4, ft_8_5, fi_14, ft_14_0, ft_14_1, fi_19, ft_19_0, ft_19_1, ft_19_2, ft_19_3, ft_19_5, ft_19_6, ft_19_7, ft_19_8, ft_19_12, ft_19_13, ft_19_14, ft_19_15, ft_19_16, ft_19_21, fx_4, fx_6, fx_7, fx_9, fx_10, fx_11, fx_12, fx_13, fx_15, fx_16, fx_17, fx_18, fx_20, fx_21, fx_22, fx_23, fx_24, fx_25, fx_26, fx_27, fx_28, fx_29, fx_30, fx_31, fx_32, fx_33]
  obtain ⟨w2, e2, g2, f2⟩ := s_takeAll (w := w) en_coins_14 en_coins_5 (by decide) hT.2.2
  rw [e2]
  -- from here: the coins as they are, the rest of the frame
  have fin : ∀ (u : en_W), en_cD u 14 (xN (tcn n tb) one two) (xM (tcn n tb) (tcm n tb) m) (xB (tcn n tb) (tcb n tb) one two) → en_fr [14, 15, 16] w u → en_Ev XX5_passNightWith 51 [some (.ref 0), some (.int (zI m)), some (.int (zI one)), some (.int (zI two))] [] u (fun q w' => q = none ∧ en_nD w' (xN (tcn n tb) one two) (xM (tcn n tb) (tcm n tb) m) (xB (tcn n tb) (tcb n tb) one two) len (nnight law (xN (tcn n tb) one two) (xM (tcn n tb) (tcm n tb) m) (xB (tcn n tb) (tcb n tb) one two) len life) ∧ en_fr [8, 10, 11, 12, 13, 14, 15, 16] w w') := by
    intro u k1 k2
    have hk8 : u 0 8 = zI law := by rw [k2 0 (by decide)]; exact p1
    have hk9 : u 0 9 = zI life := by rw [k2 0 (by decide)]; exact p4
    simp only [eX5_passNightWith_51, eX5_passNightWith_52, eX5_passNightWith_55, eX5_passNightWith_56, eX5_passNightWith_59, eX5_passNightWith_60, eX5_passNightWith_63, en_kl_0, en_kl_i, en_kl_r, en_kl_n, en_kl_l, en_Ec_some, en_Ec_void, en_rcv, en_stk, List.map_cons, List.map_nil, List.sum_cons, List.sum_nil, Value.category, Nat.reduceAdd, Nat.reduceLeDiff, decide_true, true_and, and_true, and_self, fi_0, ft_0_0, ft_0_1, ft_0_2, ft_0_3, ft_0_4, ft_0_5, fi_3, ft_3_0, ft_3_1, fi_5, ft_5_0, ft_5_1, fi_8, ft_8_0, ft_8_1, ft_8_2, ft_8_3, ft_8_4, ft_8_5, fi_14, ft_14_0, ft_14_1, fi_19, ft_19_0, ft_19_1, ft_19_2, ft_19_3, ft_19_5, ft_19_6, ft_19_7, ft_19_8, ft_19_12, ft_19_13, ft_19_14, ft_19_15, ft_19_16, ft_19_21, fx_4, fx_6, fx_7, fx_9, fx_10, fx_11, fx_12, fx_13, fx_15, fx_16, fx_17, fx_18, fx_20, fx_21, fx_22, fx_23, fx_24, fx_25, fx_26, fx_27, fx_28, fx_29, fx_30, fx_31, fx_32, fx_33, hk8, hk9]
    obtain ⟨w3, e3, g3, f3⟩ := s_pass (w := u) (len := len) ⟨k1, fun r hr => by rw [k2 9 (by decide)]; exact hL r hr⟩ p2 p3 p5 p6
    rw [e3]
    simp only [eX5_passNightWith_66, en_kl_0, en_kl_i, en_kl_r, en_kl_n, en_kl_l, en_Ec_some, en_Ec_void, en_rcv, en_stk, List.map_cons, List.map_nil, List.sum_cons, List.sum_nil, Value.category, Nat.reduceAdd, Nat.reduceLeDiff, decide_true, true_and, and_true, and_self, fi_0, ft_0_0, ft_0_1, ft_0_2, ft_0_3, ft_0_4, ft_0_5, fi_3, ft_3_0, ft_3_1, fi_5, ft_5_0, ft_5_1, fi_8, ft_8_0, ft_8_1, ft_8_2, ft_8_3, ft_8_4, ft_8_5, fi_14, ft_14_0, ft_14_1, fi_19, ft_19_0, ft_19_1, ft_19_2, ft_19_3, ft_19_5, ft_19_6, ft_19_7, ft_19_8, ft_19_12, ft_19_13, ft_19_14, ft_19_15, ft_19_16, ft_19_21, fx_4, fx_6, fx_7, fx_9, fx_10, fx_11, fx_12, fx_13, fx_15, fx_16, fx_17, fx_18, fx_20, fx_21, fx_22, fx_23, fx_24, fx_25, fx_26, fx_27, fx_28, fx_29, fx_30, fx_31, fx_32, fx_33]
    exact ⟨g3, (k2.mono (by simp)).tr (f3.mono (by simp))⟩
  by_cases c1 : one = -1
  · have c2 := h7 c1
    simp (disch := omega) only [eX5_passNightWith_0, eX5_passNightWith_1, eX5_passNightWith_4, eX5_passNightWith_7, eX5_passNightWith_8, eX5_passNightWith_11, eX5_passNightWith_14, eX5_passNightWith_17, eX5_passNightWith_18, eX5_passNightWith_19, eX5_passNightWith_22, eX5_passNightWith_23, eX5_passNightWith_26, eX5_passNightWith_29, eX5_passNightWith_30, eX5_passNightWith_31, eX5_passNightWith_34, eX5_passNightWith_35, eX5_passNightWith_36, eX5_passNightWith_39, eX5_passNightWith_40, eX5_passNightWith_43, eX5_passNightWith_46, eX5_passNightWith_47, eX5_passNightWith_48, eX5_passNightWith_52, eX5_passNightWith_55, eX5_passNightWith_56, eX5_passNightWith_59, eX5_passNightWith_60, eX5_passNightWith_63, eX5_passNightWith_66, en_kl_0, en_kl_i, en_kl_r, en_kl_n, en_kl_l, en_Ec_some, en_Ec_void, en_rcv, en_stk, List.map_cons, List.map_nil, List.sum_cons, List.sum_nil, Value.category, Nat.reduceAdd, Nat.reduceLeDiff, decide_true, true_and, and_true, and_self, zI_add, zI_sub, zI_mul, zI_neg, zI_lt, zI_le, zI_eq, zI_cl, zI_0, zI_1, zI_m1, zI_lit, zT_0, zT_01, zI_01, zI_11, ↓reduceIte, if_true, if_false, not_false_eq_true, not_true_eq_false, Int.reduceEq, Int.reduceLT, Int.reduceLE, Classical.not_not, Bool.false_eq_true, fi_0, ft_0_0, ft_0_1, ft_0_2, ft_0_3, ft_0_4, ft_0_5, fi_3, ft_3_0, ft_3_1, fi_5, ft_5_0, ft_5_1, fi_8, ft_8_0, ft_8_1, ft_8_2, ft_8_3, ft_8_4, ft_8_5, fi_14, ft_14_0, ft_14_1, fi_19, ft_19_0, ft_19_1, ft_19_2, ft_19_3, ft_19_5, ft_19_6, ft_19_7, ft_19_8, ft_19_12, ft_19_13, ft_19_14, ft_19_15, ft_19_16, ft_19_21, fx_4, fx_6, fx_7, fx_9, fx_10, fx_11, fx_12, fx_13, fx_15, fx_16, fx_17, fx_18, fx_20, fx_21, fx_22, fx_23, fx_24, fx_25, fx_26, fx_27, fx_28, fx_29, fx_30, fx_31, fx_32, fx_33, c1, c2]
    have := fin w2 (by
      have e : xN (tcn n tb) one two = tcn n tb := by unfold xN; rw [if_pos c1, if_pos c2]; omega
      rw [e]
      refine g2.cong (fun i hi => ?_)
      unfold xM xB
      rw [if_neg (by omega), if_neg (by omega), if_neg (by omega)]
      exact ⟨rfl, rfl⟩) f2
    rw [c1, c2] at this
    exact this
  · have hx1 : tcn n tb < 20 := by
      unfold xN at h8
      rw [if_neg c1] at h8
      omega
    simp (disch := omega) only [eX5_passNightWith_17, eX5_passNightWith_18, eX5_passNightWith_19, eX5_passNightWith_22, eX5_passNightWith_23, eX5_passNightWith_26, en_kl_0, en_kl_i, en_kl_r, en_kl_n, en_kl_l, en_Ec_some, en_Ec_void, en_rcv, en_stk, List.map_cons, List.map_nil, List.sum_cons, List.sum_nil, Value.category, Nat.reduceAdd, Nat.reduceLeDiff, decide_true, true_and, and_true, and_self, zI_add, zI_sub, zI_mul, zI_neg, zI_lt, zI_le, zI_eq, zI_cl, zI_0, zI_1, zI_m1, zI_lit, zT_0, zT_01, zI_01, zI_11, ↓reduceIte, if_true, if_false, not_false_eq_true, not_true_eq_false, Int.reduceEq, Int.reduceLT, Int.reduceLE, Classical.not_not, Bool.false_eq_true, fi_0, ft_0_0, ft_0_1, ft_0_2, ft_0_3, ft_0_4, ft_0_5, fi_3, ft_3_0, ft_3_1, fi_5, ft_5_0, ft_5_1, fi_8, ft_8_0, ft_8_1, ft_8_2, ft_8_3, ft_8_4, ft_8_5, fi_14, ft_14_0, ft_14_1, fi_19, ft_19_0, ft_19_1, ft_19_2, ft_19_3, ft_19_5, ft_19_6, ft_19_7, ft_19_8, ft_19_12, ft_19_13, ft_19_14, ft_19_15, ft_19_16, ft_19_21, fx_4, fx_6, fx_7, fx_9, fx_10, fx_11, fx_12, fx_13, fx_15, fx_16, fx_17, fx_18, fx_20, fx_21, fx_22, fx_23, fx_24, fx_25, fx_26, fx_27, fx_28, fx_29, fx_30, fx_31, fx_32, fx_33, c1]
    rw [s_nightCoins]
    simp (disch := omega) only [eX5_passNightWith_29, eX5_passNightWith_30, eX5_passNightWith_31, en_kl_0, en_kl_i, en_kl_r, en_kl_n, en_kl_l, en_Ec_some, en_Ec_void, en_rcv, en_stk, List.map_cons, List.map_nil, List.sum_cons, List.sum_nil, Value.category, Nat.reduceAdd, Nat.reduceLeDiff, decide_true, true_and, and_true, and_self, zI_add, zI_sub, zI_mul, zI_neg, zI_lt, zI_le, zI_eq, zI_cl, zI_0, zI_1, zI_m1, zI_lit, zT_0, zT_01, zI_01, zI_11, ↓reduceIte, if_true, if_false, not_false_eq_true, not_true_eq_false, Int.reduceEq, Int.reduceLT, Int.reduceLE, Classical.not_not, Bool.false_eq_true, fi_0, ft_0_0, ft_0_1, ft_0_2, ft_0_3, ft_0_4, ft_0_5, fi_3, ft_3_0, ft_3_1, fi_5, ft_5_0, ft_5_1, fi_8, ft_8_0, ft_8_1, ft_8_2, ft_8_3, ft_8_4, ft_8_5, fi_14, ft_14_0, ft_14_1, fi_19, ft_19_0, ft_19_1, ft_19_2, ft_19_3, ft_19_5, ft_19_6, ft_19_7, ft_19_8, ft_19_12, ft_19_13, ft_19_14, ft_19_15, ft_19_16, ft_19_21, fx_4, fx_6, fx_7, fx_9, fx_10, fx_11, fx_12, fx_13, fx_15, fx_16, fx_17, fx_18, fx_20, fx_21, fx_22, fx_23, fx_24, fx_25, fx_26, fx_27, fx_28, fx_29, fx_30, fx_31, fx_32, fx_33, c1]
    obtain ⟨w3, e3, g3, f3⟩ := s_add (w := w2) (mi := m) (bu := one) en_coins_14 g2 hx1 h1 h2 (by omega) h4
    rw [e3]
    by_cases c2 : two = -1
    · simp (disch := omega) only [eX5_passNightWith_0, eX5_passNightWith_1, eX5_passNightWith_4, eX5_passNightWith_7, eX5_passNightWith_8, eX5_passNightWith_11, eX5_passNightWith_14, eX5_passNightWith_17, eX5_passNightWith_18, eX5_passNightWith_19, eX5_passNightWith_22, eX5_passNightWith_23, eX5_passNightWith_26, eX5_passNightWith_29, eX5_passNightWith_30, eX5_passNightWith_31, eX5_passNightWith_34, eX5_passNightWith_35, eX5_passNightWith_36, eX5_passNightWith_39, eX5_passNightWith_40, eX5_passNightWith_43, eX5_passNightWith_46, eX5_passNightWith_47, eX5_passNightWith_48, eX5_passNightWith_52, eX5_passNightWith_55, eX5_passNightWith_56, eX5_passNightWith_59, eX5_passNightWith_60, eX5_passNightWith_63, eX5_passNightWith_66, en_kl_0, en_kl_i, en_kl_r, en_kl_n, en_kl_l, en_Ec_some, en_Ec_void, en_rcv, en_stk, List.map_cons, List.map_nil, List.sum_cons, List.sum_nil, Value.category, Nat.reduceAdd, Nat.reduceLeDiff, decide_true, true_and, and_true, and_self, zI_add, zI_sub, zI_mul, zI_neg, zI_lt, zI_le, zI_eq, zI_cl, zI_0, zI_1, zI_m1, zI_lit, zT_0, zT_01, zI_01, zI_11, ↓reduceIte, if_true, if_false, not_false_eq_true, not_true_eq_false, Int.reduceEq, Int.reduceLT, Int.reduceLE, Classical.not_not, Bool.false_eq_true, fi_0, ft_0_0, ft_0_1, ft_0_2, ft_0_3, ft_0_4, ft_0_5, fi_3, ft_3_0, ft_3_1, fi_5, ft_5_0, ft_5_1, fi_8, ft_8_0, ft_8_1, ft_8_2, ft_8_3, ft_8_4, ft_8_5, fi_14, ft_14_0, ft_14_1, fi_19, ft_19_0, ft_19_1, ft_19_2, ft_19_3, ft_19_5, ft_19_6, ft_19_7, ft_19_8, ft_19_12, ft_19_13, ft_19_14, ft_19_15, ft_19_16, ft_19_21, fx_4, fx_6, fx_7, fx_9, fx_10, fx_11, fx_12, fx_13, fx_15, fx_16, fx_17, fx_18, fx_20, fx_21, fx_22, fx_23, fx_24, fx_25, fx_26, fx_27, fx_28, fx_29, fx_30, fx_31, fx_32, fx_33, c2]
      have := fin w3 (by
        have e : xN (tcn n tb) one two = tcn n tb + 1 := by unfold xN; rw [if_neg c1, if_pos c2]
        rw [e]
        refine g3.cong (fun i hi => ?_)
        unfold xM xB
        try dsimp only
        by_cases e2 : i = tcn n tb
        · rw [if_pos e2, if_pos e2, if_pos (by omega), if_pos e2]
          exact ⟨rfl, rfl⟩
        · rw [if_neg e2, if_neg e2, if_neg (by omega), if_neg e2, if_neg (by omega)]
          exact ⟨rfl, rfl⟩) (f2.tr f3)
      rw [c2] at this
      exact this
    · have hx2 : tcn n tb + 1 < 20 := by
        unfold xN at h8
        rw [if_neg c1, if_neg c2] at h8
        omega
      simp (disch := omega) only [eX5_passNightWith_34, eX5_passNightWith_35, eX5_passNightWith_36, eX5_passNightWith_39, eX5_passNightWith_40, eX5_passNightWith_43, en_kl_0, en_kl_i, en_kl_r, en_kl_n, en_kl_l, en_Ec_some, en_Ec_void, en_rcv, en_stk, List.map_cons, List.map_nil, List.sum_cons, List.sum_nil, Value.category, Nat.reduceAdd, Nat.reduceLeDiff, decide_true, true_and, and_true, and_self, zI_add, zI_sub, zI_mul, zI_neg, zI_lt, zI_le, zI_eq, zI_cl, zI_0, zI_1, zI_m1, zI_lit, zT_0, zT_01, zI_01, zI_11, ↓reduceIte, if_true, if_false, not_false_eq_true, not_true_eq_false, Int.reduceEq, Int.reduceLT, Int.reduceLE, Classical.not_not, Bool.false_eq_true, fi_0, ft_0_0, ft_0_1, ft_0_2, ft_0_3, ft_0_4, ft_0_5, fi_3, ft_3_0, ft_3_1, fi_5, ft_5_0, ft_5_1, fi_8, ft_8_0, ft_8_1, ft_8_2, ft_8_3, ft_8_4, ft_8_5, fi_14, ft_14_0, ft_14_1, fi_19, ft_19_0, ft_19_1, ft_19_2, ft_19_3, ft_19_5, ft_19_6, ft_19_7, ft_19_8, ft_19_12, ft_19_13, ft_19_14, ft_19_15, ft_19_16, ft_19_21, fx_4, fx_6, fx_7, fx_9, fx_10, fx_11, fx_12, fx_13, fx_15, fx_16, fx_17, fx_18, fx_20, fx_21, fx_22, fx_23, fx_24, fx_25, fx_26, fx_27, fx_28, fx_29, fx_30, fx_31, fx_32, fx_33, c2]
      rw [s_nightCoins]
      simp (disch := omega) only [eX5_passNightWith_46, eX5_passNightWith_47, eX5_passNightWith_48, en_kl_0, en_kl_i, en_kl_r, en_kl_n, en_kl_l, en_Ec_some, en_Ec_void, en_rcv, en_stk, List.map_cons, List.map_nil, List.sum_cons, List.sum_nil, Value.category, Nat.reduceAdd, Nat.reduceLeDiff, decide_true, true_and, and_true, and_self, zI_add, zI_sub, zI_mul, zI_neg, zI_lt, zI_le, zI_eq, zI_cl, zI_0, zI_1, zI_m1, zI_lit, zT_0, zT_01, zI_01, zI_11, ↓reduceIte, if_true, if_false, not_false_eq_true, not_true_eq_false, Int.reduceEq, Int.reduceLT, Int.reduceLE, Classical.not_not, Bool.false_eq_true, fi_0, ft_0_0, ft_0_1, ft_0_2, ft_0_3, ft_0_4, ft_0_5, fi_3, ft_3_0, ft_3_1, fi_5, ft_5_0, ft_5_1, fi_8, ft_8_0, ft_8_1, ft_8_2, ft_8_3, ft_8_4, ft_8_5, fi_14, ft_14_0, ft_14_1, fi_19, ft_19_0, ft_19_1, ft_19_2, ft_19_3, ft_19_5, ft_19_6, ft_19_7, ft_19_8, ft_19_12, ft_19_13, ft_19_14, ft_19_15, ft_19_16, ft_19_21, fx_4, fx_6, fx_7, fx_9, fx_10, fx_11, fx_12, fx_13, fx_15, fx_16, fx_17, fx_18, fx_20, fx_21, fx_22, fx_23, fx_24, fx_25, fx_26, fx_27, fx_28, fx_29, fx_30, fx_31, fx_32, fx_33, c2]
      obtain ⟨w4, e4, g4, f4⟩ := s_add (w := w3) (mi := m) (bu := two) en_coins_14 g3 hx2 h1 h2 (by omega) h6
      rw [e4]
      simp (disch := omega) only [en_kl_0, en_kl_i, en_kl_r, en_kl_n, en_kl_l, en_Ec_some, en_Ec_void, en_rcv, en_stk, List.map_cons, List.map_nil, List.sum_cons, List.sum_nil, Value.category, Nat.reduceAdd, Nat.reduceLeDiff, decide_true, true_and, and_true, and_self]
      exact fin w4 (by
        have e : xN (tcn n tb) one two = tcn n tb + 1 + 1 := by unfold xN; rw [if_neg c1, if_neg c2]
        rw [e]
        refine g4.cong (fun i hi => ?_)
        unfold xM xB
        try dsimp only
        by_cases e2 : i = tcn n tb + 1
        · rw [if_pos e2, if_pos e2, if_pos (by omega), if_neg (by omega), if_pos e2]
          exact ⟨rfl, rfl⟩
        · by_cases e3 : i = tcn n tb
          · rw [if_neg e2, if_neg e2, if_pos e3, if_pos e3, if_pos (by omega), if_pos e3]
            exact ⟨rfl, rfl⟩
          · rw [if_neg e2, if_neg e2, if_neg e3, if_neg e3, if_neg (by omega), if_neg e3, if_neg e2]
            exact ⟨rfl, rfl⟩) ((f2.tr f3).tr f4)
end
