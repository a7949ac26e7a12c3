/-! ===== ints as integers ===== -/
def zI (z : Int) : Int32 := Int32.ofInt z
theorem zI_toInt {z : Int} (h1 : -2147483648 ≤ z) (h2 : z < 2147483648) : (zI z).toInt = z := by
  unfold zI
  rw [Int32.toInt_ofInt]
  show z.bmod (2 ^ 32) = z
  have := Int.bmod_def z (2 ^ 32)
  omega
theorem zI_of (x : Int32) : zI x.toInt = x := by
  unfold zI
  exact Int32.ofInt_toInt x
theorem zI_rng (x : Int32) : -2147483648 ≤ x.toInt ∧ x.toInt < 2147483648 := by
  have h1 := Int32.minValue_le_toInt x
  have h2 := Int32.toInt_le x
  have e1 : Int32.minValue.toInt = -2147483648 := by decide
  have e2 : Int32.maxValue.toInt = 2147483647 := by decide
  exact ⟨by omega, by omega⟩
theorem zI_any (x : Int32) : ∃ z : Int, -2147483648 ≤ z ∧ z < 2147483648 ∧ x = zI z := ⟨x.toInt, (zI_rng x).1, (zI_rng x).2, (zI_of x).symm⟩
theorem zI_add (a b : Int) : zI a + zI b = zI (a + b) := by
  unfold zI
  exact (Int32.ofInt_add a b).symm
theorem zI_sub (a b : Int) : zI a - zI b = zI (a - b) := by
  unfold zI
  exact (Int32.ofInt_sub a b).symm
theorem zI_mul (a b : Int) : zI a * zI b = zI (a * b) := by
  unfold zI
  exact (Int32.ofInt_mul a b).symm
theorem zI_neg (a : Int) : -zI a = zI (-a) := by
  unfold zI
  exact (Int32.ofInt_neg a).symm
theorem zI_lt {a b : Int} (h1 : -2147483648 ≤ a) (h2 : a < 2147483648) (h3 : -2147483648 ≤ b) (h4 : b < 2147483648) : (zI a < zI b) = (a < b) := by
  rw [Int32.lt_iff_toInt_lt, zI_toInt h1 h2, zI_toInt h3 h4]
theorem zI_le {a b : Int} (h1 : -2147483648 ≤ a) (h2 : a < 2147483648) (h3 : -2147483648 ≤ b) (h4 : b < 2147483648) : (zI a ≤ zI b) = (a ≤ b) := by
  rw [Int32.le_iff_toInt_le, zI_toInt h1 h2, zI_toInt h3 h4]
theorem zI_eq {a b : Int} (h1 : -2147483648 ≤ a) (h2 : a < 2147483648) (h3 : -2147483648 ≤ b) (h4 : b < 2147483648) : (zI a = zI b) = (a = b) := by
  rw [← Int32.toInt_inj, zI_toInt h1 h2, zI_toInt h3 h4]
theorem zI_cl {a : Int} (h1 : -2147483648 ≤ a) (h2 : a < 2147483648) : (zI a).toNatClampNeg = a.toNat := by
  show (zI a).toInt.toNat = a.toNat
  rw [zI_toInt h1 h2]
theorem zI_ofNat (n : Nat) : Int32.ofNat n = Int32.ofInt (n : Int) := by
  apply Int32.toBitVec_inj.mp
  show BitVec.ofNat 32 n = BitVec.ofInt 32 (n : Int)
  exact (BitVec.ofInt_natCast 32 n).symm
theorem zI_nI (n : Nat) : nI n = zI (n : Int) := by
  exact zI_ofNat n
theorem zI_0 : (0 : Int32) = zI 0 := by decide
theorem zI_1 : (1 : Int32) = zI 1 := by decide
theorem zI_m1 : (-1 : Int32) = zI (-1) := by decide
theorem zI_lit (n : Nat) : (OfNat.ofNat n : Int32) = zI (OfNat.ofNat n : Int) := by
  exact zI_ofNat n
/-- an answer yes or no -/
def zT (P : Prop) [Decidable P] : Int32 := if P then 1 else 0
theorem zT_t {P : Prop} [Decidable P] (h : P) : zT P = zI 1 := (if_pos h).trans zI_1
theorem zT_f {P : Prop} [Decidable P] (h : ¬ P) : zT P = zI 0 := (if_neg h).trans zI_0
theorem zT_0 {P : Prop} [Decidable P] : (zT P = zI 0) = ¬ P := by
  by_cases h : P
  · rw [zT_t h]
    exact propext ⟨fun q => absurd q (by decide), fun q => absurd h q⟩
  · rw [zT_f h]
    exact propext ⟨fun _ => h, fun _ => rfl⟩
theorem zT_01 {P : Prop} [Decidable P] : en_01 (zT P) = True := by
  by_cases h : P
  · rw [zT_t h]; exact eq_true (by unfold en_01; decide)
  · rw [zT_f h]; exact eq_true (by unfold en_01; decide)
theorem zI_01 : en_01 (zI 0) = True := eq_true (by unfold en_01; decide)
theorem zI_11 : en_01 (zI 1) = True := eq_true (by unfold en_01; decide)
theorem en_qI {Q : Option Value → en_W → Prop} {a b : Int} {w : en_W} (h : Q (some (.int (zI a))) w) (e : a = b) : Q (some (.int (zI b))) w := e ▸ h
theorem en_qV {Q : Option Value → en_W → Prop} {a b : Option Value} {w w' : en_W} (h : Q a w) (e : a = b) (e2 : w = w') : Q b w' := e ▸ e2 ▸ h
theorem zb_sh {p g : Nat} (hp : p < 2 ^ 31) (hg : g < 32) : nI p >>> (nI g &&& 31) = nI (p / 2 ^ g) := pk_shrN hp _ g (by
  have : ∀ n, n < 32 → ((nI n &&& 31).toBitVec.smod 32).toNat = n := by decide +kernel
  exact this g hg)
theorem zb_bit {p g : Nat} (hp : p < 2 ^ 31) (hg : g < 32) : (nI p >>> (nI g &&& 31)) &&& 1 = nI (if p.testBit g = true then 1 else 0) := by
  rw [zb_sh hp hg]
  have h1 : p / 2 ^ g < 2 ^ 32 := Nat.lt_of_le_of_lt (Nat.div_le_self _ _) (by omega)
  rw [pk_andN h1 1 (by decide)]
  congr 1
  rw [Nat.testBit_eq_decide_div_mod_eq]
  have : p / 2 ^ g % 2 < 2 := Nat.mod_lt _ (by decide)
  by_cases h : p / 2 ^ g % 2 = 1
  · simp [h]
  · have h0 : p / 2 ^ g % 2 = 0 := by omega
    simp [h0]
theorem en_ex {X : en_X} {nL : Nat} {As : List Value} {w : en_W} {P : Option Value → en_W → Prop} (hl : (en_L0 nL As).length = nL) (h : en_Ev X 0 (en_L0 nL As) [] w P) : ∃ r w', en_fn X nL As w = some (r, w') ∧ P r w' := by
  obtain ⟨n, r, w', h1, h2⟩ := h
  exact ⟨r, w', en_fn_of hl h1, h2⟩
/-- a call of a method that answers nothing: what it makes of the world -/
theorem en_exv {X : en_X} {nL : Nat} {As : List Value} {w : en_W} {P : en_W → Prop} (hl : (en_L0 nL As).length = nL) (h : en_Ev X 0 (en_L0 nL As) [] w (fun r w' => r = none ∧ P w')) : ∃ w', en_fn X nL As w = some (none, w') ∧ P w' := by
  obtain ⟨r, w', h1, h2, h3⟩ := en_ex hl h
  subst h2
  exact ⟨w', h1, h3⟩
theorem en_row_eq {w : en_W} {k : Nat} {f : Nat → Int32} : en_row w k f k = f := if_pos rfl
theorem en_row_ne {w : en_W} {k a : Nat} {f : Nat → Int32} (h : a ≠ k) : en_row w k f a = w a := if_neg h
theorem en_up_eq {w : en_W} {k j : Nat} {x : Int32} : en_up w k j x k = upd (w k) j x := if_pos rfl
theorem en_up_ne {w : en_W} {k j a : Nat} {x : Int32} (h : a ≠ k) : en_up w k j x a = w a := if_neg h
theorem upd_eq {f : Nat → Int32} {k : Nat} {x : Int32} : upd f k x k = x := if_pos rfl
theorem upd_ne {f : Nat → Int32} {k j : Nat} {x : Int32} (h : j ≠ k) : upd f k x j = f j := if_neg h
/-- nothing outside F has changed -/
def en_fr (F : List Nat) (w w' : en_W) : Prop := ∀ k, k ∉ F → w' k = w k
theorem en_fr.rf {F : List Nat} {w : en_W} : en_fr F w w := fun _ _ => rfl
theorem en_fr.tr {F : List Nat} {w w1 w2 : en_W} (h : en_fr F w w1) (h2 : en_fr F w1 w2) : en_fr F w w2 := fun k hk => (h2 k hk).trans (h k hk)
theorem en_fr.mono {F F2 : List Nat} {w w1 : en_W} (h : en_fr F w w1) (hs : ∀ k, k ∈ F → k ∈ F2) : en_fr F2 w w1 := fun k hk => h k (fun q => hk (hs k q))
theorem en_fr.up {F : List Nat} {w w1 : en_W} {k j : Nat} {x : Int32} (h : en_fr F w w1) (hk : k ∈ F) : en_fr F w (en_up w1 k j x) := fun a ha => by
  have hne : a ≠ k := fun e => ha (by rw [e]; exact hk)
  rw [en_up_ne hne]
  exact h a ha
theorem en_fr.row {F : List Nat} {w w1 : en_W} {k : Nat} {f : Nat → Int32} (h : en_fr F w w1) (hk : k ∈ F) : en_fr F w (en_row w1 k f) := fun a ha => by
  have hne : a ≠ k := fun e => ha (by rw [e]; exact hk)
  rw [en_row_ne hne]
  exact h a ha
theorem zI_rem {a d : Nat} (ha : a < 2147483648) (h0 : 0 < d) (hd : d < 2147483648) : zI (a : Int) - zI (a : Int) / zI (d : Int) * zI (d : Int) = zI ((a % d : Nat) : Int) := by
  rw [← zI_nI, ← zI_nI, ← zI_nI]
  exact pk_rem (by omega) h0 (by omega)
theorem zI_div {a d : Nat} (ha : a < 2147483648) (h0 : 0 < d) (hd : d < 2147483648) : zI (a : Int) / zI (d : Int) = zI ((a / d : Nat) : Int) := by
  rw [← zI_nI, ← zI_nI, ← zI_nI]
  exact pk_div (by omega) h0 (by omega)
theorem zI_rem4 {a : Nat} (ha : a < 2147483648) : zI (a : Int) - zI (a : Int) / zI 4 * zI 4 = zI ((a % 4 : Nat) : Int) := zI_rem (d := 4) ha (by decide) (by decide)
theorem fi_0 : en_is 0 5 = true := by decide +kernel
theorem ft_0_0 : en_tg 0 0 = 1 := by decide +kernel
theorem ft_0_1 : en_tg 0 1 = 2 := by decide +kernel
theorem ft_0_2 : en_tg 0 2 = 3 := by decide +kernel
theorem ft_0_3 : en_tg 0 3 = 8 := by decide +kernel
theorem ft_0_4 : en_tg 0 4 = 17 := by decide +kernel
theorem ft_0_5 : en_tg 0 5 = 18 := by decide +kernel
theorem fi_3 : en_is 3 4 = true := by decide +kernel
theorem ft_3_0 : en_tg 3 0 = 4 := by decide +kernel
theorem ft_3_1 : en_tg 3 1 = 5 := by decide +kernel
theorem fi_5 : en_is 5 0 = true := by decide +kernel
theorem ft_5_0 : en_tg 5 0 = 6 := by decide +kernel
theorem ft_5_1 : en_tg 5 1 = 7 := by decide +kernel
theorem fi_8 : en_is 8 2 = true := by decide +kernel
theorem ft_8_0 : en_tg 8 0 = 9 := by decide +kernel
theorem ft_8_1 : en_tg 8 1 = 10 := by decide +kernel
theorem ft_8_2 : en_tg 8 2 = 11 := by decide +kernel
theorem ft_8_3 : en_tg 8 3 = 12 := by decide +kernel
theorem ft_8_4 : en_tg 8 4 = 13 := by decide +kernel
theorem ft_8_5 : en_tg 8 5 = 14 := by decide +kernel
theorem fi_14 : en_is 14 0 = true := by decide +kernel
theorem ft_14_0 : en_tg 14 0 = 15 := by decide +kernel
theorem ft_14_1 : en_tg 14 1 = 16 := by decide +kernel
theorem fi_19 : en_is 19 6 = true := by decide +kernel
theorem ft_19_0 : en_tg 19 0 = 20 := by decide +kernel
theorem ft_19_1 : en_tg 19 1 = 21 := by decide +kernel
theorem ft_19_2 : en_tg 19 2 = 22 := by decide +kernel
theorem ft_19_3 : en_tg 19 3 = 23 := by decide +kernel
theorem ft_19_5 : en_tg 19 5 = 24 := by decide +kernel
theorem ft_19_6 : en_tg 19 6 = 25 := by decide +kernel
theorem ft_19_7 : en_tg 19 7 = 26 := by decide +kernel
theorem ft_19_8 : en_tg 19 8 = 27 := by decide +kernel
theorem ft_19_12 : en_tg 19 12 = 28 := by decide +kernel
theorem ft_19_13 : en_tg 19 13 = 29 := by decide +kernel
theorem ft_19_14 : en_tg 19 14 = 30 := by decide +kernel
theorem ft_19_15 : en_tg 19 15 = 31 := by decide +kernel
theorem ft_19_16 : en_tg 19 16 = 32 := by decide +kernel
theorem ft_19_21 : en_tg 19 21 = 33 := by decide +kernel
theorem fa_4 : en_al 4 = some 80 := by decide +kernel
theorem fx_4 {i : Int32} : en_ix 4 i = ¬ (i < 0 ∨ 80 ≤ i.toNatClampNeg) := propext (en_ix_at (by decide) fa_4)
theorem fa_6 : en_al 6 = some 20 := by decide +kernel
theorem fx_6 {i : Int32} : en_ix 6 i = ¬ (i < 0 ∨ 20 ≤ i.toNatClampNeg) := propext (en_ix_at (by decide) fa_6)
theorem fa_7 : en_al 7 = some 20 := by decide +kernel
theorem fx_7 {i : Int32} : en_ix 7 i = ¬ (i < 0 ∨ 20 ≤ i.toNatClampNeg) := propext (en_ix_at (by decide) fa_7)
theorem fa_9 : en_al 9 = some 10 := by decide +kernel
theorem fx_9 {i : Int32} : en_ix 9 i = ¬ (i < 0 ∨ 10 ≤ i.toNatClampNeg) := propext (en_ix_at (by decide) fa_9)
theorem fa_10 : en_al 10 = some 10 := by decide +kernel
theorem fx_10 {i : Int32} : en_ix 10 i = ¬ (i < 0 ∨ 10 ≤ i.toNatClampNeg) := propext (en_ix_at (by decide) fa_10)
theorem fa_11 : en_al 11 = some 10 := by decide +kernel
theorem fx_11 {i : Int32} : en_ix 11 i = ¬ (i < 0 ∨ 10 ≤ i.toNatClampNeg) := propext (en_ix_at (by decide) fa_11)
theorem fa_12 : en_al 12 = some 20 := by decide +kernel
theorem fx_12 {i : Int32} : en_ix 12 i = ¬ (i < 0 ∨ 20 ≤ i.toNatClampNeg) := propext (en_ix_at (by decide) fa_12)
theorem fa_13 : en_al 13 = some 20 := by decide +kernel
theorem fx_13 {i : Int32} : en_ix 13 i = ¬ (i < 0 ∨ 20 ≤ i.toNatClampNeg) := propext (en_ix_at (by decide) fa_13)
theorem fa_15 : en_al 15 = some 20 := by decide +kernel
theorem fx_15 {i : Int32} : en_ix 15 i = ¬ (i < 0 ∨ 20 ≤ i.toNatClampNeg) := propext (en_ix_at (by decide) fa_15)
theorem fa_16 : en_al 16 = some 20 := by decide +kernel
theorem fx_16 {i : Int32} : en_ix 16 i = ¬ (i < 0 ∨ 20 ≤ i.toNatClampNeg) := propext (en_ix_at (by decide) fa_16)
theorem fa_17 : en_al 17 = some 8 := by decide +kernel
theorem fx_17 {i : Int32} : en_ix 17 i = ¬ (i < 0 ∨ 8 ≤ i.toNatClampNeg) := propext (en_ix_at (by decide) fa_17)
theorem fa_18 : en_al 18 = some 8 := by decide +kernel
theorem fx_18 {i : Int32} : en_ix 18 i = ¬ (i < 0 ∨ 8 ≤ i.toNatClampNeg) := propext (en_ix_at (by decide) fa_18)
theorem fa_20 : en_al 20 = some 4 := by decide +kernel
theorem fx_20 {i : Int32} : en_ix 20 i = ¬ (i < 0 ∨ 4 ≤ i.toNatClampNeg) := propext (en_ix_at (by decide) fa_20)
theorem fa_21 : en_al 21 = some 4 := by decide +kernel
theorem fx_21 {i : Int32} : en_ix 21 i = ¬ (i < 0 ∨ 4 ≤ i.toNatClampNeg) := propext (en_ix_at (by decide) fa_21)
theorem fa_22 : en_al 22 = some 240 := by decide +kernel
theorem fx_22 {i : Int32} : en_ix 22 i = ¬ (i < 0 ∨ 240 ≤ i.toNatClampNeg) := propext (en_ix_at (by decide) fa_22)
theorem fa_23 : en_al 23 = some 60 := by decide +kernel
theorem fx_23 {i : Int32} : en_ix 23 i = ¬ (i < 0 ∨ 60 ≤ i.toNatClampNeg) := propext (en_ix_at (by decide) fa_23)
theorem fa_24 : en_al 24 = some 10 := by decide +kernel
theorem fx_24 {i : Int32} : en_ix 24 i = ¬ (i < 0 ∨ 10 ≤ i.toNatClampNeg) := propext (en_ix_at (by decide) fa_24)
theorem fa_25 : en_al 25 = some 90 := by decide +kernel
theorem fx_25 {i : Int32} : en_ix 25 i = ¬ (i < 0 ∨ 90 ≤ i.toNatClampNeg) := propext (en_ix_at (by decide) fa_25)
theorem fa_26 : en_al 26 = some 4 := by decide +kernel
theorem fx_26 {i : Int32} : en_ix 26 i = ¬ (i < 0 ∨ 4 ≤ i.toNatClampNeg) := propext (en_ix_at (by decide) fa_26)
theorem fa_27 : en_al 27 = some 80 := by decide +kernel
theorem fx_27 {i : Int32} : en_ix 27 i = ¬ (i < 0 ∨ 80 ≤ i.toNatClampNeg) := propext (en_ix_at (by decide) fa_27)
theorem fa_28 : en_al 28 = some 44 := by decide +kernel
theorem fx_28 {i : Int32} : en_ix 28 i = ¬ (i < 0 ∨ 44 ≤ i.toNatClampNeg) := propext (en_ix_at (by decide) fa_28)
theorem fa_29 : en_al 29 = some 22 := by decide +kernel
theorem fx_29 {i : Int32} : en_ix 29 i = ¬ (i < 0 ∨ 22 ≤ i.toNatClampNeg) := propext (en_ix_at (by decide) fa_29)
theorem fa_30 : en_al 30 = some 22 := by decide +kernel
theorem fx_30 {i : Int32} : en_ix 30 i = ¬ (i < 0 ∨ 22 ≤ i.toNatClampNeg) := propext (en_ix_at (by decide) fa_30)
theorem fa_31 : en_al 31 = some 200 := by decide +kernel
theorem fx_31 {i : Int32} : en_ix 31 i = ¬ (i < 0 ∨ 200 ≤ i.toNatClampNeg) := propext (en_ix_at (by decide) fa_31)
theorem fa_32 : en_al 32 = some 10 := by decide +kernel
theorem fx_32 {i : Int32} : en_ix 32 i = ¬ (i < 0 ∨ 10 ≤ i.toNatClampNeg) := propext (en_ix_at (by decide) fa_32)
theorem fa_33 : en_al 33 = some 16 := by decide +kernel
theorem fx_33 {i : Int32} : en_ix 33 i = ¬ (i < 0 ∨ 16 ≤ i.toNatClampNeg) := propext (en_ix_at (by decide) fa_33)
