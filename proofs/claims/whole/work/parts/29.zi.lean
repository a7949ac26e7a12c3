/-! ===== ints as integers ===== -/
def zI (z : Int) : Int32 := Int32.ofInt z
theorem zI_toInt {z : Int} (h1 : -2147483648 ≤ z) (h2 : z < 2147483648) : (zI z).toInt = z := by
  unfold zI
  rw [Int32.toInt_ofInt]
  show z.bmod (2 ^ 32) = z
  have := Int.bmod_def z (2 ^ 32)
  omega
theorem zI_of (x : Int32) : zI x.toInt = x := by
  unfold zI
  exact Int32.ofInt_toInt x
theorem zI_rng (x : Int32) : -2147483648 ≤ x.toInt ∧ x.toInt < 2147483648 := by
  have h1 := Int32.minValue_le_toInt x
  have h2 := Int32.toInt_le x
  have e1 : Int32.minValue.toInt = -2147483648 := by decide
  have e2 : Int32.maxValue.toInt = 2147483647 := by decide
  exact ⟨by omega, by omega⟩
theorem zI_any (x : Int32) : ∃ z : Int, -2147483648 ≤ z ∧ z < 2147483648 ∧ x = zI z := ⟨x.toInt, (zI_rng x).1, (zI_rng x).2, (zI_of x).symm⟩
theorem zI_add (a b : Int) : zI a + zI b = zI (a + b) := by
  unfold zI
  exact (Int32.ofInt_add a b).symm
theorem zI_sub (a b : Int) : zI a - zI b = zI (a - b) := by
  unfold zI
  exact (Int32.ofInt_sub a b).symm
theorem zI_mul (a b : Int) : zI a * zI b = zI (a * b) := by
  unfold zI
  exact (Int32.ofInt_mul a b).symm
theorem zI_neg (a : Int) : -zI a = zI (-a) := by
  unfold zI
  exact (Int32.ofInt_neg a).symm
theorem zI_lt {a b : Int} (h1 : -2147483648 ≤ a) (h2 : a < 2147483648) (h3 : -2147483648 ≤ b) (h4 : b < 2147483648) : (zI a < zI b) = (a < b) := by
  rw [Int32.lt_iff_toInt_lt, zI_toInt h1 h2, zI_toInt h3 h4]
theorem zI_le {a b : Int} (h1 : -2147483648 ≤ a) (h2 : a < 2147483648) (h3 : -2147483648 ≤ b) (h4 : b < 2147483648) : (zI a ≤ zI b) = (a ≤ b) := by
  rw [Int32.le_iff_toInt_le, zI_toInt h1 h2, zI_toInt h3 h4]
theorem zI_eq {a b : Int} (h1 : -2147483648 ≤ a) (h2 : a < 2147483648) (h3 : -2147483648 ≤ b) (h4 : b < 2147483648) : (zI a = zI b) = (a = b) := by
  rw [← Int32.toInt_inj, zI_toInt h1 h2, zI_toInt h3 h4]
theorem zI_cl {a : Int} (h1 : -2147483648 ≤ a) (h2 : a < 2147483648) : (zI a).toNatClampNeg = a.toNat := by
  show (zI a).toInt.toNat = a.toNat
  rw [zI_toInt h1 h2]
theorem zI_ofNat (n : Nat) : Int32.ofNat n = Int32.ofInt (n : Int) := by
  apply Int32.toBitVec_inj.mp
  show BitVec.ofNat 32 n = BitVec.ofInt 32 (n : Int)
  exact (BitVec.ofInt_natCast 32 n).symm
theorem zI_nI (n : Nat) : nI n = zI (n : Int) := by
  exact zI_ofNat n
theorem zI_0 : (0 : Int32) = zI 0 := by decide
theorem zI_1 : (1 : Int32) = zI 1 := by decide
theorem zI_m1 : (-1 : Int32) = zI (-1) := by decide
theorem zI_lit (n : Nat) : (OfNat.ofNat n : Int32) = zI (OfNat.ofNat n : Int) := by
  exact zI_ofNat n
/-- an answer yes or no -/
def zT (P : Prop) [Decidable P] : Int32 := if P then 1 else 0
theorem zT_t {P : Prop} [Decidable P] (h : P) : zT P = zI 1 := (if_pos h).trans zI_1
theorem zT_f {P : Prop} [Decidable P] (h : ¬ P) : zT P = zI 0 := (if_neg h).trans zI_0
theorem zT_0 {P : Prop} [Decidable P] : (zT P = zI 0) = ¬ P := by
  by_cases h : P
  · rw [zT_t h]
    exact propext ⟨fun q => absurd q (by decide), fun q => absurd h q⟩
  · rw [zT_f h]
    exact propext ⟨fun _ => h, fun _ => rfl⟩
theorem zT_01 {P : Prop} [Decidable P] : en_01 (zT P) = True := by
  by_cases h : P
  · rw [zT_t h]; exact eq_true (by unfold en_01; decide)
  · rw [zT_f h]; exact eq_true (by unfold en_01; decide)
theorem zI_01 : en_01 (zI 0) = True := eq_true (by unfold en_01; decide)
theorem zI_11 : en_01 (zI 1) = True := eq_true (by unfold en_01; decide)
theorem en_qI {Q : Option Value → en_W → Prop} {a b : Int} {w : en_W} (h : Q (some (.int (zI a))) w) (e : a = b) : Q (some (.int (zI b))) w := e ▸ h
theorem en_qV {Q : Option Value → en_W → Prop} {a b : Option Value} {w w' : en_W} (h : Q a w) (e : a = b) (e2 : w = w') : Q b w' := e ▸ e2 ▸ h
theorem zb_sh {p g : Nat} (hp : p < 2 ^ 31) (hg : g < 32) : nI p >>> (nI g &&& 31) = nI (p / 2 ^ g) := pk_shrN hp _ g (by
  have : ∀ n, n < 32 → ((nI n &&& 31).toBitVec.smod 32).toNat = n := by decide +kernel
  exact this g hg)
theorem zb_bit {p g : Nat} (hp : p < 2 ^ 31) (hg : g < 32) : (nI p >>> (nI g &&& 31)) &&& 1 = nI (if p.testBit g = true then 1 else 0) := by
  rw [zb_sh hp hg]
  have h1 : p / 2 ^ g < 2 ^ 32 := Nat.lt_of_le_of_lt (Nat.div_le_self _ _) (by omega)
  rw [pk_andN h1 1 (by decide)]
  congr 1
  rw [Nat.testBit_eq_decide_div_mod_eq]
  have : p / 2 ^ g % 2 < 2 := Nat.mod_lt _ (by decide)
  by_cases h : p / 2 ^ g % 2 = 1
  · simp [h]
  · have h0 : p / 2 ^ g % 2 = 0 := by omega
    simp [h0]
