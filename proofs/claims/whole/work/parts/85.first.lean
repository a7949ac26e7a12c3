/-! ===== the first world, printed by start.py ===== -/
/-- what the constructors leave -/
def w0 : en_W := fun k j =>
  if k = 0 then (if j = 7 then 20 else if j = 8 then 1 else if j = 9 then 99 else if j = 10 then 15 else 0)
  else if k = 3 then (if j = 3 then -1 else 0)
  else if k = 8 then (if j = 9 then -1 else 0)
  else if k = 20 then -1 else if k = 24 then 3 else if k = 25 then -1
  else if k = 26 then (if j = 0 then 20 else if j = 1 then 1 else if j = 2 then 99 else 15)
  else if 34 ≤ k ∧ k < 54 then (if k % 2 = 0 then 3 else -1)
  else if 54 ≤ k ∧ k % 2 = 0 then (if j = 1 then -1 else 0)
  else 0
abbrev cU5 : Type := (Nat → Nat) × (Nat → Nat → Int32)
abbrev cU6 : Type := (Nat → Nat) × (Nat → Int32) × (Nat → Int32) × (Nat → Int32)
/-- where each cell lies -/
def ad0 (b h5 h6 : Nat) (u5 : cU5) (u6 : cU6) (k : Nat) : Nat := if k = 0 then h5 else if k < 19 then u5.1 k else if k = 19 then h6 else if k < 34 then u6.1 (k - 19) else if k < 62 then u5.1 (k - 15) else b
def pos0 (k : Nat) : Nat := if k < 19 then k else if k < 34 then k + 28 else k - 15
abbrev ws0 (cA : Nat → ClassId) (h5 h6 : Nat) (u5 : cU5) (u6 : cU6) : va_W := cl_X5 cA h5 u5 ++ cl_X6 cA h6 u6
section
variable {D : va_G} {cA : Nat → ClassId} {b h5 h6 : Nat} {u5 : cU5} {u6 : cU6} {H : Heap}
theorem wd_0 (hP : va_P D vwCl (ws0 cA h5 h6 u5 u6) H) (p5 : ∀ r, r < 10 → ∀ j, j < 9 → u5.2 r j = -1) (p6 : (∀ j, j < 4 → u6.2.1 j = -1) ∧ (∀ j, j < 10 → u6.2.2.1 j = 3) ∧ ∀ j, j < 90 → u6.2.2.2 j = -1) : va_at D vwCl (ad0 b h5 h6 u5 u6 0, en_e cA (ad0 b h5 h6 u5 u6) (en_kd 0) (w0 0)) H := hP 0 _ rfl
theorem wd_1 (hP : va_P D vwCl (ws0 cA h5 h6 u5 u6) H) (p5 : ∀ r, r < 10 → ∀ j, j < 9 → u5.2 r j = -1) (p6 : (∀ j, j < 4 → u6.2.1 j = -1) ∧ (∀ j, j < 10 → u6.2.2.1 j = 3) ∧ ∀ j, j < 90 → u6.2.2.2 j = -1) : va_at D vwCl (ad0 b h5 h6 u5 u6 1, en_e cA (ad0 b h5 h6 u5 u6) (en_kd 1) (w0 1)) H := by
  show va_at D vwCl (ad0 b h5 h6 u5 u6 1, .inl (cA 1, 10, .inr (.inr (.inr (.inr (fun j => some (ad0 b h5 h6 u5 u6 (34 + 2 * j)))))))) H
  exact cn_at_q (hP 1 _ rfl) (fun j hj => by rcases (show j = 0 ∨ j = 1 ∨ j = 2 ∨ j = 3 ∨ j = 4 ∨ j = 5 ∨ j = 6 ∨ j = 7 ∨ j = 8 ∨ j = 9 by omega) with rfl | rfl | rfl | rfl | rfl | rfl | rfl | rfl | rfl | rfl <;> rfl)
theorem wd_2 (hP : va_P D vwCl (ws0 cA h5 h6 u5 u6) H) (p5 : ∀ r, r < 10 → ∀ j, j < 9 → u5.2 r j = -1) (p6 : (∀ j, j < 4 → u6.2.1 j = -1) ∧ (∀ j, j < 10 → u6.2.2.1 j = 3) ∧ ∀ j, j < 90 → u6.2.2.2 j = -1) : va_at D vwCl (ad0 b h5 h6 u5 u6 2, en_e cA (ad0 b h5 h6 u5 u6) (en_kd 2) (w0 2)) H := by
  show va_at D vwCl (ad0 b h5 h6 u5 u6 2, .inl (cA 2, 4, .inr (.inr (.inr (.inr (fun j => some (ad0 b h5 h6 u5 u6 (54 + 2 * j)))))))) H
  exact cn_at_q (hP 2 _ rfl) (fun j hj => by rcases (show j = 0 ∨ j = 1 ∨ j = 2 ∨ j = 3 by omega) with rfl | rfl | rfl | rfl <;> rfl)
theorem wd_3 (hP : va_P D vwCl (ws0 cA h5 h6 u5 u6) H) (p5 : ∀ r, r < 10 → ∀ j, j < 9 → u5.2 r j = -1) (p6 : (∀ j, j < 4 → u6.2.1 j = -1) ∧ (∀ j, j < 10 → u6.2.2.1 j = 3) ∧ ∀ j, j < 90 → u6.2.2.2 j = -1) : va_at D vwCl (ad0 b h5 h6 u5 u6 3, en_e cA (ad0 b h5 h6 u5 u6) (en_kd 3) (w0 3)) H := hP 3 _ rfl
theorem wd_4 (hP : va_P D vwCl (ws0 cA h5 h6 u5 u6) H) (p5 : ∀ r, r < 10 → ∀ j, j < 9 → u5.2 r j = -1) (p6 : (∀ j, j < 4 → u6.2.1 j = -1) ∧ (∀ j, j < 10 → u6.2.2.1 j = 3) ∧ ∀ j, j < 90 → u6.2.2.2 j = -1) : va_at D vwCl (ad0 b h5 h6 u5 u6 4, en_e cA (ad0 b h5 h6 u5 u6) (en_kd 4) (w0 4)) H := by
  show va_at D vwCl (ad0 b h5 h6 u5 u6 4, .inl (cA 0, 80, .inl (w0 4))) H
  exact cn_at_i (hP 4 _ rfl) (fun j hj => rfl)
theorem wd_5 (hP : va_P D vwCl (ws0 cA h5 h6 u5 u6) H) (p5 : ∀ r, r < 10 → ∀ j, j < 9 → u5.2 r j = -1) (p6 : (∀ j, j < 4 → u6.2.1 j = -1) ∧ (∀ j, j < 10 → u6.2.2.1 j = 3) ∧ ∀ j, j < 90 → u6.2.2.2 j = -1) : va_at D vwCl (ad0 b h5 h6 u5 u6 5, en_e cA (ad0 b h5 h6 u5 u6) (en_kd 5) (w0 5)) H := hP 5 _ rfl
theorem wd_6 (hP : va_P D vwCl (ws0 cA h5 h6 u5 u6) H) (p5 : ∀ r, r < 10 → ∀ j, j < 9 → u5.2 r j = -1) (p6 : (∀ j, j < 4 → u6.2.1 j = -1) ∧ (∀ j, j < 10 → u6.2.2.1 j = 3) ∧ ∀ j, j < 90 → u6.2.2.2 j = -1) : va_at D vwCl (ad0 b h5 h6 u5 u6 6, en_e cA (ad0 b h5 h6 u5 u6) (en_kd 6) (w0 6)) H := by
  show va_at D vwCl (ad0 b h5 h6 u5 u6 6, .inl (cA 0, 20, .inl (w0 6))) H
  exact cn_at_i (hP 6 _ rfl) (fun j hj => rfl)
theorem wd_7 (hP : va_P D vwCl (ws0 cA h5 h6 u5 u6) H) (p5 : ∀ r, r < 10 → ∀ j, j < 9 → u5.2 r j = -1) (p6 : (∀ j, j < 4 → u6.2.1 j = -1) ∧ (∀ j, j < 10 → u6.2.2.1 j = 3) ∧ ∀ j, j < 90 → u6.2.2.2 j = -1) : va_at D vwCl (ad0 b h5 h6 u5 u6 7, en_e cA (ad0 b h5 h6 u5 u6) (en_kd 7) (w0 7)) H := by
  show va_at D vwCl (ad0 b h5 h6 u5 u6 7, .inl (cA 0, 20, .inl (w0 7))) H
  exact cn_at_i (hP 7 _ rfl) (fun j hj => rfl)
theorem wd_8 (hP : va_P D vwCl (ws0 cA h5 h6 u5 u6) H) (p5 : ∀ r, r < 10 → ∀ j, j < 9 → u5.2 r j = -1) (p6 : (∀ j, j < 4 → u6.2.1 j = -1) ∧ (∀ j, j < 10 → u6.2.2.1 j = 3) ∧ ∀ j, j < 90 → u6.2.2.2 j = -1) : va_at D vwCl (ad0 b h5 h6 u5 u6 8, en_e cA (ad0 b h5 h6 u5 u6) (en_kd 8) (w0 8)) H := hP 8 _ rfl
theorem wd_9 (hP : va_P D vwCl (ws0 cA h5 h6 u5 u6) H) (p5 : ∀ r, r < 10 → ∀ j, j < 9 → u5.2 r j = -1) (p6 : (∀ j, j < 4 → u6.2.1 j = -1) ∧ (∀ j, j < 10 → u6.2.2.1 j = 3) ∧ ∀ j, j < 90 → u6.2.2.2 j = -1) : va_at D vwCl (ad0 b h5 h6 u5 u6 9, en_e cA (ad0 b h5 h6 u5 u6) (en_kd 9) (w0 9)) H := by
  show va_at D vwCl (ad0 b h5 h6 u5 u6 9, .inl (cA 0, 10, .inl (w0 9))) H
  exact cn_at_i (hP 9 _ rfl) (fun j hj => rfl)
theorem wd_10 (hP : va_P D vwCl (ws0 cA h5 h6 u5 u6) H) (p5 : ∀ r, r < 10 → ∀ j, j < 9 → u5.2 r j = -1) (p6 : (∀ j, j < 4 → u6.2.1 j = -1) ∧ (∀ j, j < 10 → u6.2.2.1 j = 3) ∧ ∀ j, j < 90 → u6.2.2.2 j = -1) : va_at D vwCl (ad0 b h5 h6 u5 u6 10, en_e cA (ad0 b h5 h6 u5 u6) (en_kd 10) (w0 10)) H := by
  show va_at D vwCl (ad0 b h5 h6 u5 u6 10, .inl (cA 0, 10, .inl (w0 10))) H
  exact cn_at_i (hP 10 _ rfl) (fun j hj => rfl)
theorem wd_11 (hP : va_P D vwCl (ws0 cA h5 h6 u5 u6) H) (p5 : ∀ r, r < 10 → ∀ j, j < 9 → u5.2 r j = -1) (p6 : (∀ j, j < 4 → u6.2.1 j = -1) ∧ (∀ j, j < 10 → u6.2.2.1 j = 3) ∧ ∀ j, j < 90 → u6.2.2.2 j = -1) : va_at D vwCl (ad0 b h5 h6 u5 u6 11, en_e cA (ad0 b h5 h6 u5 u6) (en_kd 11) (w0 11)) H := by
  show va_at D vwCl (ad0 b h5 h6 u5 u6 11, .inl (cA 0, 10, .inl (w0 11))) H
  exact cn_at_i (hP 11 _ rfl) (fun j hj => rfl)
theorem wd_12 (hP : va_P D vwCl (ws0 cA h5 h6 u5 u6) H) (p5 : ∀ r, r < 10 → ∀ j, j < 9 → u5.2 r j = -1) (p6 : (∀ j, j < 4 → u6.2.1 j = -1) ∧ (∀ j, j < 10 → u6.2.2.1 j = 3) ∧ ∀ j, j < 90 → u6.2.2.2 j = -1) : va_at D vwCl (ad0 b h5 h6 u5 u6 12, en_e cA (ad0 b h5 h6 u5 u6) (en_kd 12) (w0 12)) H := by
  show va_at D vwCl (ad0 b h5 h6 u5 u6 12, .inl (cA 0, 20, .inl (w0 12))) H
  exact cn_at_i (hP 12 _ rfl) (fun j hj => rfl)
theorem wd_13 (hP : va_P D vwCl (ws0 cA h5 h6 u5 u6) H) (p5 : ∀ r, r < 10 → ∀ j, j < 9 → u5.2 r j = -1) (p6 : (∀ j, j < 4 → u6.2.1 j = -1) ∧ (∀ j, j < 10 → u6.2.2.1 j = 3) ∧ ∀ j, j < 90 → u6.2.2.2 j = -1) : va_at D vwCl (ad0 b h5 h6 u5 u6 13, en_e cA (ad0 b h5 h6 u5 u6) (en_kd 13) (w0 13)) H := by
  show va_at D vwCl (ad0 b h5 h6 u5 u6 13, .inl (cA 0, 20, .inl (w0 13))) H
  exact cn_at_i (hP 13 _ rfl) (fun j hj => rfl)
theorem wd_14 (hP : va_P D vwCl (ws0 cA h5 h6 u5 u6) H) (p5 : ∀ r, r < 10 → ∀ j, j < 9 → u5.2 r j = -1) (p6 : (∀ j, j < 4 → u6.2.1 j = -1) ∧ (∀ j, j < 10 → u6.2.2.1 j = 3) ∧ ∀ j, j < 90 → u6.2.2.2 j = -1) : va_at D vwCl (ad0 b h5 h6 u5 u6 14, en_e cA (ad0 b h5 h6 u5 u6) (en_kd 14) (w0 14)) H := hP 14 _ rfl
theorem wd_15 (hP : va_P D vwCl (ws0 cA h5 h6 u5 u6) H) (p5 : ∀ r, r < 10 → ∀ j, j < 9 → u5.2 r j = -1) (p6 : (∀ j, j < 4 → u6.2.1 j = -1) ∧ (∀ j, j < 10 → u6.2.2.1 j = 3) ∧ ∀ j, j < 90 → u6.2.2.2 j = -1) : va_at D vwCl (ad0 b h5 h6 u5 u6 15, en_e cA (ad0 b h5 h6 u5 u6) (en_kd 15) (w0 15)) H := by
  show va_at D vwCl (ad0 b h5 h6 u5 u6 15, .inl (cA 0, 20, .inl (w0 15))) H
  exact cn_at_i (hP 15 _ rfl) (fun j hj => rfl)
theorem wd_16 (hP : va_P D vwCl (ws0 cA h5 h6 u5 u6) H) (p5 : ∀ r, r < 10 → ∀ j, j < 9 → u5.2 r j = -1) (p6 : (∀ j, j < 4 → u6.2.1 j = -1) ∧ (∀ j, j < 10 → u6.2.2.1 j = 3) ∧ ∀ j, j < 90 → u6.2.2.2 j = -1) : va_at D vwCl (ad0 b h5 h6 u5 u6 16, en_e cA (ad0 b h5 h6 u5 u6) (en_kd 16) (w0 16)) H := by
  show va_at D vwCl (ad0 b h5 h6 u5 u6 16, .inl (cA 0, 20, .inl (w0 16))) H
  exact cn_at_i (hP 16 _ rfl) (fun j hj => rfl)
theorem wd_17 (hP : va_P D vwCl (ws0 cA h5 h6 u5 u6) H) (p5 : ∀ r, r < 10 → ∀ j, j < 9 → u5.2 r j = -1) (p6 : (∀ j, j < 4 → u6.2.1 j = -1) ∧ (∀ j, j < 10 → u6.2.2.1 j = 3) ∧ ∀ j, j < 90 → u6.2.2.2 j = -1) : va_at D vwCl (ad0 b h5 h6 u5 u6 17, en_e cA (ad0 b h5 h6 u5 u6) (en_kd 17) (w0 17)) H := by
  show va_at D vwCl (ad0 b h5 h6 u5 u6 17, .inl (cA 0, 8, .inl (w0 17))) H
  exact cn_at_i (hP 17 _ rfl) (fun j hj => rfl)
theorem wd_18 (hP : va_P D vwCl (ws0 cA h5 h6 u5 u6) H) (p5 : ∀ r, r < 10 → ∀ j, j < 9 → u5.2 r j = -1) (p6 : (∀ j, j < 4 → u6.2.1 j = -1) ∧ (∀ j, j < 10 → u6.2.2.1 j = 3) ∧ ∀ j, j < 90 → u6.2.2.2 j = -1) : va_at D vwCl (ad0 b h5 h6 u5 u6 18, en_e cA (ad0 b h5 h6 u5 u6) (en_kd 18) (w0 18)) H := by
  show va_at D vwCl (ad0 b h5 h6 u5 u6 18, .inl (cA 0, 8, .inl (w0 18))) H
  exact cn_at_i (hP 18 _ rfl) (fun j hj => rfl)
theorem wd_19 (hP : va_P D vwCl (ws0 cA h5 h6 u5 u6) H) (p5 : ∀ r, r < 10 → ∀ j, j < 9 → u5.2 r j = -1) (p6 : (∀ j, j < 4 → u6.2.1 j = -1) ∧ (∀ j, j < 10 → u6.2.2.1 j = 3) ∧ ∀ j, j < 90 → u6.2.2.2 j = -1) : va_at D vwCl (ad0 b h5 h6 u5 u6 19, en_e cA (ad0 b h5 h6 u5 u6) (en_kd 19) (w0 19)) H := hP 47 _ rfl
theorem wd_20 (hP : va_P D vwCl (ws0 cA h5 h6 u5 u6) H) (p5 : ∀ r, r < 10 → ∀ j, j < 9 → u5.2 r j = -1) (p6 : (∀ j, j < 4 → u6.2.1 j = -1) ∧ (∀ j, j < 10 → u6.2.2.1 j = 3) ∧ ∀ j, j < 90 → u6.2.2.2 j = -1) : va_at D vwCl (ad0 b h5 h6 u5 u6 20, en_e cA (ad0 b h5 h6 u5 u6) (en_kd 20) (w0 20)) H := by
  show va_at D vwCl (ad0 b h5 h6 u5 u6 20, .inl (cA 0, 4, .inl (w0 20))) H
  exact cn_at_i (hP 48 _ rfl) (fun j hj => p6.1 j hj)
theorem wd_21 (hP : va_P D vwCl (ws0 cA h5 h6 u5 u6) H) (p5 : ∀ r, r < 10 → ∀ j, j < 9 → u5.2 r j = -1) (p6 : (∀ j, j < 4 → u6.2.1 j = -1) ∧ (∀ j, j < 10 → u6.2.2.1 j = 3) ∧ ∀ j, j < 90 → u6.2.2.2 j = -1) : va_at D vwCl (ad0 b h5 h6 u5 u6 21, en_e cA (ad0 b h5 h6 u5 u6) (en_kd 21) (w0 21)) H := by
  show va_at D vwCl (ad0 b h5 h6 u5 u6 21, .inl (cA 0, 4, .inl (w0 21))) H
  exact cn_at_i (hP 49 _ rfl) (fun j hj => rfl)
theorem wd_22 (hP : va_P D vwCl (ws0 cA h5 h6 u5 u6) H) (p5 : ∀ r, r < 10 → ∀ j, j < 9 → u5.2 r j = -1) (p6 : (∀ j, j < 4 → u6.2.1 j = -1) ∧ (∀ j, j < 10 → u6.2.2.1 j = 3) ∧ ∀ j, j < 90 → u6.2.2.2 j = -1) : va_at D vwCl (ad0 b h5 h6 u5 u6 22, en_e cA (ad0 b h5 h6 u5 u6) (en_kd 22) (w0 22)) H := by
  show va_at D vwCl (ad0 b h5 h6 u5 u6 22, .inl (cA 0, 240, .inl (w0 22))) H
  exact cn_at_i (hP 50 _ rfl) (fun j hj => rfl)
theorem wd_23 (hP : va_P D vwCl (ws0 cA h5 h6 u5 u6) H) (p5 : ∀ r, r < 10 → ∀ j, j < 9 → u5.2 r j = -1) (p6 : (∀ j, j < 4 → u6.2.1 j = -1) ∧ (∀ j, j < 10 → u6.2.2.1 j = 3) ∧ ∀ j, j < 90 → u6.2.2.2 j = -1) : va_at D vwCl (ad0 b h5 h6 u5 u6 23, en_e cA (ad0 b h5 h6 u5 u6) (en_kd 23) (w0 23)) H := by
  show va_at D vwCl (ad0 b h5 h6 u5 u6 23, .inl (cA 0, 60, .inl (w0 23))) H
  exact cn_at_i (hP 51 _ rfl) (fun j hj => rfl)
theorem wd_24 (hP : va_P D vwCl (ws0 cA h5 h6 u5 u6) H) (p5 : ∀ r, r < 10 → ∀ j, j < 9 → u5.2 r j = -1) (p6 : (∀ j, j < 4 → u6.2.1 j = -1) ∧ (∀ j, j < 10 → u6.2.2.1 j = 3) ∧ ∀ j, j < 90 → u6.2.2.2 j = -1) : va_at D vwCl (ad0 b h5 h6 u5 u6 24, en_e cA (ad0 b h5 h6 u5 u6) (en_kd 24) (w0 24)) H := by
  show va_at D vwCl (ad0 b h5 h6 u5 u6 24, .inl (cA 0, 10, .inl (w0 24))) H
  exact cn_at_i (hP 52 _ rfl) (fun j hj => p6.2.1 j hj)
theorem wd_25 (hP : va_P D vwCl (ws0 cA h5 h6 u5 u6) H) (p5 : ∀ r, r < 10 → ∀ j, j < 9 → u5.2 r j = -1) (p6 : (∀ j, j < 4 → u6.2.1 j = -1) ∧ (∀ j, j < 10 → u6.2.2.1 j = 3) ∧ ∀ j, j < 90 → u6.2.2.2 j = -1) : va_at D vwCl (ad0 b h5 h6 u5 u6 25, en_e cA (ad0 b h5 h6 u5 u6) (en_kd 25) (w0 25)) H := by
  show va_at D vwCl (ad0 b h5 h6 u5 u6 25, .inl (cA 0, 90, .inl (w0 25))) H
  exact cn_at_i (hP 53 _ rfl) (fun j hj => p6.2.2 j hj)
theorem wd_26 (hP : va_P D vwCl (ws0 cA h5 h6 u5 u6) H) (p5 : ∀ r, r < 10 → ∀ j, j < 9 → u5.2 r j = -1) (p6 : (∀ j, j < 4 → u6.2.1 j = -1) ∧ (∀ j, j < 10 → u6.2.2.1 j = 3) ∧ ∀ j, j < 90 → u6.2.2.2 j = -1) : va_at D vwCl (ad0 b h5 h6 u5 u6 26, en_e cA (ad0 b h5 h6 u5 u6) (en_kd 26) (w0 26)) H := by
  show va_at D vwCl (ad0 b h5 h6 u5 u6 26, .inl (cA 0, 4, .inl (w0 26))) H
  exact cn_at_i (hP 54 _ rfl) (fun j hj => by rcases (show j = 0 ∨ j = 1 ∨ j = 2 ∨ j = 3 by omega) with rfl | rfl | rfl | rfl <;> rfl)
theorem wd_27 (hP : va_P D vwCl (ws0 cA h5 h6 u5 u6) H) (p5 : ∀ r, r < 10 → ∀ j, j < 9 → u5.2 r j = -1) (p6 : (∀ j, j < 4 → u6.2.1 j = -1) ∧ (∀ j, j < 10 → u6.2.2.1 j = 3) ∧ ∀ j, j < 90 → u6.2.2.2 j = -1) : va_at D vwCl (ad0 b h5 h6 u5 u6 27, en_e cA (ad0 b h5 h6 u5 u6) (en_kd 27) (w0 27)) H := by
  show va_at D vwCl (ad0 b h5 h6 u5 u6 27, .inl (cA 0, 80, .inl (w0 27))) H
  exact cn_at_i (hP 55 _ rfl) (fun j hj => rfl)
theorem wd_28 (hP : va_P D vwCl (ws0 cA h5 h6 u5 u6) H) (p5 : ∀ r, r < 10 → ∀ j, j < 9 → u5.2 r j = -1) (p6 : (∀ j, j < 4 → u6.2.1 j = -1) ∧ (∀ j, j < 10 → u6.2.2.1 j = 3) ∧ ∀ j, j < 90 → u6.2.2.2 j = -1) : va_at D vwCl (ad0 b h5 h6 u5 u6 28, en_e cA (ad0 b h5 h6 u5 u6) (en_kd 28) (w0 28)) H := by
  show va_at D vwCl (ad0 b h5 h6 u5 u6 28, .inl (cA 0, 44, .inl (w0 28))) H
  exact cn_at_i (hP 56 _ rfl) (fun j hj => rfl)
theorem wd_29 (hP : va_P D vwCl (ws0 cA h5 h6 u5 u6) H) (p5 : ∀ r, r < 10 → ∀ j, j < 9 → u5.2 r j = -1) (p6 : (∀ j, j < 4 → u6.2.1 j = -1) ∧ (∀ j, j < 10 → u6.2.2.1 j = 3) ∧ ∀ j, j < 90 → u6.2.2.2 j = -1) : va_at D vwCl (ad0 b h5 h6 u5 u6 29, en_e cA (ad0 b h5 h6 u5 u6) (en_kd 29) (w0 29)) H := by
  show va_at D vwCl (ad0 b h5 h6 u5 u6 29, .inl (cA 0, 22, .inl (w0 29))) H
  exact cn_at_i (hP 57 _ rfl) (fun j hj => rfl)
theorem wd_30 (hP : va_P D vwCl (ws0 cA h5 h6 u5 u6) H) (p5 : ∀ r, r < 10 → ∀ j, j < 9 → u5.2 r j = -1) (p6 : (∀ j, j < 4 → u6.2.1 j = -1) ∧ (∀ j, j < 10 → u6.2.2.1 j = 3) ∧ ∀ j, j < 90 → u6.2.2.2 j = -1) : va_at D vwCl (ad0 b h5 h6 u5 u6 30, en_e cA (ad0 b h5 h6 u5 u6) (en_kd 30) (w0 30)) H := by
  show va_at D vwCl (ad0 b h5 h6 u5 u6 30, .inl (cA 0, 22, .inl (w0 30))) H
  exact cn_at_i (hP 58 _ rfl) (fun j hj => rfl)
theorem wd_31 (hP : va_P D vwCl (ws0 cA h5 h6 u5 u6) H) (p5 : ∀ r, r < 10 → ∀ j, j < 9 → u5.2 r j = -1) (p6 : (∀ j, j < 4 → u6.2.1 j = -1) ∧ (∀ j, j < 10 → u6.2.2.1 j = 3) ∧ ∀ j, j < 90 → u6.2.2.2 j = -1) : va_at D vwCl (ad0 b h5 h6 u5 u6 31, en_e cA (ad0 b h5 h6 u5 u6) (en_kd 31) (w0 31)) H := by
  show va_at D vwCl (ad0 b h5 h6 u5 u6 31, .inl (cA 0, 200, .inl (w0 31))) H
  exact cn_at_i (hP 59 _ rfl) (fun j hj => rfl)
theorem wd_32 (hP : va_P D vwCl (ws0 cA h5 h6 u5 u6) H) (p5 : ∀ r, r < 10 → ∀ j, j < 9 → u5.2 r j = -1) (p6 : (∀ j, j < 4 → u6.2.1 j = -1) ∧ (∀ j, j < 10 → u6.2.2.1 j = 3) ∧ ∀ j, j < 90 → u6.2.2.2 j = -1) : va_at D vwCl (ad0 b h5 h6 u5 u6 32, en_e cA (ad0 b h5 h6 u5 u6) (en_kd 32) (w0 32)) H := by
  show va_at D vwCl (ad0 b h5 h6 u5 u6 32, .inl (cA 0, 10, .inl (w0 32))) H
  exact cn_at_i (hP 60 _ rfl) (fun j hj => rfl)
theorem wd_33 (hP : va_P D vwCl (ws0 cA h5 h6 u5 u6) H) (p5 : ∀ r, r < 10 → ∀ j, j < 9 → u5.2 r j = -1) (p6 : (∀ j, j < 4 → u6.2.1 j = -1) ∧ (∀ j, j < 10 → u6.2.2.1 j = 3) ∧ ∀ j, j < 90 → u6.2.2.2 j = -1) : va_at D vwCl (ad0 b h5 h6 u5 u6 33, en_e cA (ad0 b h5 h6 u5 u6) (en_kd 33) (w0 33)) H := by
  show va_at D vwCl (ad0 b h5 h6 u5 u6 33, .inl (cA 0, 16, .inl (w0 33))) H
  exact cn_at_i (hP 61 _ rfl) (fun j hj => rfl)
theorem wd_34 (hP : va_P D vwCl (ws0 cA h5 h6 u5 u6) H) (p5 : ∀ r, r < 10 → ∀ j, j < 9 → u5.2 r j = -1) (p6 : (∀ j, j < 4 → u6.2.1 j = -1) ∧ (∀ j, j < 10 → u6.2.2.1 j = 3) ∧ ∀ j, j < 90 → u6.2.2.2 j = -1) : va_at D vwCl (ad0 b h5 h6 u5 u6 34, en_e cA (ad0 b h5 h6 u5 u6) (en_kd 34) (w0 34)) H := hP 19 _ rfl
theorem wd_35 (hP : va_P D vwCl (ws0 cA h5 h6 u5 u6) H) (p5 : ∀ r, r < 10 → ∀ j, j < 9 → u5.2 r j = -1) (p6 : (∀ j, j < 4 → u6.2.1 j = -1) ∧ (∀ j, j < 10 → u6.2.2.1 j = 3) ∧ ∀ j, j < 90 → u6.2.2.2 j = -1) : va_at D vwCl (ad0 b h5 h6 u5 u6 35, en_e cA (ad0 b h5 h6 u5 u6) (en_kd 35) (w0 35)) H := by
  show va_at D vwCl (ad0 b h5 h6 u5 u6 35, .inl (cA 0, 9, .inl (w0 35))) H
  exact cn_at_i (hP 20 _ rfl) (fun j hj => p5 0 (by decide) j hj)
theorem wd_36 (hP : va_P D vwCl (ws0 cA h5 h6 u5 u6) H) (p5 : ∀ r, r < 10 → ∀ j, j < 9 → u5.2 r j = -1) (p6 : (∀ j, j < 4 → u6.2.1 j = -1) ∧ (∀ j, j < 10 → u6.2.2.1 j = 3) ∧ ∀ j, j < 90 → u6.2.2.2 j = -1) : va_at D vwCl (ad0 b h5 h6 u5 u6 36, en_e cA (ad0 b h5 h6 u5 u6) (en_kd 36) (w0 36)) H := hP 21 _ rfl
theorem wd_37 (hP : va_P D vwCl (ws0 cA h5 h6 u5 u6) H) (p5 : ∀ r, r < 10 → ∀ j, j < 9 → u5.2 r j = -1) (p6 : (∀ j, j < 4 → u6.2.1 j = -1) ∧ (∀ j, j < 10 → u6.2.2.1 j = 3) ∧ ∀ j, j < 90 → u6.2.2.2 j = -1) : va_at D vwCl (ad0 b h5 h6 u5 u6 37, en_e cA (ad0 b h5 h6 u5 u6) (en_kd 37) (w0 37)) H := by
  show va_at D vwCl (ad0 b h5 h6 u5 u6 37, .inl (cA 0, 9, .inl (w0 37))) H
  exact cn_at_i (hP 22 _ rfl) (fun j hj => p5 1 (by decide) j hj)
theorem wd_38 (hP : va_P D vwCl (ws0 cA h5 h6 u5 u6) H) (p5 : ∀ r, r < 10 → ∀ j, j < 9 → u5.2 r j = -1) (p6 : (∀ j, j < 4 → u6.2.1 j = -1) ∧ (∀ j, j < 10 → u6.2.2.1 j = 3) ∧ ∀ j, j < 90 → u6.2.2.2 j = -1) : va_at D vwCl (ad0 b h5 h6 u5 u6 38, en_e cA (ad0 b h5 h6 u5 u6) (en_kd 38) (w0 38)) H := hP 23 _ rfl
theorem wd_39 (hP : va_P D vwCl (ws0 cA h5 h6 u5 u6) H) (p5 : ∀ r, r < 10 → ∀ j, j < 9 → u5.2 r j = -1) (p6 : (∀ j, j < 4 → u6.2.1 j = -1) ∧ (∀ j, j < 10 → u6.2.2.1 j = 3) ∧ ∀ j, j < 90 → u6.2.2.2 j = -1) : va_at D vwCl (ad0 b h5 h6 u5 u6 39, en_e cA (ad0 b h5 h6 u5 u6) (en_kd 39) (w0 39)) H := by
  show va_at D vwCl (ad0 b h5 h6 u5 u6 39, .inl (cA 0, 9, .inl (w0 39))) H
  exact cn_at_i (hP 24 _ rfl) (fun j hj => p5 2 (by decide) j hj)
theorem wd_40 (hP : va_P D vwCl (ws0 cA h5 h6 u5 u6) H) (p5 : ∀ r, r < 10 → ∀ j, j < 9 → u5.2 r j = -1) (p6 : (∀ j, j < 4 → u6.2.1 j = -1) ∧ (∀ j, j < 10 → u6.2.2.1 j = 3) ∧ ∀ j, j < 90 → u6.2.2.2 j = -1) : va_at D vwCl (ad0 b h5 h6 u5 u6 40, en_e cA (ad0 b h5 h6 u5 u6) (en_kd 40) (w0 40)) H := hP 25 _ rfl
theorem wd_41 (hP : va_P D vwCl (ws0 cA h5 h6 u5 u6) H) (p5 : ∀ r, r < 10 → ∀ j, j < 9 → u5.2 r j = -1) (p6 : (∀ j, j < 4 → u6.2.1 j = -1) ∧ (∀ j, j < 10 → u6.2.2.1 j = 3) ∧ ∀ j, j < 90 → u6.2.2.2 j = -1) : va_at D vwCl (ad0 b h5 h6 u5 u6 41, en_e cA (ad0 b h5 h6 u5 u6) (en_kd 41) (w0 41)) H := by
  show va_at D vwCl (ad0 b h5 h6 u5 u6 41, .inl (cA 0, 9, .inl (w0 41))) H
  exact cn_at_i (hP 26 _ rfl) (fun j hj => p5 3 (by decide) j hj)
theorem wd_42 (hP : va_P D vwCl (ws0 cA h5 h6 u5 u6) H) (p5 : ∀ r, r < 10 → ∀ j, j < 9 → u5.2 r j = -1) (p6 : (∀ j, j < 4 → u6.2.1 j = -1) ∧ (∀ j, j < 10 → u6.2.2.1 j = 3) ∧ ∀ j, j < 90 → u6.2.2.2 j = -1) : va_at D vwCl (ad0 b h5 h6 u5 u6 42, en_e cA (ad0 b h5 h6 u5 u6) (en_kd 42) (w0 42)) H := hP 27 _ rfl
theorem wd_43 (hP : va_P D vwCl (ws0 cA h5 h6 u5 u6) H) (p5 : ∀ r, r < 10 → ∀ j, j < 9 → u5.2 r j = -1) (p6 : (∀ j, j < 4 → u6.2.1 j = -1) ∧ (∀ j, j < 10 → u6.2.2.1 j = 3) ∧ ∀ j, j < 90 → u6.2.2.2 j = -1) : va_at D vwCl (ad0 b h5 h6 u5 u6 43, en_e cA (ad0 b h5 h6 u5 u6) (en_kd 43) (w0 43)) H := by
  show va_at D vwCl (ad0 b h5 h6 u5 u6 43, .inl (cA 0, 9, .inl (w0 43))) H
  exact cn_at_i (hP 28 _ rfl) (fun j hj => p5 4 (by decide) j hj)
theorem wd_44 (hP : va_P D vwCl (ws0 cA h5 h6 u5 u6) H) (p5 : ∀ r, r < 10 → ∀ j, j < 9 → u5.2 r j = -1) (p6 : (∀ j, j < 4 → u6.2.1 j = -1) ∧ (∀ j, j < 10 → u6.2.2.1 j = 3) ∧ ∀ j, j < 90 → u6.2.2.2 j = -1) : va_at D vwCl (ad0 b h5 h6 u5 u6 44, en_e cA (ad0 b h5 h6 u5 u6) (en_kd 44) (w0 44)) H := hP 29 _ rfl
theorem wd_45 (hP : va_P D vwCl (ws0 cA h5 h6 u5 u6) H) (p5 : ∀ r, r < 10 → ∀ j, j < 9 → u5.2 r j = -1) (p6 : (∀ j, j < 4 → u6.2.1 j = -1) ∧ (∀ j, j < 10 → u6.2.2.1 j = 3) ∧ ∀ j, j < 90 → u6.2.2.2 j = -1) : va_at D vwCl (ad0 b h5 h6 u5 u6 45, en_e cA (ad0 b h5 h6 u5 u6) (en_kd 45) (w0 45)) H := by
  show va_at D vwCl (ad0 b h5 h6 u5 u6 45, .inl (cA 0, 9, .inl (w0 45))) H
  exact cn_at_i (hP 30 _ rfl) (fun j hj => p5 5 (by decide) j hj)
theorem wd_46 (hP : va_P D vwCl (ws0 cA h5 h6 u5 u6) H) (p5 : ∀ r, r < 10 → ∀ j, j < 9 → u5.2 r j = -1) (p6 : (∀ j, j < 4 → u6.2.1 j = -1) ∧ (∀ j, j < 10 → u6.2.2.1 j = 3) ∧ ∀ j, j < 90 → u6.2.2.2 j = -1) : va_at D vwCl (ad0 b h5 h6 u5 u6 46, en_e cA (ad0 b h5 h6 u5 u6) (en_kd 46) (w0 46)) H := hP 31 _ rfl
theorem wd_47 (hP : va_P D vwCl (ws0 cA h5 h6 u5 u6) H) (p5 : ∀ r, r < 10 → ∀ j, j < 9 → u5.2 r j = -1) (p6 : (∀ j, j < 4 → u6.2.1 j = -1) ∧ (∀ j, j < 10 → u6.2.2.1 j = 3) ∧ ∀ j, j < 90 → u6.2.2.2 j = -1) : va_at D vwCl (ad0 b h5 h6 u5 u6 47, en_e cA (ad0 b h5 h6 u5 u6) (en_kd 47) (w0 47)) H := by
  show va_at D vwCl (ad0 b h5 h6 u5 u6 47, .inl (cA 0, 9, .inl (w0 47))) H
  exact cn_at_i (hP 32 _ rfl) (fun j hj => p5 6 (by decide) j hj)
theorem wd_48 (hP : va_P D vwCl (ws0 cA h5 h6 u5 u6) H) (p5 : ∀ r, r < 10 → ∀ j, j < 9 → u5.2 r j = -1) (p6 : (∀ j, j < 4 → u6.2.1 j = -1) ∧ (∀ j, j < 10 → u6.2.2.1 j = 3) ∧ ∀ j, j < 90 → u6.2.2.2 j = -1) : va_at D vwCl (ad0 b h5 h6 u5 u6 48, en_e cA (ad0 b h5 h6 u5 u6) (en_kd 48) (w0 48)) H := hP 33 _ rfl
theorem wd_49 (hP : va_P D vwCl (ws0 cA h5 h6 u5 u6) H) (p5 : ∀ r, r < 10 → ∀ j, j < 9 → u5.2 r j = -1) (p6 : (∀ j, j < 4 → u6.2.1 j = -1) ∧ (∀ j, j < 10 → u6.2.2.1 j = 3) ∧ ∀ j, j < 90 → u6.2.2.2 j = -1) : va_at D vwCl (ad0 b h5 h6 u5 u6 49, en_e cA (ad0 b h5 h6 u5 u6) (en_kd 49) (w0 49)) H := by
  show va_at D vwCl (ad0 b h5 h6 u5 u6 49, .inl (cA 0, 9, .inl (w0 49))) H
  exact cn_at_i (hP 34 _ rfl) (fun j hj => p5 7 (by decide) j hj)
theorem wd_50 (hP : va_P D vwCl (ws0 cA h5 h6 u5 u6) H) (p5 : ∀ r, r < 10 → ∀ j, j < 9 → u5.2 r j = -1) (p6 : (∀ j, j < 4 → u6.2.1 j = -1) ∧ (∀ j, j < 10 → u6.2.2.1 j = 3) ∧ ∀ j, j < 90 → u6.2.2.2 j = -1) : va_at D vwCl (ad0 b h5 h6 u5 u6 50, en_e cA (ad0 b h5 h6 u5 u6) (en_kd 50) (w0 50)) H := hP 35 _ rfl
theorem wd_51 (hP : va_P D vwCl (ws0 cA h5 h6 u5 u6) H) (p5 : ∀ r, r < 10 → ∀ j, j < 9 → u5.2 r j = -1) (p6 : (∀ j, j < 4 → u6.2.1 j = -1) ∧ (∀ j, j < 10 → u6.2.2.1 j = 3) ∧ ∀ j, j < 90 → u6.2.2.2 j = -1) : va_at D vwCl (ad0 b h5 h6 u5 u6 51, en_e cA (ad0 b h5 h6 u5 u6) (en_kd 51) (w0 51)) H := by
  show va_at D vwCl (ad0 b h5 h6 u5 u6 51, .inl (cA 0, 9, .inl (w0 51))) H
  exact cn_at_i (hP 36 _ rfl) (fun j hj => p5 8 (by decide) j hj)
theorem wd_52 (hP : va_P D vwCl (ws0 cA h5 h6 u5 u6) H) (p5 : ∀ r, r < 10 → ∀ j, j < 9 → u5.2 r j = -1) (p6 : (∀ j, j < 4 → u6.2.1 j = -1) ∧ (∀ j, j < 10 → u6.2.2.1 j = 3) ∧ ∀ j, j < 90 → u6.2.2.2 j = -1) : va_at D vwCl (ad0 b h5 h6 u5 u6 52, en_e cA (ad0 b h5 h6 u5 u6) (en_kd 52) (w0 52)) H := hP 37 _ rfl
theorem wd_53 (hP : va_P D vwCl (ws0 cA h5 h6 u5 u6) H) (p5 : ∀ r, r < 10 → ∀ j, j < 9 → u5.2 r j = -1) (p6 : (∀ j, j < 4 → u6.2.1 j = -1) ∧ (∀ j, j < 10 → u6.2.2.1 j = 3) ∧ ∀ j, j < 90 → u6.2.2.2 j = -1) : va_at D vwCl (ad0 b h5 h6 u5 u6 53, en_e cA (ad0 b h5 h6 u5 u6) (en_kd 53) (w0 53)) H := by
  show va_at D vwCl (ad0 b h5 h6 u5 u6 53, .inl (cA 0, 9, .inl (w0 53))) H
  exact cn_at_i (hP 38 _ rfl) (fun j hj => p5 9 (by decide) j hj)
theorem wd_54 (hP : va_P D vwCl (ws0 cA h5 h6 u5 u6) H) (p5 : ∀ r, r < 10 → ∀ j, j < 9 → u5.2 r j = -1) (p6 : (∀ j, j < 4 → u6.2.1 j = -1) ∧ (∀ j, j < 10 → u6.2.2.1 j = 3) ∧ ∀ j, j < 90 → u6.2.2.2 j = -1) : va_at D vwCl (ad0 b h5 h6 u5 u6 54, en_e cA (ad0 b h5 h6 u5 u6) (en_kd 54) (w0 54)) H := hP 39 _ rfl
theorem wd_55 (hP : va_P D vwCl (ws0 cA h5 h6 u5 u6) H) (p5 : ∀ r, r < 10 → ∀ j, j < 9 → u5.2 r j = -1) (p6 : (∀ j, j < 4 → u6.2.1 j = -1) ∧ (∀ j, j < 10 → u6.2.2.1 j = 3) ∧ ∀ j, j < 90 → u6.2.2.2 j = -1) : va_at D vwCl (ad0 b h5 h6 u5 u6 55, en_e cA (ad0 b h5 h6 u5 u6) (en_kd 55) (w0 55)) H := by
  show va_at D vwCl (ad0 b h5 h6 u5 u6 55, .inl (cA 0, 60, .inl (w0 55))) H
  exact cn_at_i (hP 40 _ rfl) (fun j hj => rfl)
theorem wd_56 (hP : va_P D vwCl (ws0 cA h5 h6 u5 u6) H) (p5 : ∀ r, r < 10 → ∀ j, j < 9 → u5.2 r j = -1) (p6 : (∀ j, j < 4 → u6.2.1 j = -1) ∧ (∀ j, j < 10 → u6.2.2.1 j = 3) ∧ ∀ j, j < 90 → u6.2.2.2 j = -1) : va_at D vwCl (ad0 b h5 h6 u5 u6 56, en_e cA (ad0 b h5 h6 u5 u6) (en_kd 56) (w0 56)) H := hP 41 _ rfl
theorem wd_57 (hP : va_P D vwCl (ws0 cA h5 h6 u5 u6) H) (p5 : ∀ r, r < 10 → ∀ j, j < 9 → u5.2 r j = -1) (p6 : (∀ j, j < 4 → u6.2.1 j = -1) ∧ (∀ j, j < 10 → u6.2.2.1 j = 3) ∧ ∀ j, j < 90 → u6.2.2.2 j = -1) : va_at D vwCl (ad0 b h5 h6 u5 u6 57, en_e cA (ad0 b h5 h6 u5 u6) (en_kd 57) (w0 57)) H := by
  show va_at D vwCl (ad0 b h5 h6 u5 u6 57, .inl (cA 0, 60, .inl (w0 57))) H
  exact cn_at_i (hP 42 _ rfl) (fun j hj => rfl)
theorem wd_58 (hP : va_P D vwCl (ws0 cA h5 h6 u5 u6) H) (p5 : ∀ r, r < 10 → ∀ j, j < 9 → u5.2 r j = -1) (p6 : (∀ j, j < 4 → u6.2.1 j = -1) ∧ (∀ j, j < 10 → u6.2.2.1 j = 3) ∧ ∀ j, j < 90 → u6.2.2.2 j = -1) : va_at D vwCl (ad0 b h5 h6 u5 u6 58, en_e cA (ad0 b h5 h6 u5 u6) (en_kd 58) (w0 58)) H := hP 43 _ rfl
theorem wd_59 (hP : va_P D vwCl (ws0 cA h5 h6 u5 u6) H) (p5 : ∀ r, r < 10 → ∀ j, j < 9 → u5.2 r j = -1) (p6 : (∀ j, j < 4 → u6.2.1 j = -1) ∧ (∀ j, j < 10 → u6.2.2.1 j = 3) ∧ ∀ j, j < 90 → u6.2.2.2 j = -1) : va_at D vwCl (ad0 b h5 h6 u5 u6 59, en_e cA (ad0 b h5 h6 u5 u6) (en_kd 59) (w0 59)) H := by
  show va_at D vwCl (ad0 b h5 h6 u5 u6 59, .inl (cA 0, 60, .inl (w0 59))) H
  exact cn_at_i (hP 44 _ rfl) (fun j hj => rfl)
theorem wd_60 (hP : va_P D vwCl (ws0 cA h5 h6 u5 u6) H) (p5 : ∀ r, r < 10 → ∀ j, j < 9 → u5.2 r j = -1) (p6 : (∀ j, j < 4 → u6.2.1 j = -1) ∧ (∀ j, j < 10 → u6.2.2.1 j = 3) ∧ ∀ j, j < 90 → u6.2.2.2 j = -1) : va_at D vwCl (ad0 b h5 h6 u5 u6 60, en_e cA (ad0 b h5 h6 u5 u6) (en_kd 60) (w0 60)) H := hP 45 _ rfl
theorem wd_61 (hP : va_P D vwCl (ws0 cA h5 h6 u5 u6) H) (p5 : ∀ r, r < 10 → ∀ j, j < 9 → u5.2 r j = -1) (p6 : (∀ j, j < 4 → u6.2.1 j = -1) ∧ (∀ j, j < 10 → u6.2.2.1 j = 3) ∧ ∀ j, j < 90 → u6.2.2.2 j = -1) : va_at D vwCl (ad0 b h5 h6 u5 u6 61, en_e cA (ad0 b h5 h6 u5 u6) (en_kd 61) (w0 61)) H := by
  show va_at D vwCl (ad0 b h5 h6 u5 u6 61, .inl (cA 0, 60, .inl (w0 61))) H
  exact cn_at_i (hP 46 _ rfl) (fun j hj => rfl)
theorem wd_all (hP : va_P D vwCl (ws0 cA h5 h6 u5 u6) H) (p5 : ∀ r, r < 10 → ∀ j, j < 9 → u5.2 r j = -1) (p6 : (∀ j, j < 4 → u6.2.1 j = -1) ∧ (∀ j, j < 10 → u6.2.2.1 j = 3) ∧ ∀ j, j < 90 → u6.2.2.2 j = -1) : ∀ k, k < 62 → va_at D vwCl (ad0 b h5 h6 u5 u6 k, en_e cA (ad0 b h5 h6 u5 u6) (en_kd k) (w0 k)) H
  | 0, _ => wd_0 hP p5 p6
  | 1, _ => wd_1 hP p5 p6
  | 2, _ => wd_2 hP p5 p6
  | 3, _ => wd_3 hP p5 p6
  | 4, _ => wd_4 hP p5 p6
  | 5, _ => wd_5 hP p5 p6
  | 6, _ => wd_6 hP p5 p6
  | 7, _ => wd_7 hP p5 p6
  | 8, _ => wd_8 hP p5 p6
  | 9, _ => wd_9 hP p5 p6
  | 10, _ => wd_10 hP p5 p6
  | 11, _ => wd_11 hP p5 p6
  | 12, _ => wd_12 hP p5 p6
  | 13, _ => wd_13 hP p5 p6
  | 14, _ => wd_14 hP p5 p6
  | 15, _ => wd_15 hP p5 p6
  | 16, _ => wd_16 hP p5 p6
  | 17, _ => wd_17 hP p5 p6
  | 18, _ => wd_18 hP p5 p6
  | 19, _ => wd_19 hP p5 p6
  | 20, _ => wd_20 hP p5 p6
  | 21, _ => wd_21 hP p5 p6
  | 22, _ => wd_22 hP p5 p6
  | 23, _ => wd_23 hP p5 p6
  | 24, _ => wd_24 hP p5 p6
  | 25, _ => wd_25 hP p5 p6
  | 26, _ => wd_26 hP p5 p6
  | 27, _ => wd_27 hP p5 p6
  | 28, _ => wd_28 hP p5 p6
  | 29, _ => wd_29 hP p5 p6
  | 30, _ => wd_30 hP p5 p6
  | 31, _ => wd_31 hP p5 p6
  | 32, _ => wd_32 hP p5 p6
  | 33, _ => wd_33 hP p5 p6
  | 34, _ => wd_34 hP p5 p6
  | 35, _ => wd_35 hP p5 p6
  | 36, _ => wd_36 hP p5 p6
  | 37, _ => wd_37 hP p5 p6
  | 38, _ => wd_38 hP p5 p6
  | 39, _ => wd_39 hP p5 p6
  | 40, _ => wd_40 hP p5 p6
  | 41, _ => wd_41 hP p5 p6
  | 42, _ => wd_42 hP p5 p6
  | 43, _ => wd_43 hP p5 p6
  | 44, _ => wd_44 hP p5 p6
  | 45, _ => wd_45 hP p5 p6
  | 46, _ => wd_46 hP p5 p6
  | 47, _ => wd_47 hP p5 p6
  | 48, _ => wd_48 hP p5 p6
  | 49, _ => wd_49 hP p5 p6
  | 50, _ => wd_50 hP p5 p6
  | 51, _ => wd_51 hP p5 p6
  | 52, _ => wd_52 hP p5 p6
  | 53, _ => wd_53 hP p5 p6
  | 54, _ => wd_54 hP p5 p6
  | 55, _ => wd_55 hP p5 p6
  | 56, _ => wd_56 hP p5 p6
  | 57, _ => wd_57 hP p5 p6
  | 58, _ => wd_58 hP p5 p6
  | 59, _ => wd_59 hP p5 p6
  | 60, _ => wd_60 hP p5 p6
  | 61, _ => wd_61 hP p5 p6
  | k + 62, h => absurd h (by omega)
theorem wd_world (hP : va_P D vwCl (ws0 cA h5 h6 u5 u6) H) (p5 : ∀ r, r < 10 → ∀ j, j < 9 → u5.2 r j = -1) (p6 : (∀ j, j < 4 → u6.2.1 j = -1) ∧ (∀ j, j < 10 → u6.2.2.1 j = 3) ∧ ∀ j, j < 90 → u6.2.2.2 j = -1) : en_WD D cA (ad0 b h5 h6 u5 u6) w0 H := fun k q hk => by
  by_cases h : k < 62
  · rw [en_ws_at h] at hk
    cases hk
    exact wd_all hP p5 p6 k h
  · have hlen : (en_ws cA (ad0 b h5 h6 u5 u6) w0).length = 62 := by simp [en_ws]
    have := (List.getElem?_eq_some_iff.mp hk).1
    omega
theorem wd_pos : ∀ k, k < 62 → ∃ e, (ws0 cA h5 h6 u5 u6)[pos0 k]? = some (ad0 b h5 h6 u5 u6 k, e)
  | 0, _ => ⟨_, rfl⟩
  | 1, _ => ⟨_, rfl⟩
  | 2, _ => ⟨_, rfl⟩
  | 3, _ => ⟨_, rfl⟩
  | 4, _ => ⟨_, rfl⟩
  | 5, _ => ⟨_, rfl⟩
  | 6, _ => ⟨_, rfl⟩
  | 7, _ => ⟨_, rfl⟩
  | 8, _ => ⟨_, rfl⟩
  | 9, _ => ⟨_, rfl⟩
  | 10, _ => ⟨_, rfl⟩
  | 11, _ => ⟨_, rfl⟩
  | 12, _ => ⟨_, rfl⟩
  | 13, _ => ⟨_, rfl⟩
  | 14, _ => ⟨_, rfl⟩
  | 15, _ => ⟨_, rfl⟩
  | 16, _ => ⟨_, rfl⟩
  | 17, _ => ⟨_, rfl⟩
  | 18, _ => ⟨_, rfl⟩
  | 19, _ => ⟨_, rfl⟩
  | 20, _ => ⟨_, rfl⟩
  | 21, _ => ⟨_, rfl⟩
  | 22, _ => ⟨_, rfl⟩
  | 23, _ => ⟨_, rfl⟩
  | 24, _ => ⟨_, rfl⟩
  | 25, _ => ⟨_, rfl⟩
  | 26, _ => ⟨_, rfl⟩
  | 27, _ => ⟨_, rfl⟩
  | 28, _ => ⟨_, rfl⟩
  | 29, _ => ⟨_, rfl⟩
  | 30, _ => ⟨_, rfl⟩
  | 31, _ => ⟨_, rfl⟩
  | 32, _ => ⟨_, rfl⟩
  | 33, _ => ⟨_, rfl⟩
  | 34, _ => ⟨_, rfl⟩
  | 35, _ => ⟨_, rfl⟩
  | 36, _ => ⟨_, rfl⟩
  | 37, _ => ⟨_, rfl⟩
  | 38, _ => ⟨_, rfl⟩
  | 39, _ => ⟨_, rfl⟩
  | 40, _ => ⟨_, rfl⟩
  | 41, _ => ⟨_, rfl⟩
  | 42, _ => ⟨_, rfl⟩
  | 43, _ => ⟨_, rfl⟩
  | 44, _ => ⟨_, rfl⟩
  | 45, _ => ⟨_, rfl⟩
  | 46, _ => ⟨_, rfl⟩
  | 47, _ => ⟨_, rfl⟩
  | 48, _ => ⟨_, rfl⟩
  | 49, _ => ⟨_, rfl⟩
  | 50, _ => ⟨_, rfl⟩
  | 51, _ => ⟨_, rfl⟩
  | 52, _ => ⟨_, rfl⟩
  | 53, _ => ⟨_, rfl⟩
  | 54, _ => ⟨_, rfl⟩
  | 55, _ => ⟨_, rfl⟩
  | 56, _ => ⟨_, rfl⟩
  | 57, _ => ⟨_, rfl⟩
  | 58, _ => ⟨_, rfl⟩
  | 59, _ => ⟨_, rfl⟩
  | 60, _ => ⟨_, rfl⟩
  | 61, _ => ⟨_, rfl⟩
  | k + 62, h => absurd h (by omega)
theorem pos0_inj {i j : Nat} (hi : i < 62) (hj : j < 62) (h : pos0 i = pos0 j) : i = j := by
  unfold pos0 at h
  split at h <;> split at h <;> (try split at h) <;> (try split at h) <;> omega
theorem wd_inj {A : Nat → Prop} (hD : va_D A (ws0 cA h5 h6 u5 u6)) : ∀ i j, i < 62 → j < 62 → ad0 b h5 h6 u5 u6 i = ad0 b h5 h6 u5 u6 j → i = j := fun i j hi hj h => by
  obtain ⟨e1, h1⟩ := wd_pos (cA := cA) (b := b) (h5 := h5) (h6 := h6) (u5 := u5) (u6 := u6) i hi
  obtain ⟨e2, h2⟩ := wd_pos (cA := cA) (b := b) (h5 := h5) (h6 := h6) (u5 := u5) (u6 := u6) j hj
  exact pos0_inj hi hj (hD.1 _ _ _ _ h1 h2 h)
theorem wd_A {A : Nat → Prop} (hD : va_D A (ws0 cA h5 h6 u5 u6)) : ∀ k, k < 62 → A (ad0 b h5 h6 u5 u6 k) := fun k hk => by
  obtain ⟨e1, h1⟩ := wd_pos (cA := cA) (b := b) (h5 := h5) (h6 := h6) (u5 := u5) (u6 := u6) k hk
  exact hD.2 _ _ h1
end
theorem aD_0 : aD w0 (fun _ => 3) (fun _ _ => -1) := fun r hr => by
  refine ⟨en_disc_at r hr, ?_, by simp, by simp, fun j hj => ⟨?_, by simp, by simp⟩⟩
  · rcases (show r = 0 ∨ r = 1 ∨ r = 2 ∨ r = 3 ∨ r = 4 ∨ r = 5 ∨ r = 6 ∨ r = 7 ∨ r = 8 ∨ r = 9 by omega) with rfl | rfl | rfl | rfl | rfl | rfl | rfl | rfl | rfl | rfl <;> rfl
  · rcases (show r = 0 ∨ r = 1 ∨ r = 2 ∨ r = 3 ∨ r = 4 ∨ r = 5 ∨ r = 6 ∨ r = 7 ∨ r = 8 ∨ r = 9 by omega) with rfl | rfl | rfl | rfl | rfl | rfl | rfl | rfl | rfl | rfl <;> rfl
theorem tfault_0 {tb : Nat → Int} : tfault 0 tb = -1 := rfl
theorem tcn_0 {tb : Nat → Int} : tcn 0 tb = 0 := rfl
/-- at first both sides are in one state -/
theorem J_0 : J w0 := by
  refine ⟨fun _ => 3, fun _ _ => -1, 0, fun _ => 0, 20, 1, 99, 15, fun _ => -1, fun _ => 0, fun _ _ => 0, 0, fun _ => 0, fun _ => 0, 0, ⟨aD_0, ⟨⟨rfl, by omega, fun j hj => absurd hj (Nat.not_lt_zero j)⟩, rfl, ⟨rfl, by rw [tcn_0]; omega, fun i hi => by rw [tcn_0] at hi; exact absurd hi (Nat.not_lt_zero i)⟩⟩, ⟨⟨rfl, by simp, by simp⟩, ⟨rfl, by simp, by simp⟩, ⟨rfl, by simp, by simp⟩, ⟨rfl, by simp, by simp⟩⟩, fun q hq => ?_, ⟨rfl, by omega, fun j hj => absurd hj (Nat.not_lt_zero j)⟩, rfl⟩,
    ⟨⟨fun r hr => ⟨rfl, by simp, by simp⟩, fun r hr j hj => ⟨rfl, by simp, by simp⟩⟩, ⟨⟨rfl, by simp, by simp⟩, ⟨rfl, by simp, by simp⟩, ⟨rfl, by simp, by simp⟩, ⟨rfl, by simp, by simp⟩⟩, ⟨rfl, by omega, fun j hj => absurd hj (Nat.not_lt_zero j)⟩, fun q hq => ⟨⟨rfl, by simp, by simp⟩, ⟨fun z => absurd rfl z, by simp⟩, fun j hj => absurd hj (Nat.not_lt_zero j)⟩, ⟨rfl, by omega, fun j hj => absurd hj (Nat.not_lt_zero j)⟩, rfl⟩⟩
  refine ⟨en_sh_at q hq, ⟨?_, by simp, by simp⟩, ⟨?_, by simp, fun _ => rfl⟩, fun j hj => absurd hj (Nat.not_lt_zero j)⟩
  · rcases (show q = 0 ∨ q = 1 ∨ q = 2 ∨ q = 3 by omega) with rfl | rfl | rfl | rfl <;> rfl
  · rcases (show q = 0 ∨ q = 1 ∨ q = 2 ∨ q = 3 by omega) with rfl | rfl | rfl | rfl <;> rfl
