/-! ===== places of the model's rows ===== -/
theorem xi_20 {z : Int} (h0 : 0 ≤ z) (h1 : z < 4) : en_ix 20 (zI z) = True := eq_true (by
  rw [fx_20, zI_0, zI_lt (by omega) (by omega) (by omega) (by omega), zI_cl (by omega) (by omega)]
  omega)
theorem xi_21 {z : Int} (h0 : 0 ≤ z) (h1 : z < 4) : en_ix 21 (zI z) = True := eq_true (by
  rw [fx_21, zI_0, zI_lt (by omega) (by omega) (by omega) (by omega), zI_cl (by omega) (by omega)]
  omega)
theorem xi_22 {z : Int} (h0 : 0 ≤ z) (h1 : z < 240) : en_ix 22 (zI z) = True := eq_true (by
  rw [fx_22, zI_0, zI_lt (by omega) (by omega) (by omega) (by omega), zI_cl (by omega) (by omega)]
  omega)
theorem xi_23 {z : Int} (h0 : 0 ≤ z) (h1 : z < 60) : en_ix 23 (zI z) = True := eq_true (by
  rw [fx_23, zI_0, zI_lt (by omega) (by omega) (by omega) (by omega), zI_cl (by omega) (by omega)]
  omega)
theorem xi_24 {z : Int} (h0 : 0 ≤ z) (h1 : z < 10) : en_ix 24 (zI z) = True := eq_true (by
  rw [fx_24, zI_0, zI_lt (by omega) (by omega) (by omega) (by omega), zI_cl (by omega) (by omega)]
  omega)
theorem xi_25 {z : Int} (h0 : 0 ≤ z) (h1 : z < 90) : en_ix 25 (zI z) = True := eq_true (by
  rw [fx_25, zI_0, zI_lt (by omega) (by omega) (by omega) (by omega), zI_cl (by omega) (by omega)]
  omega)
theorem xi_26 {z : Int} (h0 : 0 ≤ z) (h1 : z < 4) : en_ix 26 (zI z) = True := eq_true (by
  rw [fx_26, zI_0, zI_lt (by omega) (by omega) (by omega) (by omega), zI_cl (by omega) (by omega)]
  omega)
theorem xi_27 {z : Int} (h0 : 0 ≤ z) (h1 : z < 80) : en_ix 27 (zI z) = True := eq_true (by
  rw [fx_27, zI_0, zI_lt (by omega) (by omega) (by omega) (by omega), zI_cl (by omega) (by omega)]
  omega)
theorem xi_28 {z : Int} (h0 : 0 ≤ z) (h1 : z < 44) : en_ix 28 (zI z) = True := eq_true (by
  rw [fx_28, zI_0, zI_lt (by omega) (by omega) (by omega) (by omega), zI_cl (by omega) (by omega)]
  omega)
theorem xi_29 {z : Int} (h0 : 0 ≤ z) (h1 : z < 22) : en_ix 29 (zI z) = True := eq_true (by
  rw [fx_29, zI_0, zI_lt (by omega) (by omega) (by omega) (by omega), zI_cl (by omega) (by omega)]
  omega)
theorem xi_30 {z : Int} (h0 : 0 ≤ z) (h1 : z < 22) : en_ix 30 (zI z) = True := eq_true (by
  rw [fx_30, zI_0, zI_lt (by omega) (by omega) (by omega) (by omega), zI_cl (by omega) (by omega)]
  omega)
theorem xi_31 {z : Int} (h0 : 0 ≤ z) (h1 : z < 200) : en_ix 31 (zI z) = True := eq_true (by
  rw [fx_31, zI_0, zI_lt (by omega) (by omega) (by omega) (by omega), zI_cl (by omega) (by omega)]
  omega)
theorem xi_32 {z : Int} (h0 : 0 ≤ z) (h1 : z < 10) : en_ix 32 (zI z) = True := eq_true (by
  rw [fx_32, zI_0, zI_lt (by omega) (by omega) (by omega) (by omega), zI_cl (by omega) (by omega)]
  omega)
theorem xi_33 {z : Int} (h0 : 0 ≤ z) (h1 : z < 16) : en_ix 33 (zI z) = True := eq_true (by
  rw [fx_33, zI_0, zI_lt (by omega) (by omega) (by omega) (by omega), zI_cl (by omega) (by omega)]
  omega)
theorem en_exq {X : en_X} {nL : Nat} {As : List Value} {w : en_W} {v : Option Value} {C : en_W → Prop} (hl : (en_L0 nL As).length = nL) (h : ∀ Q : Option Value → en_W → Prop, (∀ w', C w' → Q v w') → en_Ev X 0 (en_L0 nL As) [] w Q) : ∃ w', en_fn X nL As w = some (v, w') ∧ C w' := by
  obtain ⟨r, w', h1, h2, h3⟩ := en_ex (P := fun r w' => r = v ∧ C w') hl (h _ (fun w' hw => ⟨rfl, hw⟩))
  exact ⟨w', h2 ▸ h1, h3⟩
