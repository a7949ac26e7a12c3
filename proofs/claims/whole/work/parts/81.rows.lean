/-! ===== the law: a row an instruction, printed by law.py ===== -/
/-- a place of the script, and what stands there -/
def sc_ok (L : Nat) (j : Int32) : Prop := ¬ (j < 0 ∨ L ≤ j.toNatClampNeg)
def sc_at (xs : Nat → Int32) (j : Int32) : Int32 := xs j.toNatClampNeg
theorem en_Ev_scr {X : en_X} {pc n : Nat} {xs : Nat → Int32} {L : en_L} {st : List Value} {w : en_W} {Q : Option Value → en_W → Prop} {j : Int32} (hd : en_dec X pc = some (.iaload, 1)) (hs : en_scr X = some (n, xs)) : en_Ev X pc L (.int j :: .ref 62 :: st) w Q ↔ sc_ok n j ∧ en_Ev X (pc + 1) L (.int (sc_at xs j) :: st) w Q := by
  have hx : en_x X .iaload pc L (.int j :: .ref 62 :: st) w = (en_iald X w 62 j).map fun v => (pc + 1, L, .int v :: st, w) := rfl
  rw [en_Ev_opt hd rfl hx]
  have he : en_iald X w 62 j = if j < 0 ∨ n ≤ j.toNatClampNeg then none else some (xs j.toNatClampNeg) := by
    unfold en_iald
    rw [if_pos rfl, hs]
  rw [he]
  unfold sc_ok sc_at
  by_cases c : j < 0 ∨ n ≤ j.toNatClampNeg
  · rw [if_pos c]
    exact ⟨fun ⟨v, h, _⟩ => (by cases h), fun h => absurd c h.1⟩
  · rw [if_neg c]
    exact ⟨fun ⟨v, h, h2⟩ => ⟨c, (by cases h; exact h2)⟩, fun h => ⟨_, rfl, h.2⟩⟩
theorem en_Ev_scl {X : en_X} {pc n : Nat} {xs : Nat → Int32} {L : en_L} {st : List Value} {w : en_W} {Q : Option Value → en_W → Prop} (hd : en_dec X pc = some (.arraylength, 1)) (hs : en_scr X = some (n, xs)) : en_Ev X pc L (.ref 62 :: st) w Q ↔ en_Ev X (pc + 1) L (.int (Int32.ofNat n) :: st) w Q := by
  rw [en_Ev_alen hd]
  have he : en_alen X 62 = some (Int32.ofNat n) := by
    unfold en_alen
    rw [if_pos rfl, hs]
  rw [he]
  exact ⟨fun ⟨v, h, h2⟩ => (by cases h; exact h2), fun h => ⟨_, rfl, h⟩⟩
section
variable {L : Nat} {xs : Nat → Int32} {st : List Value} {w : en_W} {Q : Option Value → en_W → Prop}
theorem eL_16 {M : en_L} : en_Ev (XL L xs) 16 M st w Q ↔ en_Ev (XL L xs) 17 M (.int 0 :: st) w Q := en_Ev_step dcL_16 rfl rfl
theorem eL_17 {x : Int32} {l0 l1 l2 l3 : Option Value} : en_Ev (XL L xs) 17 [l0, l1, l2, l3] (.int x :: st) w Q ↔ en_Ev (XL L xs) 18 [l0, l1, en_kl l2, some (.int x)] st w Q := en_Ev_step dcL_17 rfl rfl
theorem eL_18 {x : Int32} {l0 l1 l2 : Option Value} : en_Ev (XL L xs) 18 [l0, l1, l2, some (.int x)] st w Q ↔ en_Ev (XL L xs) 19 [l0, l1, l2, some (.int x)] (.int x :: st) w Q := en_Ev_step dcL_18 rfl rfl
theorem eL_19 {a : Nat} {l1 l2 l3 : Option Value} : en_Ev (XL L xs) 19 [some (.ref a), l1, l2, l3] st w Q ↔ en_Ev (XL L xs) 20 [some (.ref a), l1, l2, l3] (.ref a :: st) w Q := en_Ev_step dcL_19 rfl rfl
theorem eL_20 {M : en_L} : en_Ev (XL L xs) 20 M (.ref 62 :: st) w Q ↔ en_Ev (XL L xs) 21 M (.int (Int32.ofNat L) :: st) w Q := en_Ev_scl dcL_20 rfl
theorem eL_21 {M : en_L} : en_Ev (XL L xs) 21 M st w Q ↔ en_Ev (XL L xs) 23 M (.int 6 :: st) w Q := en_Ev_step dcL_21 rfl rfl
theorem eL_23 {x y : Int32} {M : en_L} : en_Ev (XL L xs) 23 M (.int y :: .int x :: st) w Q ↔ en_Ev (XL L xs) 24 M (.int (x - y) :: st) w Q := en_Ev_step dcL_23 rfl rfl
theorem eL_24 {x y : Int32} {M : en_L} : en_Ev (XL L xs) 24 M (.int y :: .int x :: st) w Q ↔ if y < x then en_Ev (XL L xs) 1154 M st w Q else en_Ev (XL L xs) 27 M st w Q := (en_Ev_cmp (X := XL L xs) (pc := 24) (tgt := 1154) dcL_24 rfl).trans (Iff.of_eq en_cmp_gt)
theorem eL_27 {a : Nat} {l1 l2 l3 : Option Value} : en_Ev (XL L xs) 27 [some (.ref a), l1, l2, l3] st w Q ↔ en_Ev (XL L xs) 28 [some (.ref a), l1, l2, l3] (.ref a :: st) w Q := en_Ev_step dcL_27 rfl rfl
theorem eL_28 {x : Int32} {l0 l1 l2 : Option Value} : en_Ev (XL L xs) 28 [l0, l1, l2, some (.int x)] st w Q ↔ en_Ev (XL L xs) 29 [l0, l1, l2, some (.int x)] (.int x :: st) w Q := en_Ev_step dcL_28 rfl rfl
theorem eL_29 {j : Int32} {M : en_L} : en_Ev (XL L xs) 29 M (.int j :: .ref 62 :: st) w Q ↔ sc_ok L j ∧ en_Ev (XL L xs) 30 M (.int (sc_at xs j) :: st) w Q := en_Ev_scr dcL_29 rfl
theorem eL_30 {M : en_L} : en_Ev (XL L xs) 30 M st w Q ↔ en_Ev (XL L xs) 32 M (.int 63 :: st) w Q := en_Ev_step dcL_30 rfl rfl
theorem eL_32 {x y : Int32} {M : en_L} : en_Ev (XL L xs) 32 M (.int y :: .int x :: st) w Q ↔ en_Ev (XL L xs) 33 M (.int (x &&& y) :: st) w Q := en_Ev_step dcL_32 rfl rfl
set_option maxRecDepth 20000 in
theorem eL_33 {x : Int32} {M : en_L} : en_Ev (XL L xs) 33 M (.int x :: st) w Q ↔ if x = 0 then en_Ev (XL L xs) 184 M st w Q else if x = 1 then en_Ev (XL L xs) 217 M st w Q else if x = 2 then en_Ev (XL L xs) 260 M st w Q else if x = 3 then en_Ev (XL L xs) 283 M st w Q else if x = 4 then en_Ev (XL L xs) 296 M st w Q else if x = 5 then en_Ev (XL L xs) 309 M st w Q else if x = 6 then en_Ev (XL L xs) 322 M st w Q else if x = 7 then en_Ev (XL L xs) 355 M st w Q else if x = 8 then en_Ev (XL L xs) 378 M st w Q else if x = 9 then en_Ev (XL L xs) 401 M st w Q else if x = 10 then en_Ev (XL L xs) 434 M st w Q else if x = 11 then en_Ev (XL L xs) 457 M st w Q else if x = 12 then en_Ev (XL L xs) 490 M st w Q else if x = 13 then en_Ev (XL L xs) 523 M st w Q else if x = 14 then en_Ev (XL L xs) 546 M st w Q else if x = 15 then en_Ev (XL L xs) 579 M st w Q else if x = 16 then en_Ev (XL L xs) 612 M st w Q else if x = 17 then en_Ev (XL L xs) 625 M st w Q else if x = 18 then en_Ev (XL L xs) 648 M st w Q else if x = 19 then en_Ev (XL L xs) 661 M st w Q else if x = 20 then en_Ev (XL L xs) 714 M st w Q else if x = 21 then en_Ev (XL L xs) 747 M st w Q else if x = 22 then en_Ev (XL L xs) 780 M st w Q else if x = 23 then en_Ev (XL L xs) 793 M st w Q else if x = 24 then en_Ev (XL L xs) 806 M st w Q else if x = 25 then en_Ev (XL L xs) 840 M st w Q else if x = 26 then en_Ev (XL L xs) 863 M st w Q else if x = 27 then en_Ev (XL L xs) 906 M st w Q else if x = 28 then en_Ev (XL L xs) 929 M st w Q else if x = 29 then en_Ev (XL L xs) 982 M st w Q else if x = 30 then en_Ev (XL L xs) 1025 M st w Q else if x = 31 then en_Ev (XL L xs) 1088 M st w Q else if x = 32 then en_Ev (XL L xs) 1111 M st w Q else if x = 33 then en_Ev (XL L xs) 1134 M st w Q else en_Ev (XL L xs) 1148 M st w Q := by
  by_cases h0 : x = 0
  · rw [if_pos h0]
    subst h0
    exact en_Ev_step dcL_33 rfl rfl
  rw [if_neg h0]
  have g0 : x.toInt ≠ 0 := fun e => h0 (Int32.toInt_inj.mp e)
  by_cases h1 : x = 1
  · rw [if_pos h1]
    subst h1
    exact en_Ev_step dcL_33 rfl rfl
  rw [if_neg h1]
  have g1 : x.toInt ≠ 1 := fun e => h1 (Int32.toInt_inj.mp e)
  by_cases h2 : x = 2
  · rw [if_pos h2]
    subst h2
    exact en_Ev_step dcL_33 rfl rfl
  rw [if_neg h2]
  have g2 : x.toInt ≠ 2 := fun e => h2 (Int32.toInt_inj.mp e)
  by_cases h3 : x = 3
  · rw [if_pos h3]
    subst h3
    exact en_Ev_step dcL_33 rfl rfl
  rw [if_neg h3]
  have g3 : x.toInt ≠ 3 := fun e => h3 (Int32.toInt_inj.mp e)
  by_cases h4 : x = 4
  · rw [if_pos h4]
    subst h4
    exact en_Ev_step dcL_33 rfl rfl
  rw [if_neg h4]
  have g4 : x.toInt ≠ 4 := fun e => h4 (Int32.toInt_inj.mp e)
  by_cases h5 : x = 5
  · rw [if_pos h5]
    subst h5
    exact en_Ev_step dcL_33 rfl rfl
  rw [if_neg h5]
  have g5 : x.toInt ≠ 5 := fun e => h5 (Int32.toInt_inj.mp e)
  by_cases h6 : x = 6
  · rw [if_pos h6]
    subst h6
    exact en_Ev_step dcL_33 rfl rfl
  rw [if_neg h6]
  have g6 : x.toInt ≠ 6 := fun e => h6 (Int32.toInt_inj.mp e)
  by_cases h7 : x = 7
  · rw [if_pos h7]
    subst h7
    exact en_Ev_step dcL_33 rfl rfl
  rw [if_neg h7]
  have g7 : x.toInt ≠ 7 := fun e => h7 (Int32.toInt_inj.mp e)
  by_cases h8 : x = 8
  · rw [if_pos h8]
    subst h8
    exact en_Ev_step dcL_33 rfl rfl
  rw [if_neg h8]
  have g8 : x.toInt ≠ 8 := fun e => h8 (Int32.toInt_inj.mp e)
  by_cases h9 : x = 9
  · rw [if_pos h9]
    subst h9
    exact en_Ev_step dcL_33 rfl rfl
  rw [if_neg h9]
  have g9 : x.toInt ≠ 9 := fun e => h9 (Int32.toInt_inj.mp e)
  by_cases h10 : x = 10
  · rw [if_pos h10]
    subst h10
    exact en_Ev_step dcL_33 rfl rfl
  rw [if_neg h10]
  have g10 : x.toInt ≠ 10 := fun e => h10 (Int32.toInt_inj.mp e)
  by_cases h11 : x = 11
  · rw [if_pos h11]
    subst h11
    exact en_Ev_step dcL_33 rfl rfl
  rw [if_neg h11]
  have g11 : x.toInt ≠ 11 := fun e => h11 (Int32.toInt_inj.mp e)
  by_cases h12 : x = 12
  · rw [if_pos h12]
    subst h12
    exact en_Ev_step dcL_33 rfl rfl
  rw [if_neg h12]
  have g12 : x.toInt ≠ 12 := fun e => h12 (Int32.toInt_inj.mp e)
  by_cases h13 : x = 13
  · rw [if_pos h13]
    subst h13
    exact en_Ev_step dcL_33 rfl rfl
  rw [if_neg h13]
  have g13 : x.toInt ≠ 13 := fun e => h13 (Int32.toInt_inj.mp e)
  by_cases h14 : x = 14
  · rw [if_pos h14]
    subst h14
    exact en_Ev_step dcL_33 rfl rfl
  rw [if_neg h14]
  have g14 : x.toInt ≠ 14 := fun e => h14 (Int32.toInt_inj.mp e)
  by_cases h15 : x = 15
  · rw [if_pos h15]
    subst h15
    exact en_Ev_step dcL_33 rfl rfl
  rw [if_neg h15]
  have g15 : x.toInt ≠ 15 := fun e => h15 (Int32.toInt_inj.mp e)
  by_cases h16 : x = 16
  · rw [if_pos h16]
    subst h16
    exact en_Ev_step dcL_33 rfl rfl
  rw [if_neg h16]
  have g16 : x.toInt ≠ 16 := fun e => h16 (Int32.toInt_inj.mp e)
  by_cases h17 : x = 17
  · rw [if_pos h17]
    subst h17
    exact en_Ev_step dcL_33 rfl rfl
  rw [if_neg h17]
  have g17 : x.toInt ≠ 17 := fun e => h17 (Int32.toInt_inj.mp e)
  by_cases h18 : x = 18
  · rw [if_pos h18]
    subst h18
    exact en_Ev_step dcL_33 rfl rfl
  rw [if_neg h18]
  have g18 : x.toInt ≠ 18 := fun e => h18 (Int32.toInt_inj.mp e)
  by_cases h19 : x = 19
  · rw [if_pos h19]
    subst h19
    exact en_Ev_step dcL_33 rfl rfl
  rw [if_neg h19]
  have g19 : x.toInt ≠ 19 := fun e => h19 (Int32.toInt_inj.mp e)
  by_cases h20 : x = 20
  · rw [if_pos h20]
    subst h20
    exact en_Ev_step dcL_33 rfl rfl
  rw [if_neg h20]
  have g20 : x.toInt ≠ 20 := fun e => h20 (Int32.toInt_inj.mp e)
  by_cases h21 : x = 21
  · rw [if_pos h21]
    subst h21
    exact en_Ev_step dcL_33 rfl rfl
  rw [if_neg h21]
  have g21 : x.toInt ≠ 21 := fun e => h21 (Int32.toInt_inj.mp e)
  by_cases h22 : x = 22
  · rw [if_pos h22]
    subst h22
    exact en_Ev_step dcL_33 rfl rfl
  rw [if_neg h22]
  have g22 : x.toInt ≠ 22 := fun e => h22 (Int32.toInt_inj.mp e)
  by_cases h23 : x = 23
  · rw [if_pos h23]
    subst h23
    exact en_Ev_step dcL_33 rfl rfl
  rw [if_neg h23]
  have g23 : x.toInt ≠ 23 := fun e => h23 (Int32.toInt_inj.mp e)
  by_cases h24 : x = 24
  · rw [if_pos h24]
    subst h24
    exact en_Ev_step dcL_33 rfl rfl
  rw [if_neg h24]
  have g24 : x.toInt ≠ 24 := fun e => h24 (Int32.toInt_inj.mp e)
  by_cases h25 : x = 25
  · rw [if_pos h25]
    subst h25
    exact en_Ev_step dcL_33 rfl rfl
  rw [if_neg h25]
  have g25 : x.toInt ≠ 25 := fun e => h25 (Int32.toInt_inj.mp e)
  by_cases h26 : x = 26
  · rw [if_pos h26]
    subst h26
    exact en_Ev_step dcL_33 rfl rfl
  rw [if_neg h26]
  have g26 : x.toInt ≠ 26 := fun e => h26 (Int32.toInt_inj.mp e)
  by_cases h27 : x = 27
  · rw [if_pos h27]
    subst h27
    exact en_Ev_step dcL_33 rfl rfl
  rw [if_neg h27]
  have g27 : x.toInt ≠ 27 := fun e => h27 (Int32.toInt_inj.mp e)
  by_cases h28 : x = 28
  · rw [if_pos h28]
    subst h28
    exact en_Ev_step dcL_33 rfl rfl
  rw [if_neg h28]
  have g28 : x.toInt ≠ 28 := fun e => h28 (Int32.toInt_inj.mp e)
  by_cases h29 : x = 29
  · rw [if_pos h29]
    subst h29
    exact en_Ev_step dcL_33 rfl rfl
  rw [if_neg h29]
  have g29 : x.toInt ≠ 29 := fun e => h29 (Int32.toInt_inj.mp e)
  by_cases h30 : x = 30
  · rw [if_pos h30]
    subst h30
    exact en_Ev_step dcL_33 rfl rfl
  rw [if_neg h30]
  have g30 : x.toInt ≠ 30 := fun e => h30 (Int32.toInt_inj.mp e)
  by_cases h31 : x = 31
  · rw [if_pos h31]
    subst h31
    exact en_Ev_step dcL_33 rfl rfl
  rw [if_neg h31]
  have g31 : x.toInt ≠ 31 := fun e => h31 (Int32.toInt_inj.mp e)
  by_cases h32 : x = 32
  · rw [if_pos h32]
    subst h32
    exact en_Ev_step dcL_33 rfl rfl
  rw [if_neg h32]
  have g32 : x.toInt ≠ 32 := fun e => h32 (Int32.toInt_inj.mp e)
  by_cases h33 : x = 33
  · rw [if_pos h33]
    subst h33
    exact en_Ev_step dcL_33 rfl rfl
  rw [if_neg h33]
  have g33 : x.toInt ≠ 33 := fun e => h33 (Int32.toInt_inj.mp e)
  exact en_Ev_tbo (tgt := 1148) dcL_33 (by omega) rfl
theorem eL_184 {a : Nat} {l0 l2 l3 : Option Value} : en_Ev (XL L xs) 184 [l0, some (.ref a), l2, l3] st w Q ↔ en_Ev (XL L xs) 185 [l0, some (.ref a), l2, l3] (.ref a :: st) w Q := en_Ev_step dcL_184 rfl rfl
theorem eL_185 {a : Nat} {l1 l2 l3 : Option Value} : en_Ev (XL L xs) 185 [some (.ref a), l1, l2, l3] st w Q ↔ en_Ev (XL L xs) 186 [some (.ref a), l1, l2, l3] (.ref a :: st) w Q := en_Ev_step dcL_185 rfl rfl
theorem eL_186 {x : Int32} {l0 l1 l2 : Option Value} : en_Ev (XL L xs) 186 [l0, l1, l2, some (.int x)] st w Q ↔ en_Ev (XL L xs) 187 [l0, l1, l2, some (.int x)] (.int x :: st) w Q := en_Ev_step dcL_186 rfl rfl
theorem eL_187 {M : en_L} : en_Ev (XL L xs) 187 M st w Q ↔ en_Ev (XL L xs) 188 M (.int 1 :: st) w Q := en_Ev_step dcL_187 rfl rfl
theorem eL_188 {x y : Int32} {M : en_L} : en_Ev (XL L xs) 188 M (.int y :: .int x :: st) w Q ↔ en_Ev (XL L xs) 189 M (.int (x + y) :: st) w Q := en_Ev_step dcL_188 rfl rfl
theorem eL_189 {j : Int32} {M : en_L} : en_Ev (XL L xs) 189 M (.int j :: .ref 62 :: st) w Q ↔ sc_ok L j ∧ en_Ev (XL L xs) 190 M (.int (sc_at xs j) :: st) w Q := en_Ev_scr dcL_189 rfl
theorem eL_190 {a : Nat} {l1 l2 l3 : Option Value} : en_Ev (XL L xs) 190 [some (.ref a), l1, l2, l3] st w Q ↔ en_Ev (XL L xs) 191 [some (.ref a), l1, l2, l3] (.ref a :: st) w Q := en_Ev_step dcL_190 rfl rfl
theorem eL_191 {x : Int32} {l0 l1 l2 : Option Value} : en_Ev (XL L xs) 191 [l0, l1, l2, some (.int x)] st w Q ↔ en_Ev (XL L xs) 192 [l0, l1, l2, some (.int x)] (.int x :: st) w Q := en_Ev_step dcL_191 rfl rfl
theorem eL_192 {M : en_L} : en_Ev (XL L xs) 192 M st w Q ↔ en_Ev (XL L xs) 193 M (.int 2 :: st) w Q := en_Ev_step dcL_192 rfl rfl
theorem eL_193 {x y : Int32} {M : en_L} : en_Ev (XL L xs) 193 M (.int y :: .int x :: st) w Q ↔ en_Ev (XL L xs) 194 M (.int (x + y) :: st) w Q := en_Ev_step dcL_193 rfl rfl
theorem eL_194 {j : Int32} {M : en_L} : en_Ev (XL L xs) 194 M (.int j :: .ref 62 :: st) w Q ↔ sc_ok L j ∧ en_Ev (XL L xs) 195 M (.int (sc_at xs j) :: st) w Q := en_Ev_scr dcL_194 rfl
theorem eL_195 {v0 v1 v2 : Value} {M : en_L} : en_Ev (XL L xs) 195 M (v2 :: v1 :: v0 :: st) w Q ↔ en_rcv (some 5) [v0, v1, v2] = true ∧ en_stk st = true ∧ en_Ec (XL L xs) 198 M st (SX5_record [v0, v1, v2] w) Q := en_Ev_inv (i := .invokevirtual 13) (v := true) (idx := 13) (ci := some 5) (k := 3) rfl dcL_195 rfl ccL_13 rfl (by simp)
theorem eL_198 {a : Nat} {l0 l1 l3 : Option Value} : en_Ev (XL L xs) 198 [l0, l1, some (.ref a), l3] st w Q ↔ en_Ev (XL L xs) 199 [l0, l1, some (.ref a), l3] (.ref a :: st) w Q := en_Ev_step dcL_198 rfl rfl
theorem eL_199 {a : Nat} {l1 l2 l3 : Option Value} : en_Ev (XL L xs) 199 [some (.ref a), l1, l2, l3] st w Q ↔ en_Ev (XL L xs) 200 [some (.ref a), l1, l2, l3] (.ref a :: st) w Q := en_Ev_step dcL_199 rfl rfl
theorem eL_200 {x : Int32} {l0 l1 l2 : Option Value} : en_Ev (XL L xs) 200 [l0, l1, l2, some (.int x)] st w Q ↔ en_Ev (XL L xs) 201 [l0, l1, l2, some (.int x)] (.int x :: st) w Q := en_Ev_step dcL_200 rfl rfl
theorem eL_201 {M : en_L} : en_Ev (XL L xs) 201 M st w Q ↔ en_Ev (XL L xs) 202 M (.int 1 :: st) w Q := en_Ev_step dcL_201 rfl rfl
theorem eL_202 {x y : Int32} {M : en_L} : en_Ev (XL L xs) 202 M (.int y :: .int x :: st) w Q ↔ en_Ev (XL L xs) 203 M (.int (x + y) :: st) w Q := en_Ev_step dcL_202 rfl rfl
theorem eL_203 {j : Int32} {M : en_L} : en_Ev (XL L xs) 203 M (.int j :: .ref 62 :: st) w Q ↔ sc_ok L j ∧ en_Ev (XL L xs) 204 M (.int (sc_at xs j) :: st) w Q := en_Ev_scr dcL_203 rfl
theorem eL_204 {a : Nat} {l1 l2 l3 : Option Value} : en_Ev (XL L xs) 204 [some (.ref a), l1, l2, l3] st w Q ↔ en_Ev (XL L xs) 205 [some (.ref a), l1, l2, l3] (.ref a :: st) w Q := en_Ev_step dcL_204 rfl rfl
theorem eL_205 {x : Int32} {l0 l1 l2 : Option Value} : en_Ev (XL L xs) 205 [l0, l1, l2, some (.int x)] st w Q ↔ en_Ev (XL L xs) 206 [l0, l1, l2, some (.int x)] (.int x :: st) w Q := en_Ev_step dcL_205 rfl rfl
theorem eL_206 {M : en_L} : en_Ev (XL L xs) 206 M st w Q ↔ en_Ev (XL L xs) 207 M (.int 2 :: st) w Q := en_Ev_step dcL_206 rfl rfl
theorem eL_207 {x y : Int32} {M : en_L} : en_Ev (XL L xs) 207 M (.int y :: .int x :: st) w Q ↔ en_Ev (XL L xs) 208 M (.int (x + y) :: st) w Q := en_Ev_step dcL_207 rfl rfl
theorem eL_208 {j : Int32} {M : en_L} : en_Ev (XL L xs) 208 M (.int j :: .ref 62 :: st) w Q ↔ sc_ok L j ∧ en_Ev (XL L xs) 209 M (.int (sc_at xs j) :: st) w Q := en_Ev_scr dcL_208 rfl
theorem eL_209 {v0 v1 v2 : Value} {M : en_L} : en_Ev (XL L xs) 209 M (v2 :: v1 :: v0 :: st) w Q ↔ en_rcv (some 6) [v0, v1, v2] = true ∧ en_stk st = true ∧ en_Ec (XL L xs) 212 M st (SX6_record [v0, v1, v2] w) Q := en_Ev_inv (i := .invokevirtual 17) (v := true) (idx := 17) (ci := some 6) (k := 3) rfl dcL_209 rfl ccL_17 rfl (by simp)
theorem eL_212 {x y : Int32} {M : en_L} : en_Ev (XL L xs) 212 M (.int y :: .int x :: st) w Q ↔ if x = y then en_Ev (XL L xs) 1148 M st w Q else en_Ev (XL L xs) 215 M st w Q := (en_Ev_cmp (X := XL L xs) (pc := 212) (tgt := 1148) dcL_212 rfl).trans (Iff.of_eq en_cmp_eq)
theorem eL_215 {M : en_L} : en_Ev (XL L xs) 215 M st w Q ↔ en_Ev (XL L xs) 216 M (.int 0 :: st) w Q := en_Ev_step dcL_215 rfl rfl
theorem eL_216 {v : Int32} {M : en_L} : en_Ev (XL L xs) 216 M [.int v] w Q ↔ en_01 v ∧ Q (some (.int v)) w := en_Ev_bool dcL_216 rfl
theorem eL_217 {a : Nat} {l0 l2 l3 : Option Value} : en_Ev (XL L xs) 217 [l0, some (.ref a), l2, l3] st w Q ↔ en_Ev (XL L xs) 218 [l0, some (.ref a), l2, l3] (.ref a :: st) w Q := en_Ev_step dcL_217 rfl rfl
theorem eL_218 {a : Nat} {l1 l2 l3 : Option Value} : en_Ev (XL L xs) 218 [some (.ref a), l1, l2, l3] st w Q ↔ en_Ev (XL L xs) 219 [some (.ref a), l1, l2, l3] (.ref a :: st) w Q := en_Ev_step dcL_218 rfl rfl
theorem eL_219 {x : Int32} {l0 l1 l2 : Option Value} : en_Ev (XL L xs) 219 [l0, l1, l2, some (.int x)] st w Q ↔ en_Ev (XL L xs) 220 [l0, l1, l2, some (.int x)] (.int x :: st) w Q := en_Ev_step dcL_219 rfl rfl
theorem eL_220 {M : en_L} : en_Ev (XL L xs) 220 M st w Q ↔ en_Ev (XL L xs) 221 M (.int 1 :: st) w Q := en_Ev_step dcL_220 rfl rfl
theorem eL_221 {x y : Int32} {M : en_L} : en_Ev (XL L xs) 221 M (.int y :: .int x :: st) w Q ↔ en_Ev (XL L xs) 222 M (.int (x + y) :: st) w Q := en_Ev_step dcL_221 rfl rfl
theorem eL_222 {j : Int32} {M : en_L} : en_Ev (XL L xs) 222 M (.int j :: .ref 62 :: st) w Q ↔ sc_ok L j ∧ en_Ev (XL L xs) 223 M (.int (sc_at xs j) :: st) w Q := en_Ev_scr dcL_222 rfl
theorem eL_223 {a : Nat} {l1 l2 l3 : Option Value} : en_Ev (XL L xs) 223 [some (.ref a), l1, l2, l3] st w Q ↔ en_Ev (XL L xs) 224 [some (.ref a), l1, l2, l3] (.ref a :: st) w Q := en_Ev_step dcL_223 rfl rfl
theorem eL_224 {x : Int32} {l0 l1 l2 : Option Value} : en_Ev (XL L xs) 224 [l0, l1, l2, some (.int x)] st w Q ↔ en_Ev (XL L xs) 225 [l0, l1, l2, some (.int x)] (.int x :: st) w Q := en_Ev_step dcL_224 rfl rfl
theorem eL_225 {M : en_L} : en_Ev (XL L xs) 225 M st w Q ↔ en_Ev (XL L xs) 226 M (.int 2 :: st) w Q := en_Ev_step dcL_225 rfl rfl
theorem eL_226 {x y : Int32} {M : en_L} : en_Ev (XL L xs) 226 M (.int y :: .int x :: st) w Q ↔ en_Ev (XL L xs) 227 M (.int (x + y) :: st) w Q := en_Ev_step dcL_226 rfl rfl
theorem eL_227 {j : Int32} {M : en_L} : en_Ev (XL L xs) 227 M (.int j :: .ref 62 :: st) w Q ↔ sc_ok L j ∧ en_Ev (XL L xs) 228 M (.int (sc_at xs j) :: st) w Q := en_Ev_scr dcL_227 rfl
theorem eL_228 {a : Nat} {l1 l2 l3 : Option Value} : en_Ev (XL L xs) 228 [some (.ref a), l1, l2, l3] st w Q ↔ en_Ev (XL L xs) 229 [some (.ref a), l1, l2, l3] (.ref a :: st) w Q := en_Ev_step dcL_228 rfl rfl
theorem eL_229 {x : Int32} {l0 l1 l2 : Option Value} : en_Ev (XL L xs) 229 [l0, l1, l2, some (.int x)] st w Q ↔ en_Ev (XL L xs) 230 [l0, l1, l2, some (.int x)] (.int x :: st) w Q := en_Ev_step dcL_229 rfl rfl
theorem eL_230 {M : en_L} : en_Ev (XL L xs) 230 M st w Q ↔ en_Ev (XL L xs) 231 M (.int 3 :: st) w Q := en_Ev_step dcL_230 rfl rfl
theorem eL_231 {x y : Int32} {M : en_L} : en_Ev (XL L xs) 231 M (.int y :: .int x :: st) w Q ↔ en_Ev (XL L xs) 232 M (.int (x + y) :: st) w Q := en_Ev_step dcL_231 rfl rfl
theorem eL_232 {j : Int32} {M : en_L} : en_Ev (XL L xs) 232 M (.int j :: .ref 62 :: st) w Q ↔ sc_ok L j ∧ en_Ev (XL L xs) 233 M (.int (sc_at xs j) :: st) w Q := en_Ev_scr dcL_232 rfl
theorem eL_233 {v0 v1 v2 v3 : Value} {M : en_L} : en_Ev (XL L xs) 233 M (v3 :: v2 :: v1 :: v0 :: st) w Q ↔ en_rcv (some 5) [v0, v1, v2, v3] = true ∧ en_stk st = true ∧ en_Ec (XL L xs) 236 M st (SX5_scratch [v0, v1, v2, v3] w) Q := en_Ev_inv (i := .invokevirtual 18) (v := true) (idx := 18) (ci := some 5) (k := 4) rfl dcL_233 rfl ccL_18 rfl (by simp)
theorem eL_236 {a : Nat} {l0 l1 l3 : Option Value} : en_Ev (XL L xs) 236 [l0, l1, some (.ref a), l3] st w Q ↔ en_Ev (XL L xs) 237 [l0, l1, some (.ref a), l3] (.ref a :: st) w Q := en_Ev_step dcL_236 rfl rfl
theorem eL_237 {a : Nat} {l1 l2 l3 : Option Value} : en_Ev (XL L xs) 237 [some (.ref a), l1, l2, l3] st w Q ↔ en_Ev (XL L xs) 238 [some (.ref a), l1, l2, l3] (.ref a :: st) w Q := en_Ev_step dcL_237 rfl rfl
theorem eL_238 {x : Int32} {l0 l1 l2 : Option Value} : en_Ev (XL L xs) 238 [l0, l1, l2, some (.int x)] st w Q ↔ en_Ev (XL L xs) 239 [l0, l1, l2, some (.int x)] (.int x :: st) w Q := en_Ev_step dcL_238 rfl rfl
theorem eL_239 {M : en_L} : en_Ev (XL L xs) 239 M st w Q ↔ en_Ev (XL L xs) 240 M (.int 1 :: st) w Q := en_Ev_step dcL_239 rfl rfl
theorem eL_240 {x y : Int32} {M : en_L} : en_Ev (XL L xs) 240 M (.int y :: .int x :: st) w Q ↔ en_Ev (XL L xs) 241 M (.int (x + y) :: st) w Q := en_Ev_step dcL_240 rfl rfl
theorem eL_241 {j : Int32} {M : en_L} : en_Ev (XL L xs) 241 M (.int j :: .ref 62 :: st) w Q ↔ sc_ok L j ∧ en_Ev (XL L xs) 242 M (.int (sc_at xs j) :: st) w Q := en_Ev_scr dcL_241 rfl
theorem eL_242 {a : Nat} {l1 l2 l3 : Option Value} : en_Ev (XL L xs) 242 [some (.ref a), l1, l2, l3] st w Q ↔ en_Ev (XL L xs) 243 [some (.ref a), l1, l2, l3] (.ref a :: st) w Q := en_Ev_step dcL_242 rfl rfl
theorem eL_243 {x : Int32} {l0 l1 l2 : Option Value} : en_Ev (XL L xs) 243 [l0, l1, l2, some (.int x)] st w Q ↔ en_Ev (XL L xs) 244 [l0, l1, l2, some (.int x)] (.int x :: st) w Q := en_Ev_step dcL_243 rfl rfl
theorem eL_244 {M : en_L} : en_Ev (XL L xs) 244 M st w Q ↔ en_Ev (XL L xs) 245 M (.int 2 :: st) w Q := en_Ev_step dcL_244 rfl rfl
theorem eL_245 {x y : Int32} {M : en_L} : en_Ev (XL L xs) 245 M (.int y :: .int x :: st) w Q ↔ en_Ev (XL L xs) 246 M (.int (x + y) :: st) w Q := en_Ev_step dcL_245 rfl rfl
theorem eL_246 {j : Int32} {M : en_L} : en_Ev (XL L xs) 246 M (.int j :: .ref 62 :: st) w Q ↔ sc_ok L j ∧ en_Ev (XL L xs) 247 M (.int (sc_at xs j) :: st) w Q := en_Ev_scr dcL_246 rfl
theorem eL_247 {a : Nat} {l1 l2 l3 : Option Value} : en_Ev (XL L xs) 247 [some (.ref a), l1, l2, l3] st w Q ↔ en_Ev (XL L xs) 248 [some (.ref a), l1, l2, l3] (.ref a :: st) w Q := en_Ev_step dcL_247 rfl rfl
theorem eL_248 {x : Int32} {l0 l1 l2 : Option Value} : en_Ev (XL L xs) 248 [l0, l1, l2, some (.int x)] st w Q ↔ en_Ev (XL L xs) 249 [l0, l1, l2, some (.int x)] (.int x :: st) w Q := en_Ev_step dcL_248 rfl rfl
theorem eL_249 {M : en_L} : en_Ev (XL L xs) 249 M st w Q ↔ en_Ev (XL L xs) 250 M (.int 3 :: st) w Q := en_Ev_step dcL_249 rfl rfl
theorem eL_250 {x y : Int32} {M : en_L} : en_Ev (XL L xs) 250 M (.int y :: .int x :: st) w Q ↔ en_Ev (XL L xs) 251 M (.int (x + y) :: st) w Q := en_Ev_step dcL_250 rfl rfl
theorem eL_251 {j : Int32} {M : en_L} : en_Ev (XL L xs) 251 M (.int j :: .ref 62 :: st) w Q ↔ sc_ok L j ∧ en_Ev (XL L xs) 252 M (.int (sc_at xs j) :: st) w Q := en_Ev_scr dcL_251 rfl
theorem eL_252 {v0 v1 v2 v3 : Value} {M : en_L} : en_Ev (XL L xs) 252 M (v3 :: v2 :: v1 :: v0 :: st) w Q ↔ en_rcv (some 6) [v0, v1, v2, v3] = true ∧ en_stk st = true ∧ en_Ec (XL L xs) 255 M st (SX6_scratch [v0, v1, v2, v3] w) Q := en_Ev_inv (i := .invokevirtual 22) (v := true) (idx := 22) (ci := some 6) (k := 4) rfl dcL_252 rfl ccL_22 rfl (by simp)
theorem eL_255 {x y : Int32} {M : en_L} : en_Ev (XL L xs) 255 M (.int y :: .int x :: st) w Q ↔ if x = y then en_Ev (XL L xs) 1148 M st w Q else en_Ev (XL L xs) 258 M st w Q := (en_Ev_cmp (X := XL L xs) (pc := 255) (tgt := 1148) dcL_255 rfl).trans (Iff.of_eq en_cmp_eq)
theorem eL_258 {M : en_L} : en_Ev (XL L xs) 258 M st w Q ↔ en_Ev (XL L xs) 259 M (.int 0 :: st) w Q := en_Ev_step dcL_258 rfl rfl
theorem eL_259 {v : Int32} {M : en_L} : en_Ev (XL L xs) 259 M [.int v] w Q ↔ en_01 v ∧ Q (some (.int v)) w := en_Ev_bool dcL_259 rfl
theorem eL_260 {a : Nat} {l0 l2 l3 : Option Value} : en_Ev (XL L xs) 260 [l0, some (.ref a), l2, l3] st w Q ↔ en_Ev (XL L xs) 261 [l0, some (.ref a), l2, l3] (.ref a :: st) w Q := en_Ev_step dcL_260 rfl rfl
theorem eL_261 {a : Nat} {l1 l2 l3 : Option Value} : en_Ev (XL L xs) 261 [some (.ref a), l1, l2, l3] st w Q ↔ en_Ev (XL L xs) 262 [some (.ref a), l1, l2, l3] (.ref a :: st) w Q := en_Ev_step dcL_261 rfl rfl
theorem eL_262 {x : Int32} {l0 l1 l2 : Option Value} : en_Ev (XL L xs) 262 [l0, l1, l2, some (.int x)] st w Q ↔ en_Ev (XL L xs) 263 [l0, l1, l2, some (.int x)] (.int x :: st) w Q := en_Ev_step dcL_262 rfl rfl
theorem eL_263 {M : en_L} : en_Ev (XL L xs) 263 M st w Q ↔ en_Ev (XL L xs) 264 M (.int 1 :: st) w Q := en_Ev_step dcL_263 rfl rfl
theorem eL_264 {x y : Int32} {M : en_L} : en_Ev (XL L xs) 264 M (.int y :: .int x :: st) w Q ↔ en_Ev (XL L xs) 265 M (.int (x + y) :: st) w Q := en_Ev_step dcL_264 rfl rfl
theorem eL_265 {j : Int32} {M : en_L} : en_Ev (XL L xs) 265 M (.int j :: .ref 62 :: st) w Q ↔ sc_ok L j ∧ en_Ev (XL L xs) 266 M (.int (sc_at xs j) :: st) w Q := en_Ev_scr dcL_265 rfl
theorem eL_266 {v0 v1 : Value} {M : en_L} : en_Ev (XL L xs) 266 M (v1 :: v0 :: st) w Q ↔ en_rcv (some 5) [v0, v1] = true ∧ en_stk st = true ∧ en_Ec (XL L xs) 269 M st (SX5_type [v0, v1] w) Q := en_Ev_inv (i := .invokevirtual 23) (v := true) (idx := 23) (ci := some 5) (k := 2) rfl dcL_266 rfl ccL_23 rfl (by simp)
theorem eL_269 {a : Nat} {l0 l1 l3 : Option Value} : en_Ev (XL L xs) 269 [l0, l1, some (.ref a), l3] st w Q ↔ en_Ev (XL L xs) 270 [l0, l1, some (.ref a), l3] (.ref a :: st) w Q := en_Ev_step dcL_269 rfl rfl
theorem eL_270 {a : Nat} {l1 l2 l3 : Option Value} : en_Ev (XL L xs) 270 [some (.ref a), l1, l2, l3] st w Q ↔ en_Ev (XL L xs) 271 [some (.ref a), l1, l2, l3] (.ref a :: st) w Q := en_Ev_step dcL_270 rfl rfl
theorem eL_271 {x : Int32} {l0 l1 l2 : Option Value} : en_Ev (XL L xs) 271 [l0, l1, l2, some (.int x)] st w Q ↔ en_Ev (XL L xs) 272 [l0, l1, l2, some (.int x)] (.int x :: st) w Q := en_Ev_step dcL_271 rfl rfl
theorem eL_272 {M : en_L} : en_Ev (XL L xs) 272 M st w Q ↔ en_Ev (XL L xs) 273 M (.int 1 :: st) w Q := en_Ev_step dcL_272 rfl rfl
theorem eL_273 {x y : Int32} {M : en_L} : en_Ev (XL L xs) 273 M (.int y :: .int x :: st) w Q ↔ en_Ev (XL L xs) 274 M (.int (x + y) :: st) w Q := en_Ev_step dcL_273 rfl rfl
theorem eL_274 {j : Int32} {M : en_L} : en_Ev (XL L xs) 274 M (.int j :: .ref 62 :: st) w Q ↔ sc_ok L j ∧ en_Ev (XL L xs) 275 M (.int (sc_at xs j) :: st) w Q := en_Ev_scr dcL_274 rfl
theorem eL_275 {v0 v1 : Value} {M : en_L} : en_Ev (XL L xs) 275 M (v1 :: v0 :: st) w Q ↔ en_rcv (some 6) [v0, v1] = true ∧ en_stk st = true ∧ en_Ec (XL L xs) 278 M st (SX6_type [v0, v1] w) Q := en_Ev_inv (i := .invokevirtual 27) (v := true) (idx := 27) (ci := some 6) (k := 2) rfl dcL_275 rfl ccL_27 rfl (by simp)
theorem eL_278 {x y : Int32} {M : en_L} : en_Ev (XL L xs) 278 M (.int y :: .int x :: st) w Q ↔ if x = y then en_Ev (XL L xs) 1148 M st w Q else en_Ev (XL L xs) 281 M st w Q := (en_Ev_cmp (X := XL L xs) (pc := 278) (tgt := 1148) dcL_278 rfl).trans (Iff.of_eq en_cmp_eq)
theorem eL_281 {M : en_L} : en_Ev (XL L xs) 281 M st w Q ↔ en_Ev (XL L xs) 282 M (.int 0 :: st) w Q := en_Ev_step dcL_281 rfl rfl
theorem eL_282 {v : Int32} {M : en_L} : en_Ev (XL L xs) 282 M [.int v] w Q ↔ en_01 v ∧ Q (some (.int v)) w := en_Ev_bool dcL_282 rfl
theorem eL_283 {a : Nat} {l0 l2 l3 : Option Value} : en_Ev (XL L xs) 283 [l0, some (.ref a), l2, l3] st w Q ↔ en_Ev (XL L xs) 284 [l0, some (.ref a), l2, l3] (.ref a :: st) w Q := en_Ev_step dcL_283 rfl rfl
theorem eL_284 {v0 : Value} {M : en_L} : en_Ev (XL L xs) 284 M (v0 :: st) w Q ↔ en_rcv (some 5) [v0] = true ∧ en_stk st = true ∧ en_Ec (XL L xs) 287 M st (SX5_wipe [v0] w) Q := en_Ev_inv (i := .invokevirtual 28) (v := true) (idx := 28) (ci := some 5) (k := 1) rfl dcL_284 rfl ccL_28 rfl (by simp)
theorem eL_287 {a : Nat} {l0 l1 l3 : Option Value} : en_Ev (XL L xs) 287 [l0, l1, some (.ref a), l3] st w Q ↔ en_Ev (XL L xs) 288 [l0, l1, some (.ref a), l3] (.ref a :: st) w Q := en_Ev_step dcL_287 rfl rfl
theorem eL_288 {v0 : Value} {M : en_L} : en_Ev (XL L xs) 288 M (v0 :: st) w Q ↔ en_rcv (some 6) [v0] = true ∧ en_stk st = true ∧ en_Ec (XL L xs) 291 M st (SX6_wipe [v0] w) Q := en_Ev_inv (i := .invokevirtual 32) (v := true) (idx := 32) (ci := some 6) (k := 1) rfl dcL_288 rfl ccL_32 rfl (by simp)
theorem eL_291 {x y : Int32} {M : en_L} : en_Ev (XL L xs) 291 M (.int y :: .int x :: st) w Q ↔ if x = y then en_Ev (XL L xs) 1148 M st w Q else en_Ev (XL L xs) 294 M st w Q := (en_Ev_cmp (X := XL L xs) (pc := 291) (tgt := 1148) dcL_291 rfl).trans (Iff.of_eq en_cmp_eq)
theorem eL_294 {M : en_L} : en_Ev (XL L xs) 294 M st w Q ↔ en_Ev (XL L xs) 295 M (.int 0 :: st) w Q := en_Ev_step dcL_294 rfl rfl
theorem eL_295 {v : Int32} {M : en_L} : en_Ev (XL L xs) 295 M [.int v] w Q ↔ en_01 v ∧ Q (some (.int v)) w := en_Ev_bool dcL_295 rfl
theorem eL_296 {a : Nat} {l0 l2 l3 : Option Value} : en_Ev (XL L xs) 296 [l0, some (.ref a), l2, l3] st w Q ↔ en_Ev (XL L xs) 297 [l0, some (.ref a), l2, l3] (.ref a :: st) w Q := en_Ev_step dcL_296 rfl rfl
theorem eL_297 {v0 : Value} {M : en_L} : en_Ev (XL L xs) 297 M (v0 :: st) w Q ↔ en_rcv (some 5) [v0] = true ∧ en_stk st = true ∧ en_Ec (XL L xs) 300 M st (SX5_fault [v0] w) Q := en_Ev_inv (i := .invokevirtual 33) (v := true) (idx := 33) (ci := some 5) (k := 1) rfl dcL_297 rfl ccL_33 rfl (by simp)
theorem eL_300 {a : Nat} {l0 l1 l3 : Option Value} : en_Ev (XL L xs) 300 [l0, l1, some (.ref a), l3] st w Q ↔ en_Ev (XL L xs) 301 [l0, l1, some (.ref a), l3] (.ref a :: st) w Q := en_Ev_step dcL_300 rfl rfl
theorem eL_301 {v0 : Value} {M : en_L} : en_Ev (XL L xs) 301 M (v0 :: st) w Q ↔ en_rcv (some 6) [v0] = true ∧ en_stk st = true ∧ en_Ec (XL L xs) 304 M st (SX6_fault [v0] w) Q := en_Ev_inv (i := .invokevirtual 36) (v := true) (idx := 36) (ci := some 6) (k := 1) rfl dcL_301 rfl ccL_36 rfl (by simp)
theorem eL_304 {x y : Int32} {M : en_L} : en_Ev (XL L xs) 304 M (.int y :: .int x :: st) w Q ↔ if x = y then en_Ev (XL L xs) 1148 M st w Q else en_Ev (XL L xs) 307 M st w Q := (en_Ev_cmp (X := XL L xs) (pc := 304) (tgt := 1148) dcL_304 rfl).trans (Iff.of_eq en_cmp_eq)
theorem eL_307 {M : en_L} : en_Ev (XL L xs) 307 M st w Q ↔ en_Ev (XL L xs) 308 M (.int 0 :: st) w Q := en_Ev_step dcL_307 rfl rfl
theorem eL_308 {v : Int32} {M : en_L} : en_Ev (XL L xs) 308 M [.int v] w Q ↔ en_01 v ∧ Q (some (.int v)) w := en_Ev_bool dcL_308 rfl
theorem eL_309 {a : Nat} {l0 l2 l3 : Option Value} : en_Ev (XL L xs) 309 [l0, some (.ref a), l2, l3] st w Q ↔ en_Ev (XL L xs) 310 [l0, some (.ref a), l2, l3] (.ref a :: st) w Q := en_Ev_step dcL_309 rfl rfl
theorem eL_310 {v0 : Value} {M : en_L} : en_Ev (XL L xs) 310 M (v0 :: st) w Q ↔ en_rcv (some 5) [v0] = true ∧ en_stk st = true ∧ en_Ec (XL L xs) 313 M st (SX5_undo [v0] w) Q := en_Ev_inv (i := .invokevirtual 37) (v := true) (idx := 37) (ci := some 5) (k := 1) rfl dcL_310 rfl ccL_37 rfl (by simp)
theorem eL_313 {a : Nat} {l0 l1 l3 : Option Value} : en_Ev (XL L xs) 313 [l0, l1, some (.ref a), l3] st w Q ↔ en_Ev (XL L xs) 314 [l0, l1, some (.ref a), l3] (.ref a :: st) w Q := en_Ev_step dcL_313 rfl rfl
theorem eL_314 {v0 : Value} {M : en_L} : en_Ev (XL L xs) 314 M (v0 :: st) w Q ↔ en_rcv (some 6) [v0] = true ∧ en_stk st = true ∧ en_Ec (XL L xs) 317 M st (SX6_undo [v0] w) Q := en_Ev_inv (i := .invokevirtual 40) (v := true) (idx := 40) (ci := some 6) (k := 1) rfl dcL_314 rfl ccL_40 rfl (by simp)
theorem eL_317 {x y : Int32} {M : en_L} : en_Ev (XL L xs) 317 M (.int y :: .int x :: st) w Q ↔ if x = y then en_Ev (XL L xs) 1148 M st w Q else en_Ev (XL L xs) 320 M st w Q := (en_Ev_cmp (X := XL L xs) (pc := 317) (tgt := 1148) dcL_317 rfl).trans (Iff.of_eq en_cmp_eq)
theorem eL_320 {M : en_L} : en_Ev (XL L xs) 320 M st w Q ↔ en_Ev (XL L xs) 321 M (.int 0 :: st) w Q := en_Ev_step dcL_320 rfl rfl
theorem eL_321 {v : Int32} {M : en_L} : en_Ev (XL L xs) 321 M [.int v] w Q ↔ en_01 v ∧ Q (some (.int v)) w := en_Ev_bool dcL_321 rfl
theorem eL_322 {a : Nat} {l0 l2 l3 : Option Value} : en_Ev (XL L xs) 322 [l0, some (.ref a), l2, l3] st w Q ↔ en_Ev (XL L xs) 323 [l0, some (.ref a), l2, l3] (.ref a :: st) w Q := en_Ev_step dcL_322 rfl rfl
theorem eL_323 {a : Nat} {l1 l2 l3 : Option Value} : en_Ev (XL L xs) 323 [some (.ref a), l1, l2, l3] st w Q ↔ en_Ev (XL L xs) 324 [some (.ref a), l1, l2, l3] (.ref a :: st) w Q := en_Ev_step dcL_323 rfl rfl
theorem eL_324 {x : Int32} {l0 l1 l2 : Option Value} : en_Ev (XL L xs) 324 [l0, l1, l2, some (.int x)] st w Q ↔ en_Ev (XL L xs) 325 [l0, l1, l2, some (.int x)] (.int x :: st) w Q := en_Ev_step dcL_324 rfl rfl
theorem eL_325 {M : en_L} : en_Ev (XL L xs) 325 M st w Q ↔ en_Ev (XL L xs) 326 M (.int 1 :: st) w Q := en_Ev_step dcL_325 rfl rfl
theorem eL_326 {x y : Int32} {M : en_L} : en_Ev (XL L xs) 326 M (.int y :: .int x :: st) w Q ↔ en_Ev (XL L xs) 327 M (.int (x + y) :: st) w Q := en_Ev_step dcL_326 rfl rfl
theorem eL_327 {j : Int32} {M : en_L} : en_Ev (XL L xs) 327 M (.int j :: .ref 62 :: st) w Q ↔ sc_ok L j ∧ en_Ev (XL L xs) 328 M (.int (sc_at xs j) :: st) w Q := en_Ev_scr dcL_327 rfl
theorem eL_328 {a : Nat} {l1 l2 l3 : Option Value} : en_Ev (XL L xs) 328 [some (.ref a), l1, l2, l3] st w Q ↔ en_Ev (XL L xs) 329 [some (.ref a), l1, l2, l3] (.ref a :: st) w Q := en_Ev_step dcL_328 rfl rfl
theorem eL_329 {x : Int32} {l0 l1 l2 : Option Value} : en_Ev (XL L xs) 329 [l0, l1, l2, some (.int x)] st w Q ↔ en_Ev (XL L xs) 330 [l0, l1, l2, some (.int x)] (.int x :: st) w Q := en_Ev_step dcL_329 rfl rfl
theorem eL_330 {M : en_L} : en_Ev (XL L xs) 330 M st w Q ↔ en_Ev (XL L xs) 331 M (.int 2 :: st) w Q := en_Ev_step dcL_330 rfl rfl
theorem eL_331 {x y : Int32} {M : en_L} : en_Ev (XL L xs) 331 M (.int y :: .int x :: st) w Q ↔ en_Ev (XL L xs) 332 M (.int (x + y) :: st) w Q := en_Ev_step dcL_331 rfl rfl
theorem eL_332 {j : Int32} {M : en_L} : en_Ev (XL L xs) 332 M (.int j :: .ref 62 :: st) w Q ↔ sc_ok L j ∧ en_Ev (XL L xs) 333 M (.int (sc_at xs j) :: st) w Q := en_Ev_scr dcL_332 rfl
theorem eL_333 {v0 v1 v2 : Value} {M : en_L} : en_Ev (XL L xs) 333 M (v2 :: v1 :: v0 :: st) w Q ↔ en_rcv (some 5) [v0, v1, v2] = true ∧ en_stk st = true ∧ en_Ec (XL L xs) 336 M st (SX5_set [v0, v1, v2] w) Q := en_Ev_inv (i := .invokevirtual 41) (v := true) (idx := 41) (ci := some 5) (k := 3) rfl dcL_333 rfl ccL_41 rfl (by simp)
theorem eL_336 {a : Nat} {l0 l1 l3 : Option Value} : en_Ev (XL L xs) 336 [l0, l1, some (.ref a), l3] st w Q ↔ en_Ev (XL L xs) 337 [l0, l1, some (.ref a), l3] (.ref a :: st) w Q := en_Ev_step dcL_336 rfl rfl
theorem eL_337 {a : Nat} {l1 l2 l3 : Option Value} : en_Ev (XL L xs) 337 [some (.ref a), l1, l2, l3] st w Q ↔ en_Ev (XL L xs) 338 [some (.ref a), l1, l2, l3] (.ref a :: st) w Q := en_Ev_step dcL_337 rfl rfl
theorem eL_338 {x : Int32} {l0 l1 l2 : Option Value} : en_Ev (XL L xs) 338 [l0, l1, l2, some (.int x)] st w Q ↔ en_Ev (XL L xs) 339 [l0, l1, l2, some (.int x)] (.int x :: st) w Q := en_Ev_step dcL_338 rfl rfl
theorem eL_339 {M : en_L} : en_Ev (XL L xs) 339 M st w Q ↔ en_Ev (XL L xs) 340 M (.int 1 :: st) w Q := en_Ev_step dcL_339 rfl rfl
theorem eL_340 {x y : Int32} {M : en_L} : en_Ev (XL L xs) 340 M (.int y :: .int x :: st) w Q ↔ en_Ev (XL L xs) 341 M (.int (x + y) :: st) w Q := en_Ev_step dcL_340 rfl rfl
theorem eL_341 {j : Int32} {M : en_L} : en_Ev (XL L xs) 341 M (.int j :: .ref 62 :: st) w Q ↔ sc_ok L j ∧ en_Ev (XL L xs) 342 M (.int (sc_at xs j) :: st) w Q := en_Ev_scr dcL_341 rfl
theorem eL_342 {a : Nat} {l1 l2 l3 : Option Value} : en_Ev (XL L xs) 342 [some (.ref a), l1, l2, l3] st w Q ↔ en_Ev (XL L xs) 343 [some (.ref a), l1, l2, l3] (.ref a :: st) w Q := en_Ev_step dcL_342 rfl rfl
theorem eL_343 {x : Int32} {l0 l1 l2 : Option Value} : en_Ev (XL L xs) 343 [l0, l1, l2, some (.int x)] st w Q ↔ en_Ev (XL L xs) 344 [l0, l1, l2, some (.int x)] (.int x :: st) w Q := en_Ev_step dcL_343 rfl rfl
theorem eL_344 {M : en_L} : en_Ev (XL L xs) 344 M st w Q ↔ en_Ev (XL L xs) 345 M (.int 2 :: st) w Q := en_Ev_step dcL_344 rfl rfl
theorem eL_345 {x y : Int32} {M : en_L} : en_Ev (XL L xs) 345 M (.int y :: .int x :: st) w Q ↔ en_Ev (XL L xs) 346 M (.int (x + y) :: st) w Q := en_Ev_step dcL_345 rfl rfl
theorem eL_346 {j : Int32} {M : en_L} : en_Ev (XL L xs) 346 M (.int j :: .ref 62 :: st) w Q ↔ sc_ok L j ∧ en_Ev (XL L xs) 347 M (.int (sc_at xs j) :: st) w Q := en_Ev_scr dcL_346 rfl
theorem eL_347 {v0 v1 v2 : Value} {M : en_L} : en_Ev (XL L xs) 347 M (v2 :: v1 :: v0 :: st) w Q ↔ en_rcv (some 6) [v0, v1, v2] = true ∧ en_stk st = true ∧ en_Ec (XL L xs) 350 M st (SX6_set [v0, v1, v2] w) Q := en_Ev_inv (i := .invokevirtual 44) (v := true) (idx := 44) (ci := some 6) (k := 3) rfl dcL_347 rfl ccL_44 rfl (by simp)
theorem eL_350 {x y : Int32} {M : en_L} : en_Ev (XL L xs) 350 M (.int y :: .int x :: st) w Q ↔ if x = y then en_Ev (XL L xs) 1148 M st w Q else en_Ev (XL L xs) 353 M st w Q := (en_Ev_cmp (X := XL L xs) (pc := 350) (tgt := 1148) dcL_350 rfl).trans (Iff.of_eq en_cmp_eq)
theorem eL_353 {M : en_L} : en_Ev (XL L xs) 353 M st w Q ↔ en_Ev (XL L xs) 354 M (.int 0 :: st) w Q := en_Ev_step dcL_353 rfl rfl
theorem eL_354 {v : Int32} {M : en_L} : en_Ev (XL L xs) 354 M [.int v] w Q ↔ en_01 v ∧ Q (some (.int v)) w := en_Ev_bool dcL_354 rfl
theorem eL_355 {a : Nat} {l0 l2 l3 : Option Value} : en_Ev (XL L xs) 355 [l0, some (.ref a), l2, l3] st w Q ↔ en_Ev (XL L xs) 356 [l0, some (.ref a), l2, l3] (.ref a :: st) w Q := en_Ev_step dcL_355 rfl rfl
theorem eL_356 {a : Nat} {l1 l2 l3 : Option Value} : en_Ev (XL L xs) 356 [some (.ref a), l1, l2, l3] st w Q ↔ en_Ev (XL L xs) 357 [some (.ref a), l1, l2, l3] (.ref a :: st) w Q := en_Ev_step dcL_356 rfl rfl
theorem eL_357 {x : Int32} {l0 l1 l2 : Option Value} : en_Ev (XL L xs) 357 [l0, l1, l2, some (.int x)] st w Q ↔ en_Ev (XL L xs) 358 [l0, l1, l2, some (.int x)] (.int x :: st) w Q := en_Ev_step dcL_357 rfl rfl
theorem eL_358 {M : en_L} : en_Ev (XL L xs) 358 M st w Q ↔ en_Ev (XL L xs) 359 M (.int 1 :: st) w Q := en_Ev_step dcL_358 rfl rfl
theorem eL_359 {x y : Int32} {M : en_L} : en_Ev (XL L xs) 359 M (.int y :: .int x :: st) w Q ↔ en_Ev (XL L xs) 360 M (.int (x + y) :: st) w Q := en_Ev_step dcL_359 rfl rfl
theorem eL_360 {j : Int32} {M : en_L} : en_Ev (XL L xs) 360 M (.int j :: .ref 62 :: st) w Q ↔ sc_ok L j ∧ en_Ev (XL L xs) 361 M (.int (sc_at xs j) :: st) w Q := en_Ev_scr dcL_360 rfl
theorem eL_361 {v0 v1 : Value} {M : en_L} : en_Ev (XL L xs) 361 M (v1 :: v0 :: st) w Q ↔ en_rcv (some 5) [v0, v1] = true ∧ en_stk st = true ∧ en_Ec (XL L xs) 364 M st (SX5_read [v0, v1] w) Q := en_Ev_inv (i := .invokevirtual 45) (v := true) (idx := 45) (ci := some 5) (k := 2) rfl dcL_361 rfl ccL_45 rfl (by simp)
theorem eL_364 {a : Nat} {l0 l1 l3 : Option Value} : en_Ev (XL L xs) 364 [l0, l1, some (.ref a), l3] st w Q ↔ en_Ev (XL L xs) 365 [l0, l1, some (.ref a), l3] (.ref a :: st) w Q := en_Ev_step dcL_364 rfl rfl
theorem eL_365 {a : Nat} {l1 l2 l3 : Option Value} : en_Ev (XL L xs) 365 [some (.ref a), l1, l2, l3] st w Q ↔ en_Ev (XL L xs) 366 [some (.ref a), l1, l2, l3] (.ref a :: st) w Q := en_Ev_step dcL_365 rfl rfl
theorem eL_366 {x : Int32} {l0 l1 l2 : Option Value} : en_Ev (XL L xs) 366 [l0, l1, l2, some (.int x)] st w Q ↔ en_Ev (XL L xs) 367 [l0, l1, l2, some (.int x)] (.int x :: st) w Q := en_Ev_step dcL_366 rfl rfl
theorem eL_367 {M : en_L} : en_Ev (XL L xs) 367 M st w Q ↔ en_Ev (XL L xs) 368 M (.int 1 :: st) w Q := en_Ev_step dcL_367 rfl rfl
theorem eL_368 {x y : Int32} {M : en_L} : en_Ev (XL L xs) 368 M (.int y :: .int x :: st) w Q ↔ en_Ev (XL L xs) 369 M (.int (x + y) :: st) w Q := en_Ev_step dcL_368 rfl rfl
theorem eL_369 {j : Int32} {M : en_L} : en_Ev (XL L xs) 369 M (.int j :: .ref 62 :: st) w Q ↔ sc_ok L j ∧ en_Ev (XL L xs) 370 M (.int (sc_at xs j) :: st) w Q := en_Ev_scr dcL_369 rfl
theorem eL_370 {v0 v1 : Value} {M : en_L} : en_Ev (XL L xs) 370 M (v1 :: v0 :: st) w Q ↔ en_rcv (some 6) [v0, v1] = true ∧ en_stk st = true ∧ en_Ec (XL L xs) 373 M st (SX6_read [v0, v1] w) Q := en_Ev_inv (i := .invokevirtual 48) (v := true) (idx := 48) (ci := some 6) (k := 2) rfl dcL_370 rfl ccL_48 rfl (by simp)
theorem eL_373 {x y : Int32} {M : en_L} : en_Ev (XL L xs) 373 M (.int y :: .int x :: st) w Q ↔ if x = y then en_Ev (XL L xs) 1148 M st w Q else en_Ev (XL L xs) 376 M st w Q := (en_Ev_cmp (X := XL L xs) (pc := 373) (tgt := 1148) dcL_373 rfl).trans (Iff.of_eq en_cmp_eq)
theorem eL_376 {M : en_L} : en_Ev (XL L xs) 376 M st w Q ↔ en_Ev (XL L xs) 377 M (.int 0 :: st) w Q := en_Ev_step dcL_376 rfl rfl
theorem eL_377 {v : Int32} {M : en_L} : en_Ev (XL L xs) 377 M [.int v] w Q ↔ en_01 v ∧ Q (some (.int v)) w := en_Ev_bool dcL_377 rfl
theorem eL_378 {a : Nat} {l0 l2 l3 : Option Value} : en_Ev (XL L xs) 378 [l0, some (.ref a), l2, l3] st w Q ↔ en_Ev (XL L xs) 379 [l0, some (.ref a), l2, l3] (.ref a :: st) w Q := en_Ev_step dcL_378 rfl rfl
theorem eL_379 {a : Nat} {l1 l2 l3 : Option Value} : en_Ev (XL L xs) 379 [some (.ref a), l1, l2, l3] st w Q ↔ en_Ev (XL L xs) 380 [some (.ref a), l1, l2, l3] (.ref a :: st) w Q := en_Ev_step dcL_379 rfl rfl
theorem eL_380 {x : Int32} {l0 l1 l2 : Option Value} : en_Ev (XL L xs) 380 [l0, l1, l2, some (.int x)] st w Q ↔ en_Ev (XL L xs) 381 [l0, l1, l2, some (.int x)] (.int x :: st) w Q := en_Ev_step dcL_380 rfl rfl
theorem eL_381 {M : en_L} : en_Ev (XL L xs) 381 M st w Q ↔ en_Ev (XL L xs) 382 M (.int 1 :: st) w Q := en_Ev_step dcL_381 rfl rfl
theorem eL_382 {x y : Int32} {M : en_L} : en_Ev (XL L xs) 382 M (.int y :: .int x :: st) w Q ↔ en_Ev (XL L xs) 383 M (.int (x + y) :: st) w Q := en_Ev_step dcL_382 rfl rfl
theorem eL_383 {j : Int32} {M : en_L} : en_Ev (XL L xs) 383 M (.int j :: .ref 62 :: st) w Q ↔ sc_ok L j ∧ en_Ev (XL L xs) 384 M (.int (sc_at xs j) :: st) w Q := en_Ev_scr dcL_383 rfl
theorem eL_384 {v0 v1 : Value} {M : en_L} : en_Ev (XL L xs) 384 M (v1 :: v0 :: st) w Q ↔ en_rcv (some 5) [v0, v1] = true ∧ en_stk st = true ∧ en_Ec (XL L xs) 387 M st (SX5_plays [v0, v1] w) Q := en_Ev_inv (i := .invokevirtual 49) (v := true) (idx := 49) (ci := some 5) (k := 2) rfl dcL_384 rfl ccL_49 rfl (by simp)
theorem eL_387 {a : Nat} {l0 l1 l3 : Option Value} : en_Ev (XL L xs) 387 [l0, l1, some (.ref a), l3] st w Q ↔ en_Ev (XL L xs) 388 [l0, l1, some (.ref a), l3] (.ref a :: st) w Q := en_Ev_step dcL_387 rfl rfl
theorem eL_388 {a : Nat} {l1 l2 l3 : Option Value} : en_Ev (XL L xs) 388 [some (.ref a), l1, l2, l3] st w Q ↔ en_Ev (XL L xs) 389 [some (.ref a), l1, l2, l3] (.ref a :: st) w Q := en_Ev_step dcL_388 rfl rfl
theorem eL_389 {x : Int32} {l0 l1 l2 : Option Value} : en_Ev (XL L xs) 389 [l0, l1, l2, some (.int x)] st w Q ↔ en_Ev (XL L xs) 390 [l0, l1, l2, some (.int x)] (.int x :: st) w Q := en_Ev_step dcL_389 rfl rfl
theorem eL_390 {M : en_L} : en_Ev (XL L xs) 390 M st w Q ↔ en_Ev (XL L xs) 391 M (.int 1 :: st) w Q := en_Ev_step dcL_390 rfl rfl
theorem eL_391 {x y : Int32} {M : en_L} : en_Ev (XL L xs) 391 M (.int y :: .int x :: st) w Q ↔ en_Ev (XL L xs) 392 M (.int (x + y) :: st) w Q := en_Ev_step dcL_391 rfl rfl
theorem eL_392 {j : Int32} {M : en_L} : en_Ev (XL L xs) 392 M (.int j :: .ref 62 :: st) w Q ↔ sc_ok L j ∧ en_Ev (XL L xs) 393 M (.int (sc_at xs j) :: st) w Q := en_Ev_scr dcL_392 rfl
theorem eL_393 {v0 v1 : Value} {M : en_L} : en_Ev (XL L xs) 393 M (v1 :: v0 :: st) w Q ↔ en_rcv (some 6) [v0, v1] = true ∧ en_stk st = true ∧ en_Ec (XL L xs) 396 M st (SX6_plays [v0, v1] w) Q := en_Ev_inv (i := .invokevirtual 52) (v := true) (idx := 52) (ci := some 6) (k := 2) rfl dcL_393 rfl ccL_52 rfl (by simp)
theorem eL_396 {x y : Int32} {M : en_L} : en_Ev (XL L xs) 396 M (.int y :: .int x :: st) w Q ↔ if x = y then en_Ev (XL L xs) 1148 M st w Q else en_Ev (XL L xs) 399 M st w Q := (en_Ev_cmp (X := XL L xs) (pc := 396) (tgt := 1148) dcL_396 rfl).trans (Iff.of_eq en_cmp_eq)
theorem eL_399 {M : en_L} : en_Ev (XL L xs) 399 M st w Q ↔ en_Ev (XL L xs) 400 M (.int 0 :: st) w Q := en_Ev_step dcL_399 rfl rfl
theorem eL_400 {v : Int32} {M : en_L} : en_Ev (XL L xs) 400 M [.int v] w Q ↔ en_01 v ∧ Q (some (.int v)) w := en_Ev_bool dcL_400 rfl
theorem eL_401 {a : Nat} {l0 l2 l3 : Option Value} : en_Ev (XL L xs) 401 [l0, some (.ref a), l2, l3] st w Q ↔ en_Ev (XL L xs) 402 [l0, some (.ref a), l2, l3] (.ref a :: st) w Q := en_Ev_step dcL_401 rfl rfl
theorem eL_402 {a : Nat} {l1 l2 l3 : Option Value} : en_Ev (XL L xs) 402 [some (.ref a), l1, l2, l3] st w Q ↔ en_Ev (XL L xs) 403 [some (.ref a), l1, l2, l3] (.ref a :: st) w Q := en_Ev_step dcL_402 rfl rfl
theorem eL_403 {x : Int32} {l0 l1 l2 : Option Value} : en_Ev (XL L xs) 403 [l0, l1, l2, some (.int x)] st w Q ↔ en_Ev (XL L xs) 404 [l0, l1, l2, some (.int x)] (.int x :: st) w Q := en_Ev_step dcL_403 rfl rfl
theorem eL_404 {M : en_L} : en_Ev (XL L xs) 404 M st w Q ↔ en_Ev (XL L xs) 405 M (.int 1 :: st) w Q := en_Ev_step dcL_404 rfl rfl
theorem eL_405 {x y : Int32} {M : en_L} : en_Ev (XL L xs) 405 M (.int y :: .int x :: st) w Q ↔ en_Ev (XL L xs) 406 M (.int (x + y) :: st) w Q := en_Ev_step dcL_405 rfl rfl
theorem eL_406 {j : Int32} {M : en_L} : en_Ev (XL L xs) 406 M (.int j :: .ref 62 :: st) w Q ↔ sc_ok L j ∧ en_Ev (XL L xs) 407 M (.int (sc_at xs j) :: st) w Q := en_Ev_scr dcL_406 rfl
theorem eL_407 {a : Nat} {l1 l2 l3 : Option Value} : en_Ev (XL L xs) 407 [some (.ref a), l1, l2, l3] st w Q ↔ en_Ev (XL L xs) 408 [some (.ref a), l1, l2, l3] (.ref a :: st) w Q := en_Ev_step dcL_407 rfl rfl
theorem eL_408 {x : Int32} {l0 l1 l2 : Option Value} : en_Ev (XL L xs) 408 [l0, l1, l2, some (.int x)] st w Q ↔ en_Ev (XL L xs) 409 [l0, l1, l2, some (.int x)] (.int x :: st) w Q := en_Ev_step dcL_408 rfl rfl
theorem eL_409 {M : en_L} : en_Ev (XL L xs) 409 M st w Q ↔ en_Ev (XL L xs) 410 M (.int 2 :: st) w Q := en_Ev_step dcL_409 rfl rfl
theorem eL_410 {x y : Int32} {M : en_L} : en_Ev (XL L xs) 410 M (.int y :: .int x :: st) w Q ↔ en_Ev (XL L xs) 411 M (.int (x + y) :: st) w Q := en_Ev_step dcL_410 rfl rfl
theorem eL_411 {j : Int32} {M : en_L} : en_Ev (XL L xs) 411 M (.int j :: .ref 62 :: st) w Q ↔ sc_ok L j ∧ en_Ev (XL L xs) 412 M (.int (sc_at xs j) :: st) w Q := en_Ev_scr dcL_411 rfl
theorem eL_412 {v0 v1 v2 : Value} {M : en_L} : en_Ev (XL L xs) 412 M (v2 :: v1 :: v0 :: st) w Q ↔ en_rcv (some 5) [v0, v1, v2] = true ∧ en_stk st = true ∧ en_Ec (XL L xs) 415 M st (SX5_groove [v0, v1, v2] w) Q := en_Ev_inv (i := .invokevirtual 53) (v := true) (idx := 53) (ci := some 5) (k := 3) rfl dcL_412 rfl ccL_53 rfl (by simp)
theorem eL_415 {a : Nat} {l0 l1 l3 : Option Value} : en_Ev (XL L xs) 415 [l0, l1, some (.ref a), l3] st w Q ↔ en_Ev (XL L xs) 416 [l0, l1, some (.ref a), l3] (.ref a :: st) w Q := en_Ev_step dcL_415 rfl rfl
theorem eL_416 {a : Nat} {l1 l2 l3 : Option Value} : en_Ev (XL L xs) 416 [some (.ref a), l1, l2, l3] st w Q ↔ en_Ev (XL L xs) 417 [some (.ref a), l1, l2, l3] (.ref a :: st) w Q := en_Ev_step dcL_416 rfl rfl
theorem eL_417 {x : Int32} {l0 l1 l2 : Option Value} : en_Ev (XL L xs) 417 [l0, l1, l2, some (.int x)] st w Q ↔ en_Ev (XL L xs) 418 [l0, l1, l2, some (.int x)] (.int x :: st) w Q := en_Ev_step dcL_417 rfl rfl
theorem eL_418 {M : en_L} : en_Ev (XL L xs) 418 M st w Q ↔ en_Ev (XL L xs) 419 M (.int 1 :: st) w Q := en_Ev_step dcL_418 rfl rfl
theorem eL_419 {x y : Int32} {M : en_L} : en_Ev (XL L xs) 419 M (.int y :: .int x :: st) w Q ↔ en_Ev (XL L xs) 420 M (.int (x + y) :: st) w Q := en_Ev_step dcL_419 rfl rfl
theorem eL_420 {j : Int32} {M : en_L} : en_Ev (XL L xs) 420 M (.int j :: .ref 62 :: st) w Q ↔ sc_ok L j ∧ en_Ev (XL L xs) 421 M (.int (sc_at xs j) :: st) w Q := en_Ev_scr dcL_420 rfl
theorem eL_421 {a : Nat} {l1 l2 l3 : Option Value} : en_Ev (XL L xs) 421 [some (.ref a), l1, l2, l3] st w Q ↔ en_Ev (XL L xs) 422 [some (.ref a), l1, l2, l3] (.ref a :: st) w Q := en_Ev_step dcL_421 rfl rfl
theorem eL_422 {x : Int32} {l0 l1 l2 : Option Value} : en_Ev (XL L xs) 422 [l0, l1, l2, some (.int x)] st w Q ↔ en_Ev (XL L xs) 423 [l0, l1, l2, some (.int x)] (.int x :: st) w Q := en_Ev_step dcL_422 rfl rfl
theorem eL_423 {M : en_L} : en_Ev (XL L xs) 423 M st w Q ↔ en_Ev (XL L xs) 424 M (.int 2 :: st) w Q := en_Ev_step dcL_423 rfl rfl
theorem eL_424 {x y : Int32} {M : en_L} : en_Ev (XL L xs) 424 M (.int y :: .int x :: st) w Q ↔ en_Ev (XL L xs) 425 M (.int (x + y) :: st) w Q := en_Ev_step dcL_424 rfl rfl
theorem eL_425 {j : Int32} {M : en_L} : en_Ev (XL L xs) 425 M (.int j :: .ref 62 :: st) w Q ↔ sc_ok L j ∧ en_Ev (XL L xs) 426 M (.int (sc_at xs j) :: st) w Q := en_Ev_scr dcL_425 rfl
theorem eL_426 {v0 v1 v2 : Value} {M : en_L} : en_Ev (XL L xs) 426 M (v2 :: v1 :: v0 :: st) w Q ↔ en_rcv (some 6) [v0, v1, v2] = true ∧ en_stk st = true ∧ en_Ec (XL L xs) 429 M st (SX6_groove [v0, v1, v2] w) Q := en_Ev_inv (i := .invokevirtual 56) (v := true) (idx := 56) (ci := some 6) (k := 3) rfl dcL_426 rfl ccL_56 rfl (by simp)
theorem eL_429 {x y : Int32} {M : en_L} : en_Ev (XL L xs) 429 M (.int y :: .int x :: st) w Q ↔ if x = y then en_Ev (XL L xs) 1148 M st w Q else en_Ev (XL L xs) 432 M st w Q := (en_Ev_cmp (X := XL L xs) (pc := 429) (tgt := 1148) dcL_429 rfl).trans (Iff.of_eq en_cmp_eq)
theorem eL_432 {M : en_L} : en_Ev (XL L xs) 432 M st w Q ↔ en_Ev (XL L xs) 433 M (.int 0 :: st) w Q := en_Ev_step dcL_432 rfl rfl
theorem eL_433 {v : Int32} {M : en_L} : en_Ev (XL L xs) 433 M [.int v] w Q ↔ en_01 v ∧ Q (some (.int v)) w := en_Ev_bool dcL_433 rfl
theorem eL_434 {a : Nat} {l0 l2 l3 : Option Value} : en_Ev (XL L xs) 434 [l0, some (.ref a), l2, l3] st w Q ↔ en_Ev (XL L xs) 435 [l0, some (.ref a), l2, l3] (.ref a :: st) w Q := en_Ev_step dcL_434 rfl rfl
theorem eL_435 {a : Nat} {l1 l2 l3 : Option Value} : en_Ev (XL L xs) 435 [some (.ref a), l1, l2, l3] st w Q ↔ en_Ev (XL L xs) 436 [some (.ref a), l1, l2, l3] (.ref a :: st) w Q := en_Ev_step dcL_435 rfl rfl
theorem eL_436 {x : Int32} {l0 l1 l2 : Option Value} : en_Ev (XL L xs) 436 [l0, l1, l2, some (.int x)] st w Q ↔ en_Ev (XL L xs) 437 [l0, l1, l2, some (.int x)] (.int x :: st) w Q := en_Ev_step dcL_436 rfl rfl
theorem eL_437 {M : en_L} : en_Ev (XL L xs) 437 M st w Q ↔ en_Ev (XL L xs) 438 M (.int 1 :: st) w Q := en_Ev_step dcL_437 rfl rfl
theorem eL_438 {x y : Int32} {M : en_L} : en_Ev (XL L xs) 438 M (.int y :: .int x :: st) w Q ↔ en_Ev (XL L xs) 439 M (.int (x + y) :: st) w Q := en_Ev_step dcL_438 rfl rfl
theorem eL_439 {j : Int32} {M : en_L} : en_Ev (XL L xs) 439 M (.int j :: .ref 62 :: st) w Q ↔ sc_ok L j ∧ en_Ev (XL L xs) 440 M (.int (sc_at xs j) :: st) w Q := en_Ev_scr dcL_439 rfl
theorem eL_440 {v0 v1 : Value} {M : en_L} : en_Ev (XL L xs) 440 M (v1 :: v0 :: st) w Q ↔ en_rcv (some 5) [v0, v1] = true ∧ en_stk st = true ∧ en_Ec (XL L xs) 443 M st (SX5_loops [v0, v1] w) Q := en_Ev_inv (i := .invokevirtual 57) (v := true) (idx := 57) (ci := some 5) (k := 2) rfl dcL_440 rfl ccL_57 rfl (by simp)
theorem eL_443 {a : Nat} {l0 l1 l3 : Option Value} : en_Ev (XL L xs) 443 [l0, l1, some (.ref a), l3] st w Q ↔ en_Ev (XL L xs) 444 [l0, l1, some (.ref a), l3] (.ref a :: st) w Q := en_Ev_step dcL_443 rfl rfl
theorem eL_444 {a : Nat} {l1 l2 l3 : Option Value} : en_Ev (XL L xs) 444 [some (.ref a), l1, l2, l3] st w Q ↔ en_Ev (XL L xs) 445 [some (.ref a), l1, l2, l3] (.ref a :: st) w Q := en_Ev_step dcL_444 rfl rfl
theorem eL_445 {x : Int32} {l0 l1 l2 : Option Value} : en_Ev (XL L xs) 445 [l0, l1, l2, some (.int x)] st w Q ↔ en_Ev (XL L xs) 446 [l0, l1, l2, some (.int x)] (.int x :: st) w Q := en_Ev_step dcL_445 rfl rfl
theorem eL_446 {M : en_L} : en_Ev (XL L xs) 446 M st w Q ↔ en_Ev (XL L xs) 447 M (.int 1 :: st) w Q := en_Ev_step dcL_446 rfl rfl
theorem eL_447 {x y : Int32} {M : en_L} : en_Ev (XL L xs) 447 M (.int y :: .int x :: st) w Q ↔ en_Ev (XL L xs) 448 M (.int (x + y) :: st) w Q := en_Ev_step dcL_447 rfl rfl
theorem eL_448 {j : Int32} {M : en_L} : en_Ev (XL L xs) 448 M (.int j :: .ref 62 :: st) w Q ↔ sc_ok L j ∧ en_Ev (XL L xs) 449 M (.int (sc_at xs j) :: st) w Q := en_Ev_scr dcL_448 rfl
theorem eL_449 {v0 v1 : Value} {M : en_L} : en_Ev (XL L xs) 449 M (v1 :: v0 :: st) w Q ↔ en_rcv (some 6) [v0, v1] = true ∧ en_stk st = true ∧ en_Ec (XL L xs) 452 M st (SX6_loops [v0, v1] w) Q := en_Ev_inv (i := .invokevirtual 60) (v := true) (idx := 60) (ci := some 6) (k := 2) rfl dcL_449 rfl ccL_60 rfl (by simp)
theorem eL_452 {x y : Int32} {M : en_L} : en_Ev (XL L xs) 452 M (.int y :: .int x :: st) w Q ↔ if x = y then en_Ev (XL L xs) 1148 M st w Q else en_Ev (XL L xs) 455 M st w Q := (en_Ev_cmp (X := XL L xs) (pc := 452) (tgt := 1148) dcL_452 rfl).trans (Iff.of_eq en_cmp_eq)
theorem eL_455 {M : en_L} : en_Ev (XL L xs) 455 M st w Q ↔ en_Ev (XL L xs) 456 M (.int 0 :: st) w Q := en_Ev_step dcL_455 rfl rfl
theorem eL_456 {v : Int32} {M : en_L} : en_Ev (XL L xs) 456 M [.int v] w Q ↔ en_01 v ∧ Q (some (.int v)) w := en_Ev_bool dcL_456 rfl
theorem eL_457 {a : Nat} {l0 l2 l3 : Option Value} : en_Ev (XL L xs) 457 [l0, some (.ref a), l2, l3] st w Q ↔ en_Ev (XL L xs) 458 [l0, some (.ref a), l2, l3] (.ref a :: st) w Q := en_Ev_step dcL_457 rfl rfl
theorem eL_458 {a : Nat} {l1 l2 l3 : Option Value} : en_Ev (XL L xs) 458 [some (.ref a), l1, l2, l3] st w Q ↔ en_Ev (XL L xs) 459 [some (.ref a), l1, l2, l3] (.ref a :: st) w Q := en_Ev_step dcL_458 rfl rfl
theorem eL_459 {x : Int32} {l0 l1 l2 : Option Value} : en_Ev (XL L xs) 459 [l0, l1, l2, some (.int x)] st w Q ↔ en_Ev (XL L xs) 460 [l0, l1, l2, some (.int x)] (.int x :: st) w Q := en_Ev_step dcL_459 rfl rfl
theorem eL_460 {M : en_L} : en_Ev (XL L xs) 460 M st w Q ↔ en_Ev (XL L xs) 461 M (.int 1 :: st) w Q := en_Ev_step dcL_460 rfl rfl
theorem eL_461 {x y : Int32} {M : en_L} : en_Ev (XL L xs) 461 M (.int y :: .int x :: st) w Q ↔ en_Ev (XL L xs) 462 M (.int (x + y) :: st) w Q := en_Ev_step dcL_461 rfl rfl
theorem eL_462 {j : Int32} {M : en_L} : en_Ev (XL L xs) 462 M (.int j :: .ref 62 :: st) w Q ↔ sc_ok L j ∧ en_Ev (XL L xs) 463 M (.int (sc_at xs j) :: st) w Q := en_Ev_scr dcL_462 rfl
theorem eL_463 {a : Nat} {l1 l2 l3 : Option Value} : en_Ev (XL L xs) 463 [some (.ref a), l1, l2, l3] st w Q ↔ en_Ev (XL L xs) 464 [some (.ref a), l1, l2, l3] (.ref a :: st) w Q := en_Ev_step dcL_463 rfl rfl
theorem eL_464 {x : Int32} {l0 l1 l2 : Option Value} : en_Ev (XL L xs) 464 [l0, l1, l2, some (.int x)] st w Q ↔ en_Ev (XL L xs) 465 [l0, l1, l2, some (.int x)] (.int x :: st) w Q := en_Ev_step dcL_464 rfl rfl
theorem eL_465 {M : en_L} : en_Ev (XL L xs) 465 M st w Q ↔ en_Ev (XL L xs) 466 M (.int 2 :: st) w Q := en_Ev_step dcL_465 rfl rfl
theorem eL_466 {x y : Int32} {M : en_L} : en_Ev (XL L xs) 466 M (.int y :: .int x :: st) w Q ↔ en_Ev (XL L xs) 467 M (.int (x + y) :: st) w Q := en_Ev_step dcL_466 rfl rfl
theorem eL_467 {j : Int32} {M : en_L} : en_Ev (XL L xs) 467 M (.int j :: .ref 62 :: st) w Q ↔ sc_ok L j ∧ en_Ev (XL L xs) 468 M (.int (sc_at xs j) :: st) w Q := en_Ev_scr dcL_467 rfl
theorem eL_468 {v0 v1 v2 : Value} {M : en_L} : en_Ev (XL L xs) 468 M (v2 :: v1 :: v0 :: st) w Q ↔ en_rcv (some 5) [v0, v1, v2] = true ∧ en_stk st = true ∧ en_Ec (XL L xs) 471 M st (SX5_wax [v0, v1, v2] w) Q := en_Ev_inv (i := .invokevirtual 61) (v := true) (idx := 61) (ci := some 5) (k := 3) rfl dcL_468 rfl ccL_61 rfl (by simp)
theorem eL_471 {a : Nat} {l0 l1 l3 : Option Value} : en_Ev (XL L xs) 471 [l0, l1, some (.ref a), l3] st w Q ↔ en_Ev (XL L xs) 472 [l0, l1, some (.ref a), l3] (.ref a :: st) w Q := en_Ev_step dcL_471 rfl rfl
theorem eL_472 {a : Nat} {l1 l2 l3 : Option Value} : en_Ev (XL L xs) 472 [some (.ref a), l1, l2, l3] st w Q ↔ en_Ev (XL L xs) 473 [some (.ref a), l1, l2, l3] (.ref a :: st) w Q := en_Ev_step dcL_472 rfl rfl
theorem eL_473 {x : Int32} {l0 l1 l2 : Option Value} : en_Ev (XL L xs) 473 [l0, l1, l2, some (.int x)] st w Q ↔ en_Ev (XL L xs) 474 [l0, l1, l2, some (.int x)] (.int x :: st) w Q := en_Ev_step dcL_473 rfl rfl
theorem eL_474 {M : en_L} : en_Ev (XL L xs) 474 M st w Q ↔ en_Ev (XL L xs) 475 M (.int 1 :: st) w Q := en_Ev_step dcL_474 rfl rfl
theorem eL_475 {x y : Int32} {M : en_L} : en_Ev (XL L xs) 475 M (.int y :: .int x :: st) w Q ↔ en_Ev (XL L xs) 476 M (.int (x + y) :: st) w Q := en_Ev_step dcL_475 rfl rfl
theorem eL_476 {j : Int32} {M : en_L} : en_Ev (XL L xs) 476 M (.int j :: .ref 62 :: st) w Q ↔ sc_ok L j ∧ en_Ev (XL L xs) 477 M (.int (sc_at xs j) :: st) w Q := en_Ev_scr dcL_476 rfl
theorem eL_477 {a : Nat} {l1 l2 l3 : Option Value} : en_Ev (XL L xs) 477 [some (.ref a), l1, l2, l3] st w Q ↔ en_Ev (XL L xs) 478 [some (.ref a), l1, l2, l3] (.ref a :: st) w Q := en_Ev_step dcL_477 rfl rfl
theorem eL_478 {x : Int32} {l0 l1 l2 : Option Value} : en_Ev (XL L xs) 478 [l0, l1, l2, some (.int x)] st w Q ↔ en_Ev (XL L xs) 479 [l0, l1, l2, some (.int x)] (.int x :: st) w Q := en_Ev_step dcL_478 rfl rfl
theorem eL_479 {M : en_L} : en_Ev (XL L xs) 479 M st w Q ↔ en_Ev (XL L xs) 480 M (.int 2 :: st) w Q := en_Ev_step dcL_479 rfl rfl
theorem eL_480 {x y : Int32} {M : en_L} : en_Ev (XL L xs) 480 M (.int y :: .int x :: st) w Q ↔ en_Ev (XL L xs) 481 M (.int (x + y) :: st) w Q := en_Ev_step dcL_480 rfl rfl
theorem eL_481 {j : Int32} {M : en_L} : en_Ev (XL L xs) 481 M (.int j :: .ref 62 :: st) w Q ↔ sc_ok L j ∧ en_Ev (XL L xs) 482 M (.int (sc_at xs j) :: st) w Q := en_Ev_scr dcL_481 rfl
theorem eL_482 {v0 v1 v2 : Value} {M : en_L} : en_Ev (XL L xs) 482 M (v2 :: v1 :: v0 :: st) w Q ↔ en_rcv (some 6) [v0, v1, v2] = true ∧ en_stk st = true ∧ en_Ec (XL L xs) 485 M st (SX6_wax [v0, v1, v2] w) Q := en_Ev_inv (i := .invokevirtual 64) (v := true) (idx := 64) (ci := some 6) (k := 3) rfl dcL_482 rfl ccL_64 rfl (by simp)
theorem eL_485 {x y : Int32} {M : en_L} : en_Ev (XL L xs) 485 M (.int y :: .int x :: st) w Q ↔ if x = y then en_Ev (XL L xs) 1148 M st w Q else en_Ev (XL L xs) 488 M st w Q := (en_Ev_cmp (X := XL L xs) (pc := 485) (tgt := 1148) dcL_485 rfl).trans (Iff.of_eq en_cmp_eq)
theorem eL_488 {M : en_L} : en_Ev (XL L xs) 488 M st w Q ↔ en_Ev (XL L xs) 489 M (.int 0 :: st) w Q := en_Ev_step dcL_488 rfl rfl
theorem eL_489 {v : Int32} {M : en_L} : en_Ev (XL L xs) 489 M [.int v] w Q ↔ en_01 v ∧ Q (some (.int v)) w := en_Ev_bool dcL_489 rfl
theorem eL_490 {a : Nat} {l0 l2 l3 : Option Value} : en_Ev (XL L xs) 490 [l0, some (.ref a), l2, l3] st w Q ↔ en_Ev (XL L xs) 491 [l0, some (.ref a), l2, l3] (.ref a :: st) w Q := en_Ev_step dcL_490 rfl rfl
theorem eL_491 {a : Nat} {l1 l2 l3 : Option Value} : en_Ev (XL L xs) 491 [some (.ref a), l1, l2, l3] st w Q ↔ en_Ev (XL L xs) 492 [some (.ref a), l1, l2, l3] (.ref a :: st) w Q := en_Ev_step dcL_491 rfl rfl
theorem eL_492 {x : Int32} {l0 l1 l2 : Option Value} : en_Ev (XL L xs) 492 [l0, l1, l2, some (.int x)] st w Q ↔ en_Ev (XL L xs) 493 [l0, l1, l2, some (.int x)] (.int x :: st) w Q := en_Ev_step dcL_492 rfl rfl
theorem eL_493 {M : en_L} : en_Ev (XL L xs) 493 M st w Q ↔ en_Ev (XL L xs) 494 M (.int 1 :: st) w Q := en_Ev_step dcL_493 rfl rfl
theorem eL_494 {x y : Int32} {M : en_L} : en_Ev (XL L xs) 494 M (.int y :: .int x :: st) w Q ↔ en_Ev (XL L xs) 495 M (.int (x + y) :: st) w Q := en_Ev_step dcL_494 rfl rfl
theorem eL_495 {j : Int32} {M : en_L} : en_Ev (XL L xs) 495 M (.int j :: .ref 62 :: st) w Q ↔ sc_ok L j ∧ en_Ev (XL L xs) 496 M (.int (sc_at xs j) :: st) w Q := en_Ev_scr dcL_495 rfl
theorem eL_496 {a : Nat} {l1 l2 l3 : Option Value} : en_Ev (XL L xs) 496 [some (.ref a), l1, l2, l3] st w Q ↔ en_Ev (XL L xs) 497 [some (.ref a), l1, l2, l3] (.ref a :: st) w Q := en_Ev_step dcL_496 rfl rfl
theorem eL_497 {x : Int32} {l0 l1 l2 : Option Value} : en_Ev (XL L xs) 497 [l0, l1, l2, some (.int x)] st w Q ↔ en_Ev (XL L xs) 498 [l0, l1, l2, some (.int x)] (.int x :: st) w Q := en_Ev_step dcL_497 rfl rfl
theorem eL_498 {M : en_L} : en_Ev (XL L xs) 498 M st w Q ↔ en_Ev (XL L xs) 499 M (.int 2 :: st) w Q := en_Ev_step dcL_498 rfl rfl
theorem eL_499 {x y : Int32} {M : en_L} : en_Ev (XL L xs) 499 M (.int y :: .int x :: st) w Q ↔ en_Ev (XL L xs) 500 M (.int (x + y) :: st) w Q := en_Ev_step dcL_499 rfl rfl
theorem eL_500 {j : Int32} {M : en_L} : en_Ev (XL L xs) 500 M (.int j :: .ref 62 :: st) w Q ↔ sc_ok L j ∧ en_Ev (XL L xs) 501 M (.int (sc_at xs j) :: st) w Q := en_Ev_scr dcL_500 rfl
theorem eL_501 {v0 v1 v2 : Value} {M : en_L} : en_Ev (XL L xs) 501 M (v2 :: v1 :: v0 :: st) w Q ↔ en_rcv (some 5) [v0, v1, v2] = true ∧ en_stk st = true ∧ en_Ec (XL L xs) 504 M st (SX5_coin [v0, v1, v2] w) Q := en_Ev_inv (i := .invokevirtual 65) (v := true) (idx := 65) (ci := some 5) (k := 3) rfl dcL_501 rfl ccL_65 rfl (by simp)
theorem eL_504 {a : Nat} {l0 l1 l3 : Option Value} : en_Ev (XL L xs) 504 [l0, l1, some (.ref a), l3] st w Q ↔ en_Ev (XL L xs) 505 [l0, l1, some (.ref a), l3] (.ref a :: st) w Q := en_Ev_step dcL_504 rfl rfl
theorem eL_505 {a : Nat} {l1 l2 l3 : Option Value} : en_Ev (XL L xs) 505 [some (.ref a), l1, l2, l3] st w Q ↔ en_Ev (XL L xs) 506 [some (.ref a), l1, l2, l3] (.ref a :: st) w Q := en_Ev_step dcL_505 rfl rfl
theorem eL_506 {x : Int32} {l0 l1 l2 : Option Value} : en_Ev (XL L xs) 506 [l0, l1, l2, some (.int x)] st w Q ↔ en_Ev (XL L xs) 507 [l0, l1, l2, some (.int x)] (.int x :: st) w Q := en_Ev_step dcL_506 rfl rfl
theorem eL_507 {M : en_L} : en_Ev (XL L xs) 507 M st w Q ↔ en_Ev (XL L xs) 508 M (.int 1 :: st) w Q := en_Ev_step dcL_507 rfl rfl
theorem eL_508 {x y : Int32} {M : en_L} : en_Ev (XL L xs) 508 M (.int y :: .int x :: st) w Q ↔ en_Ev (XL L xs) 509 M (.int (x + y) :: st) w Q := en_Ev_step dcL_508 rfl rfl
theorem eL_509 {j : Int32} {M : en_L} : en_Ev (XL L xs) 509 M (.int j :: .ref 62 :: st) w Q ↔ sc_ok L j ∧ en_Ev (XL L xs) 510 M (.int (sc_at xs j) :: st) w Q := en_Ev_scr dcL_509 rfl
theorem eL_510 {a : Nat} {l1 l2 l3 : Option Value} : en_Ev (XL L xs) 510 [some (.ref a), l1, l2, l3] st w Q ↔ en_Ev (XL L xs) 511 [some (.ref a), l1, l2, l3] (.ref a :: st) w Q := en_Ev_step dcL_510 rfl rfl
theorem eL_511 {x : Int32} {l0 l1 l2 : Option Value} : en_Ev (XL L xs) 511 [l0, l1, l2, some (.int x)] st w Q ↔ en_Ev (XL L xs) 512 [l0, l1, l2, some (.int x)] (.int x :: st) w Q := en_Ev_step dcL_511 rfl rfl
theorem eL_512 {M : en_L} : en_Ev (XL L xs) 512 M st w Q ↔ en_Ev (XL L xs) 513 M (.int 2 :: st) w Q := en_Ev_step dcL_512 rfl rfl
theorem eL_513 {x y : Int32} {M : en_L} : en_Ev (XL L xs) 513 M (.int y :: .int x :: st) w Q ↔ en_Ev (XL L xs) 514 M (.int (x + y) :: st) w Q := en_Ev_step dcL_513 rfl rfl
theorem eL_514 {j : Int32} {M : en_L} : en_Ev (XL L xs) 514 M (.int j :: .ref 62 :: st) w Q ↔ sc_ok L j ∧ en_Ev (XL L xs) 515 M (.int (sc_at xs j) :: st) w Q := en_Ev_scr dcL_514 rfl
theorem eL_515 {v0 v1 v2 : Value} {M : en_L} : en_Ev (XL L xs) 515 M (v2 :: v1 :: v0 :: st) w Q ↔ en_rcv (some 6) [v0, v1, v2] = true ∧ en_stk st = true ∧ en_Ec (XL L xs) 518 M st (SX6_coin [v0, v1, v2] w) Q := en_Ev_inv (i := .invokevirtual 68) (v := true) (idx := 68) (ci := some 6) (k := 3) rfl dcL_515 rfl ccL_68 rfl (by simp)
theorem eL_518 {x y : Int32} {M : en_L} : en_Ev (XL L xs) 518 M (.int y :: .int x :: st) w Q ↔ if x = y then en_Ev (XL L xs) 1148 M st w Q else en_Ev (XL L xs) 521 M st w Q := (en_Ev_cmp (X := XL L xs) (pc := 518) (tgt := 1148) dcL_518 rfl).trans (Iff.of_eq en_cmp_eq)
theorem eL_521 {M : en_L} : en_Ev (XL L xs) 521 M st w Q ↔ en_Ev (XL L xs) 522 M (.int 0 :: st) w Q := en_Ev_step dcL_521 rfl rfl
theorem eL_522 {v : Int32} {M : en_L} : en_Ev (XL L xs) 522 M [.int v] w Q ↔ en_01 v ∧ Q (some (.int v)) w := en_Ev_bool dcL_522 rfl
theorem eL_523 {a : Nat} {l0 l2 l3 : Option Value} : en_Ev (XL L xs) 523 [l0, some (.ref a), l2, l3] st w Q ↔ en_Ev (XL L xs) 524 [l0, some (.ref a), l2, l3] (.ref a :: st) w Q := en_Ev_step dcL_523 rfl rfl
theorem eL_524 {a : Nat} {l1 l2 l3 : Option Value} : en_Ev (XL L xs) 524 [some (.ref a), l1, l2, l3] st w Q ↔ en_Ev (XL L xs) 525 [some (.ref a), l1, l2, l3] (.ref a :: st) w Q := en_Ev_step dcL_524 rfl rfl
theorem eL_525 {x : Int32} {l0 l1 l2 : Option Value} : en_Ev (XL L xs) 525 [l0, l1, l2, some (.int x)] st w Q ↔ en_Ev (XL L xs) 526 [l0, l1, l2, some (.int x)] (.int x :: st) w Q := en_Ev_step dcL_525 rfl rfl
theorem eL_526 {M : en_L} : en_Ev (XL L xs) 526 M st w Q ↔ en_Ev (XL L xs) 527 M (.int 1 :: st) w Q := en_Ev_step dcL_526 rfl rfl
theorem eL_527 {x y : Int32} {M : en_L} : en_Ev (XL L xs) 527 M (.int y :: .int x :: st) w Q ↔ en_Ev (XL L xs) 528 M (.int (x + y) :: st) w Q := en_Ev_step dcL_527 rfl rfl
theorem eL_528 {j : Int32} {M : en_L} : en_Ev (XL L xs) 528 M (.int j :: .ref 62 :: st) w Q ↔ sc_ok L j ∧ en_Ev (XL L xs) 529 M (.int (sc_at xs j) :: st) w Q := en_Ev_scr dcL_528 rfl
theorem eL_529 {v0 v1 : Value} {M : en_L} : en_Ev (XL L xs) 529 M (v1 :: v0 :: st) w Q ↔ en_rcv (some 5) [v0, v1] = true ∧ en_stk st = true ∧ en_Ec (XL L xs) 532 M st (SX5_at [v0, v1] w) Q := en_Ev_inv (i := .invokevirtual 69) (v := true) (idx := 69) (ci := some 5) (k := 2) rfl dcL_529 rfl ccL_69 rfl (by simp)
theorem eL_532 {a : Nat} {l0 l1 l3 : Option Value} : en_Ev (XL L xs) 532 [l0, l1, some (.ref a), l3] st w Q ↔ en_Ev (XL L xs) 533 [l0, l1, some (.ref a), l3] (.ref a :: st) w Q := en_Ev_step dcL_532 rfl rfl
theorem eL_533 {a : Nat} {l1 l2 l3 : Option Value} : en_Ev (XL L xs) 533 [some (.ref a), l1, l2, l3] st w Q ↔ en_Ev (XL L xs) 534 [some (.ref a), l1, l2, l3] (.ref a :: st) w Q := en_Ev_step dcL_533 rfl rfl
theorem eL_534 {x : Int32} {l0 l1 l2 : Option Value} : en_Ev (XL L xs) 534 [l0, l1, l2, some (.int x)] st w Q ↔ en_Ev (XL L xs) 535 [l0, l1, l2, some (.int x)] (.int x :: st) w Q := en_Ev_step dcL_534 rfl rfl
theorem eL_535 {M : en_L} : en_Ev (XL L xs) 535 M st w Q ↔ en_Ev (XL L xs) 536 M (.int 1 :: st) w Q := en_Ev_step dcL_535 rfl rfl
theorem eL_536 {x y : Int32} {M : en_L} : en_Ev (XL L xs) 536 M (.int y :: .int x :: st) w Q ↔ en_Ev (XL L xs) 537 M (.int (x + y) :: st) w Q := en_Ev_step dcL_536 rfl rfl
theorem eL_537 {j : Int32} {M : en_L} : en_Ev (XL L xs) 537 M (.int j :: .ref 62 :: st) w Q ↔ sc_ok L j ∧ en_Ev (XL L xs) 538 M (.int (sc_at xs j) :: st) w Q := en_Ev_scr dcL_537 rfl
theorem eL_538 {v0 v1 : Value} {M : en_L} : en_Ev (XL L xs) 538 M (v1 :: v0 :: st) w Q ↔ en_rcv (some 6) [v0, v1] = true ∧ en_stk st = true ∧ en_Ec (XL L xs) 541 M st (SX6_at [v0, v1] w) Q := en_Ev_inv (i := .invokevirtual 72) (v := true) (idx := 72) (ci := some 6) (k := 2) rfl dcL_538 rfl ccL_72 rfl (by simp)
theorem eL_541 {x y : Int32} {M : en_L} : en_Ev (XL L xs) 541 M (.int y :: .int x :: st) w Q ↔ if x = y then en_Ev (XL L xs) 1148 M st w Q else en_Ev (XL L xs) 544 M st w Q := (en_Ev_cmp (X := XL L xs) (pc := 541) (tgt := 1148) dcL_541 rfl).trans (Iff.of_eq en_cmp_eq)
theorem eL_544 {M : en_L} : en_Ev (XL L xs) 544 M st w Q ↔ en_Ev (XL L xs) 545 M (.int 0 :: st) w Q := en_Ev_step dcL_544 rfl rfl
theorem eL_545 {v : Int32} {M : en_L} : en_Ev (XL L xs) 545 M [.int v] w Q ↔ en_01 v ∧ Q (some (.int v)) w := en_Ev_bool dcL_545 rfl
theorem eL_546 {a : Nat} {l0 l2 l3 : Option Value} : en_Ev (XL L xs) 546 [l0, some (.ref a), l2, l3] st w Q ↔ en_Ev (XL L xs) 547 [l0, some (.ref a), l2, l3] (.ref a :: st) w Q := en_Ev_step dcL_546 rfl rfl
theorem eL_547 {a : Nat} {l1 l2 l3 : Option Value} : en_Ev (XL L xs) 547 [some (.ref a), l1, l2, l3] st w Q ↔ en_Ev (XL L xs) 548 [some (.ref a), l1, l2, l3] (.ref a :: st) w Q := en_Ev_step dcL_547 rfl rfl
theorem eL_548 {x : Int32} {l0 l1 l2 : Option Value} : en_Ev (XL L xs) 548 [l0, l1, l2, some (.int x)] st w Q ↔ en_Ev (XL L xs) 549 [l0, l1, l2, some (.int x)] (.int x :: st) w Q := en_Ev_step dcL_548 rfl rfl
theorem eL_549 {M : en_L} : en_Ev (XL L xs) 549 M st w Q ↔ en_Ev (XL L xs) 550 M (.int 1 :: st) w Q := en_Ev_step dcL_549 rfl rfl
theorem eL_550 {x y : Int32} {M : en_L} : en_Ev (XL L xs) 550 M (.int y :: .int x :: st) w Q ↔ en_Ev (XL L xs) 551 M (.int (x + y) :: st) w Q := en_Ev_step dcL_550 rfl rfl
theorem eL_551 {j : Int32} {M : en_L} : en_Ev (XL L xs) 551 M (.int j :: .ref 62 :: st) w Q ↔ sc_ok L j ∧ en_Ev (XL L xs) 552 M (.int (sc_at xs j) :: st) w Q := en_Ev_scr dcL_551 rfl
theorem eL_552 {a : Nat} {l1 l2 l3 : Option Value} : en_Ev (XL L xs) 552 [some (.ref a), l1, l2, l3] st w Q ↔ en_Ev (XL L xs) 553 [some (.ref a), l1, l2, l3] (.ref a :: st) w Q := en_Ev_step dcL_552 rfl rfl
theorem eL_553 {x : Int32} {l0 l1 l2 : Option Value} : en_Ev (XL L xs) 553 [l0, l1, l2, some (.int x)] st w Q ↔ en_Ev (XL L xs) 554 [l0, l1, l2, some (.int x)] (.int x :: st) w Q := en_Ev_step dcL_553 rfl rfl
theorem eL_554 {M : en_L} : en_Ev (XL L xs) 554 M st w Q ↔ en_Ev (XL L xs) 555 M (.int 2 :: st) w Q := en_Ev_step dcL_554 rfl rfl
theorem eL_555 {x y : Int32} {M : en_L} : en_Ev (XL L xs) 555 M (.int y :: .int x :: st) w Q ↔ en_Ev (XL L xs) 556 M (.int (x + y) :: st) w Q := en_Ev_step dcL_555 rfl rfl
theorem eL_556 {j : Int32} {M : en_L} : en_Ev (XL L xs) 556 M (.int j :: .ref 62 :: st) w Q ↔ sc_ok L j ∧ en_Ev (XL L xs) 557 M (.int (sc_at xs j) :: st) w Q := en_Ev_scr dcL_556 rfl
theorem eL_557 {v0 v1 v2 : Value} {M : en_L} : en_Ev (XL L xs) 557 M (v2 :: v1 :: v0 :: st) w Q ↔ en_rcv (some 5) [v0, v1, v2] = true ∧ en_stk st = true ∧ en_Ec (XL L xs) 560 M st (SX5_served [v0, v1, v2] w) Q := en_Ev_inv (i := .invokevirtual 73) (v := true) (idx := 73) (ci := some 5) (k := 3) rfl dcL_557 rfl ccL_73 rfl (by simp)
theorem eL_560 {a : Nat} {l0 l1 l3 : Option Value} : en_Ev (XL L xs) 560 [l0, l1, some (.ref a), l3] st w Q ↔ en_Ev (XL L xs) 561 [l0, l1, some (.ref a), l3] (.ref a :: st) w Q := en_Ev_step dcL_560 rfl rfl
theorem eL_561 {a : Nat} {l1 l2 l3 : Option Value} : en_Ev (XL L xs) 561 [some (.ref a), l1, l2, l3] st w Q ↔ en_Ev (XL L xs) 562 [some (.ref a), l1, l2, l3] (.ref a :: st) w Q := en_Ev_step dcL_561 rfl rfl
theorem eL_562 {x : Int32} {l0 l1 l2 : Option Value} : en_Ev (XL L xs) 562 [l0, l1, l2, some (.int x)] st w Q ↔ en_Ev (XL L xs) 563 [l0, l1, l2, some (.int x)] (.int x :: st) w Q := en_Ev_step dcL_562 rfl rfl
theorem eL_563 {M : en_L} : en_Ev (XL L xs) 563 M st w Q ↔ en_Ev (XL L xs) 564 M (.int 1 :: st) w Q := en_Ev_step dcL_563 rfl rfl
theorem eL_564 {x y : Int32} {M : en_L} : en_Ev (XL L xs) 564 M (.int y :: .int x :: st) w Q ↔ en_Ev (XL L xs) 565 M (.int (x + y) :: st) w Q := en_Ev_step dcL_564 rfl rfl
theorem eL_565 {j : Int32} {M : en_L} : en_Ev (XL L xs) 565 M (.int j :: .ref 62 :: st) w Q ↔ sc_ok L j ∧ en_Ev (XL L xs) 566 M (.int (sc_at xs j) :: st) w Q := en_Ev_scr dcL_565 rfl
theorem eL_566 {a : Nat} {l1 l2 l3 : Option Value} : en_Ev (XL L xs) 566 [some (.ref a), l1, l2, l3] st w Q ↔ en_Ev (XL L xs) 567 [some (.ref a), l1, l2, l3] (.ref a :: st) w Q := en_Ev_step dcL_566 rfl rfl
theorem eL_567 {x : Int32} {l0 l1 l2 : Option Value} : en_Ev (XL L xs) 567 [l0, l1, l2, some (.int x)] st w Q ↔ en_Ev (XL L xs) 568 [l0, l1, l2, some (.int x)] (.int x :: st) w Q := en_Ev_step dcL_567 rfl rfl
theorem eL_568 {M : en_L} : en_Ev (XL L xs) 568 M st w Q ↔ en_Ev (XL L xs) 569 M (.int 2 :: st) w Q := en_Ev_step dcL_568 rfl rfl
theorem eL_569 {x y : Int32} {M : en_L} : en_Ev (XL L xs) 569 M (.int y :: .int x :: st) w Q ↔ en_Ev (XL L xs) 570 M (.int (x + y) :: st) w Q := en_Ev_step dcL_569 rfl rfl
theorem eL_570 {j : Int32} {M : en_L} : en_Ev (XL L xs) 570 M (.int j :: .ref 62 :: st) w Q ↔ sc_ok L j ∧ en_Ev (XL L xs) 571 M (.int (sc_at xs j) :: st) w Q := en_Ev_scr dcL_570 rfl
theorem eL_571 {v0 v1 v2 : Value} {M : en_L} : en_Ev (XL L xs) 571 M (v2 :: v1 :: v0 :: st) w Q ↔ en_rcv (some 6) [v0, v1, v2] = true ∧ en_stk st = true ∧ en_Ec (XL L xs) 574 M st (SX6_served [v0, v1, v2] w) Q := en_Ev_inv (i := .invokevirtual 76) (v := true) (idx := 76) (ci := some 6) (k := 3) rfl dcL_571 rfl ccL_76 rfl (by simp)
theorem eL_574 {x y : Int32} {M : en_L} : en_Ev (XL L xs) 574 M (.int y :: .int x :: st) w Q ↔ if x = y then en_Ev (XL L xs) 1148 M st w Q else en_Ev (XL L xs) 577 M st w Q := (en_Ev_cmp (X := XL L xs) (pc := 574) (tgt := 1148) dcL_574 rfl).trans (Iff.of_eq en_cmp_eq)
theorem eL_577 {M : en_L} : en_Ev (XL L xs) 577 M st w Q ↔ en_Ev (XL L xs) 578 M (.int 0 :: st) w Q := en_Ev_step dcL_577 rfl rfl
theorem eL_578 {v : Int32} {M : en_L} : en_Ev (XL L xs) 578 M [.int v] w Q ↔ en_01 v ∧ Q (some (.int v)) w := en_Ev_bool dcL_578 rfl
theorem eL_579 {a : Nat} {l0 l2 l3 : Option Value} : en_Ev (XL L xs) 579 [l0, some (.ref a), l2, l3] st w Q ↔ en_Ev (XL L xs) 580 [l0, some (.ref a), l2, l3] (.ref a :: st) w Q := en_Ev_step dcL_579 rfl rfl
theorem eL_580 {a : Nat} {l1 l2 l3 : Option Value} : en_Ev (XL L xs) 580 [some (.ref a), l1, l2, l3] st w Q ↔ en_Ev (XL L xs) 581 [some (.ref a), l1, l2, l3] (.ref a :: st) w Q := en_Ev_step dcL_580 rfl rfl
theorem eL_581 {x : Int32} {l0 l1 l2 : Option Value} : en_Ev (XL L xs) 581 [l0, l1, l2, some (.int x)] st w Q ↔ en_Ev (XL L xs) 582 [l0, l1, l2, some (.int x)] (.int x :: st) w Q := en_Ev_step dcL_581 rfl rfl
theorem eL_582 {M : en_L} : en_Ev (XL L xs) 582 M st w Q ↔ en_Ev (XL L xs) 583 M (.int 1 :: st) w Q := en_Ev_step dcL_582 rfl rfl
theorem eL_583 {x y : Int32} {M : en_L} : en_Ev (XL L xs) 583 M (.int y :: .int x :: st) w Q ↔ en_Ev (XL L xs) 584 M (.int (x + y) :: st) w Q := en_Ev_step dcL_583 rfl rfl
theorem eL_584 {j : Int32} {M : en_L} : en_Ev (XL L xs) 584 M (.int j :: .ref 62 :: st) w Q ↔ sc_ok L j ∧ en_Ev (XL L xs) 585 M (.int (sc_at xs j) :: st) w Q := en_Ev_scr dcL_584 rfl
theorem eL_585 {a : Nat} {l1 l2 l3 : Option Value} : en_Ev (XL L xs) 585 [some (.ref a), l1, l2, l3] st w Q ↔ en_Ev (XL L xs) 586 [some (.ref a), l1, l2, l3] (.ref a :: st) w Q := en_Ev_step dcL_585 rfl rfl
theorem eL_586 {x : Int32} {l0 l1 l2 : Option Value} : en_Ev (XL L xs) 586 [l0, l1, l2, some (.int x)] st w Q ↔ en_Ev (XL L xs) 587 [l0, l1, l2, some (.int x)] (.int x :: st) w Q := en_Ev_step dcL_586 rfl rfl
theorem eL_587 {M : en_L} : en_Ev (XL L xs) 587 M st w Q ↔ en_Ev (XL L xs) 588 M (.int 2 :: st) w Q := en_Ev_step dcL_587 rfl rfl
theorem eL_588 {x y : Int32} {M : en_L} : en_Ev (XL L xs) 588 M (.int y :: .int x :: st) w Q ↔ en_Ev (XL L xs) 589 M (.int (x + y) :: st) w Q := en_Ev_step dcL_588 rfl rfl
theorem eL_589 {j : Int32} {M : en_L} : en_Ev (XL L xs) 589 M (.int j :: .ref 62 :: st) w Q ↔ sc_ok L j ∧ en_Ev (XL L xs) 590 M (.int (sc_at xs j) :: st) w Q := en_Ev_scr dcL_589 rfl
theorem eL_590 {v0 v1 v2 : Value} {M : en_L} : en_Ev (XL L xs) 590 M (v2 :: v1 :: v0 :: st) w Q ↔ en_rcv (some 5) [v0, v1, v2] = true ∧ en_stk st = true ∧ en_Ec (XL L xs) 593 M st (SX5_night [v0, v1, v2] w) Q := en_Ev_inv (i := .invokevirtual 77) (v := true) (idx := 77) (ci := some 5) (k := 3) rfl dcL_590 rfl ccL_77 rfl (by simp)
theorem eL_593 {a : Nat} {l0 l1 l3 : Option Value} : en_Ev (XL L xs) 593 [l0, l1, some (.ref a), l3] st w Q ↔ en_Ev (XL L xs) 594 [l0, l1, some (.ref a), l3] (.ref a :: st) w Q := en_Ev_step dcL_593 rfl rfl
theorem eL_594 {a : Nat} {l1 l2 l3 : Option Value} : en_Ev (XL L xs) 594 [some (.ref a), l1, l2, l3] st w Q ↔ en_Ev (XL L xs) 595 [some (.ref a), l1, l2, l3] (.ref a :: st) w Q := en_Ev_step dcL_594 rfl rfl
theorem eL_595 {x : Int32} {l0 l1 l2 : Option Value} : en_Ev (XL L xs) 595 [l0, l1, l2, some (.int x)] st w Q ↔ en_Ev (XL L xs) 596 [l0, l1, l2, some (.int x)] (.int x :: st) w Q := en_Ev_step dcL_595 rfl rfl
theorem eL_596 {M : en_L} : en_Ev (XL L xs) 596 M st w Q ↔ en_Ev (XL L xs) 597 M (.int 1 :: st) w Q := en_Ev_step dcL_596 rfl rfl
theorem eL_597 {x y : Int32} {M : en_L} : en_Ev (XL L xs) 597 M (.int y :: .int x :: st) w Q ↔ en_Ev (XL L xs) 598 M (.int (x + y) :: st) w Q := en_Ev_step dcL_597 rfl rfl
theorem eL_598 {j : Int32} {M : en_L} : en_Ev (XL L xs) 598 M (.int j :: .ref 62 :: st) w Q ↔ sc_ok L j ∧ en_Ev (XL L xs) 599 M (.int (sc_at xs j) :: st) w Q := en_Ev_scr dcL_598 rfl
theorem eL_599 {a : Nat} {l1 l2 l3 : Option Value} : en_Ev (XL L xs) 599 [some (.ref a), l1, l2, l3] st w Q ↔ en_Ev (XL L xs) 600 [some (.ref a), l1, l2, l3] (.ref a :: st) w Q := en_Ev_step dcL_599 rfl rfl
theorem eL_600 {x : Int32} {l0 l1 l2 : Option Value} : en_Ev (XL L xs) 600 [l0, l1, l2, some (.int x)] st w Q ↔ en_Ev (XL L xs) 601 [l0, l1, l2, some (.int x)] (.int x :: st) w Q := en_Ev_step dcL_600 rfl rfl
theorem eL_601 {M : en_L} : en_Ev (XL L xs) 601 M st w Q ↔ en_Ev (XL L xs) 602 M (.int 2 :: st) w Q := en_Ev_step dcL_601 rfl rfl
theorem eL_602 {x y : Int32} {M : en_L} : en_Ev (XL L xs) 602 M (.int y :: .int x :: st) w Q ↔ en_Ev (XL L xs) 603 M (.int (x + y) :: st) w Q := en_Ev_step dcL_602 rfl rfl
theorem eL_603 {j : Int32} {M : en_L} : en_Ev (XL L xs) 603 M (.int j :: .ref 62 :: st) w Q ↔ sc_ok L j ∧ en_Ev (XL L xs) 604 M (.int (sc_at xs j) :: st) w Q := en_Ev_scr dcL_603 rfl
theorem eL_604 {v0 v1 v2 : Value} {M : en_L} : en_Ev (XL L xs) 604 M (v2 :: v1 :: v0 :: st) w Q ↔ en_rcv (some 6) [v0, v1, v2] = true ∧ en_stk st = true ∧ en_Ec (XL L xs) 607 M st (SX6_night [v0, v1, v2] w) Q := en_Ev_inv (i := .invokevirtual 80) (v := true) (idx := 80) (ci := some 6) (k := 3) rfl dcL_604 rfl ccL_80 rfl (by simp)
theorem eL_607 {x y : Int32} {M : en_L} : en_Ev (XL L xs) 607 M (.int y :: .int x :: st) w Q ↔ if x = y then en_Ev (XL L xs) 1148 M st w Q else en_Ev (XL L xs) 610 M st w Q := (en_Ev_cmp (X := XL L xs) (pc := 607) (tgt := 1148) dcL_607 rfl).trans (Iff.of_eq en_cmp_eq)
theorem eL_610 {M : en_L} : en_Ev (XL L xs) 610 M st w Q ↔ en_Ev (XL L xs) 611 M (.int 0 :: st) w Q := en_Ev_step dcL_610 rfl rfl
theorem eL_611 {v : Int32} {M : en_L} : en_Ev (XL L xs) 611 M [.int v] w Q ↔ en_01 v ∧ Q (some (.int v)) w := en_Ev_bool dcL_611 rfl
theorem eL_612 {a : Nat} {l0 l2 l3 : Option Value} : en_Ev (XL L xs) 612 [l0, some (.ref a), l2, l3] st w Q ↔ en_Ev (XL L xs) 613 [l0, some (.ref a), l2, l3] (.ref a :: st) w Q := en_Ev_step dcL_612 rfl rfl
theorem eL_613 {v0 : Value} {M : en_L} : en_Ev (XL L xs) 613 M (v0 :: st) w Q ↔ en_rcv (some 5) [v0] = true ∧ en_stk st = true ∧ en_Ec (XL L xs) 616 M st (SX5_best [v0] w) Q := en_Ev_inv (i := .invokevirtual 81) (v := true) (idx := 81) (ci := some 5) (k := 1) rfl dcL_613 rfl ccL_81 rfl (by simp)
theorem eL_616 {a : Nat} {l0 l1 l3 : Option Value} : en_Ev (XL L xs) 616 [l0, l1, some (.ref a), l3] st w Q ↔ en_Ev (XL L xs) 617 [l0, l1, some (.ref a), l3] (.ref a :: st) w Q := en_Ev_step dcL_616 rfl rfl
theorem eL_617 {v0 : Value} {M : en_L} : en_Ev (XL L xs) 617 M (v0 :: st) w Q ↔ en_rcv (some 6) [v0] = true ∧ en_stk st = true ∧ en_Ec (XL L xs) 620 M st (SX6_best [v0] w) Q := en_Ev_inv (i := .invokevirtual 84) (v := true) (idx := 84) (ci := some 6) (k := 1) rfl dcL_617 rfl ccL_84 rfl (by simp)
theorem eL_620 {x y : Int32} {M : en_L} : en_Ev (XL L xs) 620 M (.int y :: .int x :: st) w Q ↔ if x = y then en_Ev (XL L xs) 1148 M st w Q else en_Ev (XL L xs) 623 M st w Q := (en_Ev_cmp (X := XL L xs) (pc := 620) (tgt := 1148) dcL_620 rfl).trans (Iff.of_eq en_cmp_eq)
theorem eL_623 {M : en_L} : en_Ev (XL L xs) 623 M st w Q ↔ en_Ev (XL L xs) 624 M (.int 0 :: st) w Q := en_Ev_step dcL_623 rfl rfl
theorem eL_624 {v : Int32} {M : en_L} : en_Ev (XL L xs) 624 M [.int v] w Q ↔ en_01 v ∧ Q (some (.int v)) w := en_Ev_bool dcL_624 rfl
theorem eL_625 {a : Nat} {l0 l2 l3 : Option Value} : en_Ev (XL L xs) 625 [l0, some (.ref a), l2, l3] st w Q ↔ en_Ev (XL L xs) 626 [l0, some (.ref a), l2, l3] (.ref a :: st) w Q := en_Ev_step dcL_625 rfl rfl
theorem eL_626 {a : Nat} {l1 l2 l3 : Option Value} : en_Ev (XL L xs) 626 [some (.ref a), l1, l2, l3] st w Q ↔ en_Ev (XL L xs) 627 [some (.ref a), l1, l2, l3] (.ref a :: st) w Q := en_Ev_step dcL_626 rfl rfl
theorem eL_627 {x : Int32} {l0 l1 l2 : Option Value} : en_Ev (XL L xs) 627 [l0, l1, l2, some (.int x)] st w Q ↔ en_Ev (XL L xs) 628 [l0, l1, l2, some (.int x)] (.int x :: st) w Q := en_Ev_step dcL_627 rfl rfl
theorem eL_628 {M : en_L} : en_Ev (XL L xs) 628 M st w Q ↔ en_Ev (XL L xs) 629 M (.int 1 :: st) w Q := en_Ev_step dcL_628 rfl rfl
theorem eL_629 {x y : Int32} {M : en_L} : en_Ev (XL L xs) 629 M (.int y :: .int x :: st) w Q ↔ en_Ev (XL L xs) 630 M (.int (x + y) :: st) w Q := en_Ev_step dcL_629 rfl rfl
theorem eL_630 {j : Int32} {M : en_L} : en_Ev (XL L xs) 630 M (.int j :: .ref 62 :: st) w Q ↔ sc_ok L j ∧ en_Ev (XL L xs) 631 M (.int (sc_at xs j) :: st) w Q := en_Ev_scr dcL_630 rfl
theorem eL_631 {v0 v1 : Value} {M : en_L} : en_Ev (XL L xs) 631 M (v1 :: v0 :: st) w Q ↔ en_rcv (some 5) [v0, v1] = true ∧ en_stk st = true ∧ en_Ec (XL L xs) 634 M st (SX5_times [v0, v1] w) Q := en_Ev_inv (i := .invokevirtual 85) (v := true) (idx := 85) (ci := some 5) (k := 2) rfl dcL_631 rfl ccL_85 rfl (by simp)
theorem eL_634 {a : Nat} {l0 l1 l3 : Option Value} : en_Ev (XL L xs) 634 [l0, l1, some (.ref a), l3] st w Q ↔ en_Ev (XL L xs) 635 [l0, l1, some (.ref a), l3] (.ref a :: st) w Q := en_Ev_step dcL_634 rfl rfl
theorem eL_635 {a : Nat} {l1 l2 l3 : Option Value} : en_Ev (XL L xs) 635 [some (.ref a), l1, l2, l3] st w Q ↔ en_Ev (XL L xs) 636 [some (.ref a), l1, l2, l3] (.ref a :: st) w Q := en_Ev_step dcL_635 rfl rfl
theorem eL_636 {x : Int32} {l0 l1 l2 : Option Value} : en_Ev (XL L xs) 636 [l0, l1, l2, some (.int x)] st w Q ↔ en_Ev (XL L xs) 637 [l0, l1, l2, some (.int x)] (.int x :: st) w Q := en_Ev_step dcL_636 rfl rfl
theorem eL_637 {M : en_L} : en_Ev (XL L xs) 637 M st w Q ↔ en_Ev (XL L xs) 638 M (.int 1 :: st) w Q := en_Ev_step dcL_637 rfl rfl
theorem eL_638 {x y : Int32} {M : en_L} : en_Ev (XL L xs) 638 M (.int y :: .int x :: st) w Q ↔ en_Ev (XL L xs) 639 M (.int (x + y) :: st) w Q := en_Ev_step dcL_638 rfl rfl
theorem eL_639 {j : Int32} {M : en_L} : en_Ev (XL L xs) 639 M (.int j :: .ref 62 :: st) w Q ↔ sc_ok L j ∧ en_Ev (XL L xs) 640 M (.int (sc_at xs j) :: st) w Q := en_Ev_scr dcL_639 rfl
theorem eL_640 {v0 v1 : Value} {M : en_L} : en_Ev (XL L xs) 640 M (v1 :: v0 :: st) w Q ↔ en_rcv (some 6) [v0, v1] = true ∧ en_stk st = true ∧ en_Ec (XL L xs) 643 M st (SX6_times [v0, v1] w) Q := en_Ev_inv (i := .invokevirtual 88) (v := true) (idx := 88) (ci := some 6) (k := 2) rfl dcL_640 rfl ccL_88 rfl (by simp)
theorem eL_643 {x y : Int32} {M : en_L} : en_Ev (XL L xs) 643 M (.int y :: .int x :: st) w Q ↔ if x = y then en_Ev (XL L xs) 1148 M st w Q else en_Ev (XL L xs) 646 M st w Q := (en_Ev_cmp (X := XL L xs) (pc := 643) (tgt := 1148) dcL_643 rfl).trans (Iff.of_eq en_cmp_eq)
theorem eL_646 {M : en_L} : en_Ev (XL L xs) 646 M st w Q ↔ en_Ev (XL L xs) 647 M (.int 0 :: st) w Q := en_Ev_step dcL_646 rfl rfl
theorem eL_647 {v : Int32} {M : en_L} : en_Ev (XL L xs) 647 M [.int v] w Q ↔ en_01 v ∧ Q (some (.int v)) w := en_Ev_bool dcL_647 rfl
theorem eL_648 {a : Nat} {l0 l2 l3 : Option Value} : en_Ev (XL L xs) 648 [l0, some (.ref a), l2, l3] st w Q ↔ en_Ev (XL L xs) 649 [l0, some (.ref a), l2, l3] (.ref a :: st) w Q := en_Ev_step dcL_648 rfl rfl
theorem eL_649 {v0 : Value} {M : en_L} : en_Ev (XL L xs) 649 M (v0 :: st) w Q ↔ en_rcv (some 5) [v0] = true ∧ en_stk st = true ∧ en_Ec (XL L xs) 652 M st (SX5_first [v0] w) Q := en_Ev_inv (i := .invokevirtual 89) (v := true) (idx := 89) (ci := some 5) (k := 1) rfl dcL_649 rfl ccL_89 rfl (by simp)
theorem eL_652 {a : Nat} {l0 l1 l3 : Option Value} : en_Ev (XL L xs) 652 [l0, l1, some (.ref a), l3] st w Q ↔ en_Ev (XL L xs) 653 [l0, l1, some (.ref a), l3] (.ref a :: st) w Q := en_Ev_step dcL_652 rfl rfl
theorem eL_653 {v0 : Value} {M : en_L} : en_Ev (XL L xs) 653 M (v0 :: st) w Q ↔ en_rcv (some 6) [v0] = true ∧ en_stk st = true ∧ en_Ec (XL L xs) 656 M st (SX6_first [v0] w) Q := en_Ev_inv (i := .invokevirtual 92) (v := true) (idx := 92) (ci := some 6) (k := 1) rfl dcL_653 rfl ccL_92 rfl (by simp)
theorem eL_656 {x y : Int32} {M : en_L} : en_Ev (XL L xs) 656 M (.int y :: .int x :: st) w Q ↔ if x = y then en_Ev (XL L xs) 1148 M st w Q else en_Ev (XL L xs) 659 M st w Q := (en_Ev_cmp (X := XL L xs) (pc := 656) (tgt := 1148) dcL_656 rfl).trans (Iff.of_eq en_cmp_eq)
theorem eL_659 {M : en_L} : en_Ev (XL L xs) 659 M st w Q ↔ en_Ev (XL L xs) 660 M (.int 0 :: st) w Q := en_Ev_step dcL_659 rfl rfl
theorem eL_660 {v : Int32} {M : en_L} : en_Ev (XL L xs) 660 M [.int v] w Q ↔ en_01 v ∧ Q (some (.int v)) w := en_Ev_bool dcL_660 rfl
theorem eL_661 {a : Nat} {l0 l2 l3 : Option Value} : en_Ev (XL L xs) 661 [l0, some (.ref a), l2, l3] st w Q ↔ en_Ev (XL L xs) 662 [l0, some (.ref a), l2, l3] (.ref a :: st) w Q := en_Ev_step dcL_661 rfl rfl
theorem eL_662 {a : Nat} {l1 l2 l3 : Option Value} : en_Ev (XL L xs) 662 [some (.ref a), l1, l2, l3] st w Q ↔ en_Ev (XL L xs) 663 [some (.ref a), l1, l2, l3] (.ref a :: st) w Q := en_Ev_step dcL_662 rfl rfl
theorem eL_663 {x : Int32} {l0 l1 l2 : Option Value} : en_Ev (XL L xs) 663 [l0, l1, l2, some (.int x)] st w Q ↔ en_Ev (XL L xs) 664 [l0, l1, l2, some (.int x)] (.int x :: st) w Q := en_Ev_step dcL_663 rfl rfl
theorem eL_664 {M : en_L} : en_Ev (XL L xs) 664 M st w Q ↔ en_Ev (XL L xs) 665 M (.int 1 :: st) w Q := en_Ev_step dcL_664 rfl rfl
theorem eL_665 {x y : Int32} {M : en_L} : en_Ev (XL L xs) 665 M (.int y :: .int x :: st) w Q ↔ en_Ev (XL L xs) 666 M (.int (x + y) :: st) w Q := en_Ev_step dcL_665 rfl rfl
theorem eL_666 {j : Int32} {M : en_L} : en_Ev (XL L xs) 666 M (.int j :: .ref 62 :: st) w Q ↔ sc_ok L j ∧ en_Ev (XL L xs) 667 M (.int (sc_at xs j) :: st) w Q := en_Ev_scr dcL_666 rfl
theorem eL_667 {a : Nat} {l1 l2 l3 : Option Value} : en_Ev (XL L xs) 667 [some (.ref a), l1, l2, l3] st w Q ↔ en_Ev (XL L xs) 668 [some (.ref a), l1, l2, l3] (.ref a :: st) w Q := en_Ev_step dcL_667 rfl rfl
theorem eL_668 {x : Int32} {l0 l1 l2 : Option Value} : en_Ev (XL L xs) 668 [l0, l1, l2, some (.int x)] st w Q ↔ en_Ev (XL L xs) 669 [l0, l1, l2, some (.int x)] (.int x :: st) w Q := en_Ev_step dcL_668 rfl rfl
theorem eL_669 {M : en_L} : en_Ev (XL L xs) 669 M st w Q ↔ en_Ev (XL L xs) 670 M (.int 2 :: st) w Q := en_Ev_step dcL_669 rfl rfl
theorem eL_670 {x y : Int32} {M : en_L} : en_Ev (XL L xs) 670 M (.int y :: .int x :: st) w Q ↔ en_Ev (XL L xs) 671 M (.int (x + y) :: st) w Q := en_Ev_step dcL_670 rfl rfl
theorem eL_671 {j : Int32} {M : en_L} : en_Ev (XL L xs) 671 M (.int j :: .ref 62 :: st) w Q ↔ sc_ok L j ∧ en_Ev (XL L xs) 672 M (.int (sc_at xs j) :: st) w Q := en_Ev_scr dcL_671 rfl
theorem eL_672 {a : Nat} {l1 l2 l3 : Option Value} : en_Ev (XL L xs) 672 [some (.ref a), l1, l2, l3] st w Q ↔ en_Ev (XL L xs) 673 [some (.ref a), l1, l2, l3] (.ref a :: st) w Q := en_Ev_step dcL_672 rfl rfl
theorem eL_673 {x : Int32} {l0 l1 l2 : Option Value} : en_Ev (XL L xs) 673 [l0, l1, l2, some (.int x)] st w Q ↔ en_Ev (XL L xs) 674 [l0, l1, l2, some (.int x)] (.int x :: st) w Q := en_Ev_step dcL_673 rfl rfl
theorem eL_674 {M : en_L} : en_Ev (XL L xs) 674 M st w Q ↔ en_Ev (XL L xs) 675 M (.int 3 :: st) w Q := en_Ev_step dcL_674 rfl rfl
theorem eL_675 {x y : Int32} {M : en_L} : en_Ev (XL L xs) 675 M (.int y :: .int x :: st) w Q ↔ en_Ev (XL L xs) 676 M (.int (x + y) :: st) w Q := en_Ev_step dcL_675 rfl rfl
theorem eL_676 {j : Int32} {M : en_L} : en_Ev (XL L xs) 676 M (.int j :: .ref 62 :: st) w Q ↔ sc_ok L j ∧ en_Ev (XL L xs) 677 M (.int (sc_at xs j) :: st) w Q := en_Ev_scr dcL_676 rfl
theorem eL_677 {a : Nat} {l1 l2 l3 : Option Value} : en_Ev (XL L xs) 677 [some (.ref a), l1, l2, l3] st w Q ↔ en_Ev (XL L xs) 678 [some (.ref a), l1, l2, l3] (.ref a :: st) w Q := en_Ev_step dcL_677 rfl rfl
theorem eL_678 {x : Int32} {l0 l1 l2 : Option Value} : en_Ev (XL L xs) 678 [l0, l1, l2, some (.int x)] st w Q ↔ en_Ev (XL L xs) 679 [l0, l1, l2, some (.int x)] (.int x :: st) w Q := en_Ev_step dcL_678 rfl rfl
theorem eL_679 {M : en_L} : en_Ev (XL L xs) 679 M st w Q ↔ en_Ev (XL L xs) 680 M (.int 4 :: st) w Q := en_Ev_step dcL_679 rfl rfl
theorem eL_680 {x y : Int32} {M : en_L} : en_Ev (XL L xs) 680 M (.int y :: .int x :: st) w Q ↔ en_Ev (XL L xs) 681 M (.int (x + y) :: st) w Q := en_Ev_step dcL_680 rfl rfl
theorem eL_681 {j : Int32} {M : en_L} : en_Ev (XL L xs) 681 M (.int j :: .ref 62 :: st) w Q ↔ sc_ok L j ∧ en_Ev (XL L xs) 682 M (.int (sc_at xs j) :: st) w Q := en_Ev_scr dcL_681 rfl
theorem eL_682 {v0 v1 v2 v3 v4 : Value} {M : en_L} : en_Ev (XL L xs) 682 M (v4 :: v3 :: v2 :: v1 :: v0 :: st) w Q ↔ en_rcv (some 5) [v0, v1, v2, v3, v4] = true ∧ en_stk st = true ∧ en_Ec (XL L xs) 685 M st (SX5_ask [v0, v1, v2, v3, v4] w) Q := en_Ev_inv (i := .invokevirtual 93) (v := true) (idx := 93) (ci := some 5) (k := 5) rfl dcL_682 rfl ccL_93 rfl (by simp)
theorem eL_685 {a : Nat} {l0 l1 l3 : Option Value} : en_Ev (XL L xs) 685 [l0, l1, some (.ref a), l3] st w Q ↔ en_Ev (XL L xs) 686 [l0, l1, some (.ref a), l3] (.ref a :: st) w Q := en_Ev_step dcL_685 rfl rfl
theorem eL_686 {a : Nat} {l1 l2 l3 : Option Value} : en_Ev (XL L xs) 686 [some (.ref a), l1, l2, l3] st w Q ↔ en_Ev (XL L xs) 687 [some (.ref a), l1, l2, l3] (.ref a :: st) w Q := en_Ev_step dcL_686 rfl rfl
theorem eL_687 {x : Int32} {l0 l1 l2 : Option Value} : en_Ev (XL L xs) 687 [l0, l1, l2, some (.int x)] st w Q ↔ en_Ev (XL L xs) 688 [l0, l1, l2, some (.int x)] (.int x :: st) w Q := en_Ev_step dcL_687 rfl rfl
theorem eL_688 {M : en_L} : en_Ev (XL L xs) 688 M st w Q ↔ en_Ev (XL L xs) 689 M (.int 1 :: st) w Q := en_Ev_step dcL_688 rfl rfl
theorem eL_689 {x y : Int32} {M : en_L} : en_Ev (XL L xs) 689 M (.int y :: .int x :: st) w Q ↔ en_Ev (XL L xs) 690 M (.int (x + y) :: st) w Q := en_Ev_step dcL_689 rfl rfl
theorem eL_690 {j : Int32} {M : en_L} : en_Ev (XL L xs) 690 M (.int j :: .ref 62 :: st) w Q ↔ sc_ok L j ∧ en_Ev (XL L xs) 691 M (.int (sc_at xs j) :: st) w Q := en_Ev_scr dcL_690 rfl
theorem eL_691 {a : Nat} {l1 l2 l3 : Option Value} : en_Ev (XL L xs) 691 [some (.ref a), l1, l2, l3] st w Q ↔ en_Ev (XL L xs) 692 [some (.ref a), l1, l2, l3] (.ref a :: st) w Q := en_Ev_step dcL_691 rfl rfl
theorem eL_692 {x : Int32} {l0 l1 l2 : Option Value} : en_Ev (XL L xs) 692 [l0, l1, l2, some (.int x)] st w Q ↔ en_Ev (XL L xs) 693 [l0, l1, l2, some (.int x)] (.int x :: st) w Q := en_Ev_step dcL_692 rfl rfl
theorem eL_693 {M : en_L} : en_Ev (XL L xs) 693 M st w Q ↔ en_Ev (XL L xs) 694 M (.int 2 :: st) w Q := en_Ev_step dcL_693 rfl rfl
theorem eL_694 {x y : Int32} {M : en_L} : en_Ev (XL L xs) 694 M (.int y :: .int x :: st) w Q ↔ en_Ev (XL L xs) 695 M (.int (x + y) :: st) w Q := en_Ev_step dcL_694 rfl rfl
theorem eL_695 {j : Int32} {M : en_L} : en_Ev (XL L xs) 695 M (.int j :: .ref 62 :: st) w Q ↔ sc_ok L j ∧ en_Ev (XL L xs) 696 M (.int (sc_at xs j) :: st) w Q := en_Ev_scr dcL_695 rfl
theorem eL_696 {a : Nat} {l1 l2 l3 : Option Value} : en_Ev (XL L xs) 696 [some (.ref a), l1, l2, l3] st w Q ↔ en_Ev (XL L xs) 697 [some (.ref a), l1, l2, l3] (.ref a :: st) w Q := en_Ev_step dcL_696 rfl rfl
theorem eL_697 {x : Int32} {l0 l1 l2 : Option Value} : en_Ev (XL L xs) 697 [l0, l1, l2, some (.int x)] st w Q ↔ en_Ev (XL L xs) 698 [l0, l1, l2, some (.int x)] (.int x :: st) w Q := en_Ev_step dcL_697 rfl rfl
theorem eL_698 {M : en_L} : en_Ev (XL L xs) 698 M st w Q ↔ en_Ev (XL L xs) 699 M (.int 3 :: st) w Q := en_Ev_step dcL_698 rfl rfl
theorem eL_699 {x y : Int32} {M : en_L} : en_Ev (XL L xs) 699 M (.int y :: .int x :: st) w Q ↔ en_Ev (XL L xs) 700 M (.int (x + y) :: st) w Q := en_Ev_step dcL_699 rfl rfl
theorem eL_700 {j : Int32} {M : en_L} : en_Ev (XL L xs) 700 M (.int j :: .ref 62 :: st) w Q ↔ sc_ok L j ∧ en_Ev (XL L xs) 701 M (.int (sc_at xs j) :: st) w Q := en_Ev_scr dcL_700 rfl
theorem eL_701 {a : Nat} {l1 l2 l3 : Option Value} : en_Ev (XL L xs) 701 [some (.ref a), l1, l2, l3] st w Q ↔ en_Ev (XL L xs) 702 [some (.ref a), l1, l2, l3] (.ref a :: st) w Q := en_Ev_step dcL_701 rfl rfl
theorem eL_702 {x : Int32} {l0 l1 l2 : Option Value} : en_Ev (XL L xs) 702 [l0, l1, l2, some (.int x)] st w Q ↔ en_Ev (XL L xs) 703 [l0, l1, l2, some (.int x)] (.int x :: st) w Q := en_Ev_step dcL_702 rfl rfl
theorem eL_703 {M : en_L} : en_Ev (XL L xs) 703 M st w Q ↔ en_Ev (XL L xs) 704 M (.int 4 :: st) w Q := en_Ev_step dcL_703 rfl rfl
theorem eL_704 {x y : Int32} {M : en_L} : en_Ev (XL L xs) 704 M (.int y :: .int x :: st) w Q ↔ en_Ev (XL L xs) 705 M (.int (x + y) :: st) w Q := en_Ev_step dcL_704 rfl rfl
theorem eL_705 {j : Int32} {M : en_L} : en_Ev (XL L xs) 705 M (.int j :: .ref 62 :: st) w Q ↔ sc_ok L j ∧ en_Ev (XL L xs) 706 M (.int (sc_at xs j) :: st) w Q := en_Ev_scr dcL_705 rfl
theorem eL_706 {v0 v1 v2 v3 v4 : Value} {M : en_L} : en_Ev (XL L xs) 706 M (v4 :: v3 :: v2 :: v1 :: v0 :: st) w Q ↔ en_rcv (some 6) [v0, v1, v2, v3, v4] = true ∧ en_stk st = true ∧ en_Ec (XL L xs) 709 M st (SX6_ask [v0, v1, v2, v3, v4] w) Q := en_Ev_inv (i := .invokevirtual 97) (v := true) (idx := 97) (ci := some 6) (k := 5) rfl dcL_706 rfl ccL_97 rfl (by simp)
theorem eL_709 {x y : Int32} {M : en_L} : en_Ev (XL L xs) 709 M (.int y :: .int x :: st) w Q ↔ if x = y then en_Ev (XL L xs) 1148 M st w Q else en_Ev (XL L xs) 712 M st w Q := (en_Ev_cmp (X := XL L xs) (pc := 709) (tgt := 1148) dcL_709 rfl).trans (Iff.of_eq en_cmp_eq)
theorem eL_712 {M : en_L} : en_Ev (XL L xs) 712 M st w Q ↔ en_Ev (XL L xs) 713 M (.int 0 :: st) w Q := en_Ev_step dcL_712 rfl rfl
theorem eL_713 {v : Int32} {M : en_L} : en_Ev (XL L xs) 713 M [.int v] w Q ↔ en_01 v ∧ Q (some (.int v)) w := en_Ev_bool dcL_713 rfl
theorem eL_714 {a : Nat} {l0 l2 l3 : Option Value} : en_Ev (XL L xs) 714 [l0, some (.ref a), l2, l3] st w Q ↔ en_Ev (XL L xs) 715 [l0, some (.ref a), l2, l3] (.ref a :: st) w Q := en_Ev_step dcL_714 rfl rfl
theorem eL_715 {a : Nat} {l1 l2 l3 : Option Value} : en_Ev (XL L xs) 715 [some (.ref a), l1, l2, l3] st w Q ↔ en_Ev (XL L xs) 716 [some (.ref a), l1, l2, l3] (.ref a :: st) w Q := en_Ev_step dcL_715 rfl rfl
theorem eL_716 {x : Int32} {l0 l1 l2 : Option Value} : en_Ev (XL L xs) 716 [l0, l1, l2, some (.int x)] st w Q ↔ en_Ev (XL L xs) 717 [l0, l1, l2, some (.int x)] (.int x :: st) w Q := en_Ev_step dcL_716 rfl rfl
theorem eL_717 {M : en_L} : en_Ev (XL L xs) 717 M st w Q ↔ en_Ev (XL L xs) 718 M (.int 1 :: st) w Q := en_Ev_step dcL_717 rfl rfl
theorem eL_718 {x y : Int32} {M : en_L} : en_Ev (XL L xs) 718 M (.int y :: .int x :: st) w Q ↔ en_Ev (XL L xs) 719 M (.int (x + y) :: st) w Q := en_Ev_step dcL_718 rfl rfl
theorem eL_719 {j : Int32} {M : en_L} : en_Ev (XL L xs) 719 M (.int j :: .ref 62 :: st) w Q ↔ sc_ok L j ∧ en_Ev (XL L xs) 720 M (.int (sc_at xs j) :: st) w Q := en_Ev_scr dcL_719 rfl
theorem eL_720 {a : Nat} {l1 l2 l3 : Option Value} : en_Ev (XL L xs) 720 [some (.ref a), l1, l2, l3] st w Q ↔ en_Ev (XL L xs) 721 [some (.ref a), l1, l2, l3] (.ref a :: st) w Q := en_Ev_step dcL_720 rfl rfl
theorem eL_721 {x : Int32} {l0 l1 l2 : Option Value} : en_Ev (XL L xs) 721 [l0, l1, l2, some (.int x)] st w Q ↔ en_Ev (XL L xs) 722 [l0, l1, l2, some (.int x)] (.int x :: st) w Q := en_Ev_step dcL_721 rfl rfl
theorem eL_722 {M : en_L} : en_Ev (XL L xs) 722 M st w Q ↔ en_Ev (XL L xs) 723 M (.int 2 :: st) w Q := en_Ev_step dcL_722 rfl rfl
theorem eL_723 {x y : Int32} {M : en_L} : en_Ev (XL L xs) 723 M (.int y :: .int x :: st) w Q ↔ en_Ev (XL L xs) 724 M (.int (x + y) :: st) w Q := en_Ev_step dcL_723 rfl rfl
theorem eL_724 {j : Int32} {M : en_L} : en_Ev (XL L xs) 724 M (.int j :: .ref 62 :: st) w Q ↔ sc_ok L j ∧ en_Ev (XL L xs) 725 M (.int (sc_at xs j) :: st) w Q := en_Ev_scr dcL_724 rfl
theorem eL_725 {v0 v1 v2 : Value} {M : en_L} : en_Ev (XL L xs) 725 M (v2 :: v1 :: v0 :: st) w Q ↔ en_rcv (some 5) [v0, v1, v2] = true ∧ en_stk st = true ∧ en_Ec (XL L xs) 728 M st (SX5_stuck [v0, v1, v2] w) Q := en_Ev_inv (i := .invokevirtual 98) (v := true) (idx := 98) (ci := some 5) (k := 3) rfl dcL_725 rfl ccL_98 rfl (by simp)
theorem eL_728 {a : Nat} {l0 l1 l3 : Option Value} : en_Ev (XL L xs) 728 [l0, l1, some (.ref a), l3] st w Q ↔ en_Ev (XL L xs) 729 [l0, l1, some (.ref a), l3] (.ref a :: st) w Q := en_Ev_step dcL_728 rfl rfl
theorem eL_729 {a : Nat} {l1 l2 l3 : Option Value} : en_Ev (XL L xs) 729 [some (.ref a), l1, l2, l3] st w Q ↔ en_Ev (XL L xs) 730 [some (.ref a), l1, l2, l3] (.ref a :: st) w Q := en_Ev_step dcL_729 rfl rfl
theorem eL_730 {x : Int32} {l0 l1 l2 : Option Value} : en_Ev (XL L xs) 730 [l0, l1, l2, some (.int x)] st w Q ↔ en_Ev (XL L xs) 731 [l0, l1, l2, some (.int x)] (.int x :: st) w Q := en_Ev_step dcL_730 rfl rfl
theorem eL_731 {M : en_L} : en_Ev (XL L xs) 731 M st w Q ↔ en_Ev (XL L xs) 732 M (.int 1 :: st) w Q := en_Ev_step dcL_731 rfl rfl
theorem eL_732 {x y : Int32} {M : en_L} : en_Ev (XL L xs) 732 M (.int y :: .int x :: st) w Q ↔ en_Ev (XL L xs) 733 M (.int (x + y) :: st) w Q := en_Ev_step dcL_732 rfl rfl
theorem eL_733 {j : Int32} {M : en_L} : en_Ev (XL L xs) 733 M (.int j :: .ref 62 :: st) w Q ↔ sc_ok L j ∧ en_Ev (XL L xs) 734 M (.int (sc_at xs j) :: st) w Q := en_Ev_scr dcL_733 rfl
theorem eL_734 {a : Nat} {l1 l2 l3 : Option Value} : en_Ev (XL L xs) 734 [some (.ref a), l1, l2, l3] st w Q ↔ en_Ev (XL L xs) 735 [some (.ref a), l1, l2, l3] (.ref a :: st) w Q := en_Ev_step dcL_734 rfl rfl
theorem eL_735 {x : Int32} {l0 l1 l2 : Option Value} : en_Ev (XL L xs) 735 [l0, l1, l2, some (.int x)] st w Q ↔ en_Ev (XL L xs) 736 [l0, l1, l2, some (.int x)] (.int x :: st) w Q := en_Ev_step dcL_735 rfl rfl
theorem eL_736 {M : en_L} : en_Ev (XL L xs) 736 M st w Q ↔ en_Ev (XL L xs) 737 M (.int 2 :: st) w Q := en_Ev_step dcL_736 rfl rfl
theorem eL_737 {x y : Int32} {M : en_L} : en_Ev (XL L xs) 737 M (.int y :: .int x :: st) w Q ↔ en_Ev (XL L xs) 738 M (.int (x + y) :: st) w Q := en_Ev_step dcL_737 rfl rfl
theorem eL_738 {j : Int32} {M : en_L} : en_Ev (XL L xs) 738 M (.int j :: .ref 62 :: st) w Q ↔ sc_ok L j ∧ en_Ev (XL L xs) 739 M (.int (sc_at xs j) :: st) w Q := en_Ev_scr dcL_738 rfl
theorem eL_739 {v0 v1 v2 : Value} {M : en_L} : en_Ev (XL L xs) 739 M (v2 :: v1 :: v0 :: st) w Q ↔ en_rcv (some 6) [v0, v1, v2] = true ∧ en_stk st = true ∧ en_Ec (XL L xs) 742 M st (SX6_stuck [v0, v1, v2] w) Q := en_Ev_inv (i := .invokevirtual 101) (v := true) (idx := 101) (ci := some 6) (k := 3) rfl dcL_739 rfl ccL_101 rfl (by simp)
theorem eL_742 {x y : Int32} {M : en_L} : en_Ev (XL L xs) 742 M (.int y :: .int x :: st) w Q ↔ if x = y then en_Ev (XL L xs) 1148 M st w Q else en_Ev (XL L xs) 745 M st w Q := (en_Ev_cmp (X := XL L xs) (pc := 742) (tgt := 1148) dcL_742 rfl).trans (Iff.of_eq en_cmp_eq)
theorem eL_745 {M : en_L} : en_Ev (XL L xs) 745 M st w Q ↔ en_Ev (XL L xs) 746 M (.int 0 :: st) w Q := en_Ev_step dcL_745 rfl rfl
theorem eL_746 {v : Int32} {M : en_L} : en_Ev (XL L xs) 746 M [.int v] w Q ↔ en_01 v ∧ Q (some (.int v)) w := en_Ev_bool dcL_746 rfl
theorem eL_747 {a : Nat} {l0 l2 l3 : Option Value} : en_Ev (XL L xs) 747 [l0, some (.ref a), l2, l3] st w Q ↔ en_Ev (XL L xs) 748 [l0, some (.ref a), l2, l3] (.ref a :: st) w Q := en_Ev_step dcL_747 rfl rfl
theorem eL_748 {a : Nat} {l1 l2 l3 : Option Value} : en_Ev (XL L xs) 748 [some (.ref a), l1, l2, l3] st w Q ↔ en_Ev (XL L xs) 749 [some (.ref a), l1, l2, l3] (.ref a :: st) w Q := en_Ev_step dcL_748 rfl rfl
theorem eL_749 {x : Int32} {l0 l1 l2 : Option Value} : en_Ev (XL L xs) 749 [l0, l1, l2, some (.int x)] st w Q ↔ en_Ev (XL L xs) 750 [l0, l1, l2, some (.int x)] (.int x :: st) w Q := en_Ev_step dcL_749 rfl rfl
theorem eL_750 {M : en_L} : en_Ev (XL L xs) 750 M st w Q ↔ en_Ev (XL L xs) 751 M (.int 1 :: st) w Q := en_Ev_step dcL_750 rfl rfl
theorem eL_751 {x y : Int32} {M : en_L} : en_Ev (XL L xs) 751 M (.int y :: .int x :: st) w Q ↔ en_Ev (XL L xs) 752 M (.int (x + y) :: st) w Q := en_Ev_step dcL_751 rfl rfl
theorem eL_752 {j : Int32} {M : en_L} : en_Ev (XL L xs) 752 M (.int j :: .ref 62 :: st) w Q ↔ sc_ok L j ∧ en_Ev (XL L xs) 753 M (.int (sc_at xs j) :: st) w Q := en_Ev_scr dcL_752 rfl
theorem eL_753 {a : Nat} {l1 l2 l3 : Option Value} : en_Ev (XL L xs) 753 [some (.ref a), l1, l2, l3] st w Q ↔ en_Ev (XL L xs) 754 [some (.ref a), l1, l2, l3] (.ref a :: st) w Q := en_Ev_step dcL_753 rfl rfl
theorem eL_754 {x : Int32} {l0 l1 l2 : Option Value} : en_Ev (XL L xs) 754 [l0, l1, l2, some (.int x)] st w Q ↔ en_Ev (XL L xs) 755 [l0, l1, l2, some (.int x)] (.int x :: st) w Q := en_Ev_step dcL_754 rfl rfl
theorem eL_755 {M : en_L} : en_Ev (XL L xs) 755 M st w Q ↔ en_Ev (XL L xs) 756 M (.int 2 :: st) w Q := en_Ev_step dcL_755 rfl rfl
theorem eL_756 {x y : Int32} {M : en_L} : en_Ev (XL L xs) 756 M (.int y :: .int x :: st) w Q ↔ en_Ev (XL L xs) 757 M (.int (x + y) :: st) w Q := en_Ev_step dcL_756 rfl rfl
theorem eL_757 {j : Int32} {M : en_L} : en_Ev (XL L xs) 757 M (.int j :: .ref 62 :: st) w Q ↔ sc_ok L j ∧ en_Ev (XL L xs) 758 M (.int (sc_at xs j) :: st) w Q := en_Ev_scr dcL_757 rfl
theorem eL_758 {v0 v1 v2 : Value} {M : en_L} : en_Ev (XL L xs) 758 M (v2 :: v1 :: v0 :: st) w Q ↔ en_rcv (some 5) [v0, v1, v2] = true ∧ en_stk st = true ∧ en_Ec (XL L xs) 761 M st (SX5_heard [v0, v1, v2] w) Q := en_Ev_inv (i := .invokevirtual 102) (v := true) (idx := 102) (ci := some 5) (k := 3) rfl dcL_758 rfl ccL_102 rfl (by simp)
theorem eL_761 {a : Nat} {l0 l1 l3 : Option Value} : en_Ev (XL L xs) 761 [l0, l1, some (.ref a), l3] st w Q ↔ en_Ev (XL L xs) 762 [l0, l1, some (.ref a), l3] (.ref a :: st) w Q := en_Ev_step dcL_761 rfl rfl
theorem eL_762 {a : Nat} {l1 l2 l3 : Option Value} : en_Ev (XL L xs) 762 [some (.ref a), l1, l2, l3] st w Q ↔ en_Ev (XL L xs) 763 [some (.ref a), l1, l2, l3] (.ref a :: st) w Q := en_Ev_step dcL_762 rfl rfl
theorem eL_763 {x : Int32} {l0 l1 l2 : Option Value} : en_Ev (XL L xs) 763 [l0, l1, l2, some (.int x)] st w Q ↔ en_Ev (XL L xs) 764 [l0, l1, l2, some (.int x)] (.int x :: st) w Q := en_Ev_step dcL_763 rfl rfl
theorem eL_764 {M : en_L} : en_Ev (XL L xs) 764 M st w Q ↔ en_Ev (XL L xs) 765 M (.int 1 :: st) w Q := en_Ev_step dcL_764 rfl rfl
theorem eL_765 {x y : Int32} {M : en_L} : en_Ev (XL L xs) 765 M (.int y :: .int x :: st) w Q ↔ en_Ev (XL L xs) 766 M (.int (x + y) :: st) w Q := en_Ev_step dcL_765 rfl rfl
theorem eL_766 {j : Int32} {M : en_L} : en_Ev (XL L xs) 766 M (.int j :: .ref 62 :: st) w Q ↔ sc_ok L j ∧ en_Ev (XL L xs) 767 M (.int (sc_at xs j) :: st) w Q := en_Ev_scr dcL_766 rfl
theorem eL_767 {a : Nat} {l1 l2 l3 : Option Value} : en_Ev (XL L xs) 767 [some (.ref a), l1, l2, l3] st w Q ↔ en_Ev (XL L xs) 768 [some (.ref a), l1, l2, l3] (.ref a :: st) w Q := en_Ev_step dcL_767 rfl rfl
theorem eL_768 {x : Int32} {l0 l1 l2 : Option Value} : en_Ev (XL L xs) 768 [l0, l1, l2, some (.int x)] st w Q ↔ en_Ev (XL L xs) 769 [l0, l1, l2, some (.int x)] (.int x :: st) w Q := en_Ev_step dcL_768 rfl rfl
theorem eL_769 {M : en_L} : en_Ev (XL L xs) 769 M st w Q ↔ en_Ev (XL L xs) 770 M (.int 2 :: st) w Q := en_Ev_step dcL_769 rfl rfl
theorem eL_770 {x y : Int32} {M : en_L} : en_Ev (XL L xs) 770 M (.int y :: .int x :: st) w Q ↔ en_Ev (XL L xs) 771 M (.int (x + y) :: st) w Q := en_Ev_step dcL_770 rfl rfl
theorem eL_771 {j : Int32} {M : en_L} : en_Ev (XL L xs) 771 M (.int j :: .ref 62 :: st) w Q ↔ sc_ok L j ∧ en_Ev (XL L xs) 772 M (.int (sc_at xs j) :: st) w Q := en_Ev_scr dcL_771 rfl
theorem eL_772 {v0 v1 v2 : Value} {M : en_L} : en_Ev (XL L xs) 772 M (v2 :: v1 :: v0 :: st) w Q ↔ en_rcv (some 6) [v0, v1, v2] = true ∧ en_stk st = true ∧ en_Ec (XL L xs) 775 M st (SX6_heard [v0, v1, v2] w) Q := en_Ev_inv (i := .invokevirtual 105) (v := true) (idx := 105) (ci := some 6) (k := 3) rfl dcL_772 rfl ccL_105 rfl (by simp)
theorem eL_775 {x y : Int32} {M : en_L} : en_Ev (XL L xs) 775 M (.int y :: .int x :: st) w Q ↔ if x = y then en_Ev (XL L xs) 1148 M st w Q else en_Ev (XL L xs) 778 M st w Q := (en_Ev_cmp (X := XL L xs) (pc := 775) (tgt := 1148) dcL_775 rfl).trans (Iff.of_eq en_cmp_eq)
theorem eL_778 {M : en_L} : en_Ev (XL L xs) 778 M st w Q ↔ en_Ev (XL L xs) 779 M (.int 0 :: st) w Q := en_Ev_step dcL_778 rfl rfl
theorem eL_779 {v : Int32} {M : en_L} : en_Ev (XL L xs) 779 M [.int v] w Q ↔ en_01 v ∧ Q (some (.int v)) w := en_Ev_bool dcL_779 rfl
theorem eL_780 {a : Nat} {l0 l2 l3 : Option Value} : en_Ev (XL L xs) 780 [l0, some (.ref a), l2, l3] st w Q ↔ en_Ev (XL L xs) 781 [l0, some (.ref a), l2, l3] (.ref a :: st) w Q := en_Ev_step dcL_780 rfl rfl
theorem eL_781 {v0 : Value} {M : en_L} : en_Ev (XL L xs) 781 M (v0 :: st) w Q ↔ en_rcv (some 5) [v0] = true ∧ en_stk st = true ∧ en_Ec (XL L xs) 784 M st (SX5_forget [v0] w) Q := en_Ev_inv (i := .invokevirtual 106) (v := true) (idx := 106) (ci := some 5) (k := 1) rfl dcL_781 rfl ccL_106 rfl (by simp)
theorem eL_784 {a : Nat} {l0 l1 l3 : Option Value} : en_Ev (XL L xs) 784 [l0, l1, some (.ref a), l3] st w Q ↔ en_Ev (XL L xs) 785 [l0, l1, some (.ref a), l3] (.ref a :: st) w Q := en_Ev_step dcL_784 rfl rfl
theorem eL_785 {v0 : Value} {M : en_L} : en_Ev (XL L xs) 785 M (v0 :: st) w Q ↔ en_rcv (some 6) [v0] = true ∧ en_stk st = true ∧ en_Ec (XL L xs) 788 M st (SX6_forget [v0] w) Q := en_Ev_inv (i := .invokevirtual 109) (v := true) (idx := 109) (ci := some 6) (k := 1) rfl dcL_785 rfl ccL_109 rfl (by simp)
theorem eL_788 {x y : Int32} {M : en_L} : en_Ev (XL L xs) 788 M (.int y :: .int x :: st) w Q ↔ if x = y then en_Ev (XL L xs) 1148 M st w Q else en_Ev (XL L xs) 791 M st w Q := (en_Ev_cmp (X := XL L xs) (pc := 788) (tgt := 1148) dcL_788 rfl).trans (Iff.of_eq en_cmp_eq)
theorem eL_791 {M : en_L} : en_Ev (XL L xs) 791 M st w Q ↔ en_Ev (XL L xs) 792 M (.int 0 :: st) w Q := en_Ev_step dcL_791 rfl rfl
theorem eL_792 {v : Int32} {M : en_L} : en_Ev (XL L xs) 792 M [.int v] w Q ↔ en_01 v ∧ Q (some (.int v)) w := en_Ev_bool dcL_792 rfl
theorem eL_793 {a : Nat} {l0 l2 l3 : Option Value} : en_Ev (XL L xs) 793 [l0, some (.ref a), l2, l3] st w Q ↔ en_Ev (XL L xs) 794 [l0, some (.ref a), l2, l3] (.ref a :: st) w Q := en_Ev_step dcL_793 rfl rfl
theorem eL_794 {v0 : Value} {M : en_L} : en_Ev (XL L xs) 794 M (v0 :: st) w Q ↔ en_rcv (some 5) [v0] = true ∧ en_stk st = true ∧ en_Ec (XL L xs) 797 M st (SX5_laws [v0] w) Q := en_Ev_inv (i := .invokevirtual 110) (v := true) (idx := 110) (ci := some 5) (k := 1) rfl dcL_794 rfl ccL_110 rfl (by simp)
theorem eL_797 {a : Nat} {l0 l1 l3 : Option Value} : en_Ev (XL L xs) 797 [l0, l1, some (.ref a), l3] st w Q ↔ en_Ev (XL L xs) 798 [l0, l1, some (.ref a), l3] (.ref a :: st) w Q := en_Ev_step dcL_797 rfl rfl
theorem eL_798 {v0 : Value} {M : en_L} : en_Ev (XL L xs) 798 M (v0 :: st) w Q ↔ en_rcv (some 6) [v0] = true ∧ en_stk st = true ∧ en_Ec (XL L xs) 801 M st (SX6_laws [v0] w) Q := en_Ev_inv (i := .invokevirtual 113) (v := true) (idx := 113) (ci := some 6) (k := 1) rfl dcL_798 rfl ccL_113 rfl (by simp)
theorem eL_801 {x y : Int32} {M : en_L} : en_Ev (XL L xs) 801 M (.int y :: .int x :: st) w Q ↔ if x = y then en_Ev (XL L xs) 1148 M st w Q else en_Ev (XL L xs) 804 M st w Q := (en_Ev_cmp (X := XL L xs) (pc := 801) (tgt := 1148) dcL_801 rfl).trans (Iff.of_eq en_cmp_eq)
theorem eL_804 {M : en_L} : en_Ev (XL L xs) 804 M st w Q ↔ en_Ev (XL L xs) 805 M (.int 0 :: st) w Q := en_Ev_step dcL_804 rfl rfl
theorem eL_805 {v : Int32} {M : en_L} : en_Ev (XL L xs) 805 M [.int v] w Q ↔ en_01 v ∧ Q (some (.int v)) w := en_Ev_bool dcL_805 rfl
theorem eL_806 {a : Nat} {l0 l2 l3 : Option Value} : en_Ev (XL L xs) 806 [l0, some (.ref a), l2, l3] st w Q ↔ en_Ev (XL L xs) 807 [l0, some (.ref a), l2, l3] (.ref a :: st) w Q := en_Ev_step dcL_806 rfl rfl
theorem eL_807 {a : Nat} {l1 l2 l3 : Option Value} : en_Ev (XL L xs) 807 [some (.ref a), l1, l2, l3] st w Q ↔ en_Ev (XL L xs) 808 [some (.ref a), l1, l2, l3] (.ref a :: st) w Q := en_Ev_step dcL_807 rfl rfl
theorem eL_808 {x : Int32} {l0 l1 l2 : Option Value} : en_Ev (XL L xs) 808 [l0, l1, l2, some (.int x)] st w Q ↔ en_Ev (XL L xs) 809 [l0, l1, l2, some (.int x)] (.int x :: st) w Q := en_Ev_step dcL_808 rfl rfl
theorem eL_809 {M : en_L} : en_Ev (XL L xs) 809 M st w Q ↔ en_Ev (XL L xs) 810 M (.int 1 :: st) w Q := en_Ev_step dcL_809 rfl rfl
theorem eL_810 {x y : Int32} {M : en_L} : en_Ev (XL L xs) 810 M (.int y :: .int x :: st) w Q ↔ en_Ev (XL L xs) 811 M (.int (x + y) :: st) w Q := en_Ev_step dcL_810 rfl rfl
theorem eL_811 {j : Int32} {M : en_L} : en_Ev (XL L xs) 811 M (.int j :: .ref 62 :: st) w Q ↔ sc_ok L j ∧ en_Ev (XL L xs) 812 M (.int (sc_at xs j) :: st) w Q := en_Ev_scr dcL_811 rfl
theorem eL_812 {a : Nat} {l1 l2 l3 : Option Value} : en_Ev (XL L xs) 812 [some (.ref a), l1, l2, l3] st w Q ↔ en_Ev (XL L xs) 813 [some (.ref a), l1, l2, l3] (.ref a :: st) w Q := en_Ev_step dcL_812 rfl rfl
theorem eL_813 {x : Int32} {l0 l1 l2 : Option Value} : en_Ev (XL L xs) 813 [l0, l1, l2, some (.int x)] st w Q ↔ en_Ev (XL L xs) 814 [l0, l1, l2, some (.int x)] (.int x :: st) w Q := en_Ev_step dcL_813 rfl rfl
theorem eL_814 {M : en_L} : en_Ev (XL L xs) 814 M st w Q ↔ en_Ev (XL L xs) 815 M (.int 2 :: st) w Q := en_Ev_step dcL_814 rfl rfl
theorem eL_815 {x y : Int32} {M : en_L} : en_Ev (XL L xs) 815 M (.int y :: .int x :: st) w Q ↔ en_Ev (XL L xs) 816 M (.int (x + y) :: st) w Q := en_Ev_step dcL_815 rfl rfl
theorem eL_816 {j : Int32} {M : en_L} : en_Ev (XL L xs) 816 M (.int j :: .ref 62 :: st) w Q ↔ sc_ok L j ∧ en_Ev (XL L xs) 817 M (.int (sc_at xs j) :: st) w Q := en_Ev_scr dcL_816 rfl
theorem eL_817 {v0 v1 v2 : Value} {M : en_L} : en_Ev (XL L xs) 817 M (v2 :: v1 :: v0 :: st) w Q ↔ en_rcv (some 5) [v0, v1, v2] = true ∧ en_stk st = true ∧ en_Ec (XL L xs) 820 M st (SX5_next [v0, v1, v2] w) Q := en_Ev_inv (i := .invokevirtual 114) (v := true) (idx := 114) (ci := some 5) (k := 3) rfl dcL_817 rfl ccL_114 rfl (by simp)
theorem eL_820 {a : Nat} {l0 l1 l3 : Option Value} : en_Ev (XL L xs) 820 [l0, l1, some (.ref a), l3] st w Q ↔ en_Ev (XL L xs) 821 [l0, l1, some (.ref a), l3] (.ref a :: st) w Q := en_Ev_step dcL_820 rfl rfl
theorem eL_821 {a : Nat} {l1 l2 l3 : Option Value} : en_Ev (XL L xs) 821 [some (.ref a), l1, l2, l3] st w Q ↔ en_Ev (XL L xs) 822 [some (.ref a), l1, l2, l3] (.ref a :: st) w Q := en_Ev_step dcL_821 rfl rfl
theorem eL_822 {x : Int32} {l0 l1 l2 : Option Value} : en_Ev (XL L xs) 822 [l0, l1, l2, some (.int x)] st w Q ↔ en_Ev (XL L xs) 823 [l0, l1, l2, some (.int x)] (.int x :: st) w Q := en_Ev_step dcL_822 rfl rfl
theorem eL_823 {M : en_L} : en_Ev (XL L xs) 823 M st w Q ↔ en_Ev (XL L xs) 824 M (.int 1 :: st) w Q := en_Ev_step dcL_823 rfl rfl
theorem eL_824 {x y : Int32} {M : en_L} : en_Ev (XL L xs) 824 M (.int y :: .int x :: st) w Q ↔ en_Ev (XL L xs) 825 M (.int (x + y) :: st) w Q := en_Ev_step dcL_824 rfl rfl
theorem eL_825 {j : Int32} {M : en_L} : en_Ev (XL L xs) 825 M (.int j :: .ref 62 :: st) w Q ↔ sc_ok L j ∧ en_Ev (XL L xs) 826 M (.int (sc_at xs j) :: st) w Q := en_Ev_scr dcL_825 rfl
theorem eL_826 {a : Nat} {l1 l2 l3 : Option Value} : en_Ev (XL L xs) 826 [some (.ref a), l1, l2, l3] st w Q ↔ en_Ev (XL L xs) 827 [some (.ref a), l1, l2, l3] (.ref a :: st) w Q := en_Ev_step dcL_826 rfl rfl
theorem eL_827 {x : Int32} {l0 l1 l2 : Option Value} : en_Ev (XL L xs) 827 [l0, l1, l2, some (.int x)] st w Q ↔ en_Ev (XL L xs) 828 [l0, l1, l2, some (.int x)] (.int x :: st) w Q := en_Ev_step dcL_827 rfl rfl
theorem eL_828 {M : en_L} : en_Ev (XL L xs) 828 M st w Q ↔ en_Ev (XL L xs) 829 M (.int 2 :: st) w Q := en_Ev_step dcL_828 rfl rfl
theorem eL_829 {x y : Int32} {M : en_L} : en_Ev (XL L xs) 829 M (.int y :: .int x :: st) w Q ↔ en_Ev (XL L xs) 830 M (.int (x + y) :: st) w Q := en_Ev_step dcL_829 rfl rfl
theorem eL_830 {j : Int32} {M : en_L} : en_Ev (XL L xs) 830 M (.int j :: .ref 62 :: st) w Q ↔ sc_ok L j ∧ en_Ev (XL L xs) 831 M (.int (sc_at xs j) :: st) w Q := en_Ev_scr dcL_830 rfl
theorem eL_831 {v0 v1 v2 : Value} {M : en_L} : en_Ev (XL L xs) 831 M (v2 :: v1 :: v0 :: st) w Q ↔ en_rcv (some 6) [v0, v1, v2] = true ∧ en_stk st = true ∧ en_Ec (XL L xs) 834 M st (SX6_next [v0, v1, v2] w) Q := en_Ev_inv (i := .invokevirtual 118) (v := true) (idx := 118) (ci := some 6) (k := 3) rfl dcL_831 rfl ccL_118 rfl (by simp)
theorem eL_834 {x y : Int64} {M : en_L} : en_Ev (XL L xs) 834 M (.long y :: .long x :: st) w Q ↔ en_Ev (XL L xs) 835 M (.int (lg_cmp x y) :: st) w Q := en_Ev_step dcL_834 rfl rfl
theorem eL_835 {x : Int32} {M : en_L} : en_Ev (XL L xs) 835 M (.int x :: st) w Q ↔ if x = 0 then en_Ev (XL L xs) 1148 M st w Q else en_Ev (XL L xs) 838 M st w Q := (en_Ev_cmp0 (X := XL L xs) (pc := 835) (tgt := 1148) dcL_835 rfl).trans (Iff.of_eq en_cmp_eq)
theorem eL_838 {M : en_L} : en_Ev (XL L xs) 838 M st w Q ↔ en_Ev (XL L xs) 839 M (.int 0 :: st) w Q := en_Ev_step dcL_838 rfl rfl
theorem eL_839 {v : Int32} {M : en_L} : en_Ev (XL L xs) 839 M [.int v] w Q ↔ en_01 v ∧ Q (some (.int v)) w := en_Ev_bool dcL_839 rfl
theorem eL_840 {a : Nat} {l0 l2 l3 : Option Value} : en_Ev (XL L xs) 840 [l0, some (.ref a), l2, l3] st w Q ↔ en_Ev (XL L xs) 841 [l0, some (.ref a), l2, l3] (.ref a :: st) w Q := en_Ev_step dcL_840 rfl rfl
theorem eL_841 {a : Nat} {l1 l2 l3 : Option Value} : en_Ev (XL L xs) 841 [some (.ref a), l1, l2, l3] st w Q ↔ en_Ev (XL L xs) 842 [some (.ref a), l1, l2, l3] (.ref a :: st) w Q := en_Ev_step dcL_841 rfl rfl
theorem eL_842 {x : Int32} {l0 l1 l2 : Option Value} : en_Ev (XL L xs) 842 [l0, l1, l2, some (.int x)] st w Q ↔ en_Ev (XL L xs) 843 [l0, l1, l2, some (.int x)] (.int x :: st) w Q := en_Ev_step dcL_842 rfl rfl
theorem eL_843 {M : en_L} : en_Ev (XL L xs) 843 M st w Q ↔ en_Ev (XL L xs) 844 M (.int 1 :: st) w Q := en_Ev_step dcL_843 rfl rfl
theorem eL_844 {x y : Int32} {M : en_L} : en_Ev (XL L xs) 844 M (.int y :: .int x :: st) w Q ↔ en_Ev (XL L xs) 845 M (.int (x + y) :: st) w Q := en_Ev_step dcL_844 rfl rfl
theorem eL_845 {j : Int32} {M : en_L} : en_Ev (XL L xs) 845 M (.int j :: .ref 62 :: st) w Q ↔ sc_ok L j ∧ en_Ev (XL L xs) 846 M (.int (sc_at xs j) :: st) w Q := en_Ev_scr dcL_845 rfl
theorem eL_846 {v0 v1 : Value} {M : en_L} : en_Ev (XL L xs) 846 M (v1 :: v0 :: st) w Q ↔ en_rcv (some 5) [v0, v1] = true ∧ en_stk st = true ∧ en_Ec (XL L xs) 849 M st (SX5_since [v0, v1] w) Q := en_Ev_inv (i := .invokevirtual 119) (v := true) (idx := 119) (ci := some 5) (k := 2) rfl dcL_846 rfl ccL_119 rfl (by simp)
theorem eL_849 {a : Nat} {l0 l1 l3 : Option Value} : en_Ev (XL L xs) 849 [l0, l1, some (.ref a), l3] st w Q ↔ en_Ev (XL L xs) 850 [l0, l1, some (.ref a), l3] (.ref a :: st) w Q := en_Ev_step dcL_849 rfl rfl
theorem eL_850 {a : Nat} {l1 l2 l3 : Option Value} : en_Ev (XL L xs) 850 [some (.ref a), l1, l2, l3] st w Q ↔ en_Ev (XL L xs) 851 [some (.ref a), l1, l2, l3] (.ref a :: st) w Q := en_Ev_step dcL_850 rfl rfl
theorem eL_851 {x : Int32} {l0 l1 l2 : Option Value} : en_Ev (XL L xs) 851 [l0, l1, l2, some (.int x)] st w Q ↔ en_Ev (XL L xs) 852 [l0, l1, l2, some (.int x)] (.int x :: st) w Q := en_Ev_step dcL_851 rfl rfl
theorem eL_852 {M : en_L} : en_Ev (XL L xs) 852 M st w Q ↔ en_Ev (XL L xs) 853 M (.int 1 :: st) w Q := en_Ev_step dcL_852 rfl rfl
theorem eL_853 {x y : Int32} {M : en_L} : en_Ev (XL L xs) 853 M (.int y :: .int x :: st) w Q ↔ en_Ev (XL L xs) 854 M (.int (x + y) :: st) w Q := en_Ev_step dcL_853 rfl rfl
theorem eL_854 {j : Int32} {M : en_L} : en_Ev (XL L xs) 854 M (.int j :: .ref 62 :: st) w Q ↔ sc_ok L j ∧ en_Ev (XL L xs) 855 M (.int (sc_at xs j) :: st) w Q := en_Ev_scr dcL_854 rfl
theorem eL_855 {v0 v1 : Value} {M : en_L} : en_Ev (XL L xs) 855 M (v1 :: v0 :: st) w Q ↔ en_rcv (some 6) [v0, v1] = true ∧ en_stk st = true ∧ en_Ec (XL L xs) 858 M st (SX6_since [v0, v1] w) Q := en_Ev_inv (i := .invokevirtual 122) (v := true) (idx := 122) (ci := some 6) (k := 2) rfl dcL_855 rfl ccL_122 rfl (by simp)
theorem eL_858 {x y : Int32} {M : en_L} : en_Ev (XL L xs) 858 M (.int y :: .int x :: st) w Q ↔ if x = y then en_Ev (XL L xs) 1148 M st w Q else en_Ev (XL L xs) 861 M st w Q := (en_Ev_cmp (X := XL L xs) (pc := 858) (tgt := 1148) dcL_858 rfl).trans (Iff.of_eq en_cmp_eq)
theorem eL_861 {M : en_L} : en_Ev (XL L xs) 861 M st w Q ↔ en_Ev (XL L xs) 862 M (.int 0 :: st) w Q := en_Ev_step dcL_861 rfl rfl
theorem eL_862 {v : Int32} {M : en_L} : en_Ev (XL L xs) 862 M [.int v] w Q ↔ en_01 v ∧ Q (some (.int v)) w := en_Ev_bool dcL_862 rfl
theorem eL_863 {a : Nat} {l0 l2 l3 : Option Value} : en_Ev (XL L xs) 863 [l0, some (.ref a), l2, l3] st w Q ↔ en_Ev (XL L xs) 864 [l0, some (.ref a), l2, l3] (.ref a :: st) w Q := en_Ev_step dcL_863 rfl rfl
theorem eL_864 {a : Nat} {l1 l2 l3 : Option Value} : en_Ev (XL L xs) 864 [some (.ref a), l1, l2, l3] st w Q ↔ en_Ev (XL L xs) 865 [some (.ref a), l1, l2, l3] (.ref a :: st) w Q := en_Ev_step dcL_864 rfl rfl
theorem eL_865 {x : Int32} {l0 l1 l2 : Option Value} : en_Ev (XL L xs) 865 [l0, l1, l2, some (.int x)] st w Q ↔ en_Ev (XL L xs) 866 [l0, l1, l2, some (.int x)] (.int x :: st) w Q := en_Ev_step dcL_865 rfl rfl
theorem eL_866 {M : en_L} : en_Ev (XL L xs) 866 M st w Q ↔ en_Ev (XL L xs) 867 M (.int 1 :: st) w Q := en_Ev_step dcL_866 rfl rfl
theorem eL_867 {x y : Int32} {M : en_L} : en_Ev (XL L xs) 867 M (.int y :: .int x :: st) w Q ↔ en_Ev (XL L xs) 868 M (.int (x + y) :: st) w Q := en_Ev_step dcL_867 rfl rfl
theorem eL_868 {j : Int32} {M : en_L} : en_Ev (XL L xs) 868 M (.int j :: .ref 62 :: st) w Q ↔ sc_ok L j ∧ en_Ev (XL L xs) 869 M (.int (sc_at xs j) :: st) w Q := en_Ev_scr dcL_868 rfl
theorem eL_869 {a : Nat} {l1 l2 l3 : Option Value} : en_Ev (XL L xs) 869 [some (.ref a), l1, l2, l3] st w Q ↔ en_Ev (XL L xs) 870 [some (.ref a), l1, l2, l3] (.ref a :: st) w Q := en_Ev_step dcL_869 rfl rfl
theorem eL_870 {x : Int32} {l0 l1 l2 : Option Value} : en_Ev (XL L xs) 870 [l0, l1, l2, some (.int x)] st w Q ↔ en_Ev (XL L xs) 871 [l0, l1, l2, some (.int x)] (.int x :: st) w Q := en_Ev_step dcL_870 rfl rfl
theorem eL_871 {M : en_L} : en_Ev (XL L xs) 871 M st w Q ↔ en_Ev (XL L xs) 872 M (.int 2 :: st) w Q := en_Ev_step dcL_871 rfl rfl
theorem eL_872 {x y : Int32} {M : en_L} : en_Ev (XL L xs) 872 M (.int y :: .int x :: st) w Q ↔ en_Ev (XL L xs) 873 M (.int (x + y) :: st) w Q := en_Ev_step dcL_872 rfl rfl
theorem eL_873 {j : Int32} {M : en_L} : en_Ev (XL L xs) 873 M (.int j :: .ref 62 :: st) w Q ↔ sc_ok L j ∧ en_Ev (XL L xs) 874 M (.int (sc_at xs j) :: st) w Q := en_Ev_scr dcL_873 rfl
theorem eL_874 {a : Nat} {l1 l2 l3 : Option Value} : en_Ev (XL L xs) 874 [some (.ref a), l1, l2, l3] st w Q ↔ en_Ev (XL L xs) 875 [some (.ref a), l1, l2, l3] (.ref a :: st) w Q := en_Ev_step dcL_874 rfl rfl
theorem eL_875 {x : Int32} {l0 l1 l2 : Option Value} : en_Ev (XL L xs) 875 [l0, l1, l2, some (.int x)] st w Q ↔ en_Ev (XL L xs) 876 [l0, l1, l2, some (.int x)] (.int x :: st) w Q := en_Ev_step dcL_875 rfl rfl
theorem eL_876 {M : en_L} : en_Ev (XL L xs) 876 M st w Q ↔ en_Ev (XL L xs) 877 M (.int 3 :: st) w Q := en_Ev_step dcL_876 rfl rfl
theorem eL_877 {x y : Int32} {M : en_L} : en_Ev (XL L xs) 877 M (.int y :: .int x :: st) w Q ↔ en_Ev (XL L xs) 878 M (.int (x + y) :: st) w Q := en_Ev_step dcL_877 rfl rfl
theorem eL_878 {j : Int32} {M : en_L} : en_Ev (XL L xs) 878 M (.int j :: .ref 62 :: st) w Q ↔ sc_ok L j ∧ en_Ev (XL L xs) 879 M (.int (sc_at xs j) :: st) w Q := en_Ev_scr dcL_878 rfl
theorem eL_879 {v0 v1 v2 v3 : Value} {M : en_L} : en_Ev (XL L xs) 879 M (v3 :: v2 :: v1 :: v0 :: st) w Q ↔ en_rcv (some 5) [v0, v1, v2, v3] = true ∧ en_stk st = true ∧ en_Ec (XL L xs) 882 M st (SX5_sheet [v0, v1, v2, v3] w) Q := en_Ev_inv (i := .invokevirtual 123) (v := true) (idx := 123) (ci := some 5) (k := 4) rfl dcL_879 rfl ccL_123 rfl (by simp)
theorem eL_882 {a : Nat} {l0 l1 l3 : Option Value} : en_Ev (XL L xs) 882 [l0, l1, some (.ref a), l3] st w Q ↔ en_Ev (XL L xs) 883 [l0, l1, some (.ref a), l3] (.ref a :: st) w Q := en_Ev_step dcL_882 rfl rfl
theorem eL_883 {a : Nat} {l1 l2 l3 : Option Value} : en_Ev (XL L xs) 883 [some (.ref a), l1, l2, l3] st w Q ↔ en_Ev (XL L xs) 884 [some (.ref a), l1, l2, l3] (.ref a :: st) w Q := en_Ev_step dcL_883 rfl rfl
theorem eL_884 {x : Int32} {l0 l1 l2 : Option Value} : en_Ev (XL L xs) 884 [l0, l1, l2, some (.int x)] st w Q ↔ en_Ev (XL L xs) 885 [l0, l1, l2, some (.int x)] (.int x :: st) w Q := en_Ev_step dcL_884 rfl rfl
theorem eL_885 {M : en_L} : en_Ev (XL L xs) 885 M st w Q ↔ en_Ev (XL L xs) 886 M (.int 1 :: st) w Q := en_Ev_step dcL_885 rfl rfl
theorem eL_886 {x y : Int32} {M : en_L} : en_Ev (XL L xs) 886 M (.int y :: .int x :: st) w Q ↔ en_Ev (XL L xs) 887 M (.int (x + y) :: st) w Q := en_Ev_step dcL_886 rfl rfl
theorem eL_887 {j : Int32} {M : en_L} : en_Ev (XL L xs) 887 M (.int j :: .ref 62 :: st) w Q ↔ sc_ok L j ∧ en_Ev (XL L xs) 888 M (.int (sc_at xs j) :: st) w Q := en_Ev_scr dcL_887 rfl
theorem eL_888 {a : Nat} {l1 l2 l3 : Option Value} : en_Ev (XL L xs) 888 [some (.ref a), l1, l2, l3] st w Q ↔ en_Ev (XL L xs) 889 [some (.ref a), l1, l2, l3] (.ref a :: st) w Q := en_Ev_step dcL_888 rfl rfl
theorem eL_889 {x : Int32} {l0 l1 l2 : Option Value} : en_Ev (XL L xs) 889 [l0, l1, l2, some (.int x)] st w Q ↔ en_Ev (XL L xs) 890 [l0, l1, l2, some (.int x)] (.int x :: st) w Q := en_Ev_step dcL_889 rfl rfl
theorem eL_890 {M : en_L} : en_Ev (XL L xs) 890 M st w Q ↔ en_Ev (XL L xs) 891 M (.int 2 :: st) w Q := en_Ev_step dcL_890 rfl rfl
theorem eL_891 {x y : Int32} {M : en_L} : en_Ev (XL L xs) 891 M (.int y :: .int x :: st) w Q ↔ en_Ev (XL L xs) 892 M (.int (x + y) :: st) w Q := en_Ev_step dcL_891 rfl rfl
theorem eL_892 {j : Int32} {M : en_L} : en_Ev (XL L xs) 892 M (.int j :: .ref 62 :: st) w Q ↔ sc_ok L j ∧ en_Ev (XL L xs) 893 M (.int (sc_at xs j) :: st) w Q := en_Ev_scr dcL_892 rfl
theorem eL_893 {a : Nat} {l1 l2 l3 : Option Value} : en_Ev (XL L xs) 893 [some (.ref a), l1, l2, l3] st w Q ↔ en_Ev (XL L xs) 894 [some (.ref a), l1, l2, l3] (.ref a :: st) w Q := en_Ev_step dcL_893 rfl rfl
theorem eL_894 {x : Int32} {l0 l1 l2 : Option Value} : en_Ev (XL L xs) 894 [l0, l1, l2, some (.int x)] st w Q ↔ en_Ev (XL L xs) 895 [l0, l1, l2, some (.int x)] (.int x :: st) w Q := en_Ev_step dcL_894 rfl rfl
theorem eL_895 {M : en_L} : en_Ev (XL L xs) 895 M st w Q ↔ en_Ev (XL L xs) 896 M (.int 3 :: st) w Q := en_Ev_step dcL_895 rfl rfl
theorem eL_896 {x y : Int32} {M : en_L} : en_Ev (XL L xs) 896 M (.int y :: .int x :: st) w Q ↔ en_Ev (XL L xs) 897 M (.int (x + y) :: st) w Q := en_Ev_step dcL_896 rfl rfl
theorem eL_897 {j : Int32} {M : en_L} : en_Ev (XL L xs) 897 M (.int j :: .ref 62 :: st) w Q ↔ sc_ok L j ∧ en_Ev (XL L xs) 898 M (.int (sc_at xs j) :: st) w Q := en_Ev_scr dcL_897 rfl
theorem eL_898 {v0 v1 v2 v3 : Value} {M : en_L} : en_Ev (XL L xs) 898 M (v3 :: v2 :: v1 :: v0 :: st) w Q ↔ en_rcv (some 6) [v0, v1, v2, v3] = true ∧ en_stk st = true ∧ en_Ec (XL L xs) 901 M st (SX6_sheet [v0, v1, v2, v3] w) Q := en_Ev_inv (i := .invokevirtual 126) (v := true) (idx := 126) (ci := some 6) (k := 4) rfl dcL_898 rfl ccL_126 rfl (by simp)
theorem eL_901 {x y : Int32} {M : en_L} : en_Ev (XL L xs) 901 M (.int y :: .int x :: st) w Q ↔ if x = y then en_Ev (XL L xs) 1148 M st w Q else en_Ev (XL L xs) 904 M st w Q := (en_Ev_cmp (X := XL L xs) (pc := 901) (tgt := 1148) dcL_901 rfl).trans (Iff.of_eq en_cmp_eq)
theorem eL_904 {M : en_L} : en_Ev (XL L xs) 904 M st w Q ↔ en_Ev (XL L xs) 905 M (.int 0 :: st) w Q := en_Ev_step dcL_904 rfl rfl
theorem eL_905 {v : Int32} {M : en_L} : en_Ev (XL L xs) 905 M [.int v] w Q ↔ en_01 v ∧ Q (some (.int v)) w := en_Ev_bool dcL_905 rfl
theorem eL_906 {a : Nat} {l0 l2 l3 : Option Value} : en_Ev (XL L xs) 906 [l0, some (.ref a), l2, l3] st w Q ↔ en_Ev (XL L xs) 907 [l0, some (.ref a), l2, l3] (.ref a :: st) w Q := en_Ev_step dcL_906 rfl rfl
theorem eL_907 {a : Nat} {l1 l2 l3 : Option Value} : en_Ev (XL L xs) 907 [some (.ref a), l1, l2, l3] st w Q ↔ en_Ev (XL L xs) 908 [some (.ref a), l1, l2, l3] (.ref a :: st) w Q := en_Ev_step dcL_907 rfl rfl
theorem eL_908 {x : Int32} {l0 l1 l2 : Option Value} : en_Ev (XL L xs) 908 [l0, l1, l2, some (.int x)] st w Q ↔ en_Ev (XL L xs) 909 [l0, l1, l2, some (.int x)] (.int x :: st) w Q := en_Ev_step dcL_908 rfl rfl
theorem eL_909 {M : en_L} : en_Ev (XL L xs) 909 M st w Q ↔ en_Ev (XL L xs) 910 M (.int 1 :: st) w Q := en_Ev_step dcL_909 rfl rfl
theorem eL_910 {x y : Int32} {M : en_L} : en_Ev (XL L xs) 910 M (.int y :: .int x :: st) w Q ↔ en_Ev (XL L xs) 911 M (.int (x + y) :: st) w Q := en_Ev_step dcL_910 rfl rfl
theorem eL_911 {j : Int32} {M : en_L} : en_Ev (XL L xs) 911 M (.int j :: .ref 62 :: st) w Q ↔ sc_ok L j ∧ en_Ev (XL L xs) 912 M (.int (sc_at xs j) :: st) w Q := en_Ev_scr dcL_911 rfl
theorem eL_912 {v0 v1 : Value} {M : en_L} : en_Ev (XL L xs) 912 M (v1 :: v0 :: st) w Q ↔ en_rcv (some 5) [v0, v1] = true ∧ en_stk st = true ∧ en_Ec (XL L xs) 915 M st (SX5_lose [v0, v1] w) Q := en_Ev_inv (i := .invokevirtual 127) (v := true) (idx := 127) (ci := some 5) (k := 2) rfl dcL_912 rfl ccL_127 rfl (by simp)
theorem eL_915 {a : Nat} {l0 l1 l3 : Option Value} : en_Ev (XL L xs) 915 [l0, l1, some (.ref a), l3] st w Q ↔ en_Ev (XL L xs) 916 [l0, l1, some (.ref a), l3] (.ref a :: st) w Q := en_Ev_step dcL_915 rfl rfl
theorem eL_916 {a : Nat} {l1 l2 l3 : Option Value} : en_Ev (XL L xs) 916 [some (.ref a), l1, l2, l3] st w Q ↔ en_Ev (XL L xs) 917 [some (.ref a), l1, l2, l3] (.ref a :: st) w Q := en_Ev_step dcL_916 rfl rfl
theorem eL_917 {x : Int32} {l0 l1 l2 : Option Value} : en_Ev (XL L xs) 917 [l0, l1, l2, some (.int x)] st w Q ↔ en_Ev (XL L xs) 918 [l0, l1, l2, some (.int x)] (.int x :: st) w Q := en_Ev_step dcL_917 rfl rfl
theorem eL_918 {M : en_L} : en_Ev (XL L xs) 918 M st w Q ↔ en_Ev (XL L xs) 919 M (.int 1 :: st) w Q := en_Ev_step dcL_918 rfl rfl
theorem eL_919 {x y : Int32} {M : en_L} : en_Ev (XL L xs) 919 M (.int y :: .int x :: st) w Q ↔ en_Ev (XL L xs) 920 M (.int (x + y) :: st) w Q := en_Ev_step dcL_919 rfl rfl
theorem eL_920 {j : Int32} {M : en_L} : en_Ev (XL L xs) 920 M (.int j :: .ref 62 :: st) w Q ↔ sc_ok L j ∧ en_Ev (XL L xs) 921 M (.int (sc_at xs j) :: st) w Q := en_Ev_scr dcL_920 rfl
theorem eL_921 {v0 v1 : Value} {M : en_L} : en_Ev (XL L xs) 921 M (v1 :: v0 :: st) w Q ↔ en_rcv (some 6) [v0, v1] = true ∧ en_stk st = true ∧ en_Ec (XL L xs) 924 M st (SX6_lose [v0, v1] w) Q := en_Ev_inv (i := .invokevirtual 130) (v := true) (idx := 130) (ci := some 6) (k := 2) rfl dcL_921 rfl ccL_130 rfl (by simp)
theorem eL_924 {x y : Int32} {M : en_L} : en_Ev (XL L xs) 924 M (.int y :: .int x :: st) w Q ↔ if x = y then en_Ev (XL L xs) 1148 M st w Q else en_Ev (XL L xs) 927 M st w Q := (en_Ev_cmp (X := XL L xs) (pc := 924) (tgt := 1148) dcL_924 rfl).trans (Iff.of_eq en_cmp_eq)
theorem eL_927 {M : en_L} : en_Ev (XL L xs) 927 M st w Q ↔ en_Ev (XL L xs) 928 M (.int 0 :: st) w Q := en_Ev_step dcL_927 rfl rfl
theorem eL_928 {v : Int32} {M : en_L} : en_Ev (XL L xs) 928 M [.int v] w Q ↔ en_01 v ∧ Q (some (.int v)) w := en_Ev_bool dcL_928 rfl
theorem eL_929 {a : Nat} {l0 l2 l3 : Option Value} : en_Ev (XL L xs) 929 [l0, some (.ref a), l2, l3] st w Q ↔ en_Ev (XL L xs) 930 [l0, some (.ref a), l2, l3] (.ref a :: st) w Q := en_Ev_step dcL_929 rfl rfl
theorem eL_930 {a : Nat} {l1 l2 l3 : Option Value} : en_Ev (XL L xs) 930 [some (.ref a), l1, l2, l3] st w Q ↔ en_Ev (XL L xs) 931 [some (.ref a), l1, l2, l3] (.ref a :: st) w Q := en_Ev_step dcL_930 rfl rfl
theorem eL_931 {x : Int32} {l0 l1 l2 : Option Value} : en_Ev (XL L xs) 931 [l0, l1, l2, some (.int x)] st w Q ↔ en_Ev (XL L xs) 932 [l0, l1, l2, some (.int x)] (.int x :: st) w Q := en_Ev_step dcL_931 rfl rfl
theorem eL_932 {M : en_L} : en_Ev (XL L xs) 932 M st w Q ↔ en_Ev (XL L xs) 933 M (.int 1 :: st) w Q := en_Ev_step dcL_932 rfl rfl
theorem eL_933 {x y : Int32} {M : en_L} : en_Ev (XL L xs) 933 M (.int y :: .int x :: st) w Q ↔ en_Ev (XL L xs) 934 M (.int (x + y) :: st) w Q := en_Ev_step dcL_933 rfl rfl
theorem eL_934 {j : Int32} {M : en_L} : en_Ev (XL L xs) 934 M (.int j :: .ref 62 :: st) w Q ↔ sc_ok L j ∧ en_Ev (XL L xs) 935 M (.int (sc_at xs j) :: st) w Q := en_Ev_scr dcL_934 rfl
theorem eL_935 {a : Nat} {l1 l2 l3 : Option Value} : en_Ev (XL L xs) 935 [some (.ref a), l1, l2, l3] st w Q ↔ en_Ev (XL L xs) 936 [some (.ref a), l1, l2, l3] (.ref a :: st) w Q := en_Ev_step dcL_935 rfl rfl
theorem eL_936 {x : Int32} {l0 l1 l2 : Option Value} : en_Ev (XL L xs) 936 [l0, l1, l2, some (.int x)] st w Q ↔ en_Ev (XL L xs) 937 [l0, l1, l2, some (.int x)] (.int x :: st) w Q := en_Ev_step dcL_936 rfl rfl
theorem eL_937 {M : en_L} : en_Ev (XL L xs) 937 M st w Q ↔ en_Ev (XL L xs) 938 M (.int 2 :: st) w Q := en_Ev_step dcL_937 rfl rfl
theorem eL_938 {x y : Int32} {M : en_L} : en_Ev (XL L xs) 938 M (.int y :: .int x :: st) w Q ↔ en_Ev (XL L xs) 939 M (.int (x + y) :: st) w Q := en_Ev_step dcL_938 rfl rfl
theorem eL_939 {j : Int32} {M : en_L} : en_Ev (XL L xs) 939 M (.int j :: .ref 62 :: st) w Q ↔ sc_ok L j ∧ en_Ev (XL L xs) 940 M (.int (sc_at xs j) :: st) w Q := en_Ev_scr dcL_939 rfl
theorem eL_940 {a : Nat} {l1 l2 l3 : Option Value} : en_Ev (XL L xs) 940 [some (.ref a), l1, l2, l3] st w Q ↔ en_Ev (XL L xs) 941 [some (.ref a), l1, l2, l3] (.ref a :: st) w Q := en_Ev_step dcL_940 rfl rfl
theorem eL_941 {x : Int32} {l0 l1 l2 : Option Value} : en_Ev (XL L xs) 941 [l0, l1, l2, some (.int x)] st w Q ↔ en_Ev (XL L xs) 942 [l0, l1, l2, some (.int x)] (.int x :: st) w Q := en_Ev_step dcL_941 rfl rfl
theorem eL_942 {M : en_L} : en_Ev (XL L xs) 942 M st w Q ↔ en_Ev (XL L xs) 943 M (.int 3 :: st) w Q := en_Ev_step dcL_942 rfl rfl
theorem eL_943 {x y : Int32} {M : en_L} : en_Ev (XL L xs) 943 M (.int y :: .int x :: st) w Q ↔ en_Ev (XL L xs) 944 M (.int (x + y) :: st) w Q := en_Ev_step dcL_943 rfl rfl
theorem eL_944 {j : Int32} {M : en_L} : en_Ev (XL L xs) 944 M (.int j :: .ref 62 :: st) w Q ↔ sc_ok L j ∧ en_Ev (XL L xs) 945 M (.int (sc_at xs j) :: st) w Q := en_Ev_scr dcL_944 rfl
theorem eL_945 {a : Nat} {l1 l2 l3 : Option Value} : en_Ev (XL L xs) 945 [some (.ref a), l1, l2, l3] st w Q ↔ en_Ev (XL L xs) 946 [some (.ref a), l1, l2, l3] (.ref a :: st) w Q := en_Ev_step dcL_945 rfl rfl
theorem eL_946 {x : Int32} {l0 l1 l2 : Option Value} : en_Ev (XL L xs) 946 [l0, l1, l2, some (.int x)] st w Q ↔ en_Ev (XL L xs) 947 [l0, l1, l2, some (.int x)] (.int x :: st) w Q := en_Ev_step dcL_946 rfl rfl
theorem eL_947 {M : en_L} : en_Ev (XL L xs) 947 M st w Q ↔ en_Ev (XL L xs) 948 M (.int 4 :: st) w Q := en_Ev_step dcL_947 rfl rfl
theorem eL_948 {x y : Int32} {M : en_L} : en_Ev (XL L xs) 948 M (.int y :: .int x :: st) w Q ↔ en_Ev (XL L xs) 949 M (.int (x + y) :: st) w Q := en_Ev_step dcL_948 rfl rfl
theorem eL_949 {j : Int32} {M : en_L} : en_Ev (XL L xs) 949 M (.int j :: .ref 62 :: st) w Q ↔ sc_ok L j ∧ en_Ev (XL L xs) 950 M (.int (sc_at xs j) :: st) w Q := en_Ev_scr dcL_949 rfl
theorem eL_950 {v0 v1 v2 v3 v4 : Value} {M : en_L} : en_Ev (XL L xs) 950 M (v4 :: v3 :: v2 :: v1 :: v0 :: st) w Q ↔ en_rcv (some 5) [v0, v1, v2, v3, v4] = true ∧ en_stk st = true ∧ en_Ec (XL L xs) 953 M st (SX5_lay [v0, v1, v2, v3, v4] w) Q := en_Ev_inv (i := .invokevirtual 131) (v := true) (idx := 131) (ci := some 5) (k := 5) rfl dcL_950 rfl ccL_131 rfl (by simp)
theorem eL_953 {a : Nat} {l0 l1 l3 : Option Value} : en_Ev (XL L xs) 953 [l0, l1, some (.ref a), l3] st w Q ↔ en_Ev (XL L xs) 954 [l0, l1, some (.ref a), l3] (.ref a :: st) w Q := en_Ev_step dcL_953 rfl rfl
theorem eL_954 {a : Nat} {l1 l2 l3 : Option Value} : en_Ev (XL L xs) 954 [some (.ref a), l1, l2, l3] st w Q ↔ en_Ev (XL L xs) 955 [some (.ref a), l1, l2, l3] (.ref a :: st) w Q := en_Ev_step dcL_954 rfl rfl
theorem eL_955 {x : Int32} {l0 l1 l2 : Option Value} : en_Ev (XL L xs) 955 [l0, l1, l2, some (.int x)] st w Q ↔ en_Ev (XL L xs) 956 [l0, l1, l2, some (.int x)] (.int x :: st) w Q := en_Ev_step dcL_955 rfl rfl
theorem eL_956 {M : en_L} : en_Ev (XL L xs) 956 M st w Q ↔ en_Ev (XL L xs) 957 M (.int 1 :: st) w Q := en_Ev_step dcL_956 rfl rfl
theorem eL_957 {x y : Int32} {M : en_L} : en_Ev (XL L xs) 957 M (.int y :: .int x :: st) w Q ↔ en_Ev (XL L xs) 958 M (.int (x + y) :: st) w Q := en_Ev_step dcL_957 rfl rfl
theorem eL_958 {j : Int32} {M : en_L} : en_Ev (XL L xs) 958 M (.int j :: .ref 62 :: st) w Q ↔ sc_ok L j ∧ en_Ev (XL L xs) 959 M (.int (sc_at xs j) :: st) w Q := en_Ev_scr dcL_958 rfl
theorem eL_959 {a : Nat} {l1 l2 l3 : Option Value} : en_Ev (XL L xs) 959 [some (.ref a), l1, l2, l3] st w Q ↔ en_Ev (XL L xs) 960 [some (.ref a), l1, l2, l3] (.ref a :: st) w Q := en_Ev_step dcL_959 rfl rfl
theorem eL_960 {x : Int32} {l0 l1 l2 : Option Value} : en_Ev (XL L xs) 960 [l0, l1, l2, some (.int x)] st w Q ↔ en_Ev (XL L xs) 961 [l0, l1, l2, some (.int x)] (.int x :: st) w Q := en_Ev_step dcL_960 rfl rfl
theorem eL_961 {M : en_L} : en_Ev (XL L xs) 961 M st w Q ↔ en_Ev (XL L xs) 962 M (.int 2 :: st) w Q := en_Ev_step dcL_961 rfl rfl
theorem eL_962 {x y : Int32} {M : en_L} : en_Ev (XL L xs) 962 M (.int y :: .int x :: st) w Q ↔ en_Ev (XL L xs) 963 M (.int (x + y) :: st) w Q := en_Ev_step dcL_962 rfl rfl
theorem eL_963 {j : Int32} {M : en_L} : en_Ev (XL L xs) 963 M (.int j :: .ref 62 :: st) w Q ↔ sc_ok L j ∧ en_Ev (XL L xs) 964 M (.int (sc_at xs j) :: st) w Q := en_Ev_scr dcL_963 rfl
theorem eL_964 {a : Nat} {l1 l2 l3 : Option Value} : en_Ev (XL L xs) 964 [some (.ref a), l1, l2, l3] st w Q ↔ en_Ev (XL L xs) 965 [some (.ref a), l1, l2, l3] (.ref a :: st) w Q := en_Ev_step dcL_964 rfl rfl
theorem eL_965 {x : Int32} {l0 l1 l2 : Option Value} : en_Ev (XL L xs) 965 [l0, l1, l2, some (.int x)] st w Q ↔ en_Ev (XL L xs) 966 [l0, l1, l2, some (.int x)] (.int x :: st) w Q := en_Ev_step dcL_965 rfl rfl
theorem eL_966 {M : en_L} : en_Ev (XL L xs) 966 M st w Q ↔ en_Ev (XL L xs) 967 M (.int 3 :: st) w Q := en_Ev_step dcL_966 rfl rfl
theorem eL_967 {x y : Int32} {M : en_L} : en_Ev (XL L xs) 967 M (.int y :: .int x :: st) w Q ↔ en_Ev (XL L xs) 968 M (.int (x + y) :: st) w Q := en_Ev_step dcL_967 rfl rfl
theorem eL_968 {j : Int32} {M : en_L} : en_Ev (XL L xs) 968 M (.int j :: .ref 62 :: st) w Q ↔ sc_ok L j ∧ en_Ev (XL L xs) 969 M (.int (sc_at xs j) :: st) w Q := en_Ev_scr dcL_968 rfl
theorem eL_969 {a : Nat} {l1 l2 l3 : Option Value} : en_Ev (XL L xs) 969 [some (.ref a), l1, l2, l3] st w Q ↔ en_Ev (XL L xs) 970 [some (.ref a), l1, l2, l3] (.ref a :: st) w Q := en_Ev_step dcL_969 rfl rfl
theorem eL_970 {x : Int32} {l0 l1 l2 : Option Value} : en_Ev (XL L xs) 970 [l0, l1, l2, some (.int x)] st w Q ↔ en_Ev (XL L xs) 971 [l0, l1, l2, some (.int x)] (.int x :: st) w Q := en_Ev_step dcL_970 rfl rfl
theorem eL_971 {M : en_L} : en_Ev (XL L xs) 971 M st w Q ↔ en_Ev (XL L xs) 972 M (.int 4 :: st) w Q := en_Ev_step dcL_971 rfl rfl
theorem eL_972 {x y : Int32} {M : en_L} : en_Ev (XL L xs) 972 M (.int y :: .int x :: st) w Q ↔ en_Ev (XL L xs) 973 M (.int (x + y) :: st) w Q := en_Ev_step dcL_972 rfl rfl
theorem eL_973 {j : Int32} {M : en_L} : en_Ev (XL L xs) 973 M (.int j :: .ref 62 :: st) w Q ↔ sc_ok L j ∧ en_Ev (XL L xs) 974 M (.int (sc_at xs j) :: st) w Q := en_Ev_scr dcL_973 rfl
theorem eL_974 {v0 v1 v2 v3 v4 : Value} {M : en_L} : en_Ev (XL L xs) 974 M (v4 :: v3 :: v2 :: v1 :: v0 :: st) w Q ↔ en_rcv (some 6) [v0, v1, v2, v3, v4] = true ∧ en_stk st = true ∧ en_Ec (XL L xs) 977 M st (SX6_lay [v0, v1, v2, v3, v4] w) Q := en_Ev_inv (i := .invokevirtual 134) (v := true) (idx := 134) (ci := some 6) (k := 5) rfl dcL_974 rfl ccL_134 rfl (by simp)
theorem eL_977 {x y : Int32} {M : en_L} : en_Ev (XL L xs) 977 M (.int y :: .int x :: st) w Q ↔ if x = y then en_Ev (XL L xs) 1148 M st w Q else en_Ev (XL L xs) 980 M st w Q := (en_Ev_cmp (X := XL L xs) (pc := 977) (tgt := 1148) dcL_977 rfl).trans (Iff.of_eq en_cmp_eq)
theorem eL_980 {M : en_L} : en_Ev (XL L xs) 980 M st w Q ↔ en_Ev (XL L xs) 981 M (.int 0 :: st) w Q := en_Ev_step dcL_980 rfl rfl
theorem eL_981 {v : Int32} {M : en_L} : en_Ev (XL L xs) 981 M [.int v] w Q ↔ en_01 v ∧ Q (some (.int v)) w := en_Ev_bool dcL_981 rfl
theorem eL_982 {a : Nat} {l0 l2 l3 : Option Value} : en_Ev (XL L xs) 982 [l0, some (.ref a), l2, l3] st w Q ↔ en_Ev (XL L xs) 983 [l0, some (.ref a), l2, l3] (.ref a :: st) w Q := en_Ev_step dcL_982 rfl rfl
theorem eL_983 {a : Nat} {l1 l2 l3 : Option Value} : en_Ev (XL L xs) 983 [some (.ref a), l1, l2, l3] st w Q ↔ en_Ev (XL L xs) 984 [some (.ref a), l1, l2, l3] (.ref a :: st) w Q := en_Ev_step dcL_983 rfl rfl
theorem eL_984 {x : Int32} {l0 l1 l2 : Option Value} : en_Ev (XL L xs) 984 [l0, l1, l2, some (.int x)] st w Q ↔ en_Ev (XL L xs) 985 [l0, l1, l2, some (.int x)] (.int x :: st) w Q := en_Ev_step dcL_984 rfl rfl
theorem eL_985 {M : en_L} : en_Ev (XL L xs) 985 M st w Q ↔ en_Ev (XL L xs) 986 M (.int 1 :: st) w Q := en_Ev_step dcL_985 rfl rfl
theorem eL_986 {x y : Int32} {M : en_L} : en_Ev (XL L xs) 986 M (.int y :: .int x :: st) w Q ↔ en_Ev (XL L xs) 987 M (.int (x + y) :: st) w Q := en_Ev_step dcL_986 rfl rfl
theorem eL_987 {j : Int32} {M : en_L} : en_Ev (XL L xs) 987 M (.int j :: .ref 62 :: st) w Q ↔ sc_ok L j ∧ en_Ev (XL L xs) 988 M (.int (sc_at xs j) :: st) w Q := en_Ev_scr dcL_987 rfl
theorem eL_988 {a : Nat} {l1 l2 l3 : Option Value} : en_Ev (XL L xs) 988 [some (.ref a), l1, l2, l3] st w Q ↔ en_Ev (XL L xs) 989 [some (.ref a), l1, l2, l3] (.ref a :: st) w Q := en_Ev_step dcL_988 rfl rfl
theorem eL_989 {x : Int32} {l0 l1 l2 : Option Value} : en_Ev (XL L xs) 989 [l0, l1, l2, some (.int x)] st w Q ↔ en_Ev (XL L xs) 990 [l0, l1, l2, some (.int x)] (.int x :: st) w Q := en_Ev_step dcL_989 rfl rfl
theorem eL_990 {M : en_L} : en_Ev (XL L xs) 990 M st w Q ↔ en_Ev (XL L xs) 991 M (.int 2 :: st) w Q := en_Ev_step dcL_990 rfl rfl
theorem eL_991 {x y : Int32} {M : en_L} : en_Ev (XL L xs) 991 M (.int y :: .int x :: st) w Q ↔ en_Ev (XL L xs) 992 M (.int (x + y) :: st) w Q := en_Ev_step dcL_991 rfl rfl
theorem eL_992 {j : Int32} {M : en_L} : en_Ev (XL L xs) 992 M (.int j :: .ref 62 :: st) w Q ↔ sc_ok L j ∧ en_Ev (XL L xs) 993 M (.int (sc_at xs j) :: st) w Q := en_Ev_scr dcL_992 rfl
theorem eL_993 {a : Nat} {l1 l2 l3 : Option Value} : en_Ev (XL L xs) 993 [some (.ref a), l1, l2, l3] st w Q ↔ en_Ev (XL L xs) 994 [some (.ref a), l1, l2, l3] (.ref a :: st) w Q := en_Ev_step dcL_993 rfl rfl
theorem eL_994 {x : Int32} {l0 l1 l2 : Option Value} : en_Ev (XL L xs) 994 [l0, l1, l2, some (.int x)] st w Q ↔ en_Ev (XL L xs) 995 [l0, l1, l2, some (.int x)] (.int x :: st) w Q := en_Ev_step dcL_994 rfl rfl
theorem eL_995 {M : en_L} : en_Ev (XL L xs) 995 M st w Q ↔ en_Ev (XL L xs) 996 M (.int 3 :: st) w Q := en_Ev_step dcL_995 rfl rfl
theorem eL_996 {x y : Int32} {M : en_L} : en_Ev (XL L xs) 996 M (.int y :: .int x :: st) w Q ↔ en_Ev (XL L xs) 997 M (.int (x + y) :: st) w Q := en_Ev_step dcL_996 rfl rfl
theorem eL_997 {j : Int32} {M : en_L} : en_Ev (XL L xs) 997 M (.int j :: .ref 62 :: st) w Q ↔ sc_ok L j ∧ en_Ev (XL L xs) 998 M (.int (sc_at xs j) :: st) w Q := en_Ev_scr dcL_997 rfl
theorem eL_998 {v0 v1 v2 v3 : Value} {M : en_L} : en_Ev (XL L xs) 998 M (v3 :: v2 :: v1 :: v0 :: st) w Q ↔ en_rcv (some 5) [v0, v1, v2, v3] = true ∧ en_stk st = true ∧ en_Ec (XL L xs) 1001 M st (SX5_get [v0, v1, v2, v3] w) Q := en_Ev_inv (i := .invokevirtual 135) (v := true) (idx := 135) (ci := some 5) (k := 4) rfl dcL_998 rfl ccL_135 rfl (by simp)
theorem eL_1001 {a : Nat} {l0 l1 l3 : Option Value} : en_Ev (XL L xs) 1001 [l0, l1, some (.ref a), l3] st w Q ↔ en_Ev (XL L xs) 1002 [l0, l1, some (.ref a), l3] (.ref a :: st) w Q := en_Ev_step dcL_1001 rfl rfl
theorem eL_1002 {a : Nat} {l1 l2 l3 : Option Value} : en_Ev (XL L xs) 1002 [some (.ref a), l1, l2, l3] st w Q ↔ en_Ev (XL L xs) 1003 [some (.ref a), l1, l2, l3] (.ref a :: st) w Q := en_Ev_step dcL_1002 rfl rfl
theorem eL_1003 {x : Int32} {l0 l1 l2 : Option Value} : en_Ev (XL L xs) 1003 [l0, l1, l2, some (.int x)] st w Q ↔ en_Ev (XL L xs) 1004 [l0, l1, l2, some (.int x)] (.int x :: st) w Q := en_Ev_step dcL_1003 rfl rfl
theorem eL_1004 {M : en_L} : en_Ev (XL L xs) 1004 M st w Q ↔ en_Ev (XL L xs) 1005 M (.int 1 :: st) w Q := en_Ev_step dcL_1004 rfl rfl
theorem eL_1005 {x y : Int32} {M : en_L} : en_Ev (XL L xs) 1005 M (.int y :: .int x :: st) w Q ↔ en_Ev (XL L xs) 1006 M (.int (x + y) :: st) w Q := en_Ev_step dcL_1005 rfl rfl
theorem eL_1006 {j : Int32} {M : en_L} : en_Ev (XL L xs) 1006 M (.int j :: .ref 62 :: st) w Q ↔ sc_ok L j ∧ en_Ev (XL L xs) 1007 M (.int (sc_at xs j) :: st) w Q := en_Ev_scr dcL_1006 rfl
theorem eL_1007 {a : Nat} {l1 l2 l3 : Option Value} : en_Ev (XL L xs) 1007 [some (.ref a), l1, l2, l3] st w Q ↔ en_Ev (XL L xs) 1008 [some (.ref a), l1, l2, l3] (.ref a :: st) w Q := en_Ev_step dcL_1007 rfl rfl
theorem eL_1008 {x : Int32} {l0 l1 l2 : Option Value} : en_Ev (XL L xs) 1008 [l0, l1, l2, some (.int x)] st w Q ↔ en_Ev (XL L xs) 1009 [l0, l1, l2, some (.int x)] (.int x :: st) w Q := en_Ev_step dcL_1008 rfl rfl
theorem eL_1009 {M : en_L} : en_Ev (XL L xs) 1009 M st w Q ↔ en_Ev (XL L xs) 1010 M (.int 2 :: st) w Q := en_Ev_step dcL_1009 rfl rfl
theorem eL_1010 {x y : Int32} {M : en_L} : en_Ev (XL L xs) 1010 M (.int y :: .int x :: st) w Q ↔ en_Ev (XL L xs) 1011 M (.int (x + y) :: st) w Q := en_Ev_step dcL_1010 rfl rfl
theorem eL_1011 {j : Int32} {M : en_L} : en_Ev (XL L xs) 1011 M (.int j :: .ref 62 :: st) w Q ↔ sc_ok L j ∧ en_Ev (XL L xs) 1012 M (.int (sc_at xs j) :: st) w Q := en_Ev_scr dcL_1011 rfl
theorem eL_1012 {a : Nat} {l1 l2 l3 : Option Value} : en_Ev (XL L xs) 1012 [some (.ref a), l1, l2, l3] st w Q ↔ en_Ev (XL L xs) 1013 [some (.ref a), l1, l2, l3] (.ref a :: st) w Q := en_Ev_step dcL_1012 rfl rfl
theorem eL_1013 {x : Int32} {l0 l1 l2 : Option Value} : en_Ev (XL L xs) 1013 [l0, l1, l2, some (.int x)] st w Q ↔ en_Ev (XL L xs) 1014 [l0, l1, l2, some (.int x)] (.int x :: st) w Q := en_Ev_step dcL_1013 rfl rfl
theorem eL_1014 {M : en_L} : en_Ev (XL L xs) 1014 M st w Q ↔ en_Ev (XL L xs) 1015 M (.int 3 :: st) w Q := en_Ev_step dcL_1014 rfl rfl
theorem eL_1015 {x y : Int32} {M : en_L} : en_Ev (XL L xs) 1015 M (.int y :: .int x :: st) w Q ↔ en_Ev (XL L xs) 1016 M (.int (x + y) :: st) w Q := en_Ev_step dcL_1015 rfl rfl
theorem eL_1016 {j : Int32} {M : en_L} : en_Ev (XL L xs) 1016 M (.int j :: .ref 62 :: st) w Q ↔ sc_ok L j ∧ en_Ev (XL L xs) 1017 M (.int (sc_at xs j) :: st) w Q := en_Ev_scr dcL_1016 rfl
theorem eL_1017 {v0 v1 v2 v3 : Value} {M : en_L} : en_Ev (XL L xs) 1017 M (v3 :: v2 :: v1 :: v0 :: st) w Q ↔ en_rcv (some 6) [v0, v1, v2, v3] = true ∧ en_stk st = true ∧ en_Ec (XL L xs) 1020 M st (SX6_get [v0, v1, v2, v3] w) Q := en_Ev_inv (i := .invokevirtual 138) (v := true) (idx := 138) (ci := some 6) (k := 4) rfl dcL_1017 rfl ccL_138 rfl (by simp)
theorem eL_1020 {x y : Int32} {M : en_L} : en_Ev (XL L xs) 1020 M (.int y :: .int x :: st) w Q ↔ if x = y then en_Ev (XL L xs) 1148 M st w Q else en_Ev (XL L xs) 1023 M st w Q := (en_Ev_cmp (X := XL L xs) (pc := 1020) (tgt := 1148) dcL_1020 rfl).trans (Iff.of_eq en_cmp_eq)
theorem eL_1023 {M : en_L} : en_Ev (XL L xs) 1023 M st w Q ↔ en_Ev (XL L xs) 1024 M (.int 0 :: st) w Q := en_Ev_step dcL_1023 rfl rfl
theorem eL_1024 {v : Int32} {M : en_L} : en_Ev (XL L xs) 1024 M [.int v] w Q ↔ en_01 v ∧ Q (some (.int v)) w := en_Ev_bool dcL_1024 rfl
theorem eL_1025 {a : Nat} {l0 l2 l3 : Option Value} : en_Ev (XL L xs) 1025 [l0, some (.ref a), l2, l3] st w Q ↔ en_Ev (XL L xs) 1026 [l0, some (.ref a), l2, l3] (.ref a :: st) w Q := en_Ev_step dcL_1025 rfl rfl
theorem eL_1026 {a : Nat} {l1 l2 l3 : Option Value} : en_Ev (XL L xs) 1026 [some (.ref a), l1, l2, l3] st w Q ↔ en_Ev (XL L xs) 1027 [some (.ref a), l1, l2, l3] (.ref a :: st) w Q := en_Ev_step dcL_1026 rfl rfl
theorem eL_1027 {x : Int32} {l0 l1 l2 : Option Value} : en_Ev (XL L xs) 1027 [l0, l1, l2, some (.int x)] st w Q ↔ en_Ev (XL L xs) 1028 [l0, l1, l2, some (.int x)] (.int x :: st) w Q := en_Ev_step dcL_1027 rfl rfl
theorem eL_1028 {M : en_L} : en_Ev (XL L xs) 1028 M st w Q ↔ en_Ev (XL L xs) 1029 M (.int 1 :: st) w Q := en_Ev_step dcL_1028 rfl rfl
theorem eL_1029 {x y : Int32} {M : en_L} : en_Ev (XL L xs) 1029 M (.int y :: .int x :: st) w Q ↔ en_Ev (XL L xs) 1030 M (.int (x + y) :: st) w Q := en_Ev_step dcL_1029 rfl rfl
theorem eL_1030 {j : Int32} {M : en_L} : en_Ev (XL L xs) 1030 M (.int j :: .ref 62 :: st) w Q ↔ sc_ok L j ∧ en_Ev (XL L xs) 1031 M (.int (sc_at xs j) :: st) w Q := en_Ev_scr dcL_1030 rfl
theorem eL_1031 {a : Nat} {l1 l2 l3 : Option Value} : en_Ev (XL L xs) 1031 [some (.ref a), l1, l2, l3] st w Q ↔ en_Ev (XL L xs) 1032 [some (.ref a), l1, l2, l3] (.ref a :: st) w Q := en_Ev_step dcL_1031 rfl rfl
theorem eL_1032 {x : Int32} {l0 l1 l2 : Option Value} : en_Ev (XL L xs) 1032 [l0, l1, l2, some (.int x)] st w Q ↔ en_Ev (XL L xs) 1033 [l0, l1, l2, some (.int x)] (.int x :: st) w Q := en_Ev_step dcL_1032 rfl rfl
theorem eL_1033 {M : en_L} : en_Ev (XL L xs) 1033 M st w Q ↔ en_Ev (XL L xs) 1034 M (.int 2 :: st) w Q := en_Ev_step dcL_1033 rfl rfl
theorem eL_1034 {x y : Int32} {M : en_L} : en_Ev (XL L xs) 1034 M (.int y :: .int x :: st) w Q ↔ en_Ev (XL L xs) 1035 M (.int (x + y) :: st) w Q := en_Ev_step dcL_1034 rfl rfl
theorem eL_1035 {j : Int32} {M : en_L} : en_Ev (XL L xs) 1035 M (.int j :: .ref 62 :: st) w Q ↔ sc_ok L j ∧ en_Ev (XL L xs) 1036 M (.int (sc_at xs j) :: st) w Q := en_Ev_scr dcL_1035 rfl
theorem eL_1036 {a : Nat} {l1 l2 l3 : Option Value} : en_Ev (XL L xs) 1036 [some (.ref a), l1, l2, l3] st w Q ↔ en_Ev (XL L xs) 1037 [some (.ref a), l1, l2, l3] (.ref a :: st) w Q := en_Ev_step dcL_1036 rfl rfl
theorem eL_1037 {x : Int32} {l0 l1 l2 : Option Value} : en_Ev (XL L xs) 1037 [l0, l1, l2, some (.int x)] st w Q ↔ en_Ev (XL L xs) 1038 [l0, l1, l2, some (.int x)] (.int x :: st) w Q := en_Ev_step dcL_1037 rfl rfl
theorem eL_1038 {M : en_L} : en_Ev (XL L xs) 1038 M st w Q ↔ en_Ev (XL L xs) 1039 M (.int 3 :: st) w Q := en_Ev_step dcL_1038 rfl rfl
theorem eL_1039 {x y : Int32} {M : en_L} : en_Ev (XL L xs) 1039 M (.int y :: .int x :: st) w Q ↔ en_Ev (XL L xs) 1040 M (.int (x + y) :: st) w Q := en_Ev_step dcL_1039 rfl rfl
theorem eL_1040 {j : Int32} {M : en_L} : en_Ev (XL L xs) 1040 M (.int j :: .ref 62 :: st) w Q ↔ sc_ok L j ∧ en_Ev (XL L xs) 1041 M (.int (sc_at xs j) :: st) w Q := en_Ev_scr dcL_1040 rfl
theorem eL_1041 {a : Nat} {l1 l2 l3 : Option Value} : en_Ev (XL L xs) 1041 [some (.ref a), l1, l2, l3] st w Q ↔ en_Ev (XL L xs) 1042 [some (.ref a), l1, l2, l3] (.ref a :: st) w Q := en_Ev_step dcL_1041 rfl rfl
theorem eL_1042 {x : Int32} {l0 l1 l2 : Option Value} : en_Ev (XL L xs) 1042 [l0, l1, l2, some (.int x)] st w Q ↔ en_Ev (XL L xs) 1043 [l0, l1, l2, some (.int x)] (.int x :: st) w Q := en_Ev_step dcL_1042 rfl rfl
theorem eL_1043 {M : en_L} : en_Ev (XL L xs) 1043 M st w Q ↔ en_Ev (XL L xs) 1044 M (.int 4 :: st) w Q := en_Ev_step dcL_1043 rfl rfl
theorem eL_1044 {x y : Int32} {M : en_L} : en_Ev (XL L xs) 1044 M (.int y :: .int x :: st) w Q ↔ en_Ev (XL L xs) 1045 M (.int (x + y) :: st) w Q := en_Ev_step dcL_1044 rfl rfl
theorem eL_1045 {j : Int32} {M : en_L} : en_Ev (XL L xs) 1045 M (.int j :: .ref 62 :: st) w Q ↔ sc_ok L j ∧ en_Ev (XL L xs) 1046 M (.int (sc_at xs j) :: st) w Q := en_Ev_scr dcL_1045 rfl
theorem eL_1046 {a : Nat} {l1 l2 l3 : Option Value} : en_Ev (XL L xs) 1046 [some (.ref a), l1, l2, l3] st w Q ↔ en_Ev (XL L xs) 1047 [some (.ref a), l1, l2, l3] (.ref a :: st) w Q := en_Ev_step dcL_1046 rfl rfl
theorem eL_1047 {x : Int32} {l0 l1 l2 : Option Value} : en_Ev (XL L xs) 1047 [l0, l1, l2, some (.int x)] st w Q ↔ en_Ev (XL L xs) 1048 [l0, l1, l2, some (.int x)] (.int x :: st) w Q := en_Ev_step dcL_1047 rfl rfl
theorem eL_1048 {M : en_L} : en_Ev (XL L xs) 1048 M st w Q ↔ en_Ev (XL L xs) 1049 M (.int 5 :: st) w Q := en_Ev_step dcL_1048 rfl rfl
theorem eL_1049 {x y : Int32} {M : en_L} : en_Ev (XL L xs) 1049 M (.int y :: .int x :: st) w Q ↔ en_Ev (XL L xs) 1050 M (.int (x + y) :: st) w Q := en_Ev_step dcL_1049 rfl rfl
theorem eL_1050 {j : Int32} {M : en_L} : en_Ev (XL L xs) 1050 M (.int j :: .ref 62 :: st) w Q ↔ sc_ok L j ∧ en_Ev (XL L xs) 1051 M (.int (sc_at xs j) :: st) w Q := en_Ev_scr dcL_1050 rfl
theorem eL_1051 {v0 v1 v2 v3 v4 v5 : Value} {M : en_L} : en_Ev (XL L xs) 1051 M (v5 :: v4 :: v3 :: v2 :: v1 :: v0 :: st) w Q ↔ en_rcv (some 5) [v0, v1, v2, v3, v4, v5] = true ∧ en_stk st = true ∧ en_Ec (XL L xs) 1054 M st (SX5_copy [v0, v1, v2, v3, v4, v5] w) Q := en_Ev_inv (i := .invokevirtual 139) (v := true) (idx := 139) (ci := some 5) (k := 6) rfl dcL_1051 rfl ccL_139 rfl (by simp)
theorem eL_1054 {a : Nat} {l0 l1 l3 : Option Value} : en_Ev (XL L xs) 1054 [l0, l1, some (.ref a), l3] st w Q ↔ en_Ev (XL L xs) 1055 [l0, l1, some (.ref a), l3] (.ref a :: st) w Q := en_Ev_step dcL_1054 rfl rfl
theorem eL_1055 {a : Nat} {l1 l2 l3 : Option Value} : en_Ev (XL L xs) 1055 [some (.ref a), l1, l2, l3] st w Q ↔ en_Ev (XL L xs) 1056 [some (.ref a), l1, l2, l3] (.ref a :: st) w Q := en_Ev_step dcL_1055 rfl rfl
theorem eL_1056 {x : Int32} {l0 l1 l2 : Option Value} : en_Ev (XL L xs) 1056 [l0, l1, l2, some (.int x)] st w Q ↔ en_Ev (XL L xs) 1057 [l0, l1, l2, some (.int x)] (.int x :: st) w Q := en_Ev_step dcL_1056 rfl rfl
theorem eL_1057 {M : en_L} : en_Ev (XL L xs) 1057 M st w Q ↔ en_Ev (XL L xs) 1058 M (.int 1 :: st) w Q := en_Ev_step dcL_1057 rfl rfl
theorem eL_1058 {x y : Int32} {M : en_L} : en_Ev (XL L xs) 1058 M (.int y :: .int x :: st) w Q ↔ en_Ev (XL L xs) 1059 M (.int (x + y) :: st) w Q := en_Ev_step dcL_1058 rfl rfl
theorem eL_1059 {j : Int32} {M : en_L} : en_Ev (XL L xs) 1059 M (.int j :: .ref 62 :: st) w Q ↔ sc_ok L j ∧ en_Ev (XL L xs) 1060 M (.int (sc_at xs j) :: st) w Q := en_Ev_scr dcL_1059 rfl
theorem eL_1060 {a : Nat} {l1 l2 l3 : Option Value} : en_Ev (XL L xs) 1060 [some (.ref a), l1, l2, l3] st w Q ↔ en_Ev (XL L xs) 1061 [some (.ref a), l1, l2, l3] (.ref a :: st) w Q := en_Ev_step dcL_1060 rfl rfl
theorem eL_1061 {x : Int32} {l0 l1 l2 : Option Value} : en_Ev (XL L xs) 1061 [l0, l1, l2, some (.int x)] st w Q ↔ en_Ev (XL L xs) 1062 [l0, l1, l2, some (.int x)] (.int x :: st) w Q := en_Ev_step dcL_1061 rfl rfl
theorem eL_1062 {M : en_L} : en_Ev (XL L xs) 1062 M st w Q ↔ en_Ev (XL L xs) 1063 M (.int 2 :: st) w Q := en_Ev_step dcL_1062 rfl rfl
theorem eL_1063 {x y : Int32} {M : en_L} : en_Ev (XL L xs) 1063 M (.int y :: .int x :: st) w Q ↔ en_Ev (XL L xs) 1064 M (.int (x + y) :: st) w Q := en_Ev_step dcL_1063 rfl rfl
theorem eL_1064 {j : Int32} {M : en_L} : en_Ev (XL L xs) 1064 M (.int j :: .ref 62 :: st) w Q ↔ sc_ok L j ∧ en_Ev (XL L xs) 1065 M (.int (sc_at xs j) :: st) w Q := en_Ev_scr dcL_1064 rfl
theorem eL_1065 {a : Nat} {l1 l2 l3 : Option Value} : en_Ev (XL L xs) 1065 [some (.ref a), l1, l2, l3] st w Q ↔ en_Ev (XL L xs) 1066 [some (.ref a), l1, l2, l3] (.ref a :: st) w Q := en_Ev_step dcL_1065 rfl rfl
theorem eL_1066 {x : Int32} {l0 l1 l2 : Option Value} : en_Ev (XL L xs) 1066 [l0, l1, l2, some (.int x)] st w Q ↔ en_Ev (XL L xs) 1067 [l0, l1, l2, some (.int x)] (.int x :: st) w Q := en_Ev_step dcL_1066 rfl rfl
theorem eL_1067 {M : en_L} : en_Ev (XL L xs) 1067 M st w Q ↔ en_Ev (XL L xs) 1068 M (.int 3 :: st) w Q := en_Ev_step dcL_1067 rfl rfl
theorem eL_1068 {x y : Int32} {M : en_L} : en_Ev (XL L xs) 1068 M (.int y :: .int x :: st) w Q ↔ en_Ev (XL L xs) 1069 M (.int (x + y) :: st) w Q := en_Ev_step dcL_1068 rfl rfl
theorem eL_1069 {j : Int32} {M : en_L} : en_Ev (XL L xs) 1069 M (.int j :: .ref 62 :: st) w Q ↔ sc_ok L j ∧ en_Ev (XL L xs) 1070 M (.int (sc_at xs j) :: st) w Q := en_Ev_scr dcL_1069 rfl
theorem eL_1070 {a : Nat} {l1 l2 l3 : Option Value} : en_Ev (XL L xs) 1070 [some (.ref a), l1, l2, l3] st w Q ↔ en_Ev (XL L xs) 1071 [some (.ref a), l1, l2, l3] (.ref a :: st) w Q := en_Ev_step dcL_1070 rfl rfl
theorem eL_1071 {x : Int32} {l0 l1 l2 : Option Value} : en_Ev (XL L xs) 1071 [l0, l1, l2, some (.int x)] st w Q ↔ en_Ev (XL L xs) 1072 [l0, l1, l2, some (.int x)] (.int x :: st) w Q := en_Ev_step dcL_1071 rfl rfl
theorem eL_1072 {M : en_L} : en_Ev (XL L xs) 1072 M st w Q ↔ en_Ev (XL L xs) 1073 M (.int 4 :: st) w Q := en_Ev_step dcL_1072 rfl rfl
theorem eL_1073 {x y : Int32} {M : en_L} : en_Ev (XL L xs) 1073 M (.int y :: .int x :: st) w Q ↔ en_Ev (XL L xs) 1074 M (.int (x + y) :: st) w Q := en_Ev_step dcL_1073 rfl rfl
theorem eL_1074 {j : Int32} {M : en_L} : en_Ev (XL L xs) 1074 M (.int j :: .ref 62 :: st) w Q ↔ sc_ok L j ∧ en_Ev (XL L xs) 1075 M (.int (sc_at xs j) :: st) w Q := en_Ev_scr dcL_1074 rfl
theorem eL_1075 {a : Nat} {l1 l2 l3 : Option Value} : en_Ev (XL L xs) 1075 [some (.ref a), l1, l2, l3] st w Q ↔ en_Ev (XL L xs) 1076 [some (.ref a), l1, l2, l3] (.ref a :: st) w Q := en_Ev_step dcL_1075 rfl rfl
theorem eL_1076 {x : Int32} {l0 l1 l2 : Option Value} : en_Ev (XL L xs) 1076 [l0, l1, l2, some (.int x)] st w Q ↔ en_Ev (XL L xs) 1077 [l0, l1, l2, some (.int x)] (.int x :: st) w Q := en_Ev_step dcL_1076 rfl rfl
theorem eL_1077 {M : en_L} : en_Ev (XL L xs) 1077 M st w Q ↔ en_Ev (XL L xs) 1078 M (.int 5 :: st) w Q := en_Ev_step dcL_1077 rfl rfl
theorem eL_1078 {x y : Int32} {M : en_L} : en_Ev (XL L xs) 1078 M (.int y :: .int x :: st) w Q ↔ en_Ev (XL L xs) 1079 M (.int (x + y) :: st) w Q := en_Ev_step dcL_1078 rfl rfl
theorem eL_1079 {j : Int32} {M : en_L} : en_Ev (XL L xs) 1079 M (.int j :: .ref 62 :: st) w Q ↔ sc_ok L j ∧ en_Ev (XL L xs) 1080 M (.int (sc_at xs j) :: st) w Q := en_Ev_scr dcL_1079 rfl
theorem eL_1080 {v0 v1 v2 v3 v4 v5 : Value} {M : en_L} : en_Ev (XL L xs) 1080 M (v5 :: v4 :: v3 :: v2 :: v1 :: v0 :: st) w Q ↔ en_rcv (some 6) [v0, v1, v2, v3, v4, v5] = true ∧ en_stk st = true ∧ en_Ec (XL L xs) 1083 M st (SX6_copy [v0, v1, v2, v3, v4, v5] w) Q := en_Ev_inv (i := .invokevirtual 143) (v := true) (idx := 143) (ci := some 6) (k := 6) rfl dcL_1080 rfl ccL_143 rfl (by simp)
theorem eL_1083 {x y : Int32} {M : en_L} : en_Ev (XL L xs) 1083 M (.int y :: .int x :: st) w Q ↔ if x = y then en_Ev (XL L xs) 1148 M st w Q else en_Ev (XL L xs) 1086 M st w Q := (en_Ev_cmp (X := XL L xs) (pc := 1083) (tgt := 1148) dcL_1083 rfl).trans (Iff.of_eq en_cmp_eq)
theorem eL_1086 {M : en_L} : en_Ev (XL L xs) 1086 M st w Q ↔ en_Ev (XL L xs) 1087 M (.int 0 :: st) w Q := en_Ev_step dcL_1086 rfl rfl
theorem eL_1087 {v : Int32} {M : en_L} : en_Ev (XL L xs) 1087 M [.int v] w Q ↔ en_01 v ∧ Q (some (.int v)) w := en_Ev_bool dcL_1087 rfl
theorem eL_1088 {a : Nat} {l0 l2 l3 : Option Value} : en_Ev (XL L xs) 1088 [l0, some (.ref a), l2, l3] st w Q ↔ en_Ev (XL L xs) 1089 [l0, some (.ref a), l2, l3] (.ref a :: st) w Q := en_Ev_step dcL_1088 rfl rfl
theorem eL_1089 {a : Nat} {l1 l2 l3 : Option Value} : en_Ev (XL L xs) 1089 [some (.ref a), l1, l2, l3] st w Q ↔ en_Ev (XL L xs) 1090 [some (.ref a), l1, l2, l3] (.ref a :: st) w Q := en_Ev_step dcL_1089 rfl rfl
theorem eL_1090 {x : Int32} {l0 l1 l2 : Option Value} : en_Ev (XL L xs) 1090 [l0, l1, l2, some (.int x)] st w Q ↔ en_Ev (XL L xs) 1091 [l0, l1, l2, some (.int x)] (.int x :: st) w Q := en_Ev_step dcL_1090 rfl rfl
theorem eL_1091 {M : en_L} : en_Ev (XL L xs) 1091 M st w Q ↔ en_Ev (XL L xs) 1092 M (.int 1 :: st) w Q := en_Ev_step dcL_1091 rfl rfl
theorem eL_1092 {x y : Int32} {M : en_L} : en_Ev (XL L xs) 1092 M (.int y :: .int x :: st) w Q ↔ en_Ev (XL L xs) 1093 M (.int (x + y) :: st) w Q := en_Ev_step dcL_1092 rfl rfl
theorem eL_1093 {j : Int32} {M : en_L} : en_Ev (XL L xs) 1093 M (.int j :: .ref 62 :: st) w Q ↔ sc_ok L j ∧ en_Ev (XL L xs) 1094 M (.int (sc_at xs j) :: st) w Q := en_Ev_scr dcL_1093 rfl
theorem eL_1094 {v0 v1 : Value} {M : en_L} : en_Ev (XL L xs) 1094 M (v1 :: v0 :: st) w Q ↔ en_rcv (some 5) [v0, v1] = true ∧ en_stk st = true ∧ en_Ec (XL L xs) 1097 M st (SX5_write [v0, v1] w) Q := en_Ev_inv (i := .invokevirtual 144) (v := true) (idx := 144) (ci := some 5) (k := 2) rfl dcL_1094 rfl ccL_144 rfl (by simp)
theorem eL_1097 {a : Nat} {l0 l1 l3 : Option Value} : en_Ev (XL L xs) 1097 [l0, l1, some (.ref a), l3] st w Q ↔ en_Ev (XL L xs) 1098 [l0, l1, some (.ref a), l3] (.ref a :: st) w Q := en_Ev_step dcL_1097 rfl rfl
theorem eL_1098 {a : Nat} {l1 l2 l3 : Option Value} : en_Ev (XL L xs) 1098 [some (.ref a), l1, l2, l3] st w Q ↔ en_Ev (XL L xs) 1099 [some (.ref a), l1, l2, l3] (.ref a :: st) w Q := en_Ev_step dcL_1098 rfl rfl
theorem eL_1099 {x : Int32} {l0 l1 l2 : Option Value} : en_Ev (XL L xs) 1099 [l0, l1, l2, some (.int x)] st w Q ↔ en_Ev (XL L xs) 1100 [l0, l1, l2, some (.int x)] (.int x :: st) w Q := en_Ev_step dcL_1099 rfl rfl
theorem eL_1100 {M : en_L} : en_Ev (XL L xs) 1100 M st w Q ↔ en_Ev (XL L xs) 1101 M (.int 1 :: st) w Q := en_Ev_step dcL_1100 rfl rfl
theorem eL_1101 {x y : Int32} {M : en_L} : en_Ev (XL L xs) 1101 M (.int y :: .int x :: st) w Q ↔ en_Ev (XL L xs) 1102 M (.int (x + y) :: st) w Q := en_Ev_step dcL_1101 rfl rfl
theorem eL_1102 {j : Int32} {M : en_L} : en_Ev (XL L xs) 1102 M (.int j :: .ref 62 :: st) w Q ↔ sc_ok L j ∧ en_Ev (XL L xs) 1103 M (.int (sc_at xs j) :: st) w Q := en_Ev_scr dcL_1102 rfl
theorem eL_1103 {v0 v1 : Value} {M : en_L} : en_Ev (XL L xs) 1103 M (v1 :: v0 :: st) w Q ↔ en_rcv (some 6) [v0, v1] = true ∧ en_stk st = true ∧ en_Ec (XL L xs) 1106 M st (SX6_write [v0, v1] w) Q := en_Ev_inv (i := .invokevirtual 147) (v := true) (idx := 147) (ci := some 6) (k := 2) rfl dcL_1103 rfl ccL_147 rfl (by simp)
theorem eL_1106 {x y : Int32} {M : en_L} : en_Ev (XL L xs) 1106 M (.int y :: .int x :: st) w Q ↔ if x = y then en_Ev (XL L xs) 1148 M st w Q else en_Ev (XL L xs) 1109 M st w Q := (en_Ev_cmp (X := XL L xs) (pc := 1106) (tgt := 1148) dcL_1106 rfl).trans (Iff.of_eq en_cmp_eq)
theorem eL_1109 {M : en_L} : en_Ev (XL L xs) 1109 M st w Q ↔ en_Ev (XL L xs) 1110 M (.int 0 :: st) w Q := en_Ev_step dcL_1109 rfl rfl
theorem eL_1110 {v : Int32} {M : en_L} : en_Ev (XL L xs) 1110 M [.int v] w Q ↔ en_01 v ∧ Q (some (.int v)) w := en_Ev_bool dcL_1110 rfl
theorem eL_1111 {a : Nat} {l0 l2 l3 : Option Value} : en_Ev (XL L xs) 1111 [l0, some (.ref a), l2, l3] st w Q ↔ en_Ev (XL L xs) 1112 [l0, some (.ref a), l2, l3] (.ref a :: st) w Q := en_Ev_step dcL_1111 rfl rfl
theorem eL_1112 {a : Nat} {l1 l2 l3 : Option Value} : en_Ev (XL L xs) 1112 [some (.ref a), l1, l2, l3] st w Q ↔ en_Ev (XL L xs) 1113 [some (.ref a), l1, l2, l3] (.ref a :: st) w Q := en_Ev_step dcL_1112 rfl rfl
theorem eL_1113 {x : Int32} {l0 l1 l2 : Option Value} : en_Ev (XL L xs) 1113 [l0, l1, l2, some (.int x)] st w Q ↔ en_Ev (XL L xs) 1114 [l0, l1, l2, some (.int x)] (.int x :: st) w Q := en_Ev_step dcL_1113 rfl rfl
theorem eL_1114 {M : en_L} : en_Ev (XL L xs) 1114 M st w Q ↔ en_Ev (XL L xs) 1115 M (.int 1 :: st) w Q := en_Ev_step dcL_1114 rfl rfl
theorem eL_1115 {x y : Int32} {M : en_L} : en_Ev (XL L xs) 1115 M (.int y :: .int x :: st) w Q ↔ en_Ev (XL L xs) 1116 M (.int (x + y) :: st) w Q := en_Ev_step dcL_1115 rfl rfl
theorem eL_1116 {j : Int32} {M : en_L} : en_Ev (XL L xs) 1116 M (.int j :: .ref 62 :: st) w Q ↔ sc_ok L j ∧ en_Ev (XL L xs) 1117 M (.int (sc_at xs j) :: st) w Q := en_Ev_scr dcL_1116 rfl
theorem eL_1117 {v0 v1 : Value} {M : en_L} : en_Ev (XL L xs) 1117 M (v1 :: v0 :: st) w Q ↔ en_rcv (some 5) [v0, v1] = true ∧ en_stk st = true ∧ en_Ec (XL L xs) 1120 M st (SX5_count [v0, v1] w) Q := en_Ev_inv (i := .invokevirtual 148) (v := true) (idx := 148) (ci := some 5) (k := 2) rfl dcL_1117 rfl ccL_148 rfl (by simp)
theorem eL_1120 {a : Nat} {l0 l1 l3 : Option Value} : en_Ev (XL L xs) 1120 [l0, l1, some (.ref a), l3] st w Q ↔ en_Ev (XL L xs) 1121 [l0, l1, some (.ref a), l3] (.ref a :: st) w Q := en_Ev_step dcL_1120 rfl rfl
theorem eL_1121 {a : Nat} {l1 l2 l3 : Option Value} : en_Ev (XL L xs) 1121 [some (.ref a), l1, l2, l3] st w Q ↔ en_Ev (XL L xs) 1122 [some (.ref a), l1, l2, l3] (.ref a :: st) w Q := en_Ev_step dcL_1121 rfl rfl
theorem eL_1122 {x : Int32} {l0 l1 l2 : Option Value} : en_Ev (XL L xs) 1122 [l0, l1, l2, some (.int x)] st w Q ↔ en_Ev (XL L xs) 1123 [l0, l1, l2, some (.int x)] (.int x :: st) w Q := en_Ev_step dcL_1122 rfl rfl
theorem eL_1123 {M : en_L} : en_Ev (XL L xs) 1123 M st w Q ↔ en_Ev (XL L xs) 1124 M (.int 1 :: st) w Q := en_Ev_step dcL_1123 rfl rfl
theorem eL_1124 {x y : Int32} {M : en_L} : en_Ev (XL L xs) 1124 M (.int y :: .int x :: st) w Q ↔ en_Ev (XL L xs) 1125 M (.int (x + y) :: st) w Q := en_Ev_step dcL_1124 rfl rfl
theorem eL_1125 {j : Int32} {M : en_L} : en_Ev (XL L xs) 1125 M (.int j :: .ref 62 :: st) w Q ↔ sc_ok L j ∧ en_Ev (XL L xs) 1126 M (.int (sc_at xs j) :: st) w Q := en_Ev_scr dcL_1125 rfl
theorem eL_1126 {v0 v1 : Value} {M : en_L} : en_Ev (XL L xs) 1126 M (v1 :: v0 :: st) w Q ↔ en_rcv (some 6) [v0, v1] = true ∧ en_stk st = true ∧ en_Ec (XL L xs) 1129 M st (SX6_count [v0, v1] w) Q := en_Ev_inv (i := .invokevirtual 151) (v := true) (idx := 151) (ci := some 6) (k := 2) rfl dcL_1126 rfl ccL_151 rfl (by simp)
theorem eL_1129 {x y : Int32} {M : en_L} : en_Ev (XL L xs) 1129 M (.int y :: .int x :: st) w Q ↔ if x = y then en_Ev (XL L xs) 1148 M st w Q else en_Ev (XL L xs) 1132 M st w Q := (en_Ev_cmp (X := XL L xs) (pc := 1129) (tgt := 1148) dcL_1129 rfl).trans (Iff.of_eq en_cmp_eq)
theorem eL_1132 {M : en_L} : en_Ev (XL L xs) 1132 M st w Q ↔ en_Ev (XL L xs) 1133 M (.int 0 :: st) w Q := en_Ev_step dcL_1132 rfl rfl
theorem eL_1133 {v : Int32} {M : en_L} : en_Ev (XL L xs) 1133 M [.int v] w Q ↔ en_01 v ∧ Q (some (.int v)) w := en_Ev_bool dcL_1133 rfl
theorem eL_1134 {a : Nat} {l0 l2 l3 : Option Value} : en_Ev (XL L xs) 1134 [l0, some (.ref a), l2, l3] st w Q ↔ en_Ev (XL L xs) 1135 [l0, some (.ref a), l2, l3] (.ref a :: st) w Q := en_Ev_step dcL_1134 rfl rfl
theorem eL_1135 {v0 : Value} {M : en_L} : en_Ev (XL L xs) 1135 M (v0 :: st) w Q ↔ en_rcv (some 5) [v0] = true ∧ en_stk st = true ∧ en_Ec (XL L xs) 1138 M st (SX5_digest [v0] w) Q := en_Ev_inv (i := .invokevirtual 152) (v := true) (idx := 152) (ci := some 5) (k := 1) rfl dcL_1135 rfl ccL_152 rfl (by simp)
theorem eL_1138 {a : Nat} {l0 l1 l3 : Option Value} : en_Ev (XL L xs) 1138 [l0, l1, some (.ref a), l3] st w Q ↔ en_Ev (XL L xs) 1139 [l0, l1, some (.ref a), l3] (.ref a :: st) w Q := en_Ev_step dcL_1138 rfl rfl
theorem eL_1139 {v0 : Value} {M : en_L} : en_Ev (XL L xs) 1139 M (v0 :: st) w Q ↔ en_rcv (some 6) [v0] = true ∧ en_stk st = true ∧ en_Ec (XL L xs) 1142 M st (SX6_digest [v0] w) Q := en_Ev_inv (i := .invokevirtual 156) (v := true) (idx := 156) (ci := some 6) (k := 1) rfl dcL_1139 rfl ccL_156 rfl (by simp)
theorem eL_1142 {x y : Int64} {M : en_L} : en_Ev (XL L xs) 1142 M (.long y :: .long x :: st) w Q ↔ en_Ev (XL L xs) 1143 M (.int (lg_cmp x y) :: st) w Q := en_Ev_step dcL_1142 rfl rfl
theorem eL_1143 {x : Int32} {M : en_L} : en_Ev (XL L xs) 1143 M (.int x :: st) w Q ↔ if x = 0 then en_Ev (XL L xs) 1148 M st w Q else en_Ev (XL L xs) 1146 M st w Q := (en_Ev_cmp0 (X := XL L xs) (pc := 1143) (tgt := 1148) dcL_1143 rfl).trans (Iff.of_eq en_cmp_eq)
theorem eL_1146 {M : en_L} : en_Ev (XL L xs) 1146 M st w Q ↔ en_Ev (XL L xs) 1147 M (.int 0 :: st) w Q := en_Ev_step dcL_1146 rfl rfl
theorem eL_1147 {v : Int32} {M : en_L} : en_Ev (XL L xs) 1147 M [.int v] w Q ↔ en_01 v ∧ Q (some (.int v)) w := en_Ev_bool dcL_1147 rfl
theorem eL_1148 {x : Int32} {l0 l1 l2 : Option Value} : en_Ev (XL L xs) 1148 [l0, l1, l2, some (.int x)] st w Q ↔ en_Ev (XL L xs) 1151 [l0, l1, en_kl l2, some (.int (x + 6))] st w Q := en_Ev_step dcL_1148 rfl rfl
theorem eL_1151 {M : en_L} : en_Ev (XL L xs) 1151 M st w Q ↔ en_Ev (XL L xs) 18 M st w Q := en_Ev_step dcL_1151 rfl rfl
theorem eL_1154 {M : en_L} : en_Ev (XL L xs) 1154 M st w Q ↔ en_Ev (XL L xs) 1155 M (.int 1 :: st) w Q := en_Ev_step dcL_1154 rfl rfl
theorem eL_1155 {v : Int32} {M : en_L} : en_Ev (XL L xs) 1155 M [.int v] w Q ↔ en_01 v ∧ Q (some (.int v)) w := en_Ev_bool dcL_1155 rfl
end
