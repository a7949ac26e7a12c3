/-! ===== walking the engine by rows: en_Ev: from here it comes to an answer with Q ===== -/
def en_Ev (X : en_X) (pc : Nat) (L : en_L) (st : List Value) (w : en_W) (Q : Option Value → en_W → Prop) : Prop := ∃ (n : Nat) (r : Option Value) (w' : en_W), en_run X n pc L st w = some (r, w') ∧ Q r w'
/-- an answer of a boolean method -/
def en_01 (v : Int32) : Prop := v &&& 1 = v
def en_Ec (X : en_X) (pc : Nat) (L : en_L) (st : List Value) (o : Option (Option Value × en_W)) (Q : Option Value → en_W → Prop) : Prop := ∃ (r : Option Value) (w' : en_W), o = some (r, w') ∧ en_Ev X pc L (r.toList ++ st) w' Q
section EnEv
variable {X : en_X} {pc : Nat} {L : en_L} {st : List Value} {w : en_W} {Q : Option Value → en_W → Prop} {i : Instr} {n : Nat}
theorem en_Ev_step {pc' : Nat} {L' : en_L} {st' : List Value} {w' : en_W} (hd : en_dec X pc = some (i, n)) (hr : en_ret X i st = none) (hx : en_x X i pc L st w = some (pc', L', st', w')) : en_Ev X pc L st w Q ↔ en_Ev X pc' L' st' w' Q := by
  have hs : ∀ k, en_run X (k + 1) pc L st w = en_run X k pc' L' st' w' := fun k => by
    rw [en_run, hd]
    dsimp only
    rw [hr]
    dsimp only
    rw [hx]
  constructor
  · rintro ⟨k, r, w1, h, hq⟩
    cases k with
    | zero => cases h
    | succ k =>
      rw [hs k] at h
      exact ⟨k, r, w1, h, hq⟩
  · rintro ⟨k, r, w1, h, hq⟩
    refine ⟨k + 1, r, w1, ?_, hq⟩
    rw [hs k]
    exact h
theorem en_Ev_none (hd : en_dec X pc = some (i, n)) (hr : en_ret X i st = none) (hx : en_x X i pc L st w = none) : ¬ en_Ev X pc L st w Q := by
  rintro ⟨k, r, w1, h, hq⟩
  cases k with
  | zero => cases h
  | succ k =>
    rw [en_run, hd] at h
    dsimp only at h
    rw [hr] at h
    dsimp only at h
    rw [hx] at h
    cases h
theorem en_Ev_ret {r : Option Value} (hd : en_dec X pc = some (i, n)) (hr : en_ret X i st = some r) : en_Ev X pc L st w Q ↔ Q r w := by
  have hs : ∀ k, en_run X (k + 1) pc L st w = some (r, w) := fun k => by
    rw [en_run, hd]
    dsimp only
    rw [hr]
  constructor
  · rintro ⟨k, r1, w1, h, hq⟩
    cases k with
    | zero => cases h
    | succ k =>
      rw [hs k] at h
      cases h
      exact hq
  · intro hq
    exact ⟨1, r, w, hs 0, hq⟩
theorem en_Ev_opt {α : Type} {c : Option α} {g : α → Nat × en_L × List Value × en_W} (hd : en_dec X pc = some (i, n)) (hr : en_ret X i st = none) (hx : en_x X i pc L st w = c.map g) : en_Ev X pc L st w Q ↔ ∃ v, c = some v ∧ en_Ev X (g v).1 (g v).2.1 (g v).2.2.1 (g v).2.2.2 Q := by
  cases hc : c with
  | none =>
    rw [hc] at hx
    exact ⟨fun h => absurd h (en_Ev_none hd hr hx), fun ⟨v, h, _⟩ => by cases h⟩
  | some v =>
    rw [hc] at hx
    have := en_Ev_step (Q := Q) hd hr (show en_x X i pc L st w = some ((g v).1, (g v).2.1, (g v).2.2.1, (g v).2.2.2) from hx)
    rw [this]
    exact ⟨fun h => ⟨v, rfl, h⟩, fun ⟨v', h, h2⟩ => by cases h; exact h2⟩
theorem en_Ev_if {c : Prop} [Decidable c] {p1 p2 : Nat} {L1 L2 : en_L} {s1 s2 : List Value} {w1 w2 : en_W} (hd : en_dec X pc = some (i, n)) (hr : en_ret X i st = none) (hx : en_x X i pc L st w = if c then some (p1, L1, s1, w1) else some (p2, L2, s2, w2)) : en_Ev X pc L st w Q ↔ if c then en_Ev X p1 L1 s1 w1 Q else en_Ev X p2 L2 s2 w2 Q := by
  by_cases hc : c
  · rw [if_pos hc] at hx ⊢
    exact en_Ev_step hd hr hx
  · rw [if_neg hc] at hx ⊢
    exact en_Ev_step hd hr hx
theorem en_if_not {c : Prop} [Decidable c] {α : Type} {a b : α} : (if (!decide c) = true then a else b) = if c then b else a := by
  by_cases hc : c <;> simp [hc]
theorem en_if_dec {c : Prop} [Decidable c] {α : Type} {a b : α} : (if decide c = true then a else b) = if c then a else b := by
  by_cases hc : c <;> simp [hc]
/-- a branch on two ints -/
theorem en_Ev_cmp {co : Jvm.ClassFile.Cond} {o : Int} {x y : Int32} {tgt : Nat} (hd : en_dec X pc = some (.if_icmp co o, 3)) (ht : en_to pc o L st w = some (tgt, L, st, w)) : en_Ev X pc L (.int y :: .int x :: st) w Q ↔ if en_c1 co x y = true then en_Ev X tgt L st w Q else en_Ev X (pc + 3) L st w Q :=
  en_Ev_if hd rfl (by
    show (if en_c1 co x y = true then en_to pc o L st w else _) = _
    rw [ht])
theorem en_Ev_cmp0 {co : Jvm.ClassFile.Cond} {o : Int} {x : Int32} {tgt : Nat} (hd : en_dec X pc = some (.ifCond co o, 3)) (ht : en_to pc o L st w = some (tgt, L, st, w)) : en_Ev X pc L (.int x :: st) w Q ↔ if en_c1 co x 0 = true then en_Ev X tgt L st w Q else en_Ev X (pc + 3) L st w Q :=
  en_Ev_if hd rfl (by
    show (if en_c1 co x 0 = true then en_to pc o L st w else _) = _
    rw [ht])
theorem en_cmp_eq {x y : Int32} {A B : Prop} : (if en_c1 .eq x y = true then A else B) = if x = y then A else B := en_if_dec
theorem en_cmp_ne {x y : Int32} {A B : Prop} : (if en_c1 .ne x y = true then A else B) = if x = y then B else A := en_if_not
theorem en_cmp_lt {x y : Int32} {A B : Prop} : (if en_c1 .lt x y = true then A else B) = if x < y then A else B := en_if_dec
theorem en_cmp_ge {x y : Int32} {A B : Prop} : (if en_c1 .ge x y = true then A else B) = if y ≤ x then A else B := en_if_dec
theorem en_cmp_gt {x y : Int32} {A B : Prop} : (if en_c1 .gt x y = true then A else B) = if y < x then A else B := en_if_dec
theorem en_cmp_le {x y : Int32} {A B : Prop} : (if en_c1 .le x y = true then A else B) = if x ≤ y then A else B := en_if_dec
/-- the target of a reference field -/
def en_tg (k j : Nat) : Nat := match en_kd k with
  | .inl (_, sl) => ((sl[j]?).getD none).getD 0
  | _ => 0
/-- slot j of class ci is an int (none), or a reference: for all its objects -/
def en_slot (ci j : Nat) (isInt : Bool) : Bool := (List.range 62).all fun k => match en_kd k with
  | .inl (c, sl) => !(c == ci) || (match sl[j]? with
    | some none => isInt
    | some (some _) => !isInt
    | none => false)
  | _ => true
theorem en_slot_at {ci j k : Nat} {b : Bool} (h : en_slot ci j b = true) (hk : en_is k ci = true) : ∃ sl, k < 62 ∧ en_kd k = .inl (ci, sl) ∧ (if b = true then sl[j]? = some none else sl[j]? = some (some (en_tg k j))) := by
  unfold en_is at hk
  rw [Bool.and_eq_true, decide_eq_true_eq, beq_iff_eq] at hk
  obtain ⟨h1, h2⟩ := hk
  unfold en_slot at h
  rw [List.all_eq_true] at h
  have h3 := h k (List.mem_range.mpr h1)
  unfold en_cls at h2
  split at h2
  next c sl hkd =>
    cases h2
    rw [hkd] at h3
    refine ⟨sl, h1, hkd, ?_⟩
    simp only [beq_self_eq_true, Bool.not_true, Bool.false_or] at h3
    unfold en_tg
    rw [hkd]
    dsimp only
    split at h3
    next hs => subst h3; rw [if_pos rfl]; exact hs
    next r hs =>
      have hb : b = false := by simpa using h3
      subst hb
      rw [if_neg (by decide), hs]
      rfl
    next => cases h3
  next => cases h2
theorem en_getf_some {w : en_W} {k ci j : Nat} {v : Value} (h : en_getf w k ci j = some v) : en_is k ci = true := by
  unfold en_getf at h
  split at h
  next h1 =>
    split at h
    next c sl hkd =>
      split at h
      next hc => subst hc; simp [en_is, h1, en_cls, hkd]
      next => cases h
    next => cases h
  next => cases h
theorem en_getf_int {ci j k : Nat} {w : en_W} (h : en_slot ci j true = true) (hk : en_is k ci = true) : en_getf w k ci j = some (.int (w k j)) := by
  obtain ⟨sl, h1, h2, h3⟩ := en_slot_at h hk
  rw [if_pos rfl] at h3
  simp [en_getf, h1, h2, h3]
theorem en_getf_ref {ci j k : Nat} {w : en_W} (h : en_slot ci j false = true) (hk : en_is k ci = true) : en_getf w k ci j = some (.ref (en_tg k j)) := by
  obtain ⟨sl, h1, h2, h3⟩ := en_slot_at h hk
  rw [if_neg (by decide)] at h3
  simp [en_getf, h1, h2, h3]
theorem en_Ev_geti {idx ci j k : Nat} (hd : en_dec X pc = some (.getfield idx, 3)) (hf : en_fl X idx = some (ci, j)) (hs : en_slot ci j true = true) : en_Ev X pc L (.ref k :: st) w Q ↔ en_is k ci = true ∧ en_Ev X (pc + 3) L (.int (w k j) :: st) w Q := by
  have hx : en_x X (.getfield idx) pc L (.ref k :: st) w = (en_getf w k ci j).map fun v => (pc + 3, L, v :: st, w) := by
    show (en_fl X idx).bind _ = _
    rw [hf]
    rfl
  rw [en_Ev_opt hd rfl hx]
  constructor
  · rintro ⟨v, h, h2⟩
    have h3 := en_getf_some h
    rw [en_getf_int hs h3] at h
    cases h
    exact ⟨h3, h2⟩
  · rintro ⟨h, h2⟩
    exact ⟨_, en_getf_int hs h, h2⟩
theorem en_Ev_getr {idx ci j k : Nat} (hd : en_dec X pc = some (.getfield idx, 3)) (hf : en_fl X idx = some (ci, j)) (hs : en_slot ci j false = true) : en_Ev X pc L (.ref k :: st) w Q ↔ en_is k ci = true ∧ en_Ev X (pc + 3) L (.ref (en_tg k j) :: st) w Q := by
  have hx : en_x X (.getfield idx) pc L (.ref k :: st) w = (en_getf w k ci j).map fun v => (pc + 3, L, v :: st, w) := by
    show (en_fl X idx).bind _ = _
    rw [hf]
    rfl
  rw [en_Ev_opt hd rfl hx]
  constructor
  · rintro ⟨v, h, h2⟩
    have h3 := en_getf_some h
    rw [en_getf_ref hs h3] at h
    cases h
    exact ⟨h3, h2⟩
  · rintro ⟨h, h2⟩
    exact ⟨_, en_getf_ref hs h, h2⟩
theorem en_Ev_puti {idx ci j k : Nat} {x : Int32} (hd : en_dec X pc = some (.putfield idx, 3)) (hf : en_fl X idx = some (ci, j)) (hs : en_slot ci j true = true) : en_Ev X pc L (.int x :: .ref k :: st) w Q ↔ en_is k ci = true ∧ en_Ev X (pc + 3) L st (en_up w k j x) Q := by
  have hx : en_x X (.putfield idx) pc L (.int x :: .ref k :: st) w = (en_putf w k ci j x).map fun w' => (pc + 3, L, st, w') := by
    show (en_fl X idx).bind _ = _
    rw [hf]
    rfl
  rw [en_Ev_opt hd rfl hx]
  constructor
  · rintro ⟨v, h, h2⟩
    unfold en_putf at h
    split at h
    next h1 =>
      split at h
      next c sl hkd =>
        split at h
        next hc =>
          cases h
          refine ⟨?_, h2⟩
          rw [← hc.1]
          simp [en_is, h1, en_cls, hkd]
        next => cases h
      next => cases h
    next => cases h
  · rintro ⟨h, h2⟩
    obtain ⟨sl, h1, h4, h3⟩ := en_slot_at hs h
    rw [if_pos rfl] at h3
    exact ⟨_, by simp [en_putf, h1, h4, h3]; rfl, h2⟩
/-- an index within a row of ints -/
def en_ix (k : Nat) (i : Int32) : Prop := k < 62 ∧ ∃ n, en_al k = some n ∧ ¬ (i < 0 ∨ n ≤ i.toNatClampNeg)
theorem en_ix_at {k n : Nat} {i : Int32} (hk : k < 62) (h : en_al k = some n) : en_ix k i ↔ ¬ (i < 0 ∨ n ≤ i.toNatClampNeg) := by
  unfold en_ix
  rw [h]
  exact ⟨fun ⟨_, n', e, h'⟩ => by cases e; exact h', fun h' => ⟨hk, n, rfl, h'⟩⟩
theorem en_Ev_iald {k : Nat} {j : Int32} (hd : en_dec X pc = some (.iaload, 1)) (hk : en_scr X = none) : en_Ev X pc L (.int j :: .ref k :: st) w Q ↔ en_ix k j ∧ en_Ev X (pc + 1) L (.int (w k j.toNatClampNeg) :: st) w Q := by
  have hx : en_x X .iaload pc L (.int j :: .ref k :: st) w = (en_iald X w k j).map fun v => (pc + 1, L, .int v :: st, w) := rfl
  rw [en_Ev_opt hd rfl hx]
  constructor
  · rintro ⟨v, h, h2⟩
    unfold en_iald at h
    split at h
    next hk2 => rw [hk] at h; cases h
    next hk2 =>
      split at h
      next h1 =>
        split at h
        next n hkd =>
          split at h
          next => cases h
          next hin => cases h; exact ⟨⟨h1, n, by simp [en_al, hkd], hin⟩, h2⟩
        next => cases h
      next => cases h
  · rintro ⟨⟨h1, n, h3, h4⟩, h2⟩
    refine ⟨_, ?_, h2⟩
    have h5 : ¬ k = 62 := by omega
    have h6 := en_al_kd h3
    unfold en_iald
    rw [if_neg h5, if_pos h1, h6]
    dsimp only
    rw [if_neg h4]
theorem en_Ev_iast {k : Nat} {j x : Int32} (hd : en_dec X pc = some (.iastore, 1)) : en_Ev X pc L (.int x :: .int j :: .ref k :: st) w Q ↔ en_ix k j ∧ en_Ev X (pc + 1) L st (en_up w k j.toNatClampNeg x) Q := by
  have hx : en_x X .iastore pc L (.int x :: .int j :: .ref k :: st) w = (en_iast w k j x).map fun w' => (pc + 1, L, st, w') := rfl
  rw [en_Ev_opt hd rfl hx]
  constructor
  · rintro ⟨v, h, h2⟩
    unfold en_iast at h
    split at h
    next h1 =>
      split at h
      next n hkd =>
        split at h
        next => cases h
        next hin => cases h; exact ⟨⟨h1, n, by simp [en_al, hkd], hin⟩, h2⟩
      next => cases h
    next => cases h
  · rintro ⟨⟨h1, n, h3, h4⟩, h2⟩
    refine ⟨en_up w k j.toNatClampNeg x, ?_, h2⟩
    have h6 := en_al_kd h3
    unfold en_iast
    rw [if_pos h1, h6]
    dsimp only
    rw [if_neg h4]
theorem en_Ev_aald1 {j : Int32} (hd : en_dec X pc = some (.aaload, 1)) : en_Ev X pc L (.int j :: .ref 1 :: st) w Q ↔ ¬ (j < 0 ∨ 10 ≤ j.toNatClampNeg) ∧ en_Ev X (pc + 1) L (.ref (34 + 2 * j.toNatClampNeg) :: st) w Q := by
  have hx : en_x X .aaload pc L (.int j :: .ref 1 :: st) w = (en_aald 1 j).map fun a => (pc + 1, L, .ref a :: st, w) := rfl
  have ha : en_aald 1 j = if (1 = 1 ∨ 1 = 2) ∧ ¬ (j < 0 ∨ 10 ≤ j.toNatClampNeg) then some (34 + 2 * j.toNatClampNeg) else none := rfl
  rw [en_Ev_opt hd rfl hx, ha]
  by_cases hj : ¬ (j < 0 ∨ 10 ≤ j.toNatClampNeg)
  · rw [if_pos ⟨Or.inl rfl, hj⟩]
    exact ⟨fun ⟨v, e, h⟩ => by cases e; exact ⟨hj, h⟩, fun ⟨_, h⟩ => ⟨_, rfl, h⟩⟩
  · rw [if_neg (fun q => hj q.2)]
    exact ⟨fun ⟨v, e, _⟩ => (by cases e), fun ⟨h, _⟩ => absurd h hj⟩
theorem en_Ev_aald2 {j : Int32} (hd : en_dec X pc = some (.aaload, 1)) : en_Ev X pc L (.int j :: .ref 2 :: st) w Q ↔ ¬ (j < 0 ∨ 4 ≤ j.toNatClampNeg) ∧ en_Ev X (pc + 1) L (.ref (54 + 2 * j.toNatClampNeg) :: st) w Q := by
  have hx : en_x X .aaload pc L (.int j :: .ref 2 :: st) w = (en_aald 2 j).map fun a => (pc + 1, L, .ref a :: st, w) := rfl
  have ha : en_aald 2 j = if (2 = 1 ∨ 2 = 2) ∧ ¬ (j < 0 ∨ 4 ≤ j.toNatClampNeg) then some (54 + 2 * j.toNatClampNeg) else none := rfl
  rw [en_Ev_opt hd rfl hx, ha]
  by_cases hj : ¬ (j < 0 ∨ 4 ≤ j.toNatClampNeg)
  · rw [if_pos ⟨Or.inr rfl, hj⟩]
    exact ⟨fun ⟨v, e, h⟩ => by cases e; exact ⟨hj, h⟩, fun ⟨_, h⟩ => ⟨_, rfl, h⟩⟩
  · rw [if_neg (fun q => hj q.2)]
    exact ⟨fun ⟨v, e, _⟩ => (by cases e), fun ⟨h, _⟩ => absurd h hj⟩
theorem en_Ev_div {x y : Int32} (hd : en_dec X pc = some (.idiv, 1)) : en_Ev X pc L (.int y :: .int x :: st) w Q ↔ ¬ y = 0 ∧ en_Ev X (pc + 1) L (.int (x / y) :: st) w Q := by
  by_cases hy : y = 0
  · exact ⟨fun h => absurd h (en_Ev_none hd rfl (if_pos hy)), fun h => absurd hy h.1⟩
  · rw [en_Ev_step hd rfl (show en_x X .idiv pc L (.int y :: .int x :: st) w = some (pc + 1, L, .int (x / y) :: st, w) from if_neg hy)]
    exact ⟨fun h => ⟨hy, h⟩, fun h => h.2⟩
theorem en_Ev_rem {x y : Int32} (hd : en_dec X pc = some (.irem, 1)) : en_Ev X pc L (.int y :: .int x :: st) w Q ↔ ¬ y = 0 ∧ en_Ev X (pc + 1) L (.int (x - x / y * y) :: st) w Q := by
  by_cases hy : y = 0
  · exact ⟨fun h => absurd h (en_Ev_none hd rfl (if_pos hy)), fun h => absurd hy h.1⟩
  · rw [en_Ev_step hd rfl (show en_x X .irem pc L (.int y :: .int x :: st) w = some (pc + 1, L, .int (x - x / y * y) :: st, w) from if_neg hy)]
    exact ⟨fun h => ⟨hy, h⟩, fun h => h.2⟩
theorem en_Ev_ldiv {x y : Int64} (hd : en_dec X pc = some (.ldiv, 1)) : en_Ev X pc L (.long y :: .long x :: st) w Q ↔ ¬ y = 0 ∧ en_Ev X (pc + 1) L (.long (x / y) :: st) w Q := by
  by_cases hy : y = 0
  · exact ⟨fun h => absurd h (en_Ev_none hd rfl (if_pos hy)), fun h => absurd hy h.1⟩
  · rw [en_Ev_step hd rfl (show en_x X .ldiv pc L (.long y :: .long x :: st) w = some (pc + 1, L, .long (x / y) :: st, w) from if_neg hy)]
    exact ⟨fun h => ⟨hy, h⟩, fun h => h.2⟩
theorem en_Ev_lrem {x y : Int64} (hd : en_dec X pc = some (.lrem, 1)) : en_Ev X pc L (.long y :: .long x :: st) w Q ↔ ¬ y = 0 ∧ en_Ev X (pc + 1) L (.long (x - x / y * y) :: st) w Q := by
  by_cases hy : y = 0
  · exact ⟨fun h => absurd h (en_Ev_none hd rfl (if_pos hy)), fun h => absurd hy h.1⟩
  · rw [en_Ev_step hd rfl (show en_x X .lrem pc L (.long y :: .long x :: st) w = some (pc + 1, L, .long (x - x / y * y) :: st, w) from if_neg hy)]
    exact ⟨fun h => ⟨hy, h⟩, fun h => h.2⟩
def en_stk (st : List Value) : Bool := decide ((st.map fun v => v.category).sum ≤ 8)
theorem en_Ev_inv {v : Bool} {idx k : Nat} {ci : Option Nat} {f : en_S} (hx : en_x X i pc L st w = en_inv X v idx pc L st w) (hd : en_dec X pc = some (i, n)) (hr : en_ret X i st = none) (hc : X.2.2.1 idx = some (k, ci, f)) (hv : ci.isSome = v) (hk : k ≤ st.length) : en_Ev X pc L st w Q ↔ en_rcv ci (st.take k).reverse = true ∧ en_stk (st.drop k) = true ∧ en_Ec X (pc + 3) L (st.drop k) (f (st.take k).reverse w) Q := by
  unfold en_inv at hx
  rw [hc] at hx
  dsimp only at hx
  by_cases h1 : en_rcv ci (st.take k).reverse = true
  · by_cases h2 : en_stk (st.drop k) = true
    · have h3 : ((st.drop k).map fun v => v.category).sum ≤ 8 := by
        unfold en_stk at h2
        exact decide_eq_true_eq.mp h2
      rw [if_pos ⟨hv, hk, h1, h3⟩] at hx
      cases hf : f (st.take k).reverse w with
      | none =>
        rw [hf] at hx
        exact ⟨fun h => absurd h (en_Ev_none hd hr hx), fun ⟨_, _, r, w', e, _⟩ => by cases e⟩
      | some q =>
        obtain ⟨r, w'⟩ := q
        rw [hf] at hx
        rw [en_Ev_step hd hr hx]
        exact ⟨fun h => ⟨h1, h2, r, w', rfl, h⟩, fun ⟨_, _, r', w2, e, h⟩ => by cases e; exact h⟩
    · have h3 : ¬ ((st.drop k).map fun v => v.category).sum ≤ 8 := by
        unfold en_stk at h2
        exact fun q => h2 (decide_eq_true_eq.mpr q)
      rw [if_neg (fun q => h3 q.2.2.2)] at hx
      exact ⟨fun h => absurd h (en_Ev_none hd hr hx), fun q => absurd q.2.1 h2⟩
  · rw [if_neg (fun q => h1 q.2.2.1)] at hx
    exact ⟨fun h => absurd h (en_Ev_none hd hr hx), fun q => absurd q.1 h1⟩
theorem en_Ec_some {v : Value} {w' : en_W} : en_Ec X pc L st (some (some v, w')) Q ↔ en_Ev X pc L (v :: st) w' Q := ⟨fun ⟨r, w1, e, h⟩ => by cases e; exact h, fun h => ⟨_, _, rfl, h⟩⟩
theorem en_Ec_void {w' : en_W} : en_Ec X pc L st (some (none, w')) Q ↔ en_Ev X pc L st w' Q := ⟨fun ⟨r, w1, e, h⟩ => by cases e; exact h, fun h => ⟨_, _, rfl, h⟩⟩
theorem en_Ev_bool {v : Int32} (hd : en_dec X pc = some (.ireturn, 1)) (ht : en_rt X = some .boolean) : en_Ev X pc L [.int v] w Q ↔ en_01 v ∧ Q (some (.int v)) w := by
  unfold en_01
  by_cases hv : v &&& 1 = v
  · rw [en_Ev_ret hd (r := some (.int v)) (by
      unfold en_ret
      rw [ht]
      show (if narrow .boolean (.int v) = .int v then _ else _) = _
      rw [if_pos (by show Value.int (v &&& 1) = _; rw [hv])])]
    exact ⟨fun h => ⟨hv, h⟩, fun h => h.2⟩
  · refine ⟨fun h => absurd h (en_Ev_none hd ?_ rfl), fun h => absurd h.1 hv⟩
    unfold en_ret
    rw [ht]
    show (if narrow .boolean (.int v) = .int v then _ else _) = _
    rw [if_neg (by intro q; exact hv (Value.int.inj q))]
theorem en_Ev_int {v : Int32} (hd : en_dec X pc = some (.ireturn, 1)) (ht : en_rt X = some .int) : en_Ev X pc L [.int v] w Q ↔ Q (some (.int v)) w := by
  rw [en_Ev_ret hd (r := some (.int v)) (by
    unfold en_ret
    rw [ht]
    show (if narrow .int (.int v) = .int v then _ else _) = _
    exact if_pos rfl)]
theorem en_Ev_alen {k : Nat} (hd : en_dec X pc = some (.arraylength, 1)) : en_Ev X pc L (.ref k :: st) w Q ↔ ∃ v, en_alen X k = some v ∧ en_Ev X (pc + 1) L (.int v :: st) w Q := en_Ev_opt (c := en_alen X k) (g := fun v => (pc + 1, L, .int v :: st, w)) hd rfl rfl
theorem en_Ev_lkp {d off : Int} {ps : Array (Int × Int)} {x : Int32} {tgt : Nat} (hd : en_dec X pc = some (.lookupswitch d ps, n)) (hs : en_sorted ps.toList = true) (ho : Op.lookupswitch.offset ps.toList d x.toInt = off) (ht : en_to pc off L st w = some (tgt, L, st, w)) : en_Ev X pc L (.int x :: st) w Q ↔ en_Ev X tgt L st w Q := by
  refine en_Ev_step hd rfl ?_
  unfold en_x en_u
  dsimp only
  rw [if_pos hs, ho, ht]
theorem en_Ev_tbo {d lo hi : Int} {offs : Array Int} {x : Int32} {tgt : Nat} (hd : en_dec X pc = some (.tableswitch d lo hi offs, n)) (h : x.toInt < lo ∨ hi < x.toInt) (ht : en_to pc d L st w = some (tgt, L, st, w)) : en_Ev X pc L (.int x :: st) w Q ↔ en_Ev X tgt L st w Q := by
  refine en_Ev_step hd rfl ?_
  unfold en_x en_u
  dsimp only
  rw [if_pos h, ht]
theorem en_Ev_mono {Q2 : Option Value → en_W → Prop} (h : en_Ev X pc L st w Q) (hq : ∀ r w', Q r w' → Q2 r w') : en_Ev X pc L st w Q2 := by
  obtain ⟨n, r, w', h1, h2⟩ := h
  exact ⟨n, r, w', h1, hq r w' h2⟩
end EnEv
theorem en_fn_val {X : en_X} {nL : Nat} {As : List Value} {w w' : en_W} {r : Option Value} (hl : (en_L0 nL As).length = nL) (h : en_Ev X 0 (en_L0 nL As) [] w (fun r1 w1 => r1 = r ∧ w1 = w')) : en_fn X nL As w = some (r, w') := by
  obtain ⟨n, r1, w1, h1, h2, h3⟩ := h
  subst h2; subst h3
  exact en_fn_of hl h1
theorem en_val {X : en_X} {nL : Nat} {As : List Value} {w w' : en_W} {r : Option Value} (hl : (en_L0 nL As).length = nL) (h : ∀ Q : Option Value → en_W → Prop, Q r w' → en_Ev X 0 (en_L0 nL As) [] w Q) : en_fn X nL As w = some (r, w') := en_fn_val hl (h _ ⟨rfl, rfl⟩)
