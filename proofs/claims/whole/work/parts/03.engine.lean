/-! ===== the engine: bytecode run over ONE world of ints: cell k, place j. References are cell numbers; their addresses come by 'ad' ===== -/
abbrev en_W : Type := Nat → Nat → Int32
/-- a cell's kind: an object (class, slots: an int, or a reference to a told cell) | a row of ints | a row of references -/
abbrev en_K : Type := (Nat × List (Option Nat)) ⊕ (Nat ⊕ (Nat × Nat × (Nat → Nat)))
/-- what a method answers and makes of the world; none: not asked for -/
abbrev en_S : Type := List Value → en_W → Option (Option Value × en_W)
def en_row (w : en_W) (k : Nat) (f : Nat → Int32) : en_W := fun a => if a = k then f else w a
def en_up (w : en_W) (k j : Nat) (x : Int32) : en_W := en_row w k (upd (w k) j x)
def en_tab : List en_K := [
  .inl (5, [some 1, some 2, some 3, some 8, some 17, some 18, none, none, none, none, none, none]),
  .inr (.inr (1, 10, fun j => 34 + 2 * j)), .inr (.inr (2, 4, fun j => 54 + 2 * j)),
  .inl (4, [some 4, some 5, none, none]), .inr (.inl 80), .inl (0, [some 6, some 7, none]), .inr (.inl 20), .inr (.inl 20),
  .inl (2, [some 9, some 10, some 11, some 12, some 13, some 14, none, none, none, none]), .inr (.inl 10), .inr (.inl 10), .inr (.inl 10), .inr (.inl 20), .inr (.inl 20),
  .inl (0, [some 15, some 16, none]), .inr (.inl 20), .inr (.inl 20), .inr (.inl 8), .inr (.inl 8),
  .inl (6, [some 20, some 21, some 22, some 23, none, some 24, some 25, some 26, some 27, none, none, none, some 28, some 29, some 30, some 31, some 32, none, none, none, none, some 33]),
  .inr (.inl 4), .inr (.inl 4), .inr (.inl 240), .inr (.inl 60), .inr (.inl 10), .inr (.inl 90), .inr (.inl 4), .inr (.inl 80), .inr (.inl 44), .inr (.inl 22), .inr (.inl 22), .inr (.inl 200), .inr (.inl 10), .inr (.inl 16)]
def en_kd (k : Nat) : en_K := if k < 34 then en_tab.getD k (.inr (.inl 0)) else if k < 54 then (if k % 2 = 0 then .inl (1, [none, some (k + 1)]) else .inr (.inl 9)) else (if k % 2 = 0 then .inl (3, [some (k + 1), none, none]) else .inr (.inl 60))
def en_fs (ad : Nat → Nat) (f : Nat → Int32) : Nat → List (Option Nat) → List Value
  | _, [] => []
  | j, none :: t => .int (f j) :: en_fs ad f (j + 1) t
  | j, some r :: t => .ref (ad r) :: en_fs ad f (j + 1) t
def en_e (cA : Nat → ClassId) (ad : Nat → Nat) (kd : en_K) (f : Nat → Int32) : va_E := match kd with
  | .inl (ci, sl) => .inr (ci, en_fs ad f 0 sl)
  | .inr (.inl n) => .inl (cA 0, n, .inl f)
  | .inr (.inr (t, n, g)) => .inl (cA t, n, .inr (.inr (.inr (.inr (fun j => some (ad (g j)))))))
def en_ws (cA : Nat → ClassId) (ad : Nat → Nat) (w : en_W) : va_W := (List.range 62).map (fun k => (ad k, en_e cA ad (en_kd k) (w k)))
abbrev en_tys (cA : Nat → ClassId) : List (ClassId × FieldType) := [(cA 0, .int), (cA 1, .object "ThirdFavour$Disc"), (cA 2, .object "ThirdFavour$Sheet")]
def en_N (s : State) : Prop := ∀ w ∈ wsL_law_r43, va_Nw w s
def en_Kn (D : va_G) (cA : Nat → ClassId) (s : State) : Prop := va_K D vwCl (en_tys cA) s ∧ en_N s
theorem en_Kn.warm {D : va_G} {cA : Nat → ClassId} {s U : State} (hW : s.WarmedH U.vm) (h : en_Kn D cA s) : en_Kn D cA U := ⟨va_K.moved hW.alike h.1, fun w hw => by
  have h1 := h.2 w hw
  rcases ws_nest w hw with ⟨a, i, b, n, d, h, rfl⟩ | ⟨a, i, x, h, rfl⟩
  · exact va_Nw.warmF hW h1
  · exact va_Nw.warmM hW h1⟩
theorem en_Kn.same {D : va_G} {cA : Nat → ClassId} {u U : State} (hvm : u.vm = U.vm) (h : en_Kn D cA u) : en_Kn D cA U := ⟨va_K.moved (by rw [hvm]; exact Vm.Alike.refl _) h.1, fun w hw => by
  have h1 := h.2 w hw
  rcases ws_nest w hw with ⟨a, i, b, n, d, h, rfl⟩ | ⟨a, i, x, h, rfl⟩
  · exact va_Nw.same rfl hvm h1
  · exact va_Nw.same rfl hvm h1⟩
theorem en_ws_at {cA : Nat → ClassId} {ad : Nat → Nat} {w : en_W} {k : Nat} (h : k < 62) : (en_ws cA ad w)[k]? = some (ad k, en_e cA ad (en_kd k) (w k)) := by
  simp [en_ws, h]
theorem en_ws_set {cA : Nat → ClassId} {ad : Nat → Nat} {w : en_W} {k : Nat} {f : Nat → Int32} (h : k < 62) : (en_ws cA ad w).set k (ad k, en_e cA ad (en_kd k) f) = en_ws cA ad (en_row w k f) := by
  apply List.ext_getElem?
  intro i
  rw [List.getElem?_set]
  by_cases hi : i < 62
  · rw [en_ws_at hi]
    by_cases hk : k = i
    · subst hk
      simp [en_ws, hi, en_row]
    · have hk' : ¬ i = k := fun e => hk e.symm
      rw [if_neg hk, en_ws_at hi]
      simp [en_row, hk']
  · have hk : ¬ k = i := fun e => hi (e ▸ h)
    rw [if_neg hk]
    simp [en_ws, hi]
theorem en_fs_at {ad : Nat → Nat} {f : Nat → Int32} : ∀ (sl : List (Option Nat)) (b j : Nat), (en_fs ad f b sl)[j]? = (sl[j]?).map (fun o => match o with | none => Value.int (f (b + j)) | some r => Value.ref (ad r))
  | [], b, j => by simp [en_fs]
  | none :: t, b, 0 => by simp [en_fs]
  | some r :: t, b, 0 => by simp [en_fs]
  | none :: t, b, j + 1 => by
    have := en_fs_at (ad := ad) (f := f) t (b + 1) j
    rw [en_fs, List.getElem?_cons_succ, List.getElem?_cons_succ, this, show b + 1 + j = b + (j + 1) by omega]
  | some r :: t, b, j + 1 => by
    have := en_fs_at (ad := ad) (f := f) t (b + 1) j
    rw [en_fs, List.getElem?_cons_succ, List.getElem?_cons_succ, this, show b + 1 + j = b + (j + 1) by omega]
theorem en_fs_len {ad : Nat → Nat} {f : Nat → Int32} : ∀ (sl : List (Option Nat)) (b : Nat), (en_fs ad f b sl).length = sl.length
  | [], b => rfl
  | none :: t, b => by simp [en_fs, en_fs_len t]
  | some r :: t, b => by simp [en_fs, en_fs_len t]
theorem en_fs_set {ad : Nat → Nat} {f : Nat → Int32} {x : Int32} {sl : List (Option Nat)} {j : Nat} (h : sl[j]? = some none) : (en_fs ad f 0 sl).set j (.int x) = en_fs ad (upd f j x) 0 sl := by
  apply List.ext_getElem?
  intro i
  rw [List.getElem?_set, en_fs_at, en_fs_at, en_fs_len]
  by_cases hi : j = i
  · subst hi
    have hl : j < sl.length := (List.getElem?_eq_some_iff.mp h).1
    rw [if_pos rfl, if_pos hl, h]
    simp [upd]
  · have hi' : ¬ i = j := fun e => hi e.symm
    rw [if_neg hi]
    cases sl[i]? with
    | none => rfl
    | some o => cases o <;> simp [upd, hi']
def en_v (ad : Nat → Nat) : Value → Value
  | .ref k => .ref (ad k)
  | v => v
theorem en_v_cat (ad : Nat → Nat) (v : Value) : (en_v ad v).category = v.category := by cases v <;> rfl
theorem en_v_cats (ad : Nat → Nat) : ∀ l : List Value, ((l.map (en_v ad)).map fun v => v.category) = l.map fun v => v.category
  | [] => rfl
  | a :: t => by rw [List.map_cons, List.map_cons, List.map_cons, en_v_cats ad t, en_v_cat]
def en_cls (k : Nat) : Option Nat := match en_kd k with
  | .inl (c, _) => some c
  | _ => none
def en_is (k ci : Nat) : Bool := decide (k < 62) && (en_cls k == some ci)
/-- the code (place, instruction, length) | fields (number, class, slot, nest) | calls (how many values, the receiver's class, what) | ints | longs | the answer's type | the script -/
abbrev en_X : Type := List (Nat × Instr × Nat) × List (Nat × Nat × Nat × Option String) × (Nat → Option (Nat × Option Nat × en_S)) × List (Nat × Int32) × List (Nat × Int64) × Option FieldType × Option (Nat × (Nat → Int32))
def en_dec (X : en_X) (pc : Nat) : Option (Instr × Nat) := (X.1.find? (fun e => e.1 == pc)).map (fun e => e.2)
def en_fl (X : en_X) (i : Nat) : Option (Nat × Nat) := (X.2.1.find? (fun e => e.1 == i)).map (fun e => (e.2.1, e.2.2.1))
def en_ci (X : en_X) (i : Nat) : Option Int32 := (X.2.2.2.1.find? (fun e => e.1 == i)).map (fun e => e.2)
def en_c2 (X : en_X) (i : Nat) : Option Int64 := (X.2.2.2.2.1.find? (fun e => e.1 == i)).map (fun e => e.2)
def en_rt (X : en_X) : Option FieldType := X.2.2.2.2.2.1
def en_scr (X : en_X) : Option (Nat × (Nat → Int32)) := X.2.2.2.2.2.2
abbrev en_L : Type := List (Option Value)
abbrev en_O : Type := Option (Nat × en_L × List Value × en_W)
def en_kl : Option Value → Option Value
  | some (.long _) => none
  | some (.double _) => none
  | o => o
theorem en_kl_0 : en_kl none = none := rfl
theorem en_kl_i (x : Int32) : en_kl (some (.int x)) = some (.int x) := rfl
theorem en_kl_r (x : Nat) : en_kl (some (.ref x)) = some (.ref x) := rfl
theorem en_kl_n : en_kl (some .null) = some .null := rfl
theorem en_kl_l (x : Int64) : en_kl (some (.long x)) = none := rfl
def en_sto : en_L → Nat → Value → en_L
  | [], _, _ => []
  | _ :: t, 0, v => some v :: t
  | a :: t, 1, v => en_kl a :: en_sto t 0 v
  | a :: t, i + 2, v => a :: en_sto t (i + 1) v
def en_stl (L : en_L) (i : Nat) (v : Value) : en_L := (en_sto L i v).set (i + 1) none
def en_to (pc : Nat) (off : Int) (L : en_L) (st : List Value) (w : en_W) : en_O := if 0 ≤ (pc : Int) + off then some (((pc : Int) + off).toNat, L, st, w) else none
def en_c1 (c : Jvm.ClassFile.Cond) (x y : Int32) : Bool := match c with
  | .eq => decide (x = y)
  | .ne => !decide (x = y)
  | .lt => decide (x < y)
  | .ge => decide (y ≤ x)
  | .gt => decide (y < x)
  | .le => decide (x ≤ y)
def en_ld (L : en_L) (i : Nat) (q : Value → Bool) : Option Value := match L[i]? with
  | some (some v) => if q v = true then some v else none
  | _ => none
def en_qi : Value → Bool
  | .int _ => true
  | _ => false
def en_ql : Value → Bool
  | .long _ => true
  | _ => false
def en_qa : Value → Bool
  | .ref _ => true
  | .null => true
  | _ => false
def en_u (st : List Value) (k : Int32 → List Value → en_O) : en_O := match st with
  | .int x :: r => k x r
  | _ => none
def en_b (st : List Value) (k : Int32 → Int32 → List Value → en_O) : en_O := match st with
  | .int y :: .int x :: r => k x y r
  | _ => none
def en_bl (st : List Value) (k : Int64 → Int64 → List Value → en_O) : en_O := match st with
  | .long y :: .long x :: r => k x y r
  | _ => none
def en_len : Instr → Nat
  | .bipush _ => 2
  | .sipush _ => 3
  | .ldc _ => 2
  | .ldc_w _ => 3
  | .ldc2_w _ => 3
  | .iload _ => 2
  | .lload _ => 2
  | .aload _ => 2
  | .istore _ => 2
  | .lstore _ => 2
  | .astore _ => 2
  | .iinc _ _ => 3
  | .goto _ => 3
  | .ifCond _ _ => 3
  | .if_icmp _ _ => 3
  | .ifnull _ => 3
  | .ifnonnull _ => 3
  | .getfield _ => 3
  | .putfield _ => 3
  | .invokevirtual _ => 3
  | .invokestatic _ => 3
  | .tableswitch _ _ _ _ => 0
  | .lookupswitch _ _ => 0
  | _ => 1
def en_iald (X : en_X) (w : en_W) (k : Nat) (i : Int32) : Option Int32 :=
  if k = 62 then (match en_scr X with
    | some (n, xs) => if i < 0 ∨ n ≤ i.toNatClampNeg then none else some (xs i.toNatClampNeg)
    | none => none)
  else if k < 62 then (match en_kd k with
    | .inr (.inl n) => if i < 0 ∨ n ≤ i.toNatClampNeg then none else some (w k i.toNatClampNeg)
    | _ => none)
  else none
def en_iast (w : en_W) (k : Nat) (i x : Int32) : Option en_W :=
  if k < 62 then (match en_kd k with
    | .inr (.inl n) => if i < 0 ∨ n ≤ i.toNatClampNeg then none else some (en_up w k i.toNatClampNeg x)
    | _ => none)
  else none
def en_aald (k : Nat) (i : Int32) : Option Nat :=
  if k < 62 then (match en_kd k with
    | .inr (.inr (t, n, f)) => if (t = 1 ∨ t = 2) ∧ ¬ (i < 0 ∨ n ≤ i.toNatClampNeg) then some (f i.toNatClampNeg) else none
    | _ => none)
  else none
def en_alen (X : en_X) (k : Nat) : Option Int32 :=
  if k = 62 then (match en_scr X with
    | some (n, _) => some (Int32.ofNat n)
    | none => none)
  else if k < 62 then (match en_kd k with
    | .inr (.inl n) => some (Int32.ofNat n)
    | _ => none)
  else none
def en_getf (w : en_W) (k ci j : Nat) : Option Value :=
  if k < 62 then (match en_kd k with
    | .inl (c, sl) => if c = ci then (match sl[j]? with
      | some none => some (.int (w k j))
      | some (some r) => some (.ref r)
      | none => none) else none
    | _ => none)
  else none
def en_putf (w : en_W) (k ci j : Nat) (x : Int32) : Option en_W :=
  if k < 62 then (match en_kd k with
    | .inl (c, sl) => if c = ci ∧ sl[j]? = some none then some (en_up w k j x) else none
    | _ => none)
  else none
def en_rcv (ci : Option Nat) (As : List Value) : Bool := match ci with
  | none => true
  | some c => match As with
    | .ref k :: _ => en_is k c
    | _ => false
def en_inv (X : en_X) (v : Bool) (idx : Nat) (pc : Nat) (L : en_L) (st : List Value) (w : en_W) : en_O := match X.2.2.1 idx with
  | some (n, ci, f) => if ci.isSome = v ∧ n ≤ st.length ∧ en_rcv ci (st.take n).reverse = true ∧ ((st.drop n).map fun v => v.category).sum ≤ 8 then (match f (st.take n).reverse w with
    | some (r, w') => some (pc + 3, L, r.toList ++ st.drop n, w')
    | none => none) else none
  | none => none
def en_sorted (ps : List (Int × Int)) : Bool := (ps.zip (ps.drop 1)).all (fun (a, next) => a.1 < next.1)
def en_x (X : en_X) (i : Instr) (pc : Nat) (L : en_L) (st : List Value) (w : en_W) : en_O := match i with
  | .iconst c => some (pc + 1, L, .int (Int32.ofInt c) :: st, w)
  | .bipush c => some (pc + 2, L, .int (Int8.ofInt c).toInt32 :: st, w)
  | .sipush c => some (pc + 3, L, .int (Int16.ofInt c).toInt32 :: st, w)
  | .lconst c => some (pc + 1, L, .long (Int64.ofNat (c : Nat)) :: st, w)
  | .ldc k => (en_ci X k).map fun v => (pc + 2, L, .int v :: st, w)
  | .ldc_w k => (en_ci X k).map fun v => (pc + 3, L, .int v :: st, w)
  | .ldc2_w k => (en_c2 X k).map fun v => (pc + 3, L, .long v :: st, w)
  | .aconst_null => some (pc + 1, L, .null :: st, w)
  | .iload_n k => (en_ld L k en_qi).map fun v => (pc + 1, L, v :: st, w)
  | .iload k => (en_ld L k en_qi).map fun v => (pc + 2, L, v :: st, w)
  | .lload_n k => (en_ld L k en_ql).map fun v => (pc + 1, L, v :: st, w)
  | .lload k => (en_ld L k en_ql).map fun v => (pc + 2, L, v :: st, w)
  | .aload_n k => (en_ld L k en_qa).map fun v => (pc + 1, L, v :: st, w)
  | .aload k => (en_ld L k en_qa).map fun v => (pc + 2, L, v :: st, w)
  | .istore_n k => en_u st fun x r => if (k : Nat) < L.length then some (pc + 1, en_sto L k (.int x), r, w) else none
  | .istore k => en_u st fun x r => if k < L.length then some (pc + 2, en_sto L k (.int x), r, w) else none
  | .lstore_n k => (match st with
    | .long x :: r => if (k : Nat) + 1 < L.length then some (pc + 1, en_stl L k (.long x), r, w) else none
    | _ => none)
  | .lstore k => (match st with
    | .long x :: r => if k + 1 < L.length then some (pc + 2, en_stl L k (.long x), r, w) else none
    | _ => none)
  | .astore_n k => (match st with
    | .ref x :: r => if (k : Nat) < L.length then some (pc + 1, en_sto L k (.ref x), r, w) else none
    | .null :: r => if (k : Nat) < L.length then some (pc + 1, en_sto L k .null, r, w) else none
    | _ => none)
  | .astore k => (match st with
    | .ref x :: r => if k < L.length then some (pc + 2, en_sto L k (.ref x), r, w) else none
    | .null :: r => if k < L.length then some (pc + 2, en_sto L k .null, r, w) else none
    | _ => none)
  | .iinc k c => (match L[k]? with
    | some (some (.int x)) => some (pc + 3, en_sto L k (.int (x + Int32.ofInt c)), st, w)
    | _ => none)
  | .iadd => en_b st fun x y r => some (pc + 1, L, .int (x + y) :: r, w)
  | .isub => en_b st fun x y r => some (pc + 1, L, .int (x - y) :: r, w)
  | .imul => en_b st fun x y r => some (pc + 1, L, .int (x * y) :: r, w)
  | .idiv => en_b st fun x y r => if y = 0 then none else some (pc + 1, L, .int (x / y) :: r, w)
  | .irem => en_b st fun x y r => if y = 0 then none else some (pc + 1, L, .int (x - x / y * y) :: r, w)
  | .iand => en_b st fun x y r => some (pc + 1, L, .int (x &&& y) :: r, w)
  | .ior => en_b st fun x y r => some (pc + 1, L, .int (x ||| y) :: r, w)
  | .ixor => en_b st fun x y r => some (pc + 1, L, .int (x ^^^ y) :: r, w)
  | .ishl => en_b st fun x y r => some (pc + 1, L, .int (x <<< (y &&& 31)) :: r, w)
  | .ishr => en_b st fun x y r => some (pc + 1, L, .int (x >>> (y &&& 31)) :: r, w)
  | .iushr => en_b st fun x y r => some (pc + 1, L, .int ((x.toUInt32 >>> (y.toUInt32 &&& Int32.toUInt32 31)).toInt32) :: r, w)
  | .ladd => en_bl st fun x y r => some (pc + 1, L, .long (x + y) :: r, w)
  | .lsub => en_bl st fun x y r => some (pc + 1, L, .long (x - y) :: r, w)
  | .lmul => en_bl st fun x y r => some (pc + 1, L, .long (x * y) :: r, w)
  | .ldiv => en_bl st fun x y r => if y = 0 then none else some (pc + 1, L, .long (x / y) :: r, w)
  | .lrem => en_bl st fun x y r => if y = 0 then none else some (pc + 1, L, .long (x - x / y * y) :: r, w)
  | .lcmp => en_bl st fun x y r => some (pc + 1, L, .int (lg_cmp x y) :: r, w)
  | .i2l => en_u st fun x r => some (pc + 1, L, .long x.toInt64 :: r, w)
  | .i2b => en_u st fun x r => some (pc + 1, L, .int x.toInt8.toInt32 :: r, w)
  | .i2s => en_u st fun x r => some (pc + 1, L, .int x.toInt16.toInt32 :: r, w)
  | .dup => (match st with
    | a :: r => if a.category = 1 then some (pc + 1, L, a :: a :: r, w) else none
    | _ => none)
  | .dup2 => (match st with
    | a :: b :: r => if a.category = 1 ∧ b.category = 1 then some (pc + 1, L, a :: b :: a :: b :: r, w) else none
    | _ => none)
  | .pop => (match st with
    | a :: r => if a.category = 1 then some (pc + 1, L, r, w) else none
    | _ => none)
  | .goto o => en_to pc o L st w
  | .ifCond c o => en_u st fun x r => if en_c1 c x 0 = true then en_to pc o L r w else some (pc + 3, L, r, w)
  | .if_icmp c o => en_b st fun x y r => if en_c1 c x y = true then en_to pc o L r w else some (pc + 3, L, r, w)
  | .ifnull o => (match st with
    | .null :: r => en_to pc o L r w
    | .ref _ :: r => some (pc + 3, L, r, w)
    | _ => none)
  | .ifnonnull o => (match st with
    | .ref _ :: r => en_to pc o L r w
    | .null :: r => some (pc + 3, L, r, w)
    | _ => none)
  | .iaload => (match st with
    | .int i :: .ref k :: r => (en_iald X w k i).map fun v => (pc + 1, L, .int v :: r, w)
    | _ => none)
  | .iastore => (match st with
    | .int x :: .int i :: .ref k :: r => (en_iast w k i x).map fun w' => (pc + 1, L, r, w')
    | _ => none)
  | .aaload => (match st with
    | .int i :: .ref k :: r => (en_aald k i).map fun a => (pc + 1, L, .ref a :: r, w)
    | _ => none)
  | .arraylength => (match st with
    | .ref k :: r => (en_alen X k).map fun v => (pc + 1, L, .int v :: r, w)
    | _ => none)
  | .getfield idx => (match st with
    | .ref k :: r => (en_fl X idx).bind fun f => (en_getf w k f.1 f.2).map fun v => (pc + 3, L, v :: r, w)
    | _ => none)
  | .putfield idx => (match st with
    | .int x :: .ref k :: r => (en_fl X idx).bind fun f => (en_putf w k f.1 f.2 x).map fun w' => (pc + 3, L, r, w')
    | _ => none)
  | .invokevirtual idx => en_inv X true idx pc L st w
  | .invokestatic idx => en_inv X false idx pc L st w
  | .tableswitch d lo hi offs => en_u st fun x r => if x.toInt < lo ∨ hi < x.toInt then en_to pc d L r w else (match offs[(x.toInt - lo).toNat]? with
    | some o => en_to pc o L r w
    | none => none)
  | .lookupswitch d ps => en_u st fun x r => if en_sorted ps.toList = true then en_to pc (Op.lookupswitch.offset ps.toList d x.toInt) L r w else none
  | _ => none
def en_ret (X : en_X) (i : Instr) (st : List Value) : Option (Option Value) := match i with
  | .ireturn => (match st with
    | [.int v] => (match en_rt X with
      | some t => if narrow t (.int v) = .int v then some (some (.int v)) else none
      | none => none)
    | _ => none)
  | .lreturn => (match st with
    | [.long v] => if en_rt X = some .long then some (some (.long v)) else none
    | _ => none)
  | .areturn => (match st with
    | [.ref v] => (match en_rt X with
      | some (.object _) => some (some (.ref v))
      | _ => none)
    | [.null] => (match en_rt X with
      | some (.object _) => some (some .null)
      | _ => none)
    | _ => none)
  | .return_ => (match st with
    | [] => if en_rt X = none then some none else none
    | _ => none)
  | _ => none
def en_run (X : en_X) : Nat → Nat → en_L → List Value → en_W → Option (Option Value × en_W)
  | 0, _, _, _, _ => none
  | n + 1, pc, L, st, w => match en_dec X pc with
    | none => none
    | some (i, _) => match en_ret X i st with
      | some r => some (r, w)
      | none => match en_x X i pc L st w with
        | some (pc', L', st', w') => en_run X n pc' L' st' w'
        | none => none
