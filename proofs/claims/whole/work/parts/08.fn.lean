/-! ===== a method as a function: what its engine runs to ===== -/
theorem en_run_mono {X : en_X} {q : Option Value × en_W} : ∀ (n k pc : Nat) (L : en_L) (st : List Value) (w : en_W), en_run X n pc L st w = some q → en_run X (n + k) pc L st w = some q
  | 0, k, pc, L, st, w, h => by cases h
  | n + 1, k, pc, L, st, w, h => by
    rw [show n + 1 + k = (n + k) + 1 by omega]
    unfold en_run at h ⊢
    split at h
    next => cases h
    next i n0 hd =>
      split at h
      next r0 hr0 => exact h
      next hr0 =>
        split at h
        next pc' L' st' w1 hx => exact en_run_mono n k pc' L' st' w1 h
        next => cases h
theorem en_run_one {X : en_X} {q q2 : Option Value × en_W} {n k pc : Nat} {L : en_L} {st : List Value} {w : en_W} (h : en_run X n pc L st w = some q) (h2 : en_run X k pc L st w = some q2) : q = q2 := by
  have a := en_run_mono n k pc L st w h
  have b := en_run_mono k n pc L st w h2
  rw [Nat.add_comm k n] at b
  rw [a] at b
  exact Option.some.inj b
noncomputable def en_fn (X : en_X) (nL : Nat) : en_S := fun As w => @ite _ ((en_L0 nL As).length = nL) inferInstance (@dite _ (∃ q : Nat × (Option Value × en_W), en_run X q.1 0 (en_L0 nL As) [] w = some q.2) (Classical.propDecidable _) (fun h => some (Classical.choose h).2) (fun _ => none)) none
theorem en_fn_ev (X : en_X) (nL : Nat) : ∀ (As : List Value) (w : en_W) (r : Option Value) (w' : en_W), en_fn X nL As w = some (r, w') → (en_L0 nL As).length = nL ∧ ∃ n, en_run X n 0 (en_L0 nL As) [] w = some (r, w') := by
  intro As w r w' h
  unfold en_fn at h
  split at h
  next hl =>
    split at h
    next hq =>
      have := Classical.choose_spec hq
      rw [Option.some.inj h] at this
      exact ⟨hl, _, this⟩
    next => cases h
  next => cases h
theorem en_fn_of {X : en_X} {nL n : Nat} {As : List Value} {w : en_W} {q : Option Value × en_W} (hl : (en_L0 nL As).length = nL) (h : en_run X n 0 (en_L0 nL As) [] w = some q) : en_fn X nL As w = some q := by
  unfold en_fn
  rw [if_pos hl]
  have hq : ∃ q : Nat × (Option Value × en_W), en_run X q.1 0 (en_L0 nL As) [] w = some q.2 := ⟨(n, q), h⟩
  rw [dif_pos hq]
  exact congrArg some (en_run_one (Classical.choose_spec hq) h)
/-! the library's three that are no bytecode here -/
def SJ_Jmax : en_S := fun As w => match As with
  | [.int x, .int y] => some (some (.int (if x < y then y else x)), w)
  | _ => none
def SJ_Jmin : en_S := fun As w => match As with
  | [.int x, .int y] => some (some (.int (if y < x then y else x)), w)
  | _ => none
def en_al (k : Nat) : Option Nat := match en_kd k with
  | .inr (.inl n) => some n
  | _ => none
def SJ_Jcopy : en_S := fun As w => match As with
  | [.ref a, .int i, .ref b, .int j, .int n] => (match en_al a, en_al b with
    | some na, some nb => if a < 62 ∧ b < 62 ∧ ¬ i < 0 ∧ ¬ j < 0 ∧ ¬ n < 0 ∧ i.toNatClampNeg + n.toNatClampNeg ≤ na ∧ j.toNatClampNeg + n.toNatClampNeg ≤ nb then some (none, en_row w b (va_cpy (w a) (w b) i.toNatClampNeg j.toNatClampNeg n.toNatClampNeg)) else none
    | _, _ => none)
  | _ => none
section EnLib
variable {p : Program} {l : Launch} {e : Env} {R : Room} {s : State} {m : MethodId} {args : Array Value} {below : List Frame} {meth : Method} {c : Code} {Q : State → Prop}
variable {cc : ByteArray} {nL idx : Nat} {own : String} {Ts : List Jvm.Cond} {D : va_G} {cA : Nat → ClassId} {ad : Nat → Nat} {A : Nat → Prop} {H0 : Heap}
theorem en_callMmax (S : CallFix p m c cc nL s args Ts own) (hlink : Jvm.Cond.methodLink own idx Lib.Math.max.name ∈ Ts) (hstat : Jvm.Cond.static Lib.Math.max.name ∈ Ts) (hini : Jvm.Cond.initialized "java/lang/Math" ∈ Ts) (hcode : Jvm.Cond.code Lib.Math.max.name Lib.Math.max.code 2 (some .int) ∈ Ts) (hfr : 1 ≤ R.frames) (hlo : 21 ≤ R.locals) :
    en_call p l e R s m args below meth c 0 0 Q cc nL D cA ad A H0 idx 2 none SJ_Jmax := by
  intro As w r w' H locs pc ls rest hf hn hrcv hdg hP hS hsz hrest kk
  obtain ⟨hx, hb, hml, hown, hts⟩ := id S
  unfold SJ_Jmax at hf
  split at hf
  next x y =>
    cases hf
    exact va_mmax (rest := rest.map (en_v ad)) hx hb (hml.trans hsz.symm) hown (hts _ hlink) (hts _ hstat) (hts _ hini) (hts _ hcode) hfr (by rw [en_v_cats]; omega) (Nat.zero_le _) (Nat.zero_le _) hdg (kk H locs hP hS)
  next => cases hf
theorem en_callMmin (S : CallFix p m c cc nL s args Ts own) (hlink : Jvm.Cond.methodLink own idx Lib.Math.min.name ∈ Ts) (hstat : Jvm.Cond.static Lib.Math.min.name ∈ Ts) (hini : Jvm.Cond.initialized "java/lang/Math" ∈ Ts) (hcode : Jvm.Cond.code Lib.Math.min.name Lib.Math.min.code 2 (some .int) ∈ Ts) (hfr : 1 ≤ R.frames) (hlo : 21 ≤ R.locals) :
    en_call p l e R s m args below meth c 0 0 Q cc nL D cA ad A H0 idx 2 none SJ_Jmin := by
  intro As w r w' H locs pc ls rest hf hn hrcv hdg hP hS hsz hrest kk
  obtain ⟨hx, hb, hml, hown, hts⟩ := id S
  unfold SJ_Jmin at hf
  split at hf
  next x y =>
    cases hf
    exact va_mmin (rest := rest.map (en_v ad)) hx hb (hml.trans hsz.symm) hown (hts _ hlink) (hts _ hstat) (hts _ hini) (hts _ hcode) hfr (by rw [en_v_cats]; omega) (Nat.zero_le _) (Nat.zero_le _) hdg (kk H locs hP hS)
  next => cases hf
theorem en_al_kd {k n : Nat} (h : en_al k = some n) : en_kd k = .inr (.inl n) := by
  unfold en_al at h
  split at h
  next n' hk => cases h; exact hk
  next => cases h
theorem en_callCopy (S : CallFix p m c cc nL s args Ts own) (hK : en_Kn D cA s) (hinj : ∀ i j, i < 62 → j < 62 → ad i = ad j → i = j) (hA : ∀ k, k < 62 → A (ad k)) (hlink : Jvm.Cond.methodLink own idx arraycopyName ∈ Ts) (hnat : Jvm.Cond.native arraycopyName ∈ Ts) (hstat : Jvm.Cond.static arraycopyName ∈ Ts) (hini : Jvm.Cond.initialized "java/lang/System" ∈ Ts) (hfr : 1 ≤ R.frames) (hlo : 8 + (nativeFrameWords "java/lang/System" "arraycopy" 5 + 11) ≤ R.locals) :
    en_call p l e R s m args below meth c 0 0 Q cc nL D cA ad A H0 idx 5 none SJ_Jcopy := by
  intro As w r w' H locs pc ls rest hf hn hrcv hdg hP hS hsz hrest kk
  obtain ⟨hx, hb, hml, hown, hts⟩ := id S
  unfold SJ_Jcopy at hf
  split at hf
  next a i b j n =>
    split at hf
    next na nb ha hb2 =>
      split at hf
      next hh =>
        cases hf
        obtain ⟨g1, g2, g3, g4, g5, g6, g7⟩ := hh
        have hata := en_ws_at (cA := cA) (ad := ad) (w := w) g1
        have hatb := en_ws_at (cA := cA) (ad := ad) (w := w) g2
        rw [en_al_kd ha] at hata
        rw [en_al_kd hb2] at hatb
        have hset := en_ws_set (cA := cA) (ad := ad) (w := w) (f := va_cpy (w a) (w b) i.toNatClampNeg j.toNatClampNeg n.toNatClampNeg) g2
        rw [en_al_kd hb2] at hset
        exact va_copyi (rest := rest.map (en_v ad)) hx hb (hml.trans hsz.symm) hown (hts _ hlink) (hts _ hnat) (hts _ hstat) (hts _ hini) hK.1 hP (en_D hinj hA) hS a b 0 0 hata hatb rfl rfl rfl g3 g4 g5 g6 g7 (fun _ _ => rfl) hfr (by rw [en_v_cats]; omega) hdg (fun H1 locs1 q1 q2 q3 => kk H1 locs1 (by rw [en_WD, ← hset]; exact q1) q3)
      next => cases hf
    next => cases hf
  next => cases hf
end EnLib
