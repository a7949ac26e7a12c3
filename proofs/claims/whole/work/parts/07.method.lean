/-! ===== contracts by the engine ===== -/
def en_A (ad : Nat → Nat) : Nat → Prop := fun q => ∃ k : Nat, k < 62 ∧ q = ad k
def en_Pc (D : va_G) (cA : Nat → ClassId) (ad : Nat → Nat) (As : List Value) (w : en_W) : Array Value → State → Prop := va_Pc (As.map (en_v ad)) (fun U => en_WD D cA ad w U.heap ∧ en_Kn D cA U)
def en_Qc (D : va_G) (cA : Nat → ClassId) (ad : Nat → Nat) (r : Option Value) (w : en_W) : Array Value → State → Outcome → State → Prop := fun _ st oc t => oc = .returned (r.map (en_v ad)) ∧ en_WD D cA ad w t.heap ∧ va_F (en_A ad) st t
/-- a method's contract: from what f is asked for, it returns what f says, and the world is what f says -/
def en_M (l : Launch) (D : va_G) (cA : Nat → ClassId) (ad : Nat → Nat) (y : MethodName) (ws : List Jvm.Cond) (rm : Room) (f : en_S) : Prop := ∀ (As : List Value) (w : en_W) (r : Option Value) (w' : en_W), f As w = some (r, w') → Met l y ws rm (en_Pc D cA ad As w) (en_Qc D cA ad r w') 0 0 (en_A ad)
theorem en_blind {D : va_G} {cA : Nat → ClassId} {ad : Nat → Nat} {As : List Value} {w : en_W} : FrameBlind (en_Pc D cA ad As w) := fun a U g mk q => ⟨q.1, q.2.1, en_Kn.same (u := U) (U := U.calling g mk a) rfl q.2.2⟩
section EnMeth
variable {p : Program} {l : Launch} {e : Env} {R : Room} {s : State} {m : MethodId} {args : Array Value} {below : List Frame} {meth : Method} {c : Code} {H : Heap} {locs : List Loc} {cells slots : Nat} {Q : State → Prop}
variable {cc : ByteArray} {pc nL : Nat} {ls : Array Slot} {own : String} {Ts : List Jvm.Cond} {D : va_G} {cA : Nat → ClassId} {ad : Nat → Nat} {A : Nat → Prop} {H0 : Heap} {X : en_X}
theorem en_go (C : en_C p s m args c cc nL own Ts D cA ad A H0 X) (hcl : ∀ (idx n : Nat) (ci : Option Nat) (f : en_S), X.2.2.1 idx = some (n, ci, f) → en_call p l e R s m args below meth c cells slots Q cc nL D cA ad A H0 idx n ci f) (hdec : ∀ f ∈ X.1, decode cc f.1 = .ok (f.2.1, f.2.2) ∧ (en_len f.2.1 = f.2.2 ∨ en_len f.2.1 = 0)) {r : Option Value} {w' : en_W}
    (hret : ∀ (i : Instr) (n pc : Nat) (st : List Value) (H : Heap) (locs : List Loc) (ls : Array Slot), en_ret X i st = some r → decode cc pc = .ok (i, n) → (en_len i = n ∨ en_len i = 0) → en_WD D cA ad w' H → va_S A H0 H locs → W p l e R s m args below meth c H locs cells slots Q (F0 m pc ls (st.map (en_v ad)))) :
    ∀ (n pc : Nat) (L : en_L) (st : List Value) (w : en_W) (H : Heap) (locs : List Loc) (ls : Array Slot), en_run X n pc L st w = some (r, w') → en_WD D cA ad w H → en_lh ad ls nL L → va_S A H0 H locs → W p l e R s m args below meth c H locs cells slots Q (F0 m pc ls (st.map (en_v ad)))
  | 0, pc, L, st, w, H, locs, ls, h, _, _, _ => by cases h
  | n + 1, pc, L, st, w, H, locs, ls, h, hP, hL, hS => by
    unfold en_run at h
    split at h
    next => cases h
    next i n0 hd =>
      obtain ⟨f, hfm, hf1, hf2⟩ := en_find_mem hd
      obtain ⟨g1, g2⟩ := hdec f hfm
      rw [hf1, hf2] at g1
      rw [hf2] at g2
      dsimp only at g1 g2
      split at h
      next r0 hr0 =>
        cases h
        exact hret i n0 pc st H locs ls hr0 g1 g2 hP hS
      next =>
        split at h
        next pc' L' st' w1 hx =>
          exact en_snd C hcl g1 g2 hP hL hS hx (fun H1 locs1 ls1 q1 q2 q3 => en_go C hcl hdec hret n pc' L' st' w1 H1 locs1 ls1 h q1 q2 q3)
        next => cases h
def en_L0 (nL : Nat) (As : List Value) : en_L := (As.flatMap fun v => if v.category = 2 then [some v, none] else [some v]) ++ List.replicate (nL - (As.flatMap fun v => if v.category = 2 then [some v, none] else [some v]).length) none
theorem en_L0_args (ad : Nat → Nat) (t : en_L) : ∀ (As : List Value) (b i : Nat) (v : Value), (∀ (j : Nat) (v : Value), t[j]? ≠ some (some v)) → ((As.flatMap fun v => if v.category = 2 then [some v, none] else [some v]) ++ t)[i]? = some (some v) → (b + i, en_v ad v) ∈ lv_args b (As.map (en_v ad))
  | [], b, i, v, ht, h => absurd (by simpa using h) (ht i v)
  | a :: As, b, i, v, ht, h => by
    rw [List.flatMap_cons, List.append_assoc] at h
    rw [List.map_cons, lv_args, en_v_cat]
    by_cases ha : a.category = 2
    · rw [if_pos ha] at h ⊢
      match i, h with
      | 0, h =>
        simp at h
        rw [h]
        exact List.mem_cons_self
      | 1, h => simp at h
      | i + 2, h =>
        have := en_L0_args ad t As (b + 2) i v ht (by simpa using h)
        rw [show b + 2 + i = b + (i + 2) by omega] at this
        exact List.mem_cons_of_mem _ this
    · rw [if_neg ha] at h ⊢
      match i, h with
      | 0, h =>
        simp at h
        rw [h]
        exact List.mem_cons_self
      | i + 1, h =>
        have := en_L0_args ad t As (b + 1) i v ht (by simpa using h)
        rw [show b + 1 + i = b + (i + 1) by omega] at this
        exact List.mem_cons_of_mem _ this
theorem en_sl_len (ad : Nat → Nat) : ∀ As : List Value, (lg_sl (As.map (en_v ad))).length = (As.flatMap fun v => if v.category = 2 then [some v, none] else [some v]).length
  | [] => rfl
  | a :: As => by
    have ih := en_sl_len ad As
    unfold lg_sl at ih ⊢
    rw [List.map_cons, List.flatMap_cons, List.flatMap_cons, List.length_append, List.length_append, ih, en_v_cat]
    by_cases ha : a.category = 2
    · rw [if_pos ha, if_pos ha]; rfl
    · rw [if_neg ha, if_neg ha]; rfl
theorem en_entry (ad : Nat → Nat) {As : List Value} {nL : Nat} (h : (en_L0 nL As).length = nL) : en_lh ad ((lg_sl (As.map (en_v ad)) ++ List.replicate (nL - (lg_sl (As.map (en_v ad))).length) Slot.unset).toArray) nL (en_L0 nL As) := by
  have hle : (lg_sl (As.map (en_v ad))).length ≤ nL := by
    rw [en_sl_len]
    rw [en_L0, List.length_append, List.length_replicate] at h
    omega
  have hl := lv_entry (As.map (en_v ad)) hle
  refine ⟨hl.1, hl.2.1, h, fun i v hi => hl.2.2 (i, en_v ad v) ?_⟩
  have := en_L0_args ad (List.replicate (nL - (As.flatMap fun v => if v.category = 2 then [some v, none] else [some v]).length) none) As 0 i v (fun j v hj => by
    have := List.mem_of_getElem? hj
    have := List.eq_of_mem_replicate this
    cases this) hi
  rwa [Nat.zero_add] at this
theorem en_vcall {S0 : State → Outcome → State → Prop} {r : Option Value} {w1 : en_W} {rest : List Value} {st0 : List Value} {free : Nat → Prop} (hr : va_Run p l e R s m args below meth c H locs cells slots 0 0 (F0 m pc ls st0) rest S0 free) (hfree : ∀ q, free q → A q) (hS : va_S A H0 H locs)
    (hQ : ∀ st oc t, S0 st oc t → oc = .returned (r.map (en_v ad)) ∧ en_WD D cA ad w1 t.heap ∧ va_F A st t)
    (kk : ∀ (H1 : Heap) (locs1 : List Loc), en_WD D cA ad w1 H1 → va_S A H0 H1 locs1 → W p l e R s m args below meth c H1 locs1 cells slots Q (F0 m (pc + 3) ls ((r.map (en_v ad)).toList ++ rest))) : W p l e R s m args below meth c H locs cells slots Q (F0 m pc ls st0) := by
  intro T hT Y
  obtain ⟨v, st₀, t, T', L, h0, Y', hL, e1, e2, hq, st⟩ := hr T hT Y
  obtain ⟨hv, hw, hz, hk⟩ := hQ _ _ _ hq
  cases hv
  rw [h0] at hz hk
  obtain ⟨t2, a1, b1⟩ := kk T'.heap (locs ++ L) (by rw [e1]; exact hw)
    ⟨Nat.le_trans hS.1 (by rw [e1]; exact hz), fun q h1 h2 => by rw [e1, hk q (Nat.lt_of_lt_of_le h1 hS.1) h2]; exact hS.2.1 q h1 h2, fun q hq => by
      rcases List.mem_append.mp hq with h | h
      · exact hS.2.2 q h
      · exact hfree _ (hL q h)⟩ T' rfl Y'
  exact ⟨t2, st t2 a1, b1⟩
theorem en_good {w0 : Jvm.Cond} (hT : ∀ w ∈ wsG, w ∈ Ts) (h0 : w0 ∈ wsG) : GoodIn Ts (w0 :: wsG) := fun w h => by
  have hw : w ∈ wsG := by
    rcases List.mem_cons.mp h with h | h
    · rw [h]; exact h0
    · exact h
  exact ⟨hT w hw, good_of_word (wsG_good w hw)⟩
/-- the callee's words: its own code, and all that the law's methods need -/
abbrev en_ys (y : MethodName) (bytes : ByteArray) (maxL : Nat) (ret : Option FieldType) : List Jvm.Cond := .code y bytes maxL ret :: wsG
theorem en_F_mono {st t : State} (h : va_F (en_A ad) st t) (hA : ∀ k, k < 62 → A (ad k)) : va_F A st t := ⟨h.1, fun q h1 h2 => h.2 q h1 (fun z => h2 (by obtain ⟨k, hk, e⟩ := z; rw [e]; exact hA k hk))⟩
theorem en_free (hA : ∀ k, k < 62 → A (ad k)) : ∀ q, en_A ad q → A q := fun q h => by obtain ⟨k, hk, e⟩ := h; rw [e]; exact hA k hk
/-- a call of a method of an object, by its contract: 'nest' for a nest mate's private one -/
theorem en_callV {y : MethodName} {bytes : ByteArray} {maxL n idx ci : Nat} {ret : Option FieldType} {rm : Room} {f : en_S} {C host : String} {T : u_T} {N : Nat} (S : CallFix p m c cc nL s args Ts own) (hM : en_M l D cA ad y (en_ys y bytes maxL ret) rm f) (hK : en_Kn D cA s) (hA : ∀ k, k < 62 → A (ad k)) (hT : ∀ w ∈ wsG, w ∈ Ts)
    (hC : vwCl[ci]? = some (C, T, N)) (hlink : Jvm.Cond.methodLink own idx y ∈ wsG ∨ Jvm.Cond.methodLinkNest own idx y host ∈ wsL_law_r43) (hcode : Jvm.Cond.code y bytes maxL ret ∈ wsG) (hini : Jvm.Cond.initialized y.cls ∈ wsG) (hin : Jvm.Cond.instanceMethod y ∈ wsG) (hse : Jvm.Cond.selects C y y ∈ wsG)
    (hd : y.cls ≠ "java/lang/invoke/MethodHandle" ∧ y.cls ≠ "java/lang/invoke/VarHandle" ∧ (parseMethodDescriptor y.desc).map (fun d => d.parameters.length) = some n) (hrc : rm.cells = 0 ∧ rm.slots = 0) (hR : rm.frames + 1 ≤ R.frames ∧ 8 + (maxL + 11) + rm.locals ≤ R.locals) (hcs : cells ≤ R.cells ∧ slots ≤ R.slots) :
    en_call p l e R s m args below meth c cells slots Q cc nL D cA ad A H0 idx (n + 1) (some ci) f := by
  intro As w r w' H locs pc ls rest hf hn hrcv hdg hP hS hsz hrest kk
  obtain ⟨hx, hb, hml, hown, hts⟩ := id S
  have hts' : ∀ w ∈ wsG, w.before args s = true := fun w h => hts w (hT w h)
  unfold en_rcv at hrcv
  match As, hrcv with
  | .ref k :: As', hrcv =>
    have hrcv : en_is k ci = true := hrcv
    unfold en_is at hrcv
    rw [Bool.and_eq_true, decide_eq_true_eq, beq_iff_eq] at hrcv
    obtain ⟨hk62, hcls⟩ := hrcv
    unfold en_cls at hcls
    split at hcls
    next c0 sl hkd =>
      cases hcls
      have hat := en_ws_at (cA := cA) (ad := ad) (w := w) hk62
      rw [hkd] at hat
      have hrv := va_recv hK.1 hP hC hat
      have hpre : PreV s H C (ad k) (en_Pc D cA ad (.ref k :: As') w) (As'.map (en_v ad)) := ⟨en_blind, hrv, fun U hU hW => ⟨rfl, by rw [hU]; exact hP, en_Kn.warm hW hK⟩⟩
      have hstk : ((.ref k :: As').reverse ++ rest).map (en_v ad) = (As'.map (en_v ad)).reverse ++ .ref (ad k) :: rest.map (en_v ad) := by simp [en_v]
      have hn' : (As'.map (en_v ad)).length = n := by simpa using hn
      have hkk : ∀ (H1 : Heap) (locs1 : List Loc), en_WD D cA ad w' H1 → va_S A H0 H1 locs1 → W p l e R s m args below meth c H1 locs1 cells slots Q (F0 m (pc + 3) ls ((r.map (en_v ad)).toList ++ rest.map (en_v ad))) := by
        intro H1 locs1 q1 q2
        have := kk H1 locs1 q1 q2
        rw [List.map_append] at this
        cases r <;> exact this
      have hQ : ∀ st oc t, en_Qc D cA ad r w' (Value.ref (ad k) :: As'.map (en_v ad)).toArray st oc t → oc = .returned (r.map (en_v ad)) ∧ en_WD D cA ad w' t.heap ∧ va_F A st t := fun st oc t q => ⟨q.1, q.2.1, en_F_mono q.2.2 hA⟩
      rw [hstk]
      rcases hlink with hlink | hlink
      · exact en_vcall (va_runV (n := n) S (hM _ w r w' hf) ⟨callB_of n hts (en_good hT hcode) rfl hrc.1 hrc.2 (hts' _ hini) (hts' _ hlink) hd hR, hts' _ hin, hts' _ hse⟩ hpre rfl hn' hsz rfl (lv_room (by rw [en_v_cats]; exact hrest)) hdg hcs) (en_free hA) hS hQ hkk
      · exact en_vcall (va_runVN (n := n) (host := host) S (hM _ w r w' hf) ⟨va_cnB n hts (en_good hT hcode) rfl hrc.1 hrc.2 (hK.2 _ hlink) (hts' _ hini) hd hR, hts' _ hin, hts' _ hse⟩ hpre rfl hn' hsz rfl (lv_room (by rw [en_v_cats]; exact hrest)) hdg hcs) (en_free hA) hS hQ hkk
    next => cases hcls
theorem en_callS {y : MethodName} {bytes : ByteArray} {maxL n idx : Nat} {ret : Option FieldType} {rm : Room} {f : en_S} {host : String} (S : CallFix p m c cc nL s args Ts own) (hM : en_M l D cA ad y (en_ys y bytes maxL ret) rm f) (hK : en_Kn D cA s) (hA : ∀ k, k < 62 → A (ad k)) (hT : ∀ w ∈ wsG, w ∈ Ts)
    (hlink : Jvm.Cond.methodLink own idx y ∈ wsG ∨ Jvm.Cond.methodLinkNest own idx y host ∈ wsL_law_r43) (hcode : Jvm.Cond.code y bytes maxL ret ∈ wsG) (hini : Jvm.Cond.initialized y.cls ∈ wsG) (hst : Jvm.Cond.static y ∈ wsG)
    (hd : y.cls ≠ "java/lang/invoke/MethodHandle" ∧ y.cls ≠ "java/lang/invoke/VarHandle" ∧ (parseMethodDescriptor y.desc).map (fun d => d.parameters.length) = some n) (hrc : rm.cells = 0 ∧ rm.slots = 0) (hR : rm.frames + 1 ≤ R.frames ∧ 8 + (maxL + 11) + rm.locals ≤ R.locals) (hcs : cells ≤ R.cells ∧ slots ≤ R.slots) :
    en_call p l e R s m args below meth c cells slots Q cc nL D cA ad A H0 idx n none f := by
  intro As w r w' H locs pc ls rest hf hn hrcv hdg hP hS hsz hrest kk
  obtain ⟨hx, hb, hml, hown, hts⟩ := id S
  have hts' : ∀ w ∈ wsG, w.before args s = true := fun w h => hts w (hT w h)
  have hpre : PreS s H (en_Pc D cA ad As w) (As.map (en_v ad)) := ⟨en_blind, fun U hU hW => ⟨rfl, by rw [hU]; exact hP, en_Kn.warm hW hK⟩⟩
  have hstk : (As.reverse ++ rest).map (en_v ad) = (As.map (en_v ad)).reverse ++ rest.map (en_v ad) := by simp
  have hn' : (As.map (en_v ad)).length = n := by simpa using hn
  have hkk : ∀ (H1 : Heap) (locs1 : List Loc), en_WD D cA ad w' H1 → va_S A H0 H1 locs1 → W p l e R s m args below meth c H1 locs1 cells slots Q (F0 m (pc + 3) ls ((r.map (en_v ad)).toList ++ rest.map (en_v ad))) := by
    intro H1 locs1 q1 q2
    have := kk H1 locs1 q1 q2
    rw [List.map_append] at this
    cases r <;> exact this
  have hQ : ∀ st oc t, en_Qc D cA ad r w' (As.map (en_v ad)).toArray st oc t → oc = .returned (r.map (en_v ad)) ∧ en_WD D cA ad w' t.heap ∧ va_F A st t := fun st oc t q => ⟨q.1, q.2.1, en_F_mono q.2.2 hA⟩
  rw [hstk]
  rcases hlink with hlink | hlink
  · exact en_vcall (va_runS (n := n) S (hM _ w r w' hf) ⟨callB_of n hts (en_good hT hcode) rfl hrc.1 hrc.2 (hts' _ hini) (hts' _ hlink) hd hR, hts' _ hst⟩ hpre rfl hn' hsz rfl (lv_room (by rw [en_v_cats]; exact hrest)) hdg hcs) (en_free hA) hS hQ hkk
  · exact en_vcall (va_runSN (n := n) (host := host) S (hM _ w r w' hf) ⟨va_cnB n hts (en_good hT hcode) rfl hrc.1 hrc.2 (hK.2 _ hlink) (hts' _ hini) hd hR, hts' _ hst, trivial⟩ hpre rfl hn' hsz rfl (lv_room (by rw [en_v_cats]; exact hrest)) hdg hcs) (en_free hA) hS hQ hkk
def en_cf (l : List (Nat × Nat × Option Nat × en_S)) : Nat → Option (Nat × Option Nat × en_S) := fun i => (l.find? (fun e => e.1 == i)).map (fun e => e.2)
/-- a method by its engine: f is what the engine runs -/
theorem en_meth {clL : List (Nat × Nat × Option Nat × en_S)} {y : MethodName} {maxL : Nat} {ret : Option FieldType} {rm : Room} {f : en_S} (X : en_X) (hy : plainName y.cls = true) (hinj : ∀ i j, i < 62 → j < 62 → ad i = ad j → i = j) (hfl : ∀ f ∈ X.2.1, en_fok (en_ys y cc maxL ret) y.cls f) (hc1 : ∀ f ∈ X.2.2.2.1, Jvm.Cond.constant y.cls f.1 f.2 ∈ en_ys y cc maxL ret) (hc2 : ∀ f ∈ X.2.2.2.2.1, Jvm.Cond.constantLong y.cls f.1 f.2 ∈ en_ys y cc maxL ret)
    (hsc : en_scr X = none) (hrt : en_rt X = ret) (hdec : ∀ f ∈ X.1, decode cc f.1 = .ok (f.2.1, f.2.2) ∧ (en_len f.2.1 = f.2.2 ∨ en_len f.2.1 = 0))
    (hcf : X.2.2.1 = en_cf clL) (hcl : ∀ (p : Program) (e : Env) (s : State) (m : MethodId) (args : Array Value) (below : List Frame) (meth : Method) (c : Code) (Q : State → Prop) (H0 : Heap), CallFix p m c cc maxL s args (en_ys y cc maxL ret) y.cls → en_Kn D cA s → ∀ q ∈ clL, en_call p l e rm s m args below meth c 0 0 Q cc maxL D cA ad (en_A ad) H0 q.1 q.2.1 q.2.2.1 q.2.2.2)
    (hev : ∀ As w r w', f As w = some (r, w') → (en_L0 maxL As).length = maxL ∧ ∃ n, en_run X n 0 (en_L0 maxL As) [] w = some (r, w')) : en_M l D cA ad y (en_ys y cc maxL ret) rm f := by
  intro As w r w' hf
  obtain ⟨hlen, n, hrun⟩ := hev As w r w' hf
  refine Met.ofW (cc := cc) (maxL := maxL) (ret := ret) hy rfl ?_
  intro p e s m args below meth c s₁ B hml hv
  obtain ⟨rfl, hP, hK⟩ := hv
  have hx := B.exec
  have hb := B.bytes
  have hr := B.returns
  have hts := atoms_spec (ws := en_ys y cc maxL ret) B.pre
  have hown : s.vm.findClass y.cls = some m.cls := findClass_of_methodNamed B.named
  have hlocks := B.notSynchronized
  rw [lg_entry_eq]
  have hA : ∀ k, k < 62 → en_A ad (ad k) := fun k hk => ⟨k, hk, rfl⟩
  have C : en_C p s m (As.map (en_v ad)).toArray c cc maxL y.cls (en_ys y cc maxL ret) D cA ad (en_A ad) s.heap X := ⟨⟨hx, hb, hml, hown, hts⟩, hK, hinj, hA, hfl, hc1, hc2, fun n xs h => by rw [hsc] at h; cases h⟩
  have hcl' := hcl p e s m (As.map (en_v ad)).toArray below meth c (MQ below (en_Qc D cA ad r w') (As.map (en_v ad)).toArray s 0 0 (en_A ad)) s.heap ⟨hx, hb, hml, hown, hts⟩ hK
  refine en_go C (fun idx n ci f h => by
    rw [hcf] at h
    obtain ⟨q, hq, h1, h2⟩ := en_find_mem h
    have := hcl' q hq
    rw [h1, h2] at this
    exact this) hdec ?_ n 0 (en_L0 maxL As) [] w s.heap [] _ hrun hP (en_entry ad hlen) va_S.rf
  intro i n pc st H locs ls hret hd hn hP' hS
  have hq : ∀ t : State, t.heap = H → s.WarmedH t.vm → en_Qc D cA ad r w' (As.map (en_v ad)).toArray s (.returned (r.map (en_v ad))) t := fun t ht hW => ⟨rfl, by rw [ht]; exact hP', hS.F ht⟩
  unfold en_ret at hret
  rw [hrt] at hret
  split at hret
  · have hn1 : n = 1 := en_nn hn rfl (by decide)
    subst hn1
    split at hret
    next v =>
      split at hret
      next t =>
        split at hret
        next hna =>
          cases hret
          exact W.zret hx hb hr hna hq hS.2.2 hd
        next => cases hret
      next => cases hret
    next => cases hret
  · have hn1 : n = 1 := en_nn hn rfl (by decide)
    subst hn1
    split at hret
    next v =>
      split at hret
      next hl =>
        cases hret
        exact W.lret hx hb (hr.trans hl) hq hS.2.2 hd
      next => cases hret
    next => cases hret
  · have hn1 : n = 1 := en_nn hn rfl (by decide)
    subst hn1
    split at hret
    next v =>
      split at hret
      next nm =>
        cases hret
        exact W.aret hx hb hr (Or.inl ⟨_, rfl⟩) (Or.inr ⟨_, rfl⟩) hq hS.2.2 hd
      next => cases hret
    next =>
      split at hret
      next nm =>
        cases hret
        exact W.aret hx hb hr (Or.inl ⟨_, rfl⟩) (Or.inl rfl) hq hS.2.2 hd
      next => cases hret
    next => cases hret
  · have hn1 : n = 1 := en_nn hn rfl (by decide)
    subst hn1
    split at hret
    next =>
      split at hret
      next hl =>
        cases hret
        exact W.vret hx hb (hr.trans hl) hq hS.2.2 hd
      next => cases hret
    next => cases hret
  · cases hret
end EnMeth
