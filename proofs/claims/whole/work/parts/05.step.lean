theorem en_nn {a n b : Nat} (h : a = n ∨ a = 0) (h0 : a = b) (hb : b ≠ 0) : n = b := by omega
section EnStep
variable {p : Program} {l : Launch} {e : Env} {R : Room} {s : State} {m : MethodId} {args : Array Value} {below : List Frame} {meth : Method} {c : Code} {H : Heap} {locs : List Loc} {cells slots : Nat} {Q : State → Prop}
variable {cc : ByteArray} {pc nL : Nat} {ls : Array Slot} {own : String} {Ts : List Jvm.Cond} {D : va_G} {cA : Nat → ClassId} {ad : Nat → Nat} {A : Nat → Prop} {H0 : Heap} {X : en_X} {L L' : en_L} {st st' : List Value} {w w' : en_W} {i : Instr} {n pc' : Nat}
/-- what a walk stands on: the machine, the code, the words, the class, its locals, the kinds, the cells apart and free to be written, the numbers of fields and constants, the script -/
def en_C (p : Program) (s : State) (m : MethodId) (args : Array Value) (c : Code) (cc : ByteArray) (nL : Nat) (own : String) (Ts : List Jvm.Cond) (D : va_G) (cA : Nat → ClassId) (ad : Nat → Nat) (A : Nat → Prop) (H0 : Heap) (X : en_X) : Prop :=
  (p.tables.exec = Jvm.exec ∧ c.code = cc ∧ c.maxLocals = nL ∧ s.vm.findClass own = some m.cls ∧ ∀ w ∈ Ts, w.before args s = true) ∧ en_Kn D cA s ∧ (∀ i j, i < 62 → j < 62 → ad i = ad j → i = j) ∧ (∀ k, k < 62 → A (ad k)) ∧ (∀ f ∈ X.2.1, en_fok Ts own f) ∧ (∀ f ∈ X.2.2.2.1, Jvm.Cond.constant own f.1 f.2 ∈ Ts) ∧ (∀ f ∈ X.2.2.2.2.1, Jvm.Cond.constantLong own f.1 f.2 ∈ Ts) ∧ ∀ (n : Nat) (xs : Nat → Int32), en_scr X = some (n, xs) → va_X (ad 62) n xs s H0 ∧ ad 62 < H0.size ∧ ¬ A (ad 62)
def en_call (p : Program) (l : Launch) (e : Env) (R : Room) (s : State) (m : MethodId) (args : Array Value) (below : List Frame) (meth : Method) (c : Code) (cells slots : Nat) (Q : State → Prop) (cc : ByteArray) (nL : Nat) (D : va_G) (cA : Nat → ClassId) (ad : Nat → Nat) (A : Nat → Prop) (H0 : Heap) (idx n : Nat) (ci : Option Nat) (f : en_S) : Prop :=
  ∀ (As : List Value) (w : en_W) (r : Option Value) (w' : en_W) (H : Heap) (locs : List Loc) (pc : Nat) (ls : Array Slot) (rest : List Value), f As w = some (r, w') → As.length = n → en_rcv ci As = true → decode cc pc = .ok (if ci.isSome = true then .invokevirtual idx else .invokestatic idx, 3) → en_WD D cA ad w H → va_S A H0 H locs → ls.size = nL → (rest.map fun v => v.category).sum ≤ 8 →
    (∀ (H1 : Heap) (locs1 : List Loc), en_WD D cA ad w' H1 → va_S A H0 H1 locs1 → W p l e R s m args below meth c H1 locs1 cells slots Q (F0 m (pc + 3) ls ((r.toList ++ rest).map (en_v ad)))) → W p l e R s m args below meth c H locs cells slots Q (F0 m pc ls ((As.reverse ++ rest).map (en_v ad)))
set_option maxHeartbeats 4000000 in
set_option maxRecDepth 20000 in
theorem en_snd_mem (C : en_C p s m args c cc nL own Ts D cA ad A H0 X) (hd : decode cc pc = .ok (i, n)) (hn : en_len i = n ∨ en_len i = 0) (hP : en_WD D cA ad w H) (hL : en_lh ad ls nL L) (hS : va_S A H0 H locs) (hi : i = .iaload ∨ i = .iastore ∨ i = .aaload ∨ i = .arraylength ∨ (∃ k, i = .getfield k) ∨ (∃ k, i = .putfield k))
    (h : en_x X i pc L st w = some (pc', L', st', w')) (k : ∀ (H1 : Heap) (locs1 : List Loc) (ls1 : Array Slot), en_WD D cA ad w' H1 → en_lh ad ls1 nL L' → va_S A H0 H1 locs1 → W p l e R s m args below meth c H1 locs1 cells slots Q (F0 m pc' ls1 (st'.map (en_v ad)))) : W p l e R s m args below meth c H locs cells slots Q (F0 m pc ls (st.map (en_v ad))) := by
  obtain ⟨⟨hx, hb, hml, hown, hts⟩, ⟨hK, hNw⟩, hinj, hA, hf, hc1, hc2, hscr⟩ := id C
  have hD : va_D A (en_ws cA ad w) := en_D hinj hA
  rcases hi with rfl | rfl | rfl | rfl | ⟨j, rfl⟩ | ⟨j, rfl⟩
  · have hn1 : n = 1 := en_nn hn rfl (by decide)
    subst hn1
    simp only [en_x] at h
    split at h
    next i0 k0 r0 =>
      rw [Option.map_eq_some_iff] at h
      obtain ⟨v, hv, hh⟩ := h
      cases hh
      unfold en_iald at hv
      split at hv
      next hk =>
        subst hk
        split at hv
        next n xs hsx =>
          split at hv
          next => cases hv
          next hin =>
            cases hv
            obtain ⟨q1, q2, q3⟩ := hscr n xs hsx
            exact va_sld hx hb q1 q2 q3 hS hin hd (k H locs ls hP hL hS)
        next => cases hv
      next hk =>
        split at hv
        next hk62 =>
          split at hv
          next n hkd =>
            split at hv
            next => cases hv
            next hin =>
              cases hv
              have hat := en_ws_at (cA := cA) (ad := ad) (w := w) hk62
              rw [hkd] at hat
              exact va_iald hx hb hK hP k0 0 hat rfl hin hd (k H locs ls hP hL hS)
          next => cases hv
        next => cases hv
    next => cases h
  · have hn1 : n = 1 := en_nn hn rfl (by decide)
    subst hn1
    simp only [en_x] at h
    split at h
    next x0 i0 k0 r0 =>
      rw [Option.map_eq_some_iff] at h
      obtain ⟨v, hv, hh⟩ := h
      cases hh
      unfold en_iast at hv
      split at hv
      next hk62 =>
        split at hv
        next n hkd =>
          split at hv
          next => cases hv
          next hin =>
            cases hv
            have hat := en_ws_at (cA := cA) (ad := ad) (w := w) hk62
            rw [hkd] at hat
            refine va_iast hx hb hK hP hD hS k0 0 hat rfl hin hd (fun H1 locs1 hP1 hD1 hS1 => ?_)
            have hset := en_ws_set (cA := cA) (ad := ad) (w := w) (f := upd (w k0) i0.toNatClampNeg x0) hk62
            rw [hkd] at hset
            exact k H1 locs1 ls (by rw [en_WD, en_up, ← hset]; exact hP1) hL hS1
        next => cases hv
      next => cases hv
    next => cases h
  · have hn1 : n = 1 := en_nn hn rfl (by decide)
    subst hn1
    simp only [en_x] at h
    split at h
    next i0 k0 r0 =>
      rw [Option.map_eq_some_iff] at h
      obtain ⟨v, hv, hh⟩ := h
      cases hh
      unfold en_aald at hv
      split at hv
      next hk62 =>
        split at hv
        next t n f hkd =>
          split at hv
          next hin =>
            cases hv
            have hat := en_ws_at (cA := cA) (ad := ad) (w := w) hk62
            rw [hkd] at hat
            rcases hin.1 with ht | ht
            · subst ht
              exact va_aldq hx hb hK hP k0 1 hat rfl hin.2 hd (k H locs ls hP hL hS)
            · subst ht
              exact va_aldq hx hb hK hP k0 2 hat rfl hin.2 hd (k H locs ls hP hL hS)
          next => cases hv
        next => cases hv
      next => cases hv
    next => cases h
  · have hn1 : n = 1 := en_nn hn rfl (by decide)
    subst hn1
    simp only [en_x] at h
    split at h
    next k0 r0 =>
      rw [Option.map_eq_some_iff] at h
      obtain ⟨v, hv, hh⟩ := h
      cases hh
      unfold en_alen at hv
      split at hv
      next hk =>
        subst hk
        split at hv
        next n xs hsx =>
          cases hv
          obtain ⟨q1, q2, q3⟩ := hscr n xs hsx
          exact va_slen hx hb q1 q2 q3 hS hd (k H locs ls hP hL hS)
        next => cases hv
      next hk =>
        split at hv
        next hk62 =>
          split at hv
          next n hkd =>
            cases hv
            have hat := en_ws_at (cA := cA) (ad := ad) (w := w) hk62
            rw [hkd] at hat
            exact va_alen hx hb hK hP k0 0 hat rfl rfl hd (k H locs ls hP hL hS)
          next => cases hv
        next => cases hv
    next => cases h
  · have hn1 : n = 3 := en_nn hn rfl (by decide)
    subst hn1
    simp only [en_x] at h
    split at h
    next k0 r0 =>
      rw [Option.bind_eq_some_iff] at h
      obtain ⟨⟨ci, jj⟩, hfl, h⟩ := h
      rw [Option.map_eq_some_iff] at h
      obtain ⟨v, hv, hh⟩ := h
      cases hh
      obtain ⟨f, hfm, hf1, hf2⟩ := en_find_mem hfl
      obtain ⟨C0, T, N, hcl, hN, hin, hT1, hlink⟩ := hf f hfm
      cases hf2
      subst hf1
      unfold en_getf at hv
      split at hv
      next hk62 =>
        split at hv
        next c0 sl hkd =>
          split at hv
          next hcc =>
            subst hcc
            have hat := en_ws_at (cA := cA) (ad := ad) (w := w) hk62
            rw [hkd] at hat
            have hfs : ∀ v : Value, (en_fs ad (w k0) 0 sl)[f.2.2.1]? = some (en_v ad v) → W p l e R s m args below meth c H locs cells slots Q (F0 m (pc + 3) ls (en_v ad v :: r0.map (en_v ad))) → W p l e R s m args below meth c H locs cells slots Q (F0 m pc ls (.ref (ad k0) :: r0.map (en_v ad))) := by
              intro v hv2 kk
              rcases hlink with ⟨-, hlink⟩ | ⟨host, -, hlink⟩
              · exact va_get hx hb hts hin hown hK hP k0 hat hcl f.2.2.1 hN (hts _ hlink) (fun x9 h9 => by rw [← hT1]; exact h9) hv2 hd kk
              · exact va_getN hx hb hts hin hown hK hP k0 hat hcl f.2.2.1 hN (va_Nw.use rfl (hNw _ hlink)) (fun x9 h9 => by rw [← hT1]; exact h9) hv2 hd kk
            split at hv
            next hsl =>
              cases hv
              exact hfs (.int (w k0 f.2.2.1)) (by rw [en_fs_at, hsl]; simp [en_v]) (k H locs ls hP hL hS)
            next r hsl =>
              cases hv
              exact hfs (.ref r) (by rw [en_fs_at, hsl]; simp [en_v]) (k H locs ls hP hL hS)
            next => cases hv
          next => cases hv
        next => cases hv
      next => cases hv
    next => cases h
  · have hn1 : n = 3 := en_nn hn rfl (by decide)
    subst hn1
    simp only [en_x] at h
    split at h
    next x0 k0 r0 =>
      rw [Option.bind_eq_some_iff] at h
      obtain ⟨⟨ci, jj⟩, hfl, h⟩ := h
      rw [Option.map_eq_some_iff] at h
      obtain ⟨v, hv, hh⟩ := h
      cases hh
      obtain ⟨f, hfm, hf1, hf2⟩ := en_find_mem hfl
      obtain ⟨C0, T, N, hcl, hN, hin, hT1, hlink⟩ := hf f hfm
      cases hf2
      subst hf1
      unfold en_putf at hv
      split at hv
      next hk62 =>
        split at hv
        next c0 sl hkd =>
          split at hv
          next hcc =>
            cases hv
            obtain ⟨hcc, hsl⟩ := hcc
            subst hcc
            have hat := en_ws_at (cA := cA) (ad := ad) (w := w) hk62
            have hset := en_ws_set (cA := cA) (ad := ad) (w := w) (f := upd (w k0) f.2.2.1 x0) hk62
            rw [hkd] at hat hset
            obtain ⟨⟨ty0, hty⟩, hnm⟩ := en_nm hcl
            obtain ⟨hlen, hsl2⟩ := en_kd_obj hk62 hkd hcl
            obtain ⟨hfin, hd1⟩ := hsl2 _ hsl
            have hkk : ∀ (H1 : Heap) (locs1 : List Loc), va_P D vwCl ((en_ws cA ad w).set k0 (ad k0, .inr (f.2.1, (en_fs ad (w k0) 0 sl).set f.2.2.1 (.int x0)))) H1 → va_D A ((en_ws cA ad w).set k0 (ad k0, .inr (f.2.1, (en_fs ad (w k0) 0 sl).set f.2.2.1 (.int x0)))) → va_S A H0 H1 locs1 → W p l e R s m args below meth c H1 locs1 cells slots Q (F0 m (pc + 3) ls (st'.map (en_v ad))) := by
              intro H1 locs1 hP1 hD1 hS1
              refine k H1 locs1 ls ?_ hL hS1
              rw [en_WD, en_up, ← hset]
              rw [en_fs_set hsl] at hP1
              exact hP1
            rcases hlink with ⟨-, hlink⟩ | ⟨host, -, hlink⟩
            · exact va_put hx hb hts hin ty0 hty hnm hown hK hP hD hS k0 hat hcl f.2.2.1 hN (hts _ hlink) (fun x9 h9 => by rw [← hT1]; exact h9) hfin hd1 rfl rfl (by rw [en_fs_len, hlen]; exact hN) hd hkk
            · exact va_putN hx hb hts hin ty0 hty hnm hown hK hP hD hS k0 hat hcl f.2.2.1 hN (va_Nw.use rfl (hNw _ hlink)) (fun x9 h9 => by rw [← hT1]; exact h9) hfin hd1 rfl rfl (by rw [en_fs_len, hlen]; exact hN) hd hkk
          next => cases hv
        next => cases hv
      next => cases hv
    next => cases h
end EnStep
