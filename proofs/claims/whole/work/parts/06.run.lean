section EnRun
variable {p : Program} {l : Launch} {e : Env} {R : Room} {s : State} {m : MethodId} {args : Array Value} {below : List Frame} {meth : Method} {c : Code} {H : Heap} {locs : List Loc} {cells slots : Nat} {Q : State → Prop}
variable {cc : ByteArray} {pc nL : Nat} {ls : Array Slot} {own : String} {Ts : List Jvm.Cond} {D : va_G} {cA : Nat → ClassId} {ad : Nat → Nat} {A : Nat → Prop} {H0 : Heap} {X : en_X} {L L' : en_L} {st st' : List Value} {w w' : en_W} {i : Instr} {n pc' : Nat}
theorem en_c1_icmp {co : Jvm.ClassFile.Cond} {x y : Int32} {off : Int} {r : List Value} (hx : p.tables.exec = Jvm.exec) (hb : c.code = cc) (hd : decode cc pc = .ok (.if_icmp co off, 3)) (kt : ∀ tgt : Nat, (pc : Int) + off = (tgt : Int) → en_c1 co x y = true → W p l e R s m args below meth c H locs cells slots Q (F0 m tgt ls r)) (kf : en_c1 co x y = false → W p l e R s m args below meth c H locs cells slots Q (F0 m (pc + 3) ls r)) (h0 : en_c1 co x y = true → 0 ≤ (pc : Int) + off) : W p l e R s m args below meth c H locs cells slots Q (F0 m pc ls (.int y :: .int x :: r)) := by
  by_cases hc : en_c1 co x y = true
  · obtain ⟨tgt, ht⟩ : ∃ tgt : Nat, (pc : Int) + off = (tgt : Int) := ⟨((pc : Int) + off).toNat, by have := h0 hc; omega⟩
    have kk := kt tgt ht hc
    cases co <;> simp only [en_c1, decide_eq_true_eq, Bool.not_eq_true', decide_eq_false_iff_not] at hc
    · exact lv_icmp_eq hx hb hd ht (fun _ => kk) (fun q => absurd hc q)
    · exact lv_icmp_ne hx hb hd ht (fun _ => kk) (fun q => absurd q hc)
    · exact lv_icmp_lt hx hb hd ht (fun _ => kk) (fun q => absurd hc q)
    · exact lv_icmp_ge hx hb hd ht (fun _ => kk) (fun q => absurd hc q)
    · exact lv_icmp_gt hx hb hd ht (fun _ => kk) (fun q => absurd hc q)
    · exact lv_icmp_le hx hb hd ht (fun _ => kk) (fun q => absurd hc q)
  · have hc : en_c1 co x y = false := by simpa using hc
    have kk := kf hc
    have go : ∀ tgt : Nat, (pc : Int) + off = (tgt : Int) → W p l e R s m args below meth c H locs cells slots Q (F0 m pc ls (.int y :: .int x :: r)) := by
      intro tgt ht
      cases co <;> simp only [en_c1, decide_eq_false_iff_not, Bool.not_eq_false', decide_eq_true_eq] at hc
      · exact lv_icmp_eq hx hb hd ht (fun q => absurd q hc) (fun _ => kk)
      · exact lv_icmp_ne hx hb hd ht (fun q => absurd hc q) (fun _ => kk)
      · exact lv_icmp_lt hx hb hd ht (fun q => absurd q hc) (fun _ => kk)
      · exact lv_icmp_ge hx hb hd ht (fun q => absurd q hc) (fun _ => kk)
      · exact lv_icmp_gt hx hb hd ht (fun q => absurd q hc) (fun _ => kk)
      · exact lv_icmp_le hx hb hd ht (fun q => absurd q hc) (fun _ => kk)
    by_cases h1 : 0 ≤ (pc : Int) + off
    · exact go ((pc : Int) + off).toNat (by omega)
    · intro T hT Y
      obtain ⟨t, a, b⟩ := kk T hT Y
      refine ⟨t, ?_, b⟩
      cases co <;> simp only [en_c1, decide_eq_false_iff_not, Bool.not_eq_false', decide_eq_true_eq] at hc
      · jvm_step Y.here [Y.here.top, hx, hb, hd, Op.if_icmp.holds, hc]
        exact a
      · jvm_step Y.here [Y.here.top, hx, hb, hd, Op.if_icmp.holds, hc]
        exact a
      · jvm_step Y.here [Y.here.top, hx, hb, hd, Op.if_icmp.holds, hc]
        exact a
      · jvm_step Y.here [Y.here.top, hx, hb, hd, Op.if_icmp.holds, hc]
        exact a
      · jvm_step Y.here [Y.here.top, hx, hb, hd, Op.if_icmp.holds, hc]
        exact a
      · jvm_step Y.here [Y.here.top, hx, hb, hd, Op.if_icmp.holds, hc]
        exact a
theorem en_c1_if {co : Jvm.ClassFile.Cond} {x : Int32} {off : Int} {r : List Value} (hx : p.tables.exec = Jvm.exec) (hb : c.code = cc) (hd : decode cc pc = .ok (.ifCond co off, 3)) (kt : ∀ tgt : Nat, (pc : Int) + off = (tgt : Int) → en_c1 co x 0 = true → W p l e R s m args below meth c H locs cells slots Q (F0 m tgt ls r)) (kf : en_c1 co x 0 = false → W p l e R s m args below meth c H locs cells slots Q (F0 m (pc + 3) ls r)) (h0 : en_c1 co x 0 = true → 0 ≤ (pc : Int) + off) : W p l e R s m args below meth c H locs cells slots Q (F0 m pc ls (.int x :: r)) := by
  by_cases hc : en_c1 co x 0 = true
  · obtain ⟨tgt, ht⟩ : ∃ tgt : Nat, (pc : Int) + off = (tgt : Int) := ⟨((pc : Int) + off).toNat, by have := h0 hc; omega⟩
    have kk := kt tgt ht hc
    cases co <;> simp only [en_c1, decide_eq_true_eq, Bool.not_eq_true', decide_eq_false_iff_not] at hc
    · exact lv_if_eq hx hb hd ht (fun _ => kk) (fun q => absurd hc q)
    · exact lv_if_ne hx hb hd ht (fun _ => kk) (fun q => absurd q hc)
    · exact lv_if_lt hx hb hd ht (fun _ => kk) (fun q => absurd hc q)
    · exact lv_if_ge hx hb hd ht (fun _ => kk) (fun q => absurd hc q)
    · exact lv_if_gt hx hb hd ht (fun _ => kk) (fun q => absurd hc q)
    · exact lv_if_le hx hb hd ht (fun _ => kk) (fun q => absurd hc q)
  · have hc : en_c1 co x 0 = false := by simpa using hc
    have kk := kf hc
    have go : ∀ tgt : Nat, (pc : Int) + off = (tgt : Int) → W p l e R s m args below meth c H locs cells slots Q (F0 m pc ls (.int x :: r)) := by
      intro tgt ht
      cases co <;> simp only [en_c1, decide_eq_false_iff_not, Bool.not_eq_false', decide_eq_true_eq] at hc
      · exact lv_if_eq hx hb hd ht (fun q => absurd q hc) (fun _ => kk)
      · exact lv_if_ne hx hb hd ht (fun q => absurd hc q) (fun _ => kk)
      · exact lv_if_lt hx hb hd ht (fun q => absurd q hc) (fun _ => kk)
      · exact lv_if_ge hx hb hd ht (fun q => absurd q hc) (fun _ => kk)
      · exact lv_if_gt hx hb hd ht (fun q => absurd q hc) (fun _ => kk)
      · exact lv_if_le hx hb hd ht (fun q => absurd q hc) (fun _ => kk)
    by_cases h1 : 0 ≤ (pc : Int) + off
    · exact go ((pc : Int) + off).toNat (by omega)
    · intro T hT Y
      obtain ⟨t, a, b⟩ := kk T hT Y
      refine ⟨t, ?_, b⟩
      cases co <;> simp only [en_c1, decide_eq_false_iff_not, Bool.not_eq_false', decide_eq_true_eq] at hc
      · jvm_step Y.here [Y.here.top, hx, hb, hd, Op.ifCond.holds, hc]
        exact a
      · jvm_step Y.here [Y.here.top, hx, hb, hd, Op.ifCond.holds, hc]
        exact a
      · jvm_step Y.here [Y.here.top, hx, hb, hd, Op.ifCond.holds, hc]
        exact a
      · jvm_step Y.here [Y.here.top, hx, hb, hd, Op.ifCond.holds, hc]
        exact a
      · jvm_step Y.here [Y.here.top, hx, hb, hd, Op.ifCond.holds, hc]
        exact a
      · jvm_step Y.here [Y.here.top, hx, hb, hd, Op.ifCond.holds, hc]
        exact a

set_option maxHeartbeats 8000000 in
set_option maxRecDepth 20000 in
theorem en_snd (C : en_C p s m args c cc nL own Ts D cA ad A H0 X) (hcl : ∀ (idx n : Nat) (ci : Option Nat) (f : en_S), X.2.2.1 idx = some (n, ci, f) → en_call p l e R s m args below meth c cells slots Q cc nL D cA ad A H0 idx n ci f) (hd : decode cc pc = .ok (i, n)) (hn : en_len i = n ∨ en_len i = 0) (hP : en_WD D cA ad w H) (hL : en_lh ad ls nL L) (hS : va_S A H0 H locs)
    (h : en_x X i pc L st w = some (pc', L', st', w')) (k : ∀ (H1 : Heap) (locs1 : List Loc) (ls1 : Array Slot), en_WD D cA ad w' H1 → en_lh ad ls1 nL L' → va_S A H0 H1 locs1 → W p l e R s m args below meth c H1 locs1 cells slots Q (F0 m pc' ls1 (st'.map (en_v ad)))) : W p l e R s m args below meth c H locs cells slots Q (F0 m pc ls (st.map (en_v ad))) := by
  obtain ⟨⟨hx, hb, hml, hown, hts⟩, ⟨hK, hNw⟩, hinj, hA, hf, hc1, hc2, hscr⟩ := id C
  have kz : ∀ (L'' : en_L), en_lh ad ls nL L'' → L'' = L' → w = w' → W p l e R s m args below meth c H locs cells slots Q (F0 m pc' ls (st'.map (en_v ad))) := by
    intro L'' h1 h2 h3
    subst h2; subst h3
    exact k H locs ls hP h1 hS
  have sto : ∀ (v : Value) (i : Nat) (ls' : Array Slot), en_sto L i v = L' → w = w' → lv_has ls' nL ((i, en_v ad v) :: (en_prs ad L).filter (fun q => !(q.1 == i) && !(q.1 + 1 == i && q.2.category == 2))) → W p l e R s m args below meth c H locs cells slots Q (F0 m pc' ls' (st'.map (en_v ad))) := by
    intro v i ls' h1 h2 h3
    subst h1; subst h2
    exact k H locs ls' hP (en_lh_sto hL.2.2.1 h3) hS
  have stl : ∀ (v : Value) (i : Nat) (ls' : Array Slot), en_stl L i v = L' → w = w' → lv_has ls' nL ((i, en_v ad v) :: (en_prs ad L).filter (fun q => !(q.1 == i) && (!(q.1 == i + 1) && !(q.1 + 1 == i && q.2.category == 2)))) → W p l e R s m args below meth c H locs cells slots Q (F0 m pc' ls' (st'.map (en_v ad))) := by
    intro v i ls' h1 h2 h3
    subst h1; subst h2
    exact k H locs ls' hP (en_lh_stl hL.2.2.1 h3) hS
  have hlen : L.length = nL := hL.2.2.1
  have lh : lv_has ls nL (en_prs ad L) := en_lh_has hL
  have tto : ∀ {o : Int} {r : List Value}, en_to pc o L r w = some (pc', L', st', w') → ∃ tgt : Nat, (pc : Int) + o = (tgt : Int) ∧ W p l e R s m args below meth c H locs cells slots Q (F0 m tgt ls (r.map (en_v ad))) := by
    intro o r h1
    obtain ⟨h2, h3⟩ := en_to_some h1
    cases h3
    exact ⟨pc', h2, k H locs ls hP hL hS⟩
  cases i
  case iconst c0 =>
    have hn1 : n = 1 := en_nn hn rfl (by decide)
    subst hn1
    cases h
    exact lv_iconst hx hb hd rfl (kz _ hL rfl rfl)
  case bipush c0 =>
    have hn1 : n = 2 := en_nn hn rfl (by decide)
    subst hn1
    cases h
    exact lv_bipush hx hb hd rfl (kz _ hL rfl rfl)
  case sipush c0 =>
    have hn1 : n = 3 := en_nn hn rfl (by decide)
    subst hn1
    cases h
    exact lv_sipush hx hb hd rfl (kz _ hL rfl rfl)
  case lconst c0 =>
    have hn1 : n = 1 := en_nn hn rfl (by decide)
    subst hn1
    cases h
    exact lv_lconst hx hb hd rfl (kz _ hL rfl rfl)
  case aconst_null =>
    have hn1 : n = 1 := en_nn hn rfl (by decide)
    subst hn1
    cases h
    exact lv_null hx hb hd (kz _ hL rfl rfl)
  case ldc k0 =>
    have hn1 : n = 2 := en_nn hn rfl (by decide)
    subst hn1
    simp only [en_x, Option.map_eq_some_iff] at h
    obtain ⟨v, hv, hh⟩ := h
    cases hh
    obtain ⟨f, hfm, hf1, hf2⟩ := en_find_mem hv
    have hw := hts _ (hc1 f hfm)
    rw [hf1, hf2] at hw
    exact lv_ldc hx hb hown hw hd (kz _ hL rfl rfl)
  case ldc_w k0 =>
    have hn1 : n = 3 := en_nn hn rfl (by decide)
    subst hn1
    simp only [en_x, Option.map_eq_some_iff] at h
    obtain ⟨v, hv, hh⟩ := h
    cases hh
    obtain ⟨f, hfm, hf1, hf2⟩ := en_find_mem hv
    have hw := hts _ (hc1 f hfm)
    rw [hf1, hf2] at hw
    exact lv_ldcw hx hb hown hw hd (kz _ hL rfl rfl)
  case ldc2_w k0 =>
    have hn1 : n = 3 := en_nn hn rfl (by decide)
    subst hn1
    simp only [en_x, Option.map_eq_some_iff] at h
    obtain ⟨v, hv, hh⟩ := h
    cases hh
    obtain ⟨f, hfm, hf1, hf2⟩ := en_find_mem hv
    have hw := hts _ (hc2 f hfm)
    rw [hf1, hf2] at hw
    exact lv_ldc2 hx hb hown hw hd (kz _ hL rfl rfl)
  case iload_n k0 =>
    have hn1 : n = 1 := en_nn hn rfl (by decide)
    subst hn1
    simp only [en_x, Option.map_eq_some_iff] at h
    obtain ⟨v, hv, hh⟩ := h
    cases hh
    obtain ⟨h1, h2⟩ := en_ld_at hv
    have h3 := hL.2.2.2 _ _ h1
    cases v <;> try cases h2
    exact lv_iload_n hx hb hd rfl h3 (kz _ hL rfl rfl)
  case iload k0 =>
    have hn1 : n = 2 := en_nn hn rfl (by decide)
    subst hn1
    simp only [en_x, Option.map_eq_some_iff] at h
    obtain ⟨v, hv, hh⟩ := h
    cases hh
    obtain ⟨h1, h2⟩ := en_ld_at hv
    have h3 := hL.2.2.2 _ _ h1
    cases v <;> try cases h2
    exact lv_iload hx hb hd h3 (kz _ hL rfl rfl)
  case lload_n k0 =>
    have hn1 : n = 1 := en_nn hn rfl (by decide)
    subst hn1
    simp only [en_x, Option.map_eq_some_iff] at h
    obtain ⟨v, hv, hh⟩ := h
    cases hh
    obtain ⟨h1, h2⟩ := en_ld_at hv
    have h3 := hL.2.2.2 _ _ h1
    cases v <;> try cases h2
    exact lv_lload_n hx hb hd rfl h3 (kz _ hL rfl rfl)
  case lload k0 =>
    have hn1 : n = 2 := en_nn hn rfl (by decide)
    subst hn1
    simp only [en_x, Option.map_eq_some_iff] at h
    obtain ⟨v, hv, hh⟩ := h
    cases hh
    obtain ⟨h1, h2⟩ := en_ld_at hv
    have h3 := hL.2.2.2 _ _ h1
    cases v <;> try cases h2
    exact lv_lload hx hb hd h3 (kz _ hL rfl rfl)
  case aload_n k0 =>
    have hn1 : n = 1 := en_nn hn rfl (by decide)
    subst hn1
    simp only [en_x, Option.map_eq_some_iff] at h
    obtain ⟨v, hv, hh⟩ := h
    cases hh
    obtain ⟨h1, h2⟩ := en_ld_at hv
    have h3 := hL.2.2.2 _ _ h1
    cases v <;> try cases h2
    · exact lv_aload_nN hx hb hd rfl h3 (kz _ hL rfl rfl)
    · exact lv_aload_n hx hb hd rfl h3 (kz _ hL rfl rfl)
  case aload k0 =>
    have hn1 : n = 2 := en_nn hn rfl (by decide)
    subst hn1
    simp only [en_x, Option.map_eq_some_iff] at h
    obtain ⟨v, hv, hh⟩ := h
    cases hh
    obtain ⟨h1, h2⟩ := en_ld_at hv
    have h3 := hL.2.2.2 _ _ h1
    cases v <;> try cases h2
    · exact lv_aloadN hx hb hd h3 (kz _ hL rfl rfl)
    · exact lv_aload hx hb hd h3 (kz _ hL rfl rfl)
  case istore_n k0 =>
    have hn1 : n = 1 := en_nn hn rfl (by decide)
    subst hn1
    obtain ⟨x, t, hst, h9⟩ := en_u_some h
    subst hst
    clear h
    have h := h9
    try dsimp only at h
    split at h
    next hk =>
      cases h
      exact lv_istore_n hx hb hd rfl lh (by rw [← hlen]; exact hk) rfl (fun ls' hl => sto (.int x) _ ls' rfl rfl hl)
    next => cases h
  case istore k0 =>
    have hn1 : n = 2 := en_nn hn rfl (by decide)
    subst hn1
    obtain ⟨x, t, hst, h9⟩ := en_u_some h
    subst hst
    clear h
    have h := h9
    try dsimp only at h
    split at h
    next hk =>
      cases h
      exact lv_istore hx hb hd lh (by rw [← hlen]; exact hk) rfl (fun ls' hl => sto (.int x) _ ls' rfl rfl hl)
    next => cases h
  case lstore_n k0 =>
    have hn1 : n = 1 := en_nn hn rfl (by decide)
    subst hn1
    simp only [en_x] at h
    split at h
    next x t =>
      split at h
      next hk =>
        cases h
        exact lv_lstore_n hx hb hd rfl lh (by rw [← hlen]; exact hk) rfl (fun ls' hl => stl (.long x) _ ls' rfl rfl hl)
      next => cases h
    next => cases h
  case lstore k0 =>
    have hn1 : n = 2 := en_nn hn rfl (by decide)
    subst hn1
    simp only [en_x] at h
    split at h
    next x t =>
      split at h
      next hk =>
        cases h
        exact lv_lstore hx hb hd lh (by rw [← hlen]; exact hk) rfl (fun ls' hl => stl (.long x) _ ls' rfl rfl hl)
      next => cases h
    next => cases h
  case astore_n k0 =>
    have hn1 : n = 1 := en_nn hn rfl (by decide)
    subst hn1
    simp only [en_x] at h
    split at h
    next x t =>
      split at h
      next hk =>
        cases h
        exact lv_astore_n hx hb hd rfl lh (by rw [← hlen]; exact hk) rfl (fun ls' hl => sto (.ref x) _ ls' rfl rfl hl)
      next => cases h
    next t =>
      split at h
      next hk =>
        cases h
        exact lv_astore_nN hx hb hd rfl lh (by rw [← hlen]; exact hk) rfl (fun ls' hl => sto .null _ ls' rfl rfl hl)
      next => cases h
    next => cases h
  case astore k0 =>
    have hn1 : n = 2 := en_nn hn rfl (by decide)
    subst hn1
    simp only [en_x] at h
    split at h
    next x t =>
      split at h
      next hk =>
        cases h
        exact lv_astore hx hb hd lh (by rw [← hlen]; exact hk) rfl (fun ls' hl => sto (.ref x) _ ls' rfl rfl hl)
      next => cases h
    next t =>
      split at h
      next hk =>
        cases h
        exact lv_astoreN hx hb hd lh (by rw [← hlen]; exact hk) rfl (fun ls' hl => sto .null _ ls' rfl rfl hl)
      next => cases h
    next => cases h
  case iinc k0 c0 =>
    have hn1 : n = 3 := en_nn hn rfl (by decide)
    subst hn1
    simp only [en_x] at h
    split at h
    next x hk =>
      cases h
      obtain ⟨j, hj⟩ := List.getElem?_of_mem (en_prs_mem (ad := ad) (L := L) (q := (k0, .int x)) |>.mpr ⟨.int x, hk, rfl⟩)
      exact lv_iinc hx hb hd lh hj rfl (by rw [← hlen]; exact (List.getElem?_eq_some_iff.mp hk).1) rfl (fun ls' hl => sto (.int (x + Int32.ofInt c0)) _ ls' rfl rfl hl)
    next => cases h
  case iadd =>
    have hn1 : n = 1 := en_nn hn rfl (by decide)
    subst hn1
    obtain ⟨x, y, t, hst, h9⟩ := en_b_some h
    subst hst
    clear h
    have h := h9
    try dsimp only at h
    cases h
    exact lv_iadd hx hb hd (kz _ hL rfl rfl)
  case isub =>
    have hn1 : n = 1 := en_nn hn rfl (by decide)
    subst hn1
    obtain ⟨x, y, t, hst, h9⟩ := en_b_some h
    subst hst
    clear h
    have h := h9
    try dsimp only at h
    cases h
    exact lv_isub hx hb hd (kz _ hL rfl rfl)
  case imul =>
    have hn1 : n = 1 := en_nn hn rfl (by decide)
    subst hn1
    obtain ⟨x, y, t, hst, h9⟩ := en_b_some h
    subst hst
    clear h
    have h := h9
    try dsimp only at h
    cases h
    exact lv_imul hx hb hd (kz _ hL rfl rfl)
  case iand =>
    have hn1 : n = 1 := en_nn hn rfl (by decide)
    subst hn1
    obtain ⟨x, y, t, hst, h9⟩ := en_b_some h
    subst hst
    clear h
    have h := h9
    try dsimp only at h
    cases h
    exact lv_iand hx hb hd (kz _ hL rfl rfl)
  case ior =>
    have hn1 : n = 1 := en_nn hn rfl (by decide)
    subst hn1
    obtain ⟨x, y, t, hst, h9⟩ := en_b_some h
    subst hst
    clear h
    have h := h9
    try dsimp only at h
    cases h
    exact lv_ior hx hb hd (kz _ hL rfl rfl)
  case ixor =>
    have hn1 : n = 1 := en_nn hn rfl (by decide)
    subst hn1
    obtain ⟨x, y, t, hst, h9⟩ := en_b_some h
    subst hst
    clear h
    have h := h9
    try dsimp only at h
    cases h
    exact lv_ixor hx hb hd (kz _ hL rfl rfl)
  case ishl =>
    have hn1 : n = 1 := en_nn hn rfl (by decide)
    subst hn1
    obtain ⟨x, y, t, hst, h9⟩ := en_b_some h
    subst hst
    clear h
    have h := h9
    try dsimp only at h
    cases h
    exact lv_ishl hx hb hd (kz _ hL rfl rfl)
  case ishr =>
    have hn1 : n = 1 := en_nn hn rfl (by decide)
    subst hn1
    obtain ⟨x, y, t, hst, h9⟩ := en_b_some h
    subst hst
    clear h
    have h := h9
    try dsimp only at h
    cases h
    exact lv_ishr hx hb hd (kz _ hL rfl rfl)
  case iushr =>
    have hn1 : n = 1 := en_nn hn rfl (by decide)
    subst hn1
    obtain ⟨x, y, t, hst, h9⟩ := en_b_some h
    subst hst
    clear h
    have h := h9
    try dsimp only at h
    cases h
    exact lv_iushr hx hb hd rfl (kz _ hL rfl rfl)
  case idiv =>
    have hn1 : n = 1 := en_nn hn rfl (by decide)
    subst hn1
    obtain ⟨x, y, t, hst, h9⟩ := en_b_some h
    subst hst
    clear h
    have h := h9
    try dsimp only at h
    split at h
    next => cases h
    next hy =>
      cases h
      exact lv_idiv hx hb hd hy (kz _ hL rfl rfl)
  case irem =>
    have hn1 : n = 1 := en_nn hn rfl (by decide)
    subst hn1
    obtain ⟨x, y, t, hst, h9⟩ := en_b_some h
    subst hst
    clear h
    have h := h9
    try dsimp only at h
    split at h
    next => cases h
    next hy =>
      cases h
      exact lv_irem hx hb hd hy (kz _ hL rfl rfl)
  case ldiv =>
    have hn1 : n = 1 := en_nn hn rfl (by decide)
    subst hn1
    obtain ⟨x, y, t, hst, h9⟩ := en_bl_some h
    subst hst
    clear h
    have h := h9
    try dsimp only at h
    split at h
    next => cases h
    next hy =>
      cases h
      exact lv_ldiv hx hb hd hy (kz _ hL rfl rfl)
  case lrem =>
    have hn1 : n = 1 := en_nn hn rfl (by decide)
    subst hn1
    obtain ⟨x, y, t, hst, h9⟩ := en_bl_some h
    subst hst
    clear h
    have h := h9
    try dsimp only at h
    split at h
    next => cases h
    next hy =>
      cases h
      exact lv_lrem hx hb hd hy (kz _ hL rfl rfl)
  case ladd =>
    have hn1 : n = 1 := en_nn hn rfl (by decide)
    subst hn1
    obtain ⟨x, y, t, hst, h9⟩ := en_bl_some h
    subst hst
    clear h
    have h := h9
    try dsimp only at h
    cases h
    exact lv_ladd hx hb hd (kz _ hL rfl rfl)
  case lsub =>
    have hn1 : n = 1 := en_nn hn rfl (by decide)
    subst hn1
    obtain ⟨x, y, t, hst, h9⟩ := en_bl_some h
    subst hst
    clear h
    have h := h9
    try dsimp only at h
    cases h
    exact lv_lsub hx hb hd (kz _ hL rfl rfl)
  case lmul =>
    have hn1 : n = 1 := en_nn hn rfl (by decide)
    subst hn1
    obtain ⟨x, y, t, hst, h9⟩ := en_bl_some h
    subst hst
    clear h
    have h := h9
    try dsimp only at h
    cases h
    exact lv_lmul hx hb hd (kz _ hL rfl rfl)
  case lcmp =>
    have hn1 : n = 1 := en_nn hn rfl (by decide)
    subst hn1
    obtain ⟨x, y, t, hst, h9⟩ := en_bl_some h
    subst hst
    clear h
    have h := h9
    try dsimp only at h
    cases h
    exact W.lcmp hx hb hd (kz _ hL rfl rfl)
  case i2l =>
    have hn1 : n = 1 := en_nn hn rfl (by decide)
    subst hn1
    obtain ⟨x, t, hst, h9⟩ := en_u_some h
    subst hst
    clear h
    have h := h9
    try dsimp only at h
    cases h
    exact lv_i2l hx hb hd rfl (kz _ hL rfl rfl)
  case i2b =>
    have hn1 : n = 1 := en_nn hn rfl (by decide)
    subst hn1
    obtain ⟨x, t, hst, h9⟩ := en_u_some h
    subst hst
    clear h
    have h := h9
    try dsimp only at h
    cases h
    exact lv_i2b hx hb hd rfl (kz _ hL rfl rfl)
  case i2s =>
    have hn1 : n = 1 := en_nn hn rfl (by decide)
    subst hn1
    obtain ⟨x, t, hst, h9⟩ := en_u_some h
    subst hst
    clear h
    have h := h9
    try dsimp only at h
    cases h
    exact lv_i2s hx hb hd rfl (kz _ hL rfl rfl)
  case dup =>
    have hn1 : n = 1 := en_nn hn rfl (by decide)
    subst hn1
    simp only [en_x] at h
    split at h
    next a t =>
      split at h
      next hk =>
        cases h
        exact lv_dup hx hb hd (by rw [en_v_cat]; exact hk) (kz _ hL rfl rfl)
      next => cases h
    next => cases h
  case dup2 =>
    have hn1 : n = 1 := en_nn hn rfl (by decide)
    subst hn1
    simp only [en_x] at h
    split at h
    next a b t =>
      split at h
      next hk =>
        cases h
        exact lv_dup2_11 hx hb hd (by rw [en_v_cat]; exact hk.1) (by rw [en_v_cat]; exact hk.2) (kz _ hL rfl rfl)
      next => cases h
    next => cases h
  case pop =>
    have hn1 : n = 1 := en_nn hn rfl (by decide)
    subst hn1
    simp only [en_x] at h
    split at h
    next a t =>
      split at h
      next hk =>
        cases h
        exact lv_pop hx hb hd (by rw [en_v_cat]; exact hk) (kz _ hL rfl rfl)
      next => cases h
    next => cases h
  case goto o =>
    have hn1 : n = 3 := en_nn hn rfl (by decide)
    subst hn1
    obtain ⟨tgt, h1, h2⟩ := tto h
    exact lv_goto hx hb hd h1 h2
  case ifCond co o =>
    have hn1 : n = 3 := en_nn hn rfl (by decide)
    subst hn1
    obtain ⟨x, t, hst, h9⟩ := en_u_some h
    subst hst
    clear h
    have h := h9
    try dsimp only at h
    split at h
    next hc =>
      obtain ⟨tgt, h1, h2⟩ := tto h
      exact en_c1_if hx hb hd (fun tg hg _ => by rw [show tg = tgt by omega]; exact h2) (fun q => by rw [hc] at q; cases q) (fun _ => by omega)
    next hc =>
      cases h
      exact en_c1_if hx hb hd (fun _ _ q => absurd q hc) (fun _ => kz _ hL rfl rfl) (fun q => absurd q hc)
  case if_icmp co o =>
    have hn1 : n = 3 := en_nn hn rfl (by decide)
    subst hn1
    obtain ⟨x, y, t, hst, h9⟩ := en_b_some h
    subst hst
    clear h
    have h := h9
    try dsimp only at h
    split at h
    next hc =>
      obtain ⟨tgt, h1, h2⟩ := tto h
      exact en_c1_icmp hx hb hd (fun tg hg _ => by rw [show tg = tgt by omega]; exact h2) (fun q => by rw [hc] at q; cases q) (fun _ => by omega)
    next hc =>
      cases h
      exact en_c1_icmp hx hb hd (fun _ _ q => absurd q hc) (fun _ => kz _ hL rfl rfl) (fun q => absurd q hc)
  case ifnull o =>
    have hn1 : n = 3 := en_nn hn rfl (by decide)
    subst hn1
    simp only [en_x] at h
    split at h
    next t =>
      obtain ⟨tgt, h1, h2⟩ := tto h
      exact lv_ifnullN hx hb hd h1 h2
    next a t =>
      cases h
      exact lv_ifnull hx hb hd (kz _ hL rfl rfl)
    next => cases h
  case ifnonnull o =>
    have hn1 : n = 3 := en_nn hn rfl (by decide)
    subst hn1
    simp only [en_x] at h
    split at h
    next a t =>
      obtain ⟨tgt, h1, h2⟩ := tto h
      exact lv_ifnonnull hx hb hd h1 h2
    next t =>
      cases h
      exact lv_ifnonnullN hx hb hd (kz _ hL rfl rfl)
    next => cases h
  case iaload => exact en_snd_mem C hd hn hP hL hS (Or.inl rfl) h k
  case iastore => exact en_snd_mem C hd hn hP hL hS (Or.inr (Or.inl rfl)) h k
  case aaload => exact en_snd_mem C hd hn hP hL hS (Or.inr (Or.inr (Or.inl rfl))) h k
  case arraylength => exact en_snd_mem C hd hn hP hL hS (Or.inr (Or.inr (Or.inr (Or.inl rfl)))) h k
  case getfield j => exact en_snd_mem C hd hn hP hL hS (Or.inr (Or.inr (Or.inr (Or.inr (Or.inl ⟨j, rfl⟩))))) h k
  case putfield j => exact en_snd_mem C hd hn hP hL hS (Or.inr (Or.inr (Or.inr (Or.inr (Or.inr ⟨j, rfl⟩))))) h k
  case invokevirtual idx =>
    have hn1 : n = 3 := en_nn hn rfl (by decide)
    subst hn1
    simp only [en_x, en_inv] at h
    split at h
    next n0 ci f hci =>
      split at h
      next hk =>
        split at h
        next r w1 hf1 =>
          cases h
          obtain ⟨g1, g2, g3, g4⟩ := hk
          have hcall := hcl idx n0 ci f hci (st.take n0).reverse w r w' H locs pc ls (st.drop n0) hf1 (by rw [List.length_reverse, List.length_take]; omega) g3 (by rw [g1]; exact hd) hP hS hL.1 g4 (fun H1 locs1 q1 q2 => k H1 locs1 ls q1 hL q2)
          rw [List.reverse_reverse, List.take_append_drop] at hcall
          exact hcall
        next => cases h
      next => cases h
    next => cases h
  case invokestatic idx =>
    have hn1 : n = 3 := en_nn hn rfl (by decide)
    subst hn1
    simp only [en_x, en_inv] at h
    split at h
    next n0 ci f hci =>
      split at h
      next hk =>
        split at h
        next r w1 hf1 =>
          cases h
          obtain ⟨g1, g2, g3, g4⟩ := hk
          have hcall := hcl idx n0 ci f hci (st.take n0).reverse w r w' H locs pc ls (st.drop n0) hf1 (by rw [List.length_reverse, List.length_take]; omega) g3 (by rw [g1]; exact hd) hP hS hL.1 g4 (fun H1 locs1 q1 q2 => k H1 locs1 ls q1 hL q2)
          rw [List.reverse_reverse, List.take_append_drop] at hcall
          exact hcall
        next => cases h
      next => cases h
    next => cases h
  case tableswitch d lo hi offs =>
    obtain ⟨x, t, hst, h9⟩ := en_u_some h
    subst hst
    clear h
    have h := h9
    try dsimp only at h
    split at h
    next hc =>
      obtain ⟨tgt, h1, h2⟩ := tto h
      exact lv_tableOut hx hb hd hc h1 h2
    next hc =>
      split at h
      next o ho =>
        obtain ⟨tgt, h1, h2⟩ := tto h
        exact lv_tableIn hx hb hd (fun q => hc (Or.inl q)) (fun q => hc (Or.inr q)) ho h1 h2
      next => cases h
  case lookupswitch d ps =>
    obtain ⟨x, t, hst, h9⟩ := en_u_some h
    subst hst
    clear h
    have h := h9
    try dsimp only at h
    split at h
    next hc =>
      obtain ⟨tgt, h1, h2⟩ := tto h
      exact lv_lookup hx hb hd hc rfl h1 h2
    next => cases h
  all_goals (exact absurd h (by simp [en_x]))
end EnRun
