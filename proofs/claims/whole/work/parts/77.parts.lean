/-! ===== constructors of the parts, printed by ctor.py ===== -/
theorem dF_0 : decode cJ7_fill_53178 0 = .ok (.iconst 0, 1) := by decide +kernel
theorem dF_1 : decode cJ7_fill_53178 1 = .ok (.istore_n 2, 1) := by decide +kernel
theorem dF_2 : decode cJ7_fill_53178 2 = .ok (.aload_n 0, 1) := by decide +kernel
theorem dF_3 : decode cJ7_fill_53178 3 = .ok (.arraylength, 1) := by decide +kernel
theorem dF_4 : decode cJ7_fill_53178 4 = .ok (.istore_n 3, 1) := by decide +kernel
theorem dF_5 : decode cJ7_fill_53178 5 = .ok (.iload_n 2, 1) := by decide +kernel
theorem dF_6 : decode cJ7_fill_53178 6 = .ok (.iload_n 3, 1) := by decide +kernel
theorem dF_7 : decode cJ7_fill_53178 7 = .ok (.if_icmp .ge 13, 3) := by decide +kernel
theorem dF_10 : decode cJ7_fill_53178 10 = .ok (.aload_n 0, 1) := by decide +kernel
theorem dF_11 : decode cJ7_fill_53178 11 = .ok (.iload_n 2, 1) := by decide +kernel
theorem dF_12 : decode cJ7_fill_53178 12 = .ok (.iload_n 1, 1) := by decide +kernel
theorem dF_13 : decode cJ7_fill_53178 13 = .ok (.iastore, 1) := by decide +kernel
theorem dF_14 : decode cJ7_fill_53178 14 = .ok (.iinc 2 1, 3) := by decide +kernel
theorem dF_17 : decode cJ7_fill_53178 17 = .ok (.goto (-12), 3) := by decide +kernel
theorem dF_20 : decode cJ7_fill_53178 20 = .ok (.return_, 1) := by decide +kernel
set_option maxHeartbeats 4000000 in
set_option maxRecDepth 100000 in
/-- Arrays.fill: each place of the row is v -/
theorem c_fill (l : Launch) (D : va_G) (cA : Nat → ClassId) (a n : Nat) (f : Nat → Int32) (v : Int32) (sz : Nat) (hn : n < 1000) : Met l yJ7_fill_53178 (en_ys yJ7_fill_53178 cJ7_fill_53178 4 none) { frames := 0, cells := 0, slots := 0, locals := 0 } (cn_Pc D cA [.ref a, .int v] sz [(a, .inl (cA 0, n, .inl f))]) (cn_Qc D (fun u : Nat → Int32 => ∀ j, j < n → u j = v) (fun u => [(a, .inl (cA 0, n, .inl u))]) (va_A [(a, .inl (cA 0, n, .inl f))] sz)) 0 0 (va_A [(a, .inl (cA 0, n, .inl f))] sz) := by
  refine Met.ofW (cc := cJ7_fill_53178) (maxL := 4) (ret := none) (by decide) rfl ?_
  intro p e s m args below meth c s₁ B hml hv
  obtain ⟨rfl, hsz, hP, hD0, hK⟩ := hv
  have hx := B.exec
  have hb := B.bytes
  have hr := B.returns
  have hlocks := B.notSynchronized
  subst hsz
  have hD := hD0.self (sz := s.heap.size)
  generalize hAe : va_A [(a, .inl (cA 0, n, .inl f))] s.heap.size = A at hD ⊢
  have hS : va_S A s.heap s.heap [] := va_S.rf
  have hl := lv_entry ([.ref a, .int v]) (n := 4) (Nat.le_of_ble_eq_true rfl)
  rw [lg_entry_eq]
  generalize (lg_sl ([.ref a, .int v]) ++ List.replicate (4 - (lg_sl ([.ref a, .int v])).length) Slot.unset).toArray = ls at hl ⊢
  have hl : lv_has ls 4 [(0, .ref a), (1, .int v)] := hl
  have loop : ∀ (d i : Nat) (H : Heap) (locs : List Loc) (ls : Array Slot) (g : Nat → Int32), i + d = n → va_P D vwCl [(a, .inl (cA 0, n, .inl g))] H → va_D A [(a, .inl (cA 0, n, .inl g))] → va_S A s.heap H locs → lv_has ls 4 [(2, .int (zI i)), (3, .int (zI n)), (0, .ref a), (1, .int v)] → (∀ j, j < i → g j = v) → W p l e { frames := 0, cells := 0, slots := 0, locals := 0 } s m #[.ref a, .int v] below meth c H locs 0 0 (MQ below (cn_Qc D (fun u : Nat → Int32 => ∀ j, j < n → u j = v) (fun u => [(a, .inl (cA 0, n, .inl u))]) A) #[.ref a, .int v] s 0 0 A) (F0 m 5 ls []) := by
    intro d
    induction d with
    | zero =>
      intro i H locs ls g hi hP hD hS hl hg
      have e : i = n := by omega
      subst e
      refine lv_iload_n hx hb dF_5 rfl (lv_at hl 0 rfl) ?_
      refine lv_iload_n hx hb dF_6 rfl (lv_at hl 1 rfl) ?_
      refine lv_icmp_ge (tgt := 20) hx hb dF_7 (by decide) (fun _ => ?_) (fun h => absurd (by rw [zI_le (by omega) (by omega) (by omega) (by omega)]; exact Int.le_refl _) h)
      exact W.vret hx hb hr (fun t ht hW => ⟨⟨g, rfl, hg, by rw [ht]; exact hP, hD⟩, hS.F ht⟩) hS.2.2 dF_20
    | succ d ih =>
      intro i H locs ls g hi hP hD hS hl hg
      refine lv_iload_n hx hb dF_5 rfl (lv_at hl 0 rfl) ?_
      refine lv_iload_n hx hb dF_6 rfl (lv_at hl 1 rfl) ?_
      refine lv_icmp_ge (tgt := 20) hx hb dF_7 (by decide) (fun h => absurd h (by rw [zI_le (by omega) (by omega) (by omega) (by omega)]; omega)) (fun _ => ?_)
      refine lv_aload_n hx hb dF_10 rfl (lv_at hl 2 rfl) ?_
      refine lv_iload_n hx hb dF_11 rfl (lv_at hl 0 rfl) ?_
      refine lv_iload_n hx hb dF_12 rfl (lv_at hl 3 rfl) ?_
      have hci : (zI (i : Int)).toNatClampNeg = i := by rw [zI_cl (by omega) (by omega)]; omega
      refine va_iast hx hb hK.1.1 hP hD hS 0 0 rfl rfl (by unfold vp_in; rw [hci, zI_0, zI_lt (by omega) (by omega) (by omega) (by omega)]; omega) dF_13 (fun H locs hP hD hS => ?_)
      rw [hci] at hP hD
      have hP : va_P D vwCl [(a, .inl (cA 0, n, .inl (upd g i v)))] H := hP
      have hD : va_D A [(a, .inl (cA 0, n, .inl (upd g i v)))] := hD
      refine lv_iinc (k := 0) (v := zI ((i + 1 : Nat) : Int)) (lv' := [(2, .int (zI ((i + 1 : Nat) : Int))), (3, .int (zI n)), (0, .ref a), (1, .int v)]) hx hb dF_14 hl rfl (by show zI i + zI 1 = _; rw [zI_add]; rfl) (by decide) rfl (fun ls hl => ?_)
      refine lv_goto (tgt := 5) hx hb dF_17 (by decide) ?_
      refine ih (i + 1) H locs ls _ (by omega) hP hD hS hl (fun j hj => ?_)
      by_cases e : j = i
      · rw [e, upd_eq]
      · rw [upd_ne e]; exact hg j (by omega)
  refine lv_iconst (v := 0) hx hb dF_0 (by decide) ?_
  refine lv_istore_n (lv' := [(2, .int 0), (0, .ref a), (1, .int v)]) hx hb dF_1 rfl hl (by decide) rfl (fun ls hl => ?_)
  refine lv_aload_n hx hb dF_2 rfl (lv_at hl 1 rfl) ?_
  refine va_alen hx hb hK.1.1 hP 0 0 rfl rfl (v := zI n) (zI_nI n) dF_3 ?_
  refine lv_istore_n (lv' := [(3, .int (zI n)), (2, .int 0), (0, .ref a), (1, .int v)]) hx hb dF_4 rfl hl (by decide) rfl (fun ls hl => ?_)
  exact loop n 0 s.heap [] ls f (by omega) hP hD hS (lv_sub hl [1, 0, 2, 3] rfl) (fun j hj => absurd hj (Nat.not_lt_zero j))
abbrev cl_X0 (cA : Nat → ClassId) (h : Nat) (u : Nat → Nat) : va_W := [(h, .inr (0, [.ref (u 1), .ref (u 2), .int 0])), ((u 1), .inl (cA 0, 20, .inl (fun _ => 0))), ((u 2), .inl (cA 0, 20, .inl (fun _ => 0)))]
set_option maxHeartbeats 4000000 in
set_option maxRecDepth 100000 in
theorem c_X0 (l : Launch) (D : va_G) (cA : Nat → ClassId) (h0 sz : Nat) : Met l yX0_init (en_ys yX0_init cX0_init 1 none) { frames := 1, cells := 2, slots := 40, locals := 20 } (cn_Pc D cA [.ref h0] sz [(h0, .inr (0, [.null, .null, .int 0]))]) (cn_Qc D (fun u : Nat → Nat => True) (cl_X0 cA h0) (va_A [(h0, .inr (0, [.null, .null, .int 0]))] sz)) 2 40 (va_A [(h0, .inr (0, [.null, .null, .int 0]))] sz) := by
  refine Met.ofW (cc := cX0_init) (maxL := 1) (ret := none) (by decide) rfl ?_
  intro p e s m args below meth c s₁ B hml hv
  obtain ⟨rfl, hsz, hP, hD0, hK⟩ := hv
  have hx := B.exec
  have hb := B.bytes
  have hr := B.returns
  have hts := atoms_spec (ws := en_ys yX0_init cX0_init 1 none) B.pre
  have hown : s.vm.findClass RX0 = some m.cls := findClass_of_methodNamed B.named
  have hlocks := B.notSynchronized
  have hin : meth.name = "<init>" := (name_of_methodNamed B.named B.method).1
  subst hsz
  have hD := hD0.self (sz := s.heap.size)
  generalize hAe : va_A [(h0, .inr (0, [.null, .null, .int 0]))] s.heap.size = A at hD ⊢
  have hA : ∀ q : Nat, s.heap.size ≤ q → A q := fun q h => by rw [← hAe]; exact Or.inr h
  have hS : va_S A s.heap s.heap [] := va_S.rf
  have hl := lv_entry ([.ref h0]) (n := 1) (Nat.le_of_ble_eq_true rfl)
  rw [lg_entry_eq]
  generalize (lg_sl ([.ref h0]) ++ List.replicate (1 - (lg_sl ([.ref h0])).length) Slot.unset).toArray = ls at hl ⊢
  have hl : lv_has ls 1 [(0, .ref h0)] := hl
  have hw : ∀ w ∈ wsG, w.before #[Value.ref h0] s = true := fun w h => hts w (List.mem_cons_of_mem _ h)
  have hT : ∀ w ∈ wsG, w ∈ (en_ys yX0_init cX0_init 1 none) := fun w h => List.mem_cons_of_mem _ h
  refine lv_aload_n hx hb dX0_init_0 rfl (lv_at hl 0 rfl) ?_
  refine W.objInit hx hb hown (hw _ (wsm_3 (i := 1) rfl)) (hw _ (wsm_1 (i := 10) rfl)) (hw _ (wsm_1 (i := 11) rfl)) rfl (by rw [hml]; exact hl.1) rfl dX0_init_1 (Nat.le_of_ble_eq_true rfl) (Nat.le_of_ble_eq_true rfl) ?_
  refine W.eq (g2 := F0 m 4 ls []) rfl ?_
  refine lv_aload_n hx hb dX0_init_4 rfl (lv_at hl 0 rfl) ?_
  refine lv_bipush (v := 20) hx hb dX0_init_5 (by decide) ?_
  refine cn_newa hx hb (hw _ (wsm_2 (i := 0) rfl)) hK hP hD hS hA (n := 20) (N := 20) (by decide) (by decide) (Nat.le_of_ble_eq_true rfl) (Nat.le_of_ble_eq_true rfl) (Nat.le_of_ble_eq_true rfl) dX0_init_7 (fun q0 H hP hD hS => ?_)
  have hP : va_P D vwCl [(h0, .inr (0, [.null, .null, .int 0])), (q0, .inl (cA 0, 20, .inl (fun _ => 0)))] H := hP
  have hD : va_D A [(h0, .inr (0, [.null, .null, .int 0])), (q0, .inl (cA 0, 20, .inl (fun _ => 0)))] := hD
  refine W.widen (k := 1) (n := 20) (by omega) (by omega) ?_
  refine va_putF (D := D) (ci := 0) (v := .ref q0) (ty := .array .int) (C := RX0) (T := TX0) (N := 3) hx hb hw inlX0 tyX0 tyX0_ok nmX0 hown hK.1.1 hP hD hS 0 rfl rfl 0 (by decide) (hw _ (wsm_3 (i := 2) rfl)) (fun _ h9 => h9) rfl hin rfl (by decide +kernel) rfl rfl (Nat.le_of_ble_eq_true rfl) dX0_init_9 (fun H locs hP hD hS => ?_)
  have hP : va_P D vwCl [(h0, .inr (0, [.ref q0, .null, .int 0])), (q0, .inl (cA 0, 20, .inl (fun _ => 0)))] H := hP
  have hD : va_D A [(h0, .inr (0, [.ref q0, .null, .int 0])), (q0, .inl (cA 0, 20, .inl (fun _ => 0)))] := hD
  refine lv_aload_n hx hb dX0_init_12 rfl (lv_at hl 0 rfl) ?_
  refine lv_bipush (v := 20) hx hb dX0_init_13 (by decide) ?_
  refine cn_newa hx hb (hw _ (wsm_2 (i := 0) rfl)) hK hP hD hS hA (n := 20) (N := 20) (by decide) (by decide) (Nat.le_of_ble_eq_true rfl) (Nat.le_of_ble_eq_true rfl) (Nat.le_of_ble_eq_true rfl) dX0_init_15 (fun q1 H hP hD hS => ?_)
  have hP : va_P D vwCl [(h0, .inr (0, [.ref q0, .null, .int 0])), (q0, .inl (cA 0, 20, .inl (fun _ => 0))), (q1, .inl (cA 0, 20, .inl (fun _ => 0)))] H := hP
  have hD : va_D A [(h0, .inr (0, [.ref q0, .null, .int 0])), (q0, .inl (cA 0, 20, .inl (fun _ => 0))), (q1, .inl (cA 0, 20, .inl (fun _ => 0)))] := hD
  refine W.widen (k := 2) (n := 40) (by omega) (by omega) ?_
  refine va_putF (D := D) (ci := 0) (v := .ref q1) (ty := .array .int) (C := RX0) (T := TX0) (N := 3) hx hb hw inlX0 tyX0 tyX0_ok nmX0 hown hK.1.1 hP hD hS 0 rfl rfl 1 (by decide) (hw _ (wsm_3 (i := 3) rfl)) (fun _ h9 => h9) rfl hin rfl (by decide +kernel) rfl rfl (Nat.le_of_ble_eq_true rfl) dX0_init_17 (fun H locs hP hD hS => ?_)
  have hP : va_P D vwCl [(h0, .inr (0, [.ref q0, .ref q1, .int 0])), (q0, .inl (cA 0, 20, .inl (fun _ => 0))), (q1, .inl (cA 0, 20, .inl (fun _ => 0)))] H := hP
  have hD : va_D A [(h0, .inr (0, [.ref q0, .ref q1, .int 0])), (q0, .inl (cA 0, 20, .inl (fun _ => 0))), (q1, .inl (cA 0, 20, .inl (fun _ => 0)))] := hD
  refine lv_aload_n hx hb dX0_init_20 rfl (lv_at hl 0 rfl) ?_
  refine lv_iconst (v := 0) hx hb dX0_init_21 (by decide) ?_
  refine va_put (D := D) (ci := 0) (v := .int 0) (ty := .int) (C := RX0) (T := TX0) (N := 3) hx hb hw inlX0 tyX0 tyX0_ok nmX0 hown hK.1.1 hP hD hS 0 rfl rfl 2 (by decide) (hw _ (wsm_3 (i := 4) rfl)) (fun _ h9 => h9) rfl (by decide +kernel) rfl rfl (Nat.le_of_ble_eq_true rfl) dX0_init_22 (fun H locs hP hD hS => ?_)
  have hP : va_P D vwCl [(h0, .inr (0, [.ref q0, .ref q1, .int 0])), (q0, .inl (cA 0, 20, .inl (fun _ => 0))), (q1, .inl (cA 0, 20, .inl (fun _ => 0)))] H := hP
  have hD : va_D A [(h0, .inr (0, [.ref q0, .ref q1, .int 0])), (q0, .inl (cA 0, 20, .inl (fun _ => 0))), (q1, .inl (cA 0, 20, .inl (fun _ => 0)))] := hD
  exact W.vret hx hb hr (fun t ht hW => ⟨⟨(fun k => ([h0, q0, q1] : List Nat).getD k 0), rfl, trivial, by rw [ht]; exact hP, hD⟩, hS.F ht⟩) hS.2.2 dX0_init_25
abbrev cl_X1 (cA : Nat → ClassId) (h : Nat) (u : Nat × (Nat → Int32)) : va_W := [(h, .inr (1, [.int 3, .ref u.1])), (u.1, .inl (cA 0, 9, .inl u.2))]
set_option maxHeartbeats 4000000 in
set_option maxRecDepth 100000 in
theorem c_X1 (l : Launch) (D : va_G) (cA : Nat → ClassId) (h0 sz : Nat) : Met l yX1_init (en_ys yX1_init cX1_init 1 none) { frames := 1, cells := 1, slots := 9, locals := 40 } (cn_Pc D cA [.ref h0] sz [(h0, .inr (1, [.int 0, .null]))]) (cn_Qc D (fun u : Nat × (Nat → Int32) => ∀ j, j < 9 → u.2 j = -1) (cl_X1 cA h0) (va_A [(h0, .inr (1, [.int 0, .null]))] sz)) 1 9 (va_A [(h0, .inr (1, [.int 0, .null]))] sz) := by
  refine Met.ofW (cc := cX1_init) (maxL := 1) (ret := none) (by decide) rfl ?_
  intro p e s m args below meth c s₁ B hml hv
  obtain ⟨rfl, hsz, hP, hD0, hK⟩ := hv
  have hx := B.exec
  have hb := B.bytes
  have hr := B.returns
  have hts := atoms_spec (ws := en_ys yX1_init cX1_init 1 none) B.pre
  have hown : s.vm.findClass RX1 = some m.cls := findClass_of_methodNamed B.named
  have hlocks := B.notSynchronized
  have hin : meth.name = "<init>" := (name_of_methodNamed B.named B.method).1
  subst hsz
  have hD := hD0.self (sz := s.heap.size)
  generalize hAe : va_A [(h0, .inr (1, [.int 0, .null]))] s.heap.size = A at hD ⊢
  have hA : ∀ q : Nat, s.heap.size ≤ q → A q := fun q h => by rw [← hAe]; exact Or.inr h
  have hS : va_S A s.heap s.heap [] := va_S.rf
  have hl := lv_entry ([.ref h0]) (n := 1) (Nat.le_of_ble_eq_true rfl)
  rw [lg_entry_eq]
  generalize (lg_sl ([.ref h0]) ++ List.replicate (1 - (lg_sl ([.ref h0])).length) Slot.unset).toArray = ls at hl ⊢
  have hl : lv_has ls 1 [(0, .ref h0)] := hl
  have hw : ∀ w ∈ wsG, w.before #[Value.ref h0] s = true := fun w h => hts w (List.mem_cons_of_mem _ h)
  have hT : ∀ w ∈ wsG, w ∈ (en_ys yX1_init cX1_init 1 none) := fun w h => List.mem_cons_of_mem _ h
  refine lv_aload_n hx hb dX1_init_0 rfl (lv_at hl 0 rfl) ?_
  refine W.objInit hx hb hown (hw _ (wsm_3 (i := 22) rfl)) (hw _ (wsm_1 (i := 10) rfl)) (hw _ (wsm_1 (i := 11) rfl)) rfl (by rw [hml]; exact hl.1) rfl dX1_init_1 (Nat.le_of_ble_eq_true rfl) (Nat.le_of_ble_eq_true rfl) ?_
  refine W.eq (g2 := F0 m 4 ls []) rfl ?_
  refine lv_aload_n hx hb dX1_init_4 rfl (lv_at hl 0 rfl) ?_
  refine lv_iconst (v := 3) hx hb dX1_init_5 (by decide) ?_
  refine va_put (D := D) (ci := 1) (v := .int 3) (ty := .int) (C := RX1) (T := TX1) (N := 2) hx hb hw inlX1 tyX1 tyX1_ok nmX1 hown hK.1.1 hP hD hS 0 rfl rfl 0 (by decide) (hw _ (wsm_3 (i := 23) rfl)) (fun _ h9 => h9) rfl (by decide +kernel) rfl rfl (Nat.le_of_ble_eq_true rfl) dX1_init_6 (fun H locs hP hD hS => ?_)
  have hP : va_P D vwCl [(h0, .inr (1, [.int 3, .null]))] H := hP
  have hD : va_D A [(h0, .inr (1, [.int 3, .null]))] := hD
  refine lv_aload_n hx hb dX1_init_9 rfl (lv_at hl 0 rfl) ?_
  refine lv_bipush (v := 9) hx hb dX1_init_10 (by decide) ?_
  refine cn_newa hx hb (hw _ (wsm_2 (i := 0) rfl)) hK hP hD hS hA (n := 9) (N := 9) (by decide) (by decide) (Nat.le_of_ble_eq_true rfl) (Nat.le_of_ble_eq_true rfl) (Nat.le_of_ble_eq_true rfl) dX1_init_12 (fun q0 H hP hD hS => ?_)
  have hP : va_P D vwCl [(h0, .inr (1, [.int 3, .null])), (q0, .inl (cA 0, 9, .inl (fun _ => 0)))] H := hP
  have hD : va_D A [(h0, .inr (1, [.int 3, .null])), (q0, .inl (cA 0, 9, .inl (fun _ => 0)))] := hD
  refine W.widen (k := 1) (n := 9) (by omega) (by omega) ?_
  refine va_putF (D := D) (ci := 1) (v := .ref q0) (ty := .array .int) (C := RX1) (T := TX1) (N := 2) hx hb hw inlX1 tyX1 tyX1_ok nmX1 hown hK.1.1 hP hD hS 0 rfl rfl 1 (by decide) (hw _ (wsm_4 (i := 0) rfl)) (fun _ h9 => h9) rfl hin rfl (by decide +kernel) rfl rfl (Nat.le_of_ble_eq_true rfl) dX1_init_14 (fun H locs hP hD hS => ?_)
  have hP : va_P D vwCl [(h0, .inr (1, [.int 3, .ref q0])), (q0, .inl (cA 0, 9, .inl (fun _ => 0)))] H := hP
  have hD : va_D A [(h0, .inr (1, [.int 3, .ref q0])), (q0, .inl (cA 0, 9, .inl (fun _ => 0)))] := hD
  refine lv_aload_n hx hb dX1_init_17 rfl (lv_at hl 0 rfl) ?_
  refine va_get (D := D) (ci := 1) (v := .ref q0) (C := RX1) (T := TX1) (N := 2) hx hb hw inlX1 hown hK.1.1 hP 0 rfl rfl 1 (by decide) (hw _ (wsm_4 (i := 0) rfl)) (fun _ h9 => h9) rfl dX1_init_18 ?_
  refine lv_iconst (v := (-1)) hx hb dX1_init_21 (by decide) ?_
  have hPc := hP.sub (ws' := [(q0, .inl (cA 0, 9, .inl (fun _ => 0)))]) [1] rfl
  have hDc := hD.sub (ws' := [(q0, .inl (cA 0, 9, .inl (fun _ => 0)))]) [1] (by decide) rfl
  refine cn_after (wr := [(h0, .inr (1, [.int 3, .ref q0]))]) (va_runS (As := [.ref q0, .int (-1)]) (rest := []) ⟨hx, hb, hml, hown, hts⟩ (c_fill l D cA q0 9 (fun _ => 0) (-1) H.size (by decide)) ⟨callB_of 2 hts (en_good hT (wsm_4 (i := 4) rfl)) rfl rfl rfl (hw _ (wsm_4 (i := 3) rfl)) (hw _ (wsm_4 (i := 1) rfl)) ⟨by decide +kernel, by decide +kernel, by decide +kernel⟩ ⟨Nat.le_of_ble_eq_true rfl, Nat.le_of_ble_eq_true rfl⟩, hw _ (wsm_4 (i := 2) rfl)⟩ (cn_pre hK hPc hDc) rfl rfl hl.1 rfl (lv_room (Nat.le_of_ble_eq_true rfl)) dX1_init_22 ⟨Nat.le_of_ble_eq_true rfl, Nat.le_of_ble_eq_true rfl⟩) hP hD hS hA [1] [0] rfl rfl (by decide) (by decide) (fun u22_1 H locs hpost hP hD hS => ?_)
  have hpu22_1 := hpost
  have hP : va_P D vwCl [(h0, .inr (1, [.int 3, .ref q0])), (q0, .inl (cA 0, 9, .inl u22_1))] H := hP
  have hD : va_D A [(h0, .inr (1, [.int 3, .ref q0])), (q0, .inl (cA 0, 9, .inl u22_1))] := hD
  refine W.widen (k := 1) (n := 9) (by omega) (by omega) ?_
  exact W.vret hx hb hr (fun t ht hW => ⟨⟨(q0, u22_1), rfl, hpu22_1, by rw [ht]; exact hP, hD⟩, hS.F ht⟩) hS.2.2 dX1_init_25
abbrev cl_X3 (cA : Nat → ClassId) (h : Nat) (u : Nat) : va_W := [(h, .inr (3, [.ref u, .int (-1), .int 0])), (u, .inl (cA 0, 60, .inl (fun _ => 0)))]
set_option maxHeartbeats 4000000 in
set_option maxRecDepth 100000 in
theorem c_X3 (l : Launch) (D : va_G) (cA : Nat → ClassId) (h0 sz : Nat) : Met l yX3_init (en_ys yX3_init cX3_init 1 none) { frames := 1, cells := 1, slots := 60, locals := 20 } (cn_Pc D cA [.ref h0] sz [(h0, .inr (3, [.null, .int 0, .int 0]))]) (cn_Qc D (fun u : Nat => True) (cl_X3 cA h0) (va_A [(h0, .inr (3, [.null, .int 0, .int 0]))] sz)) 1 60 (va_A [(h0, .inr (3, [.null, .int 0, .int 0]))] sz) := by
  refine Met.ofW (cc := cX3_init) (maxL := 1) (ret := none) (by decide) rfl ?_
  intro p e s m args below meth c s₁ B hml hv
  obtain ⟨rfl, hsz, hP, hD0, hK⟩ := hv
  have hx := B.exec
  have hb := B.bytes
  have hr := B.returns
  have hts := atoms_spec (ws := en_ys yX3_init cX3_init 1 none) B.pre
  have hown : s.vm.findClass RX3 = some m.cls := findClass_of_methodNamed B.named
  have hlocks := B.notSynchronized
  have hin : meth.name = "<init>" := (name_of_methodNamed B.named B.method).1
  subst hsz
  have hD := hD0.self (sz := s.heap.size)
  generalize hAe : va_A [(h0, .inr (3, [.null, .int 0, .int 0]))] s.heap.size = A at hD ⊢
  have hA : ∀ q : Nat, s.heap.size ≤ q → A q := fun q h => by rw [← hAe]; exact Or.inr h
  have hS : va_S A s.heap s.heap [] := va_S.rf
  have hl := lv_entry ([.ref h0]) (n := 1) (Nat.le_of_ble_eq_true rfl)
  rw [lg_entry_eq]
  generalize (lg_sl ([.ref h0]) ++ List.replicate (1 - (lg_sl ([.ref h0])).length) Slot.unset).toArray = ls at hl ⊢
  have hl : lv_has ls 1 [(0, .ref h0)] := hl
  have hw : ∀ w ∈ wsG, w.before #[Value.ref h0] s = true := fun w h => hts w (List.mem_cons_of_mem _ h)
  have hT : ∀ w ∈ wsG, w ∈ (en_ys yX3_init cX3_init 1 none) := fun w h => List.mem_cons_of_mem _ h
  refine lv_aload_n hx hb dX3_init_0 rfl (lv_at hl 0 rfl) ?_
  refine W.objInit hx hb hown (hw _ (wsm_4 (i := 7) rfl)) (hw _ (wsm_1 (i := 10) rfl)) (hw _ (wsm_1 (i := 11) rfl)) rfl (by rw [hml]; exact hl.1) rfl dX3_init_1 (Nat.le_of_ble_eq_true rfl) (Nat.le_of_ble_eq_true rfl) ?_
  refine W.eq (g2 := F0 m 4 ls []) rfl ?_
  refine lv_aload_n hx hb dX3_init_4 rfl (lv_at hl 0 rfl) ?_
  refine lv_bipush (v := 60) hx hb dX3_init_5 (by decide) ?_
  refine cn_newa hx hb (hw _ (wsm_2 (i := 0) rfl)) hK hP hD hS hA (n := 60) (N := 60) (by decide) (by decide) (Nat.le_of_ble_eq_true rfl) (Nat.le_of_ble_eq_true rfl) (Nat.le_of_ble_eq_true rfl) dX3_init_7 (fun q0 H hP hD hS => ?_)
  have hP : va_P D vwCl [(h0, .inr (3, [.null, .int 0, .int 0])), (q0, .inl (cA 0, 60, .inl (fun _ => 0)))] H := hP
  have hD : va_D A [(h0, .inr (3, [.null, .int 0, .int 0])), (q0, .inl (cA 0, 60, .inl (fun _ => 0)))] := hD
  refine W.widen (k := 1) (n := 60) (by omega) (by omega) ?_
  refine va_putF (D := D) (ci := 3) (v := .ref q0) (ty := .array .int) (C := RX3) (T := TX3) (N := 3) hx hb hw inlX3 tyX3 tyX3_ok nmX3 hown hK.1.1 hP hD hS 0 rfl rfl 0 (by decide) (hw _ (wsm_4 (i := 8) rfl)) (fun _ h9 => h9) rfl hin rfl (by decide +kernel) rfl rfl (Nat.le_of_ble_eq_true rfl) dX3_init_9 (fun H locs hP hD hS => ?_)
  have hP : va_P D vwCl [(h0, .inr (3, [.ref q0, .int 0, .int 0])), (q0, .inl (cA 0, 60, .inl (fun _ => 0)))] H := hP
  have hD : va_D A [(h0, .inr (3, [.ref q0, .int 0, .int 0])), (q0, .inl (cA 0, 60, .inl (fun _ => 0)))] := hD
  refine lv_aload_n hx hb dX3_init_12 rfl (lv_at hl 0 rfl) ?_
  refine lv_iconst (v := (-1)) hx hb dX3_init_13 (by decide) ?_
  refine va_put (D := D) (ci := 3) (v := .int (-1)) (ty := .int) (C := RX3) (T := TX3) (N := 3) hx hb hw inlX3 tyX3 tyX3_ok nmX3 hown hK.1.1 hP hD hS 0 rfl rfl 1 (by decide) (hw _ (wsm_4 (i := 9) rfl)) (fun _ h9 => h9) rfl (by decide +kernel) rfl rfl (Nat.le_of_ble_eq_true rfl) dX3_init_14 (fun H locs hP hD hS => ?_)
  have hP : va_P D vwCl [(h0, .inr (3, [.ref q0, .int (-1), .int 0])), (q0, .inl (cA 0, 60, .inl (fun _ => 0)))] H := hP
  have hD : va_D A [(h0, .inr (3, [.ref q0, .int (-1), .int 0])), (q0, .inl (cA 0, 60, .inl (fun _ => 0)))] := hD
  refine lv_aload_n hx hb dX3_init_17 rfl (lv_at hl 0 rfl) ?_
  refine lv_iconst (v := 0) hx hb dX3_init_18 (by decide) ?_
  refine va_put (D := D) (ci := 3) (v := .int 0) (ty := .int) (C := RX3) (T := TX3) (N := 3) hx hb hw inlX3 tyX3 tyX3_ok nmX3 hown hK.1.1 hP hD hS 0 rfl rfl 2 (by decide) (hw _ (wsm_4 (i := 10) rfl)) (fun _ h9 => h9) rfl (by decide +kernel) rfl rfl (Nat.le_of_ble_eq_true rfl) dX3_init_19 (fun H locs hP hD hS => ?_)
  have hP : va_P D vwCl [(h0, .inr (3, [.ref q0, .int (-1), .int 0])), (q0, .inl (cA 0, 60, .inl (fun _ => 0)))] H := hP
  have hD : va_D A [(h0, .inr (3, [.ref q0, .int (-1), .int 0])), (q0, .inl (cA 0, 60, .inl (fun _ => 0)))] := hD
  exact W.vret hx hb hr (fun t ht hW => ⟨⟨q0, rfl, trivial, by rw [ht]; exact hP, hD⟩, hS.F ht⟩) hS.2.2 dX3_init_22
abbrev cl_X4 (cA : Nat → ClassId) (h : Nat) (u : Nat → Nat) : va_W := [(h, .inr (4, [.ref (u 1), .ref (u 2), .int 0, .int (-1)])), ((u 1), .inl (cA 0, 80, .inl (fun _ => 0))), ((u 2), .inr (0, [.ref (u 3), .ref (u 4), .int 0])), ((u 3), .inl (cA 0, 20, .inl (fun _ => 0))), ((u 4), .inl (cA 0, 20, .inl (fun _ => 0)))]
set_option maxHeartbeats 4000000 in
set_option maxRecDepth 100000 in
theorem c_X4 (l : Launch) (D : va_G) (cA : Nat → ClassId) (h0 sz : Nat) : Met l yX4_init (en_ys yX4_init cX4_init 1 none) { frames := 2, cells := 4, slots := 123, locals := 60 } (cn_Pc D cA [.ref h0] sz [(h0, .inr (4, [.null, .null, .int 0, .int 0]))]) (cn_Qc D (fun u : Nat → Nat => True) (cl_X4 cA h0) (va_A [(h0, .inr (4, [.null, .null, .int 0, .int 0]))] sz)) 4 123 (va_A [(h0, .inr (4, [.null, .null, .int 0, .int 0]))] sz) := by
  refine Met.ofW (cc := cX4_init) (maxL := 1) (ret := none) (by decide) rfl ?_
  intro p e s m args below meth c s₁ B hml hv
  obtain ⟨rfl, hsz, hP, hD0, hK⟩ := hv
  have hx := B.exec
  have hb := B.bytes
  have hr := B.returns
  have hts := atoms_spec (ws := en_ys yX4_init cX4_init 1 none) B.pre
  have hown : s.vm.findClass RX4 = some m.cls := findClass_of_methodNamed B.named
  have hlocks := B.notSynchronized
  have hin : meth.name = "<init>" := (name_of_methodNamed B.named B.method).1
  subst hsz
  have hD := hD0.self (sz := s.heap.size)
  generalize hAe : va_A [(h0, .inr (4, [.null, .null, .int 0, .int 0]))] s.heap.size = A at hD ⊢
  have hA : ∀ q : Nat, s.heap.size ≤ q → A q := fun q h => by rw [← hAe]; exact Or.inr h
  have hS : va_S A s.heap s.heap [] := va_S.rf
  have hl := lv_entry ([.ref h0]) (n := 1) (Nat.le_of_ble_eq_true rfl)
  rw [lg_entry_eq]
  generalize (lg_sl ([.ref h0]) ++ List.replicate (1 - (lg_sl ([.ref h0])).length) Slot.unset).toArray = ls at hl ⊢
  have hl : lv_has ls 1 [(0, .ref h0)] := hl
  have hw : ∀ w ∈ wsG, w.before #[Value.ref h0] s = true := fun w h => hts w (List.mem_cons_of_mem _ h)
  have hT : ∀ w ∈ wsG, w ∈ (en_ys yX4_init cX4_init 1 none) := fun w h => List.mem_cons_of_mem _ h
  refine lv_aload_n hx hb dX4_init_0 rfl (lv_at hl 0 rfl) ?_
  refine W.objInit hx hb hown (hw _ (wsm_2 (i := 15) rfl)) (hw _ (wsm_1 (i := 10) rfl)) (hw _ (wsm_1 (i := 11) rfl)) rfl (by rw [hml]; exact hl.1) rfl dX4_init_1 (Nat.le_of_ble_eq_true rfl) (Nat.le_of_ble_eq_true rfl) ?_
  refine W.eq (g2 := F0 m 4 ls []) rfl ?_
  refine lv_aload_n hx hb dX4_init_4 rfl (lv_at hl 0 rfl) ?_
  refine lv_bipush (v := 80) hx hb dX4_init_5 (by decide) ?_
  refine cn_newa hx hb (hw _ (wsm_2 (i := 0) rfl)) hK hP hD hS hA (n := 80) (N := 80) (by decide) (by decide) (Nat.le_of_ble_eq_true rfl) (Nat.le_of_ble_eq_true rfl) (Nat.le_of_ble_eq_true rfl) dX4_init_7 (fun q0 H hP hD hS => ?_)
  have hP : va_P D vwCl [(h0, .inr (4, [.null, .null, .int 0, .int 0])), (q0, .inl (cA 0, 80, .inl (fun _ => 0)))] H := hP
  have hD : va_D A [(h0, .inr (4, [.null, .null, .int 0, .int 0])), (q0, .inl (cA 0, 80, .inl (fun _ => 0)))] := hD
  refine W.widen (k := 1) (n := 80) (by omega) (by omega) ?_
  refine va_putF (D := D) (ci := 4) (v := .ref q0) (ty := .array .int) (C := RX4) (T := TX4) (N := 4) hx hb hw inlX4 tyX4 tyX4_ok nmX4 hown hK.1.1 hP hD hS 0 rfl rfl 0 (by decide) (hw _ (wsm_2 (i := 16) rfl)) (fun _ h9 => h9) rfl hin rfl (by decide +kernel) rfl rfl (Nat.le_of_ble_eq_true rfl) dX4_init_9 (fun H locs hP hD hS => ?_)
  have hP : va_P D vwCl [(h0, .inr (4, [.ref q0, .null, .int 0, .int 0])), (q0, .inl (cA 0, 80, .inl (fun _ => 0)))] H := hP
  have hD : va_D A [(h0, .inr (4, [.ref q0, .null, .int 0, .int 0])), (q0, .inl (cA 0, 80, .inl (fun _ => 0)))] := hD
  refine lv_aload_n hx hb dX4_init_12 rfl (lv_at hl 0 rfl) ?_
  refine va_new (D := D) (ci := 0) (fs := [.null, .null, .int 0]) (C := RX0) (T := TX0) (N := 3) hx hb hw inlX0 tyX0 tyX0_ok hown (hw _ (wsm_2 (i := 17) rfl)) (hw _ (wsm_2 (i := 18) rfl)) (hw _ (wsm_2 (i := 19) rfl)) hK.1.1 hP hD hS hA rfl (fun j hj => by rcases (show j = 0 ∨ j = 1 ∨ j = 2 by omega) with rfl | rfl | rfl <;> rfl) (Nat.le_of_ble_eq_true rfl) (Nat.le_of_ble_eq_true rfl) dX4_init_13 (fun q1 H hP hD hS => ?_)
  have hP : va_P D vwCl [(h0, .inr (4, [.ref q0, .null, .int 0, .int 0])), (q0, .inl (cA 0, 80, .inl (fun _ => 0))), (q1, .inr (0, [.null, .null, .int 0]))] H := hP
  have hD : va_D A [(h0, .inr (4, [.ref q0, .null, .int 0, .int 0])), (q0, .inl (cA 0, 80, .inl (fun _ => 0))), (q1, .inr (0, [.null, .null, .int 0]))] := hD
  refine W.widen (k := 2) (n := 83) (by omega) (by omega) ?_
  refine lv_dup hx hb dX4_init_16 rfl ?_
  have hPc := hP.sub (ws' := [(q1, .inr (0, [.null, .null, .int 0]))]) [2] rfl
  have hDc := hD.sub (ws' := [(q1, .inr (0, [.null, .null, .int 0]))]) [2] (by decide) rfl
  refine cn_after (wr := [(h0, .inr (4, [.ref q0, .null, .int 0, .int 0])), (q0, .inl (cA 0, 80, .inl (fun _ => 0)))]) (va_runIN (host := "ThirdFavour") (As := []) (rest := [.ref q1, .ref h0]) ⟨hx, hb, hml, hown, hts⟩ (c_X0 l D cA q1 H.size) ⟨va_cnB (host := "ThirdFavour") 0 hts (en_good hT (wsm_3 (i := 0) rfl)) rfl rfl rfl (hK.1.2 _ (wsm_43 (i := 1) rfl)) (hw _ (wsm_2 (i := 19) rfl)) ⟨by decide +kernel, by decide +kernel, by decide +kernel⟩ ⟨Nat.le_of_ble_eq_true rfl, Nat.le_of_ble_eq_true rfl⟩, rfl, hw _ (wsm_2 (i := 23) rfl)⟩ (cn_pre hK hPc hDc) rfl rfl hl.1 rfl (lv_room (Nat.le_of_ble_eq_true rfl)) dX4_init_17 ⟨Nat.le_of_ble_eq_true rfl, Nat.le_of_ble_eq_true rfl⟩) hP hD hS hA [2] [0, 1] rfl rfl (by decide) (by decide) (fun u17_2 H locs hpost hP hD hS => ?_)
  have hP : va_P D vwCl [(h0, .inr (4, [.ref q0, .null, .int 0, .int 0])), (q0, .inl (cA 0, 80, .inl (fun _ => 0))), (q1, .inr (0, [.ref (u17_2 1), .ref (u17_2 2), .int 0])), ((u17_2 1), .inl (cA 0, 20, .inl (fun _ => 0))), ((u17_2 2), .inl (cA 0, 20, .inl (fun _ => 0)))] H := hP
  have hD : va_D A [(h0, .inr (4, [.ref q0, .null, .int 0, .int 0])), (q0, .inl (cA 0, 80, .inl (fun _ => 0))), (q1, .inr (0, [.ref (u17_2 1), .ref (u17_2 2), .int 0])), ((u17_2 1), .inl (cA 0, 20, .inl (fun _ => 0))), ((u17_2 2), .inl (cA 0, 20, .inl (fun _ => 0)))] := hD
  refine W.widen (k := 4) (n := 123) (by omega) (by omega) ?_
  refine va_putF (D := D) (ci := 4) (v := .ref q1) (ty := .object "ThirdFavour$Coins") (C := RX4) (T := TX4) (N := 4) hx hb hw inlX4 tyX4 tyX4_ok nmX4 hown hK.1.1 hP hD hS 0 rfl rfl 1 (by decide) (hw _ (wsm_2 (i := 20) rfl)) (fun _ h9 => h9) rfl hin rfl (by decide +kernel) rfl rfl (Nat.le_of_ble_eq_true rfl) dX4_init_20 (fun H locs hP hD hS => ?_)
  have hP : va_P D vwCl [(h0, .inr (4, [.ref q0, .ref q1, .int 0, .int 0])), (q0, .inl (cA 0, 80, .inl (fun _ => 0))), (q1, .inr (0, [.ref (u17_2 1), .ref (u17_2 2), .int 0])), ((u17_2 1), .inl (cA 0, 20, .inl (fun _ => 0))), ((u17_2 2), .inl (cA 0, 20, .inl (fun _ => 0)))] H := hP
  have hD : va_D A [(h0, .inr (4, [.ref q0, .ref q1, .int 0, .int 0])), (q0, .inl (cA 0, 80, .inl (fun _ => 0))), (q1, .inr (0, [.ref (u17_2 1), .ref (u17_2 2), .int 0])), ((u17_2 1), .inl (cA 0, 20, .inl (fun _ => 0))), ((u17_2 2), .inl (cA 0, 20, .inl (fun _ => 0)))] := hD
  refine lv_aload_n hx hb dX4_init_23 rfl (lv_at hl 0 rfl) ?_
  refine lv_iconst (v := 0) hx hb dX4_init_24 (by decide) ?_
  refine va_put (D := D) (ci := 4) (v := .int 0) (ty := .int) (C := RX4) (T := TX4) (N := 4) hx hb hw inlX4 tyX4 tyX4_ok nmX4 hown hK.1.1 hP hD hS 0 rfl rfl 2 (by decide) (hw _ (wsm_2 (i := 21) rfl)) (fun _ h9 => h9) rfl (by decide +kernel) rfl rfl (Nat.le_of_ble_eq_true rfl) dX4_init_25 (fun H locs hP hD hS => ?_)
  have hP : va_P D vwCl [(h0, .inr (4, [.ref q0, .ref q1, .int 0, .int 0])), (q0, .inl (cA 0, 80, .inl (fun _ => 0))), (q1, .inr (0, [.ref (u17_2 1), .ref (u17_2 2), .int 0])), ((u17_2 1), .inl (cA 0, 20, .inl (fun _ => 0))), ((u17_2 2), .inl (cA 0, 20, .inl (fun _ => 0)))] H := hP
  have hD : va_D A [(h0, .inr (4, [.ref q0, .ref q1, .int 0, .int 0])), (q0, .inl (cA 0, 80, .inl (fun _ => 0))), (q1, .inr (0, [.ref (u17_2 1), .ref (u17_2 2), .int 0])), ((u17_2 1), .inl (cA 0, 20, .inl (fun _ => 0))), ((u17_2 2), .inl (cA 0, 20, .inl (fun _ => 0)))] := hD
  refine lv_aload_n hx hb dX4_init_28 rfl (lv_at hl 0 rfl) ?_
  refine lv_iconst (v := (-1)) hx hb dX4_init_29 (by decide) ?_
  refine va_put (D := D) (ci := 4) (v := .int (-1)) (ty := .int) (C := RX4) (T := TX4) (N := 4) hx hb hw inlX4 tyX4 tyX4_ok nmX4 hown hK.1.1 hP hD hS 0 rfl rfl 3 (by decide) (hw _ (wsm_2 (i := 22) rfl)) (fun _ h9 => h9) rfl (by decide +kernel) rfl rfl (Nat.le_of_ble_eq_true rfl) dX4_init_30 (fun H locs hP hD hS => ?_)
  have hP : va_P D vwCl [(h0, .inr (4, [.ref q0, .ref q1, .int 0, .int (-1)])), (q0, .inl (cA 0, 80, .inl (fun _ => 0))), (q1, .inr (0, [.ref (u17_2 1), .ref (u17_2 2), .int 0])), ((u17_2 1), .inl (cA 0, 20, .inl (fun _ => 0))), ((u17_2 2), .inl (cA 0, 20, .inl (fun _ => 0)))] H := hP
  have hD : va_D A [(h0, .inr (4, [.ref q0, .ref q1, .int 0, .int (-1)])), (q0, .inl (cA 0, 80, .inl (fun _ => 0))), (q1, .inr (0, [.ref (u17_2 1), .ref (u17_2 2), .int 0])), ((u17_2 1), .inl (cA 0, 20, .inl (fun _ => 0))), ((u17_2 2), .inl (cA 0, 20, .inl (fun _ => 0)))] := hD
  exact W.vret hx hb hr (fun t ht hW => ⟨⟨(fun k => ([h0, q0, q1, (u17_2 1), (u17_2 2)] : List Nat).getD k 0), rfl, trivial, by rw [ht]; exact hP, hD⟩, hS.F ht⟩) hS.2.2 dX4_init_33
abbrev cl_X2 (cA : Nat → ClassId) (h : Nat) (u : Nat → Nat) : va_W := [(h, .inr (2, [.ref (u 1), .ref (u 2), .ref (u 3), .ref (u 4), .ref (u 5), .ref (u 6), .int 0, .int 0, .int 0, .int (-1)])), ((u 1), .inl (cA 0, 10, .inl (fun _ => 0))), ((u 2), .inl (cA 0, 10, .inl (fun _ => 0))), ((u 3), .inl (cA 0, 10, .inl (fun _ => 0))), ((u 4), .inl (cA 0, 20, .inl (fun _ => 0))), ((u 5), .inl (cA 0, 20, .inl (fun _ => 0))), ((u 6), .inr (0, [.ref (u 7), .ref (u 8), .int 0])), ((u 7), .inl (cA 0, 20, .inl (fun _ => 0))), ((u 8), .inl (cA 0, 20, .inl (fun _ => 0)))]
set_option maxHeartbeats 4000000 in
set_option maxRecDepth 100000 in
theorem c_X2 (l : Launch) (D : va_G) (cA : Nat → ClassId) (h0 sz : Nat) : Met l yX2_init (en_ys yX2_init cX2_init 1 none) { frames := 2, cells := 8, slots := 113, locals := 60 } (cn_Pc D cA [.ref h0] sz [(h0, .inr (2, [.null, .null, .null, .null, .null, .null, .int 0, .int 0, .int 0, .int 0]))]) (cn_Qc D (fun u : Nat → Nat => True) (cl_X2 cA h0) (va_A [(h0, .inr (2, [.null, .null, .null, .null, .null, .null, .int 0, .int 0, .int 0, .int 0]))] sz)) 8 113 (va_A [(h0, .inr (2, [.null, .null, .null, .null, .null, .null, .int 0, .int 0, .int 0, .int 0]))] sz) := by
  refine Met.ofW (cc := cX2_init) (maxL := 1) (ret := none) (by decide) rfl ?_
  intro p e s m args below meth c s₁ B hml hv
  obtain ⟨rfl, hsz, hP, hD0, hK⟩ := hv
  have hx := B.exec
  have hb := B.bytes
  have hr := B.returns
  have hts := atoms_spec (ws := en_ys yX2_init cX2_init 1 none) B.pre
  have hown : s.vm.findClass RX2 = some m.cls := findClass_of_methodNamed B.named
  have hlocks := B.notSynchronized
  have hin : meth.name = "<init>" := (name_of_methodNamed B.named B.method).1
  subst hsz
  have hD := hD0.self (sz := s.heap.size)
  generalize hAe : va_A [(h0, .inr (2, [.null, .null, .null, .null, .null, .null, .int 0, .int 0, .int 0, .int 0]))] s.heap.size = A at hD ⊢
  have hA : ∀ q : Nat, s.heap.size ≤ q → A q := fun q h => by rw [← hAe]; exact Or.inr h
  have hS : va_S A s.heap s.heap [] := va_S.rf
  have hl := lv_entry ([.ref h0]) (n := 1) (Nat.le_of_ble_eq_true rfl)
  rw [lg_entry_eq]
  generalize (lg_sl ([.ref h0]) ++ List.replicate (1 - (lg_sl ([.ref h0])).length) Slot.unset).toArray = ls at hl ⊢
  have hl : lv_has ls 1 [(0, .ref h0)] := hl
  have hw : ∀ w ∈ wsG, w.before #[Value.ref h0] s = true := fun w h => hts w (List.mem_cons_of_mem _ h)
  have hT : ∀ w ∈ wsG, w ∈ (en_ys yX2_init cX2_init 1 none) := fun w h => List.mem_cons_of_mem _ h
  refine lv_aload_n hx hb dX2_init_0 rfl (lv_at hl 0 rfl) ?_
  refine W.objInit hx hb hown (hw _ (wsm_3 (i := 7) rfl)) (hw _ (wsm_1 (i := 10) rfl)) (hw _ (wsm_1 (i := 11) rfl)) rfl (by rw [hml]; exact hl.1) rfl dX2_init_1 (Nat.le_of_ble_eq_true rfl) (Nat.le_of_ble_eq_true rfl) ?_
  refine W.eq (g2 := F0 m 4 ls []) rfl ?_
  refine lv_aload_n hx hb dX2_init_4 rfl (lv_at hl 0 rfl) ?_
  refine lv_bipush (v := 10) hx hb dX2_init_5 (by decide) ?_
  refine cn_newa hx hb (hw _ (wsm_2 (i := 0) rfl)) hK hP hD hS hA (n := 10) (N := 10) (by decide) (by decide) (Nat.le_of_ble_eq_true rfl) (Nat.le_of_ble_eq_true rfl) (Nat.le_of_ble_eq_true rfl) dX2_init_7 (fun q0 H hP hD hS => ?_)
  have hP : va_P D vwCl [(h0, .inr (2, [.null, .null, .null, .null, .null, .null, .int 0, .int 0, .int 0, .int 0])), (q0, .inl (cA 0, 10, .inl (fun _ => 0)))] H := hP
  have hD : va_D A [(h0, .inr (2, [.null, .null, .null, .null, .null, .null, .int 0, .int 0, .int 0, .int 0])), (q0, .inl (cA 0, 10, .inl (fun _ => 0)))] := hD
  refine W.widen (k := 1) (n := 10) (by omega) (by omega) ?_
  refine va_putF (D := D) (ci := 2) (v := .ref q0) (ty := .array .int) (C := RX2) (T := TX2) (N := 10) hx hb hw inlX2 tyX2 tyX2_ok nmX2 hown hK.1.1 hP hD hS 0 rfl rfl 0 (by decide) (hw _ (wsm_3 (i := 8) rfl)) (fun _ h9 => h9) rfl hin rfl (by decide +kernel) rfl rfl (Nat.le_of_ble_eq_true rfl) dX2_init_9 (fun H locs hP hD hS => ?_)
  have hP : va_P D vwCl [(h0, .inr (2, [.ref q0, .null, .null, .null, .null, .null, .int 0, .int 0, .int 0, .int 0])), (q0, .inl (cA 0, 10, .inl (fun _ => 0)))] H := hP
  have hD : va_D A [(h0, .inr (2, [.ref q0, .null, .null, .null, .null, .null, .int 0, .int 0, .int 0, .int 0])), (q0, .inl (cA 0, 10, .inl (fun _ => 0)))] := hD
  refine lv_aload_n hx hb dX2_init_12 rfl (lv_at hl 0 rfl) ?_
  refine lv_bipush (v := 10) hx hb dX2_init_13 (by decide) ?_
  refine cn_newa hx hb (hw _ (wsm_2 (i := 0) rfl)) hK hP hD hS hA (n := 10) (N := 10) (by decide) (by decide) (Nat.le_of_ble_eq_true rfl) (Nat.le_of_ble_eq_true rfl) (Nat.le_of_ble_eq_true rfl) dX2_init_15 (fun q1 H hP hD hS => ?_)
  have hP : va_P D vwCl [(h0, .inr (2, [.ref q0, .null, .null, .null, .null, .null, .int 0, .int 0, .int 0, .int 0])), (q0, .inl (cA 0, 10, .inl (fun _ => 0))), (q1, .inl (cA 0, 10, .inl (fun _ => 0)))] H := hP
  have hD : va_D A [(h0, .inr (2, [.ref q0, .null, .null, .null, .null, .null, .int 0, .int 0, .int 0, .int 0])), (q0, .inl (cA 0, 10, .inl (fun _ => 0))), (q1, .inl (cA 0, 10, .inl (fun _ => 0)))] := hD
  refine W.widen (k := 2) (n := 20) (by omega) (by omega) ?_
  refine va_putF (D := D) (ci := 2) (v := .ref q1) (ty := .array .int) (C := RX2) (T := TX2) (N := 10) hx hb hw inlX2 tyX2 tyX2_ok nmX2 hown hK.1.1 hP hD hS 0 rfl rfl 1 (by decide) (hw _ (wsm_3 (i := 9) rfl)) (fun _ h9 => h9) rfl hin rfl (by decide +kernel) rfl rfl (Nat.le_of_ble_eq_true rfl) dX2_init_17 (fun H locs hP hD hS => ?_)
  have hP : va_P D vwCl [(h0, .inr (2, [.ref q0, .ref q1, .null, .null, .null, .null, .int 0, .int 0, .int 0, .int 0])), (q0, .inl (cA 0, 10, .inl (fun _ => 0))), (q1, .inl (cA 0, 10, .inl (fun _ => 0)))] H := hP
  have hD : va_D A [(h0, .inr (2, [.ref q0, .ref q1, .null, .null, .null, .null, .int 0, .int 0, .int 0, .int 0])), (q0, .inl (cA 0, 10, .inl (fun _ => 0))), (q1, .inl (cA 0, 10, .inl (fun _ => 0)))] := hD
  refine lv_aload_n hx hb dX2_init_20 rfl (lv_at hl 0 rfl) ?_
  refine lv_bipush (v := 10) hx hb dX2_init_21 (by decide) ?_
  refine cn_newa hx hb (hw _ (wsm_2 (i := 0) rfl)) hK hP hD hS hA (n := 10) (N := 10) (by decide) (by decide) (Nat.le_of_ble_eq_true rfl) (Nat.le_of_ble_eq_true rfl) (Nat.le_of_ble_eq_true rfl) dX2_init_23 (fun q2 H hP hD hS => ?_)
  have hP : va_P D vwCl [(h0, .inr (2, [.ref q0, .ref q1, .null, .null, .null, .null, .int 0, .int 0, .int 0, .int 0])), (q0, .inl (cA 0, 10, .inl (fun _ => 0))), (q1, .inl (cA 0, 10, .inl (fun _ => 0))), (q2, .inl (cA 0, 10, .inl (fun _ => 0)))] H := hP
  have hD : va_D A [(h0, .inr (2, [.ref q0, .ref q1, .null, .null, .null, .null, .int 0, .int 0, .int 0, .int 0])), (q0, .inl (cA 0, 10, .inl (fun _ => 0))), (q1, .inl (cA 0, 10, .inl (fun _ => 0))), (q2, .inl (cA 0, 10, .inl (fun _ => 0)))] := hD
  refine W.widen (k := 3) (n := 30) (by omega) (by omega) ?_
  refine va_putF (D := D) (ci := 2) (v := .ref q2) (ty := .array .int) (C := RX2) (T := TX2) (N := 10) hx hb hw inlX2 tyX2 tyX2_ok nmX2 hown hK.1.1 hP hD hS 0 rfl rfl 2 (by decide) (hw _ (wsm_3 (i := 10) rfl)) (fun _ h9 => h9) rfl hin rfl (by decide +kernel) rfl rfl (Nat.le_of_ble_eq_true rfl) dX2_init_25 (fun H locs hP hD hS => ?_)
  have hP : va_P D vwCl [(h0, .inr (2, [.ref q0, .ref q1, .ref q2, .null, .null, .null, .int 0, .int 0, .int 0, .int 0])), (q0, .inl (cA 0, 10, .inl (fun _ => 0))), (q1, .inl (cA 0, 10, .inl (fun _ => 0))), (q2, .inl (cA 0, 10, .inl (fun _ => 0)))] H := hP
  have hD : va_D A [(h0, .inr (2, [.ref q0, .ref q1, .ref q2, .null, .null, .null, .int 0, .int 0, .int 0, .int 0])), (q0, .inl (cA 0, 10, .inl (fun _ => 0))), (q1, .inl (cA 0, 10, .inl (fun _ => 0))), (q2, .inl (cA 0, 10, .inl (fun _ => 0)))] := hD
  refine lv_aload_n hx hb dX2_init_28 rfl (lv_at hl 0 rfl) ?_
  refine lv_bipush (v := 20) hx hb dX2_init_29 (by decide) ?_
  refine cn_newa hx hb (hw _ (wsm_2 (i := 0) rfl)) hK hP hD hS hA (n := 20) (N := 20) (by decide) (by decide) (Nat.le_of_ble_eq_true rfl) (Nat.le_of_ble_eq_true rfl) (Nat.le_of_ble_eq_true rfl) dX2_init_31 (fun q3 H hP hD hS => ?_)
  have hP : va_P D vwCl [(h0, .inr (2, [.ref q0, .ref q1, .ref q2, .null, .null, .null, .int 0, .int 0, .int 0, .int 0])), (q0, .inl (cA 0, 10, .inl (fun _ => 0))), (q1, .inl (cA 0, 10, .inl (fun _ => 0))), (q2, .inl (cA 0, 10, .inl (fun _ => 0))), (q3, .inl (cA 0, 20, .inl (fun _ => 0)))] H := hP
  have hD : va_D A [(h0, .inr (2, [.ref q0, .ref q1, .ref q2, .null, .null, .null, .int 0, .int 0, .int 0, .int 0])), (q0, .inl (cA 0, 10, .inl (fun _ => 0))), (q1, .inl (cA 0, 10, .inl (fun _ => 0))), (q2, .inl (cA 0, 10, .inl (fun _ => 0))), (q3, .inl (cA 0, 20, .inl (fun _ => 0)))] := hD
  refine W.widen (k := 4) (n := 50) (by omega) (by omega) ?_
  refine va_putF (D := D) (ci := 2) (v := .ref q3) (ty := .array .int) (C := RX2) (T := TX2) (N := 10) hx hb hw inlX2 tyX2 tyX2_ok nmX2 hown hK.1.1 hP hD hS 0 rfl rfl 3 (by decide) (hw _ (wsm_3 (i := 11) rfl)) (fun _ h9 => h9) rfl hin rfl (by decide +kernel) rfl rfl (Nat.le_of_ble_eq_true rfl) dX2_init_33 (fun H locs hP hD hS => ?_)
  have hP : va_P D vwCl [(h0, .inr (2, [.ref q0, .ref q1, .ref q2, .ref q3, .null, .null, .int 0, .int 0, .int 0, .int 0])), (q0, .inl (cA 0, 10, .inl (fun _ => 0))), (q1, .inl (cA 0, 10, .inl (fun _ => 0))), (q2, .inl (cA 0, 10, .inl (fun _ => 0))), (q3, .inl (cA 0, 20, .inl (fun _ => 0)))] H := hP
  have hD : va_D A [(h0, .inr (2, [.ref q0, .ref q1, .ref q2, .ref q3, .null, .null, .int 0, .int 0, .int 0, .int 0])), (q0, .inl (cA 0, 10, .inl (fun _ => 0))), (q1, .inl (cA 0, 10, .inl (fun _ => 0))), (q2, .inl (cA 0, 10, .inl (fun _ => 0))), (q3, .inl (cA 0, 20, .inl (fun _ => 0)))] := hD
  refine lv_aload_n hx hb dX2_init_36 rfl (lv_at hl 0 rfl) ?_
  refine lv_bipush (v := 20) hx hb dX2_init_37 (by decide) ?_
  refine cn_newa hx hb (hw _ (wsm_2 (i := 0) rfl)) hK hP hD hS hA (n := 20) (N := 20) (by decide) (by decide) (Nat.le_of_ble_eq_true rfl) (Nat.le_of_ble_eq_true rfl) (Nat.le_of_ble_eq_true rfl) dX2_init_39 (fun q4 H hP hD hS => ?_)
  have hP : va_P D vwCl [(h0, .inr (2, [.ref q0, .ref q1, .ref q2, .ref q3, .null, .null, .int 0, .int 0, .int 0, .int 0])), (q0, .inl (cA 0, 10, .inl (fun _ => 0))), (q1, .inl (cA 0, 10, .inl (fun _ => 0))), (q2, .inl (cA 0, 10, .inl (fun _ => 0))), (q3, .inl (cA 0, 20, .inl (fun _ => 0))), (q4, .inl (cA 0, 20, .inl (fun _ => 0)))] H := hP
  have hD : va_D A [(h0, .inr (2, [.ref q0, .ref q1, .ref q2, .ref q3, .null, .null, .int 0, .int 0, .int 0, .int 0])), (q0, .inl (cA 0, 10, .inl (fun _ => 0))), (q1, .inl (cA 0, 10, .inl (fun _ => 0))), (q2, .inl (cA 0, 10, .inl (fun _ => 0))), (q3, .inl (cA 0, 20, .inl (fun _ => 0))), (q4, .inl (cA 0, 20, .inl (fun _ => 0)))] := hD
  refine W.widen (k := 5) (n := 70) (by omega) (by omega) ?_
  refine va_putF (D := D) (ci := 2) (v := .ref q4) (ty := .array .int) (C := RX2) (T := TX2) (N := 10) hx hb hw inlX2 tyX2 tyX2_ok nmX2 hown hK.1.1 hP hD hS 0 rfl rfl 4 (by decide) (hw _ (wsm_3 (i := 12) rfl)) (fun _ h9 => h9) rfl hin rfl (by decide +kernel) rfl rfl (Nat.le_of_ble_eq_true rfl) dX2_init_41 (fun H locs hP hD hS => ?_)
  have hP : va_P D vwCl [(h0, .inr (2, [.ref q0, .ref q1, .ref q2, .ref q3, .ref q4, .null, .int 0, .int 0, .int 0, .int 0])), (q0, .inl (cA 0, 10, .inl (fun _ => 0))), (q1, .inl (cA 0, 10, .inl (fun _ => 0))), (q2, .inl (cA 0, 10, .inl (fun _ => 0))), (q3, .inl (cA 0, 20, .inl (fun _ => 0))), (q4, .inl (cA 0, 20, .inl (fun _ => 0)))] H := hP
  have hD : va_D A [(h0, .inr (2, [.ref q0, .ref q1, .ref q2, .ref q3, .ref q4, .null, .int 0, .int 0, .int 0, .int 0])), (q0, .inl (cA 0, 10, .inl (fun _ => 0))), (q1, .inl (cA 0, 10, .inl (fun _ => 0))), (q2, .inl (cA 0, 10, .inl (fun _ => 0))), (q3, .inl (cA 0, 20, .inl (fun _ => 0))), (q4, .inl (cA 0, 20, .inl (fun _ => 0)))] := hD
  refine lv_aload_n hx hb dX2_init_44 rfl (lv_at hl 0 rfl) ?_
  refine va_new (D := D) (ci := 0) (fs := [.null, .null, .int 0]) (C := RX0) (T := TX0) (N := 3) hx hb hw inlX0 tyX0 tyX0_ok hown (hw _ (wsm_3 (i := 13) rfl)) (hw _ (wsm_2 (i := 18) rfl)) (hw _ (wsm_2 (i := 19) rfl)) hK.1.1 hP hD hS hA rfl (fun j hj => by rcases (show j = 0 ∨ j = 1 ∨ j = 2 by omega) with rfl | rfl | rfl <;> rfl) (Nat.le_of_ble_eq_true rfl) (Nat.le_of_ble_eq_true rfl) dX2_init_45 (fun q5 H hP hD hS => ?_)
  have hP : va_P D vwCl [(h0, .inr (2, [.ref q0, .ref q1, .ref q2, .ref q3, .ref q4, .null, .int 0, .int 0, .int 0, .int 0])), (q0, .inl (cA 0, 10, .inl (fun _ => 0))), (q1, .inl (cA 0, 10, .inl (fun _ => 0))), (q2, .inl (cA 0, 10, .inl (fun _ => 0))), (q3, .inl (cA 0, 20, .inl (fun _ => 0))), (q4, .inl (cA 0, 20, .inl (fun _ => 0))), (q5, .inr (0, [.null, .null, .int 0]))] H := hP
  have hD : va_D A [(h0, .inr (2, [.ref q0, .ref q1, .ref q2, .ref q3, .ref q4, .null, .int 0, .int 0, .int 0, .int 0])), (q0, .inl (cA 0, 10, .inl (fun _ => 0))), (q1, .inl (cA 0, 10, .inl (fun _ => 0))), (q2, .inl (cA 0, 10, .inl (fun _ => 0))), (q3, .inl (cA 0, 20, .inl (fun _ => 0))), (q4, .inl (cA 0, 20, .inl (fun _ => 0))), (q5, .inr (0, [.null, .null, .int 0]))] := hD
  refine W.widen (k := 6) (n := 73) (by omega) (by omega) ?_
  refine lv_dup hx hb dX2_init_48 rfl ?_
  have hPc := hP.sub (ws' := [(q5, .inr (0, [.null, .null, .int 0]))]) [6] rfl
  have hDc := hD.sub (ws' := [(q5, .inr (0, [.null, .null, .int 0]))]) [6] (by decide) rfl
  refine cn_after (wr := [(h0, .inr (2, [.ref q0, .ref q1, .ref q2, .ref q3, .ref q4, .null, .int 0, .int 0, .int 0, .int 0])), (q0, .inl (cA 0, 10, .inl (fun _ => 0))), (q1, .inl (cA 0, 10, .inl (fun _ => 0))), (q2, .inl (cA 0, 10, .inl (fun _ => 0))), (q3, .inl (cA 0, 20, .inl (fun _ => 0))), (q4, .inl (cA 0, 20, .inl (fun _ => 0)))]) (va_runIN (host := "ThirdFavour") (As := []) (rest := [.ref q5, .ref h0]) ⟨hx, hb, hml, hown, hts⟩ (c_X0 l D cA q5 H.size) ⟨va_cnB (host := "ThirdFavour") 0 hts (en_good hT (wsm_3 (i := 0) rfl)) rfl rfl rfl (hK.1.2 _ (wsm_43 (i := 5) rfl)) (hw _ (wsm_2 (i := 19) rfl)) ⟨by decide +kernel, by decide +kernel, by decide +kernel⟩ ⟨Nat.le_of_ble_eq_true rfl, Nat.le_of_ble_eq_true rfl⟩, rfl, hw _ (wsm_2 (i := 23) rfl)⟩ (cn_pre hK hPc hDc) rfl rfl hl.1 rfl (lv_room (Nat.le_of_ble_eq_true rfl)) dX2_init_49 ⟨Nat.le_of_ble_eq_true rfl, Nat.le_of_ble_eq_true rfl⟩) hP hD hS hA [6] [0, 1, 2, 3, 4, 5] rfl rfl (by decide) (by decide) (fun u49_6 H locs hpost hP hD hS => ?_)
  have hP : va_P D vwCl [(h0, .inr (2, [.ref q0, .ref q1, .ref q2, .ref q3, .ref q4, .null, .int 0, .int 0, .int 0, .int 0])), (q0, .inl (cA 0, 10, .inl (fun _ => 0))), (q1, .inl (cA 0, 10, .inl (fun _ => 0))), (q2, .inl (cA 0, 10, .inl (fun _ => 0))), (q3, .inl (cA 0, 20, .inl (fun _ => 0))), (q4, .inl (cA 0, 20, .inl (fun _ => 0))), (q5, .inr (0, [.ref (u49_6 1), .ref (u49_6 2), .int 0])), ((u49_6 1), .inl (cA 0, 20, .inl (fun _ => 0))), ((u49_6 2), .inl (cA 0, 20, .inl (fun _ => 0)))] H := hP
  have hD : va_D A [(h0, .inr (2, [.ref q0, .ref q1, .ref q2, .ref q3, .ref q4, .null, .int 0, .int 0, .int 0, .int 0])), (q0, .inl (cA 0, 10, .inl (fun _ => 0))), (q1, .inl (cA 0, 10, .inl (fun _ => 0))), (q2, .inl (cA 0, 10, .inl (fun _ => 0))), (q3, .inl (cA 0, 20, .inl (fun _ => 0))), (q4, .inl (cA 0, 20, .inl (fun _ => 0))), (q5, .inr (0, [.ref (u49_6 1), .ref (u49_6 2), .int 0])), ((u49_6 1), .inl (cA 0, 20, .inl (fun _ => 0))), ((u49_6 2), .inl (cA 0, 20, .inl (fun _ => 0)))] := hD
  refine W.widen (k := 8) (n := 113) (by omega) (by omega) ?_
  refine va_putF (D := D) (ci := 2) (v := .ref q5) (ty := .object "ThirdFavour$Coins") (C := RX2) (T := TX2) (N := 10) hx hb hw inlX2 tyX2 tyX2_ok nmX2 hown hK.1.1 hP hD hS 0 rfl rfl 5 (by decide) (hw _ (wsm_3 (i := 14) rfl)) (fun _ h9 => h9) rfl hin rfl (by decide +kernel) rfl rfl (Nat.le_of_ble_eq_true rfl) dX2_init_52 (fun H locs hP hD hS => ?_)
  have hP : va_P D vwCl [(h0, .inr (2, [.ref q0, .ref q1, .ref q2, .ref q3, .ref q4, .ref q5, .int 0, .int 0, .int 0, .int 0])), (q0, .inl (cA 0, 10, .inl (fun _ => 0))), (q1, .inl (cA 0, 10, .inl (fun _ => 0))), (q2, .inl (cA 0, 10, .inl (fun _ => 0))), (q3, .inl (cA 0, 20, .inl (fun _ => 0))), (q4, .inl (cA 0, 20, .inl (fun _ => 0))), (q5, .inr (0, [.ref (u49_6 1), .ref (u49_6 2), .int 0])), ((u49_6 1), .inl (cA 0, 20, .inl (fun _ => 0))), ((u49_6 2), .inl (cA 0, 20, .inl (fun _ => 0)))] H := hP
  have hD : va_D A [(h0, .inr (2, [.ref q0, .ref q1, .ref q2, .ref q3, .ref q4, .ref q5, .int 0, .int 0, .int 0, .int 0])), (q0, .inl (cA 0, 10, .inl (fun _ => 0))), (q1, .inl (cA 0, 10, .inl (fun _ => 0))), (q2, .inl (cA 0, 10, .inl (fun _ => 0))), (q3, .inl (cA 0, 20, .inl (fun _ => 0))), (q4, .inl (cA 0, 20, .inl (fun _ => 0))), (q5, .inr (0, [.ref (u49_6 1), .ref (u49_6 2), .int 0])), ((u49_6 1), .inl (cA 0, 20, .inl (fun _ => 0))), ((u49_6 2), .inl (cA 0, 20, .inl (fun _ => 0)))] := hD
  refine lv_aload_n hx hb dX2_init_55 rfl (lv_at hl 0 rfl) ?_
  refine lv_iconst (v := 0) hx hb dX2_init_56 (by decide) ?_
  refine va_put (D := D) (ci := 2) (v := .int 0) (ty := .int) (C := RX2) (T := TX2) (N := 10) hx hb hw inlX2 tyX2 tyX2_ok nmX2 hown hK.1.1 hP hD hS 0 rfl rfl 6 (by decide) (hw _ (wsm_3 (i := 15) rfl)) (fun _ h9 => h9) rfl (by decide +kernel) rfl rfl (Nat.le_of_ble_eq_true rfl) dX2_init_57 (fun H locs hP hD hS => ?_)
  have hP : va_P D vwCl [(h0, .inr (2, [.ref q0, .ref q1, .ref q2, .ref q3, .ref q4, .ref q5, .int 0, .int 0, .int 0, .int 0])), (q0, .inl (cA 0, 10, .inl (fun _ => 0))), (q1, .inl (cA 0, 10, .inl (fun _ => 0))), (q2, .inl (cA 0, 10, .inl (fun _ => 0))), (q3, .inl (cA 0, 20, .inl (fun _ => 0))), (q4, .inl (cA 0, 20, .inl (fun _ => 0))), (q5, .inr (0, [.ref (u49_6 1), .ref (u49_6 2), .int 0])), ((u49_6 1), .inl (cA 0, 20, .inl (fun _ => 0))), ((u49_6 2), .inl (cA 0, 20, .inl (fun _ => 0)))] H := hP
  have hD : va_D A [(h0, .inr (2, [.ref q0, .ref q1, .ref q2, .ref q3, .ref q4, .ref q5, .int 0, .int 0, .int 0, .int 0])), (q0, .inl (cA 0, 10, .inl (fun _ => 0))), (q1, .inl (cA 0, 10, .inl (fun _ => 0))), (q2, .inl (cA 0, 10, .inl (fun _ => 0))), (q3, .inl (cA 0, 20, .inl (fun _ => 0))), (q4, .inl (cA 0, 20, .inl (fun _ => 0))), (q5, .inr (0, [.ref (u49_6 1), .ref (u49_6 2), .int 0])), ((u49_6 1), .inl (cA 0, 20, .inl (fun _ => 0))), ((u49_6 2), .inl (cA 0, 20, .inl (fun _ => 0)))] := hD
  refine lv_aload_n hx hb dX2_init_60 rfl (lv_at hl 0 rfl) ?_
  refine lv_iconst (v := 0) hx hb dX2_init_61 (by decide) ?_
  refine va_put (D := D) (ci := 2) (v := .int 0) (ty := .int) (C := RX2) (T := TX2) (N := 10) hx hb hw inlX2 tyX2 tyX2_ok nmX2 hown hK.1.1 hP hD hS 0 rfl rfl 7 (by decide) (hw _ (wsm_3 (i := 16) rfl)) (fun _ h9 => h9) rfl (by decide +kernel) rfl rfl (Nat.le_of_ble_eq_true rfl) dX2_init_62 (fun H locs hP hD hS => ?_)
  have hP : va_P D vwCl [(h0, .inr (2, [.ref q0, .ref q1, .ref q2, .ref q3, .ref q4, .ref q5, .int 0, .int 0, .int 0, .int 0])), (q0, .inl (cA 0, 10, .inl (fun _ => 0))), (q1, .inl (cA 0, 10, .inl (fun _ => 0))), (q2, .inl (cA 0, 10, .inl (fun _ => 0))), (q3, .inl (cA 0, 20, .inl (fun _ => 0))), (q4, .inl (cA 0, 20, .inl (fun _ => 0))), (q5, .inr (0, [.ref (u49_6 1), .ref (u49_6 2), .int 0])), ((u49_6 1), .inl (cA 0, 20, .inl (fun _ => 0))), ((u49_6 2), .inl (cA 0, 20, .inl (fun _ => 0)))] H := hP
  have hD : va_D A [(h0, .inr (2, [.ref q0, .ref q1, .ref q2, .ref q3, .ref q4, .ref q5, .int 0, .int 0, .int 0, .int 0])), (q0, .inl (cA 0, 10, .inl (fun _ => 0))), (q1, .inl (cA 0, 10, .inl (fun _ => 0))), (q2, .inl (cA 0, 10, .inl (fun _ => 0))), (q3, .inl (cA 0, 20, .inl (fun _ => 0))), (q4, .inl (cA 0, 20, .inl (fun _ => 0))), (q5, .inr (0, [.ref (u49_6 1), .ref (u49_6 2), .int 0])), ((u49_6 1), .inl (cA 0, 20, .inl (fun _ => 0))), ((u49_6 2), .inl (cA 0, 20, .inl (fun _ => 0)))] := hD
  refine lv_aload_n hx hb dX2_init_65 rfl (lv_at hl 0 rfl) ?_
  refine lv_iconst (v := 0) hx hb dX2_init_66 (by decide) ?_
  refine va_put (D := D) (ci := 2) (v := .int 0) (ty := .int) (C := RX2) (T := TX2) (N := 10) hx hb hw inlX2 tyX2 tyX2_ok nmX2 hown hK.1.1 hP hD hS 0 rfl rfl 8 (by decide) (hw _ (wsm_3 (i := 17) rfl)) (fun _ h9 => h9) rfl (by decide +kernel) rfl rfl (Nat.le_of_ble_eq_true rfl) dX2_init_67 (fun H locs hP hD hS => ?_)
  have hP : va_P D vwCl [(h0, .inr (2, [.ref q0, .ref q1, .ref q2, .ref q3, .ref q4, .ref q5, .int 0, .int 0, .int 0, .int 0])), (q0, .inl (cA 0, 10, .inl (fun _ => 0))), (q1, .inl (cA 0, 10, .inl (fun _ => 0))), (q2, .inl (cA 0, 10, .inl (fun _ => 0))), (q3, .inl (cA 0, 20, .inl (fun _ => 0))), (q4, .inl (cA 0, 20, .inl (fun _ => 0))), (q5, .inr (0, [.ref (u49_6 1), .ref (u49_6 2), .int 0])), ((u49_6 1), .inl (cA 0, 20, .inl (fun _ => 0))), ((u49_6 2), .inl (cA 0, 20, .inl (fun _ => 0)))] H := hP
  have hD : va_D A [(h0, .inr (2, [.ref q0, .ref q1, .ref q2, .ref q3, .ref q4, .ref q5, .int 0, .int 0, .int 0, .int 0])), (q0, .inl (cA 0, 10, .inl (fun _ => 0))), (q1, .inl (cA 0, 10, .inl (fun _ => 0))), (q2, .inl (cA 0, 10, .inl (fun _ => 0))), (q3, .inl (cA 0, 20, .inl (fun _ => 0))), (q4, .inl (cA 0, 20, .inl (fun _ => 0))), (q5, .inr (0, [.ref (u49_6 1), .ref (u49_6 2), .int 0])), ((u49_6 1), .inl (cA 0, 20, .inl (fun _ => 0))), ((u49_6 2), .inl (cA 0, 20, .inl (fun _ => 0)))] := hD
  refine lv_aload_n hx hb dX2_init_70 rfl (lv_at hl 0 rfl) ?_
  refine lv_iconst (v := (-1)) hx hb dX2_init_71 (by decide) ?_
  refine va_put (D := D) (ci := 2) (v := .int (-1)) (ty := .int) (C := RX2) (T := TX2) (N := 10) hx hb hw inlX2 tyX2 tyX2_ok nmX2 hown hK.1.1 hP hD hS 0 rfl rfl 9 (by decide) (hw _ (wsm_3 (i := 18) rfl)) (fun _ h9 => h9) rfl (by decide +kernel) rfl rfl (Nat.le_of_ble_eq_true rfl) dX2_init_72 (fun H locs hP hD hS => ?_)
  have hP : va_P D vwCl [(h0, .inr (2, [.ref q0, .ref q1, .ref q2, .ref q3, .ref q4, .ref q5, .int 0, .int 0, .int 0, .int (-1)])), (q0, .inl (cA 0, 10, .inl (fun _ => 0))), (q1, .inl (cA 0, 10, .inl (fun _ => 0))), (q2, .inl (cA 0, 10, .inl (fun _ => 0))), (q3, .inl (cA 0, 20, .inl (fun _ => 0))), (q4, .inl (cA 0, 20, .inl (fun _ => 0))), (q5, .inr (0, [.ref (u49_6 1), .ref (u49_6 2), .int 0])), ((u49_6 1), .inl (cA 0, 20, .inl (fun _ => 0))), ((u49_6 2), .inl (cA 0, 20, .inl (fun _ => 0)))] H := hP
  have hD : va_D A [(h0, .inr (2, [.ref q0, .ref q1, .ref q2, .ref q3, .ref q4, .ref q5, .int 0, .int 0, .int 0, .int (-1)])), (q0, .inl (cA 0, 10, .inl (fun _ => 0))), (q1, .inl (cA 0, 10, .inl (fun _ => 0))), (q2, .inl (cA 0, 10, .inl (fun _ => 0))), (q3, .inl (cA 0, 20, .inl (fun _ => 0))), (q4, .inl (cA 0, 20, .inl (fun _ => 0))), (q5, .inr (0, [.ref (u49_6 1), .ref (u49_6 2), .int 0])), ((u49_6 1), .inl (cA 0, 20, .inl (fun _ => 0))), ((u49_6 2), .inl (cA 0, 20, .inl (fun _ => 0)))] := hD
  exact W.vret hx hb hr (fun t ht hW => ⟨⟨(fun k => ([h0, q0, q1, q2, q3, q4, q5, (u49_6 1), (u49_6 2)] : List Nat).getD k 0), rfl, trivial, by rw [ht]; exact hP, hD⟩, hS.F ht⟩) hS.2.2 dX2_init_75
