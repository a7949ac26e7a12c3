/-! ===== cells that are made: arrays of one class each, what a constructor's contract says ===== -/
theorem cn_RAi {U : State} {a b : ClassId} (h : va_RA U a .int) (h2 : va_RA U b .int) : b = a := by
  have h : U.vm.findClass _ = some a := h
  have h2 : U.vm.findClass _ = some b := h2
  rw [h] at h2
  exact (Option.some.inj h2).symm
theorem cn_RAo {U : State} {a b : ClassId} {C : String} (h : va_RA U a (.object C)) (h2 : va_RA U b (.object C)) : b = a := by
  obtain ⟨-, -, -, -, -, h⟩ := h
  obtain ⟨-, -, -, -, -, h2⟩ := h2
  rw [h] at h2
  exact (Option.some.inj h2).symm
/-- what a constructor stands on: classes, arrays' classes, nest, arrays of references -/
def cn_K (D : va_G) (cA : Nat → ClassId) (U : State) : Prop := en_Kn D cA U ∧ va_AO "ThirdFavour$Disc" U ∧ va_AO "ThirdFavour$Sheet" U
theorem cn_K.warm {D : va_G} {cA : Nat → ClassId} {s U : State} (hW : s.WarmedH U.vm) (h : cn_K D cA s) : cn_K D cA U := ⟨en_Kn.warm hW h.1, h.2.1.moved hW.alike, h.2.2.moved hW.alike⟩
theorem cn_K.same {D : va_G} {cA : Nat → ClassId} {u U : State} (hvm : u.vm = U.vm) (h : cn_K D cA u) : cn_K D cA U := ⟨en_Kn.same hvm h.1, h.2.1.moved (by rw [hvm]; exact Vm.Alike.refl _), h.2.2.moved (by rw [hvm]; exact Vm.Alike.refl _)⟩
def cn_Pc (D : va_G) (cA : Nat → ClassId) (av : List Value) (sz : Nat) (ws : va_W) : Array Value → State → Prop := va_Pc av (fun U => U.heap.size = sz ∧ va_P D vwCl ws U.heap ∧ va_D (fun _ => True) ws ∧ cn_K D cA U)
def cn_Qc {S : Type} (D : va_G) (post : S → Prop) (cl : S → va_W) (A : Nat → Prop) : Array Value → State → Outcome → State → Prop := va_Qv post (fun u t => va_P D vwCl (cl u) t.heap ∧ va_D A (cl u)) A
theorem cn_blind {D : va_G} {cA : Nat → ClassId} {av : List Value} {sz : Nat} {ws : va_W} : FrameBlind (cn_Pc D cA av sz ws) := fun a U g mk q => ⟨q.1, q.2.1, q.2.2.1, q.2.2.2.1, cn_K.same (u := U) (U := U.calling g mk a) rfl q.2.2.2.2⟩
section
variable {p : Program} {l : Launch} {e : Env} {R : Room} {s : State} {m : MethodId} {args : Array Value} {below : List Frame} {meth : Method} {c : Code} {H : Heap} {locs : List Loc} {cells slots : Nat} {Q : State → Prop}
variable {cc : ByteArray} {pc nL : Nat} {ls : Array Slot} {rest st0 : List Value} {own : String} {D : va_G} {cA : Nat → ClassId} {A : Nat → Prop} {H0 : Heap} {ws wc wr : va_W}
theorem cn_pre {av : List Value} (hK : cn_K D cA s) (hP : va_P D vwCl wc H) (hD : va_D A wc) : PreS s H (cn_Pc D cA av H.size wc) av := ⟨cn_blind, fun U hU hW => ⟨rfl, by rw [hU], by rw [hU]; exact hP, hD.weaken (fun _ _ _ _ => trivial), cn_K.warm hW hK⟩⟩
theorem cn_newa (hexec : p.tables.exec = Jvm.exec) (hb : c.code = cc) (harr : (Cond.arrayClass .int).before args s = true) (hK : cn_K D cA s) (hP : va_P D vwCl ws H) (hD : va_D A ws) (hS : va_S A H0 H locs) (hA : ∀ q, H0.size ≤ q → A q) {n : Int32} {N : Nat} (hn : ¬ n < 0) (hN : n.toNatClampNeg = N) (hbytes : N * 4 ≤ 536870912) (hcells : cells + 1 ≤ R.cells) (hslots : slots + N ≤ R.slots) (hdg : decode cc pc = .ok (.newarray .int, 2))
    (kk : ∀ (q : Nat) (H1 : Heap), va_P D vwCl (ws ++ [(q, .inl (cA 0, N, .inl (fun _ => 0)))]) H1 → va_D A (ws ++ [(q, .inl (cA 0, N, .inl (fun _ => 0)))]) → va_S A H0 H1 locs → W p l e R s m args below meth c H1 locs (cells + 1) (slots + N) Q (F0 m (pc + 2) ls (.ref q :: rest))) : W p l e R s m args below meth c H locs cells slots Q (F0 m pc ls (.int n :: rest)) :=
  va_newa (atype := .int) (ty := .int) (a0 := (N, .inl (fun _ => 0))) hexec hb harr rfl hK.1.1 hP hD hS hA (fun _ => rfl) hn hN hbytes hcells hslots hdg (fun q c' H1 hK' hP' hD' hS' => by
    have e : c' = cA 0 := cn_RAi (hK.1.1.2 0 _ rfl).2 (hK'.2 3 _ rfl).2
    subst e
    exact kk q H1 hP' hD' hS')
theorem cn_newd (hexec : p.tables.exec = Jvm.exec) (hb : c.code = cc) {index : Nat} (hown : s.vm.findClass own = some m.cls) (hclink : (Cond.classLink own index "ThirdFavour$Disc").before args s = true) (hK : cn_K D cA s) (hP : va_P D vwCl ws H) (hD : va_D A ws) (hS : va_S A H0 H locs) (hA : ∀ q, H0.size ≤ q → A q) {n : Int32} {N : Nat} (hn : ¬ n < 0) (hN : n.toNatClampNeg = N) (hbytes : N * 4 ≤ 536870912) (hcells : cells + 1 ≤ R.cells) (hslots : slots + N ≤ R.slots) (hdg : decode cc pc = .ok (.anewarray index, 3))
    (kk : ∀ (q : Nat) (H1 : Heap), va_P D vwCl (ws ++ [(q, .inl (cA 1, N, .inr (.inr (.inr (.inr (fun _ => none))))))]) H1 → va_D A (ws ++ [(q, .inl (cA 1, N, .inr (.inr (.inr (.inr (fun _ => none))))))]) → va_S A H0 H1 locs → W p l e R s m args below meth c H1 locs (cells + 1) (slots + N) Q (F0 m (pc + 3) ls (.ref q :: rest))) : W p l e R s m args below meth c H locs cells slots Q (F0 m pc ls (.int n :: rest)) :=
  va_newq hexec hb hown hclink hK.2.1 hK.1.1 hP hD hS hA hn hN hbytes hcells hslots hdg (fun q c' H1 hK' hP' hD' hS' => by
    have e : c' = cA 1 := cn_RAo (hK.1.1.2 1 _ rfl).2 (hK'.2 3 _ rfl).2
    subst e
    exact kk q H1 hP' hD' hS')
theorem cn_news (hexec : p.tables.exec = Jvm.exec) (hb : c.code = cc) {index : Nat} (hown : s.vm.findClass own = some m.cls) (hclink : (Cond.classLink own index "ThirdFavour$Sheet").before args s = true) (hK : cn_K D cA s) (hP : va_P D vwCl ws H) (hD : va_D A ws) (hS : va_S A H0 H locs) (hA : ∀ q, H0.size ≤ q → A q) {n : Int32} {N : Nat} (hn : ¬ n < 0) (hN : n.toNatClampNeg = N) (hbytes : N * 4 ≤ 536870912) (hcells : cells + 1 ≤ R.cells) (hslots : slots + N ≤ R.slots) (hdg : decode cc pc = .ok (.anewarray index, 3))
    (kk : ∀ (q : Nat) (H1 : Heap), va_P D vwCl (ws ++ [(q, .inl (cA 2, N, .inr (.inr (.inr (.inr (fun _ => none))))))]) H1 → va_D A (ws ++ [(q, .inl (cA 2, N, .inr (.inr (.inr (.inr (fun _ => none))))))]) → va_S A H0 H1 locs → W p l e R s m args below meth c H1 locs (cells + 1) (slots + N) Q (F0 m (pc + 3) ls (.ref q :: rest))) : W p l e R s m args below meth c H locs cells slots Q (F0 m pc ls (.int n :: rest)) :=
  va_newq hexec hb hown hclink hK.2.2 hK.1.1 hP hD hS hA hn hN hbytes hcells hslots hdg (fun q c' H1 hK' hP' hD' hS' => by
    have e : c' = cA 2 := cn_RAo (hK.1.1.2 2 _ rfl).2 (hK'.2 3 _ rfl).2
    subst e
    exact kk q H1 hP' hD' hS')
/-- behind a constructor's call: what came back beside the rest -/
theorem cn_after {S : Type} {post : S → Prop} {cl : S → va_W} {mc ms : Nat} {a : Array Value} (hr : va_Run p l e R s m args below meth c H locs cells slots mc ms (F0 m pc ls st0) rest (cn_Qc D post cl (va_A wc H.size) a) (va_A wc H.size)) (hP : va_P D vwCl ws H) (hD : va_D A ws) (hS : va_S A H0 H locs) (hA : ∀ q, H0.size ≤ q → A q) (isC isR : List Nat) (hC : isC.map (fun i => ws[i]?) = wc.map some) (hR : isR.map (fun i => ws[i]?) = wr.map some) (hn : va_nd isR = true) (hdis : ∀ i ∈ isR, i ∉ isC)
    (kk : ∀ (u : S) (H1 : Heap) (locs1 : List Loc), post u → va_P D vwCl (wr ++ cl u) H1 → va_D A (wr ++ cl u) → va_S A H0 H1 locs1 → W p l e R s m args below meth c H1 locs1 (cells + mc) (slots + ms) Q (F0 m (pc + 3) ls rest)) : W p l e R s m args below meth c H locs cells slots Q (F0 m pc ls st0) := by
  have hF := va_free hD hS hA isC hC
  refine va_callv hr hS (fun q _ h => hF q h) hF (fun u t H1 locs1 ht hvm hw hB hz1 hk1 hS1 => ?_)
  obtain ⟨hP1, hD1⟩ := hB
  rw [ht] at hP1
  obtain ⟨q1, q2⟩ := va_join hP hD isC isR hC hR hn hdis hk1 hF hP1 hD1
  exact kk u H1 locs1 hw q1 q2 hS1
/-- a row of ints is told by its places alone -/
theorem cn_at_i {k n : Nat} {C : ClassId} {f g : Nat → Int32} (h : va_at D vwCl (k, .inl (C, n, .inl f)) H) (hf : ∀ j, j < n → f j = g j) : va_at D vwCl (k, .inl (C, n, .inl g)) H := by
  have h1 : H[k]? = some (vp_cell C (n, .inl f)) := h
  show H[k]? = some (vp_cell C (n, .inl g))
  rw [h1]
  congr 1
  rw [vp_cell_i, vp_cell_i]
  unfold arrV
  congr 1
  congr 1
  funext j
  dsimp only
  rw [hf j.val j.isLt]
theorem cn_at_q {k n : Nat} {C : ClassId} {f g : Nat → Option Nat} (h : va_at D vwCl (k, .inl (C, n, .inr (.inr (.inr (.inr f))))) H) (hf : ∀ j, j < n → f j = g j) : va_at D vwCl (k, .inl (C, n, .inr (.inr (.inr (.inr g))))) H := by
  have h1 : H[k]? = some (vp_cell C (n, .inr (.inr (.inr (.inr f))))) := h
  show H[k]? = some (vp_cell C (n, .inr (.inr (.inr (.inr g)))))
  rw [h1]
  congr 1
  rw [vp_cell_q, vp_cell_q]
  unfold arrV
  congr 1
  congr 1
  funext j
  dsimp only
  rw [hf j.val j.isLt]
end
