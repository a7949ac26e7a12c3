/-! ===== both sides in one world ===== -/
/-- the model's state, all of it -/
def bAll (w : en_W) (G : Nat → Int) (s : Nat → Nat → Int) (n : Nat) (tb : Nat → Int) (kick law life pat : Int) (fo : Nat → Int) (sz : Nat → Nat) (it : Nat → Nat → Int32) (hn : Nat) (hm hr : Nat → Int) (lat : Int) : Prop :=
  bG w G s ∧ bP w kick law life pat ∧ bT w n tb ∧ bS w fo sz it ∧ bH w hn hm hr ∧ w 19 4 = zI lat
/-- one state, told by both sides' cells -/
def J (w : en_W) : Prop := ∃ G s n tb kick law life pat fo sz it hn hm hr lat, aAll w G s n tb kick law life pat fo sz it hn hm hr lat ∧ bAll w G s n tb kick law life pat fo sz it hn hm hr lat
/-- a call answers alike on both sides, and leaves one state -/
def JI (f5 f6 : en_S) (a : List Value) (w : en_W) : Prop := ∃ (z : Int32) (w1 w2 : en_W), f5 (.ref 0 :: a) w = some (some (.int z), w1) ∧ f6 (.ref 19 :: a) w1 = some (some (.int z), w2) ∧ J w2
def JL (f5 f6 : en_S) (a : List Value) (w : en_W) : Prop := ∃ (z : Int64) (w1 w2 : en_W), f5 (.ref 0 :: a) w = some (some (.long z), w1) ∧ f6 (.ref 19 :: a) w1 = some (some (.long z), w2) ∧ J w2
theorem aP.f {w w' : en_W} {kick law life pat : Int} (h : aP w kick law life pat) (e7 : w' 0 7 = w 0 7) (e8 : w' 0 8 = w 0 8) (e9 : w' 0 9 = w 0 9) (e10 : w' 0 10 = w 0 10) : aP w' kick law life pat := by
  unfold aP at h ⊢
  rw [e7, e8, e9, e10]
  exact h
theorem bS1.fr {w w' : en_W} {q : Nat} {fo : Int} {sz : Nat} {it : Nat → Int32} (h : bS1 w q fo sz it) (h0 : w' 20 = w 20) (h1 : w' 21 = w 21) (h2 : w' 22 = w 22) : bS1 w' q fo sz it := by
  unfold bS1 at h ⊢
  rw [h0, h1, h2]
  exact h
theorem bT.fr {w w' : en_W} {n : Nat} {tb : Nat → Int} (h : bT w n tb) (h0 : w' 19 9 = w 19 9) (h1 : w' 27 = w 27) : bT w' n tb := by
  unfold bT at h ⊢
  rw [h0, h1]
  exact h
theorem bH.fr {w w' : en_W} {hn : Nat} {hm hr : Nat → Int} (h : bH w hn hm hr) (h0 : w' 19 20 = w 19 20) (h1 : w' 33 = w 33) : bH w' hn hm hr := by
  unfold bH at h ⊢
  rw [h0, h1]
  exact h
section
variable {w w' : en_W} {G : Nat → Int} {s : Nat → Nat → Int} {n : Nat} {tb : Nat → Int} {kick law life pat : Int} {fo : Nat → Int} {sz : Nat → Nat} {it : Nat → Nat → Int32} {hn : Nat} {hm hr : Nat → Int} {lat : Int} {f5 f6 : en_S} {z : Int32}
theorem J.mk (hA : aAll w G s n tb kick law life pat fo sz it hn hm hr lat) (hB : bAll w G s n tb kick law life pat fo sz it hn hm hr lat) : J w := ⟨G, s, n, tb, kick, law, life, pat, fo, sz, it, hn, hm, hr, lat, hA, hB⟩
theorem aAll.m (h : aAll w G s n tb kick law life pat fo sz it hn hm hr lat) (hf : ∀ k, k < 19 ∨ 34 ≤ k → w' k = w k) : aAll w' G s n tb kick law life pat fo sz it hn hm hr lat := h.fr (fun k _ hk => hf k (by omega))
theorem bAll.c (h : bAll w G s n tb kick law life pat fo sz it hn hm hr lat) (hf : ∀ k, 19 ≤ k → k < 34 → w' k = w k) : bAll w' G s n tb kick law life pat fo sz it hn hm hr lat := by
  obtain ⟨h1, h2, h3, h4, h5, h6⟩ := h
  refine ⟨h1.fr (hf _ (by omega) (by omega)) (hf _ (by omega) (by omega)), h2.fr (hf _ (by omega) (by omega)), h3.fr (by rw [hf 19 (by omega) (by omega)]) (hf _ (by omega) (by omega)), fun q hq => (h4 q hq).fr (hf _ (by omega) (by omega)) (hf _ (by omega) (by omega)) (hf _ (by omega) (by omega)), h5.fr (by rw [hf 19 (by omega) (by omega)]) (hf _ (by omega) (by omega)), ?_⟩
  rw [hf 19 (by omega) (by omega)]
  exact h6
theorem bAll.nf (h : bAll w G s n tb kick law life pat fo sz it hn hm hr lat) (hf : en_fr NF w w') : bAll w' G s n tb kick law life pat fo sz it hn hm hr lat := h.c (fun k h1 h2 => hf k (by rw [NF_mem]; omega))
theorem bAll.q (h : bAll w G s n tb kick law life pat fo sz it hn hm hr lat) : bQ w G s n tb kick law life pat hn hm hr lat := ⟨h.1, h.2.1, h.2.2.1, h.2.2.2.2.1, h.2.2.2.2.2⟩
theorem bAll.o (h : bAll w G s n tb kick law life pat fo sz it hn hm hr lat) (hf : ofr w w') : bAll w' G s n tb kick law life pat fo sz it hn hm hr lat := by
  obtain ⟨h1, h2, h3, h4, h5, h6⟩ := h
  refine ⟨h1.o hf, h2.o hf, h3.o hf, fun q hq => (h4 q hq).fr (hf.1 _ (by decide)) (hf.1 _ (by decide)) (hf.1 _ (by decide)), h5.o hf, ?_⟩
  rw [hf.2 4 (by decide) (by decide) (by decide) (by decide) (by decide)]
  exact h6
theorem aAll.o (h : aAll w G s n tb kick law life pat fo sz it hn hm hr lat) (hf : ofr w w') : aAll w' G s n tb kick law life pat fo sz it hn hm hr lat := h.m (fun k hk => hf.1 k (by simp; omega))
/-- a call that asks alone -/
theorem jq {a : List Value} (hA : aAll w G s n tb kick law life pat fo sz it hn hm hr lat) (hB : bAll w G s n tb kick law life pat fo sz it hn hm hr lat) (h5 : ∃ w', f5 (.ref 0 :: a) w = some (some (.int z), w') ∧ en_fr NF w w') (h6 : ∀ w1, bAll w1 G s n tb kick law life pat fo sz it hn hm hr lat → ∃ w', f6 (.ref 19 :: a) w1 = some (some (.int z), w') ∧ ofr w1 w') : JI f5 f6 a w := by
  obtain ⟨w1, e1, f1⟩ := h5
  obtain ⟨w2, e2, f2⟩ := h6 w1 (hB.nf f1)
  exact ⟨z, w1, w2, e1, e2, J.mk ((hA.nf f1).o f2) ((hB.nf f1).o f2)⟩
theorem jql {a : List Value} {z : Int64} (hA : aAll w G s n tb kick law life pat fo sz it hn hm hr lat) (hB : bAll w G s n tb kick law life pat fo sz it hn hm hr lat) (h5 : ∃ w', f5 (.ref 0 :: a) w = some (some (.long z), w') ∧ en_fr NF w w') (h6 : ∀ w1, bAll w1 G s n tb kick law life pat fo sz it hn hm hr lat → ∃ w', f6 (.ref 19 :: a) w1 = some (some (.long z), w') ∧ ofr w1 w') : JL f5 f6 a w := by
  obtain ⟨w1, e1, f1⟩ := h5
  obtain ⟨w2, e2, f2⟩ := h6 w1 (hB.nf f1)
  exact ⟨z, w1, w2, e1, e2, J.mk ((hA.nf f1).o f2) ((hB.nf f1).o f2)⟩
/-! one part of the class's state anew -/
theorem aAll.disc {G' : Nat → Int} {s' : Nat → Nat → Int} (h : aAll w G s n tb kick law life pat fo sz it hn hm hr lat) (hf : ∀ k, k < 34 ∨ 54 ≤ k → w' k = w k) (hD : aD w' G' s') : aAll w' G' s' n tb kick law life pat fo sz it hn hm hr lat := by
  obtain ⟨h1, h2, h3, h4, h5, h6⟩ := h
  refine ⟨hD, h2.fr (hf _ (by omega)) (hf _ (by omega)) (hf _ (by omega)) (hf _ (by omega)) (hf _ (by omega)), h3.fr (hf _ (by omega)), fun q hq => (h4 q hq).fr (hf _ (by omega)) (hf _ (by omega)), h5.fr (by rw [hf 0 (by omega)]) (hf _ (by omega)) (hf _ (by omega)), ?_⟩
  rw [hf 0 (by omega)]
  exact h6
theorem aAll.slip {n' : Nat} {tb' : Nat → Int} (h : aAll w G s n tb kick law life pat fo sz it hn hm hr lat) (hf : ∀ k, k < 3 ∨ 8 ≤ k → w' k = w k) (hT : en_slip w' n' tb') : aAll w' G s n' tb' kick law life pat fo sz it hn hm hr lat := by
  obtain ⟨h1, h2, h3, h4, h5, h6⟩ := h
  refine ⟨h1.fr (fun k a b => hf k (by omega)), hT, h3.fr (hf _ (by omega)), fun q hq => (h4 q hq).fr (hf _ (by omega)) (hf _ (by omega)), h5.fr (by rw [hf 0 (by omega)]) (hf _ (by omega)) (hf _ (by omega)), ?_⟩
  rw [hf 0 (by omega)]
  exact h6
theorem aAll.zero {kick' law' life' pat' lat' : Int} {hn' : Nat} {hm' hr' : Nat → Int} (h : aAll w G s n tb kick law life pat fo sz it hn hm hr lat) (hf : ∀ k, k ≠ 0 → k ≠ 17 → k ≠ 18 → w' k = w k) (hP : aP w' kick' law' life' pat') (hH : aH w' hn' hm' hr') (hL : w' 0 11 = zI lat') : aAll w' G s n tb kick' law' life' pat' fo sz it hn' hm' hr' lat' := by
  obtain ⟨h1, h2, h3, h4, h5, h6⟩ := h
  exact ⟨h1.fr (fun k a b => hf k (by omega) (by omega) (by omega)), h2.fr (hf _ (by omega) (by omega) (by omega)) (hf _ (by omega) (by omega) (by omega)) (hf _ (by omega) (by omega) (by omega)) (hf _ (by omega) (by omega) (by omega)) (hf _ (by omega) (by omega) (by omega)), hP, fun q hq => (h4 q hq).fr (hf _ (by omega) (by omega) (by omega)) (hf _ (by omega) (by omega) (by omega)), hH, hL⟩
theorem aAll.sh {fo' : Nat → Int} {sz' : Nat → Nat} {it' : Nat → Nat → Int32} (h : aAll w G s n tb kick law life pat fo sz it hn hm hr lat) (hf : ∀ k, k < 8 ∨ (17 ≤ k ∧ k < 19) ∨ (34 ≤ k ∧ k < 54) → w' k = w k) (hS : ∀ q, q < 4 → aS1 w' (54 + 2 * q) (fo' q) (sz' q) (it' q)) : aAll w' G s n tb kick law life pat fo' sz' it' hn hm hr lat := by
  obtain ⟨h1, h2, h3, h4, h5, h6⟩ := h
  refine ⟨h1.fr (fun k a b => hf k (by omega)), h2.fr (hf _ (by omega)) (hf _ (by omega)) (hf _ (by omega)) (hf _ (by omega)) (hf _ (by omega)), h3.fr (hf _ (by omega)), hS, h5.fr (by rw [hf 0 (by omega)]) (hf _ (by omega)) (hf _ (by omega)), ?_⟩
  rw [hf 0 (by omega)]
  exact h6
/-! one part of the model's state anew -/
theorem bAll.g {G' : Nat → Int} {s' : Nat → Nat → Int} (h : bAll w G s n tb kick law life pat fo sz it hn hm hr lat) (hf : ∀ k, k ≠ 24 → k ≠ 25 → w' k = w k) (hG : bG w' G' s') : bAll w' G' s' n tb kick law life pat fo sz it hn hm hr lat := by
  obtain ⟨h1, h2, h3, h4, h5, h6⟩ := h
  refine ⟨hG, h2.fr (hf _ (by omega) (by omega)), h3.fr (by rw [hf 19 (by omega) (by omega)]) (hf _ (by omega) (by omega)), fun q hq => (h4 q hq).fr (hf _ (by omega) (by omega)) (hf _ (by omega) (by omega)) (hf _ (by omega) (by omega)), h5.fr (by rw [hf 19 (by omega) (by omega)]) (hf _ (by omega) (by omega)), ?_⟩
  rw [hf 19 (by omega) (by omega)]
  exact h6
theorem bAll.p {kick' law' life' pat' : Int} (h : bAll w G s n tb kick law life pat fo sz it hn hm hr lat) (hf : ∀ k, k ≠ 26 → w' k = w k) (hP : bP w' kick' law' life' pat') : bAll w' G s n tb kick' law' life' pat' fo sz it hn hm hr lat := by
  obtain ⟨h1, h2, h3, h4, h5, h6⟩ := h
  refine ⟨h1.fr (hf _ (by omega)) (hf _ (by omega)), hP, h3.fr (by rw [hf 19 (by omega)]) (hf _ (by omega)), fun q hq => (h4 q hq).fr (hf _ (by omega)) (hf _ (by omega)) (hf _ (by omega)), h5.fr (by rw [hf 19 (by omega)]) (hf _ (by omega)), ?_⟩
  rw [hf 19 (by omega)]
  exact h6
theorem bAll.t {n' : Nat} {tb' : Nat → Int} (h : bAll w G s n tb kick law life pat fo sz it hn hm hr lat) (hf : ∀ k, k ≠ 19 → k ≠ 27 → k ≠ 28 → w' k = w k) (h4' : w' 19 4 = w 19 4) (h20 : w' 19 20 = w 19 20) (hT : bT w' n' tb') : bAll w' G s n' tb' kick law life pat fo sz it hn hm hr lat := by
  obtain ⟨h1, h2, h3, h4, h5, h6⟩ := h
  refine ⟨h1.fr (hf _ (by omega) (by omega) (by omega)) (hf _ (by omega) (by omega) (by omega)), h2.fr (hf _ (by omega) (by omega) (by omega)), hT, fun q hq => (h4 q hq).fr (hf _ (by omega) (by omega) (by omega)) (hf _ (by omega) (by omega) (by omega)) (hf _ (by omega) (by omega) (by omega)), h5.fr h20 (hf _ (by omega) (by omega) (by omega)), ?_⟩
  rw [h4']
  exact h6
theorem bAll.x {fo' : Nat → Int} {sz' : Nat → Nat} {it' : Nat → Nat → Int32} (h : bAll w G s n tb kick law life pat fo sz it hn hm hr lat) (hf : ∀ k, k ≠ 20 → k ≠ 21 → k ≠ 22 → k ≠ 23 → w' k = w k) (hS : bS w' fo' sz' it') : bAll w' G s n tb kick law life pat fo' sz' it' hn hm hr lat := by
  obtain ⟨h1, h2, h3, h4, h5, h6⟩ := h
  refine ⟨h1.fr (hf _ (by omega) (by omega) (by omega) (by omega)) (hf _ (by omega) (by omega) (by omega) (by omega)), h2.fr (hf _ (by omega) (by omega) (by omega) (by omega)), h3.fr (by rw [hf 19 (by omega) (by omega) (by omega) (by omega)]) (hf _ (by omega) (by omega) (by omega) (by omega)), hS, h5.fr (by rw [hf 19 (by omega) (by omega) (by omega) (by omega)]) (hf _ (by omega) (by omega) (by omega) (by omega)), ?_⟩
  rw [hf 19 (by omega) (by omega) (by omega) (by omega)]
  exact h6
theorem bAll.h {hn' : Nat} {hm' hr' : Nat → Int} (h : bAll w G s n tb kick law life pat fo sz it hn hm hr lat) (hf : ∀ k, k ≠ 19 → k ≠ 33 → w' k = w k) (h4' : w' 19 4 = w 19 4) (h9 : w' 19 9 = w 19 9) (hH : bH w' hn' hm' hr') : bAll w' G s n tb kick law life pat fo sz it hn' hm' hr' lat := by
  obtain ⟨h1, h2, h3, h4, h5, h6⟩ := h
  refine ⟨h1.fr (hf _ (by omega) (by omega)) (hf _ (by omega) (by omega)), h2.fr (hf _ (by omega) (by omega)), h3.fr h9 (hf _ (by omega) (by omega)), fun q hq => (h4 q hq).fr (hf _ (by omega) (by omega)) (hf _ (by omega) (by omega)) (hf _ (by omega) (by omega)), hH, ?_⟩
  rw [h4']
  exact h6
/-- after a finding -/
theorem aAll.l {y : Int} (h : aAll w G s n tb kick law life pat fo sz it hn hm hr lat) : aAll (en_up w 0 11 (zI y)) G s n tb kick law life pat fo sz it hn hm hr y := h.zero (fun k a _ _ => en_up_ne a) (h.2.2.1.f (by rw [en_up_eq, upd_ne (by omega)]) (by rw [en_up_eq, upd_ne (by omega)]) (by rw [en_up_eq, upd_ne (by omega)]) (by rw [en_up_eq, upd_ne (by omega)])) (h.2.2.2.2.1.fr (by rw [en_up_eq, upd_ne (by omega)]) (en_up_ne (by omega)) (en_up_ne (by omega))) (by rw [en_up_eq, upd_eq])
theorem bAll.l {y : Int} (h : bAll w G s n tb kick law life pat fo sz it hn hm hr lat) : bAll (en_up w 19 4 (zI y)) G s n tb kick law life pat fo sz it hn hm hr y := by
  obtain ⟨h1, h2, h3, h4, h5, h6⟩ := h
  exact ⟨h1.fr (en_up_ne (by omega)) (en_up_ne (by omega)), h2.fr (en_up_ne (by omega)), h3.fr (by rw [en_up_eq, upd_ne (by omega)]) (en_up_ne (by omega)), fun q hq => (h4 q hq).fr (en_up_ne (by omega)) (en_up_ne (by omega)) (en_up_ne (by omega)), h5.fr (by rw [en_up_eq, upd_ne (by omega)]) (en_up_ne (by omega)), by rw [en_up_eq, upd_eq]⟩
/-- a finding on both sides -/
theorem jf {y : Int} {a : List Value} (hy : y ≠ 0) (hA : aAll w G s n tb kick law life pat fo sz it hn hm hr lat) (hB : bAll w G s n tb kick law life pat fo sz it hn hm hr lat) (h5 : f5 (.ref 0 :: a) w = some (some (.int z), wFi w y)) (h6 : ∀ w1, bAll w1 G s n tb kick law life pat fo sz it hn hm hr lat → f6 (.ref 19 :: a) w1 = some (some (.int z), wFm w1 y)) : JI f5 f6 a w := by
  unfold wFi at h5
  rw [if_neg hy] at h5
  have hB1 : bAll (en_up w 0 11 (zI y)) G s n tb kick law life pat fo sz it hn hm hr lat := hB.c (fun k h1 h2 => en_up_ne (by omega))
  have e6 := h6 _ hB1
  unfold wFm at e6
  rw [if_neg hy] at e6
  exact ⟨z, _, _, h5, e6, J.mk ((hA.l).m (fun k hk => en_up_ne (by omega))) hB1.l⟩
end
