/-! ===== each call answers alike: the sheets ===== -/
theorem sh_set {w w' : en_W} {fo : Nat → Int} {sz : Nat → Nat} {it : Nat → Nat → Int32} {Q m : Nat} {f : Int} {i : Nat → Int32} (h : ∀ q, q < 4 → aS1 w (54 + 2 * q) (fo q) (sz q) (it q)) (h1 : aS1 w' (54 + 2 * Q) f m i) (hf : ∀ k, 54 ≤ k → k ≠ 54 + 2 * Q → k ≠ 54 + 2 * Q + 1 → w' k = w k) : ∀ q, q < 4 → aS1 w' (54 + 2 * q) (fu fo Q f q) (fu sz Q m q) (fu it Q i q) := fun q hq => by
  by_cases e : q = Q
  · subst e
    rw [fu_eq, fu_eq, fu_eq]
    exact h1
  · rw [fu_ne e, fu_ne e, fu_ne e]
    exact (h q hq).fr (hf _ (by omega) (by omega) (by omega)) (hf _ (by omega) (by omega) (by omega))
theorem bs_set {w w' : en_W} {fo : Nat → Int} {sz : Nat → Nat} {it : Nat → Nat → Int32} {Q m : Nat} {f : Int} {i : Nat → Int32} (h : bS w fo sz it) (h1 : bS1 w' Q f m i) (h20 : ∀ q, q ≠ Q → w' 20 q = w 20 q) (h21 : ∀ q, q ≠ Q → w' 21 q = w 21 q) (h22 : ∀ k, ¬ (60 * Q ≤ k ∧ k < 60 * Q + 60) → w' 22 k = w 22 k) : bS w' (fu fo Q f) (fu sz Q m) (fu it Q i) := fun q hq => by
  by_cases e : q = Q
  · subst e
    rw [fu_eq, fu_eq, fu_eq]
    exact h1
  · rw [fu_ne e, fu_ne e, fu_ne e]
    obtain ⟨⟨a1, a2⟩, ⟨a3, a4⟩, a5⟩ := h q hq
    refine ⟨⟨by rw [h20 q e]; exact a1, a2⟩, ⟨fun z => by rw [h21 q e]; exact a3 z, a4⟩, fun j hj => ?_⟩
    rw [h22 _ (by omega)]
    exact a5 j hj
section
variable {w : en_W}
theorem j_sheet (hJ : J w) (x y z : Int32) : JI SX5_sheet SX6_sheet [.int x, .int y, .int z] w := by
  obtain ⟨G, s, n, tb, kick, law, life, pat, fo, sz, it, hn, hm, hr, lat, hA, hB⟩ := hJ
  obtain ⟨q, q1, q2, rfl⟩ := zI_any x
  obtain ⟨f, f1, f2, rfl⟩ := zI_any y
  obtain ⟨m, m1, m2, rfl⟩ := zI_any z
  by_cases p : (0 ≤ q ∧ q ≤ 3) ∧ (0 ≤ f ∧ f ≤ 2) ∧ m ≤ 60
  · obtain ⟨⟨p1, p2⟩, ⟨p3, p4⟩, p5⟩ := p
    by_cases c : m < 0
    · exact jf (y := 5) (by decide) hA hB (s_sheet_neg p1 p2 p3 p4 c m1) (fun w1 b => r_sheet_neg p1 p2 p3 p4 c m1)
    · obtain ⟨Q, hQ⟩ : ∃ Q : Nat, q = (Q : Int) := ⟨q.toNat, by omega⟩
      subst hQ
      obtain ⟨M, hM⟩ : ∃ M : Nat, m = (M : Int) := ⟨m.toNat, by omega⟩
      subst hM
      obtain ⟨w1, e5, d5, g5⟩ := s_sheet_ok (q := (Q : Int)) (f := f) (m := (M : Int)) (hA.2.2.2.1 Q (by omega)) p1 p2 p3 p4 (by omega) p5
      rw [Int.toNat_natCast, Int.toNat_natCast] at d5
      rw [Int.toNat_natCast] at g5
      have hA1 := hA.sh (fun k hk => g5 k (by simp; omega)) (sh_set hA.2.2.2.1 d5 (fun k k1 k2 k3 => g5 k (by simp; omega)))
      have hB1 := hB.c (fun k k1 k2 => g5 k (by simp; omega))
      obtain ⟨w2, e6, a20, a21, a22, g6⟩ := r_sheet_ok (w := w1) (q := Q) (p := M) (show Q < 4 by omega) p3 p4 (by omega)
      refine ⟨_, _, _, e5, e6, J.mk (hA1.m (fun k hk => g6 k (by simp; omega))) (hB1.x (fun k k1 k2 k3 k4 => g6 k (by simp; omega)) (bs_set (Q := Q) (m := M) (f := f) (i := fun _ => 0) hB1.2.2.2.1 ⟨⟨by rw [a20, upd_eq], by omega, p4⟩, ⟨fun _ => by rw [a21, upd_eq], by omega⟩, fun j hj => by rw [a22, if_pos (by omega)]⟩ (fun q hq => by rw [a20, upd_ne hq]) (fun q hq => by rw [a21, upd_ne hq]) (fun k hk => by rw [a22, if_neg (by omega)])))⟩
  · exact jq hA hB ⟨w, s_sheet_bad p q1 q2 f1 f2 m1 m2, en_fr.rf⟩ (fun w1 _ => ⟨w1, r_sheet_bad p q1 q2 f1 f2 m1 m2, ofr.rf⟩)
theorem j_lose (hJ : J w) (x : Int32) : JI SX5_lose SX6_lose [.int x] w := by
  obtain ⟨G, s, n, tb, kick, law, life, pat, fo, sz, it, hn, hm, hr, lat, hA, hB⟩ := hJ
  obtain ⟨q, q1, q2, rfl⟩ := zI_any x
  by_cases p : 0 ≤ q ∧ q ≤ 3
  · obtain ⟨Q, hQ⟩ : ∃ Q : Nat, q = (Q : Int) := ⟨q.toNat, by omega⟩
    subst hQ
    have hQ4 : Q < 4 := by omega
    by_cases c : fo Q = -1
    · exact jf (y := 1) (by decide) hA hB (s_lose_null (hA.2.2.2.1 Q hQ4) p.1 p.2 c) (fun w1 b => r_lose_null (b.2.2.2.1 Q hQ4) hQ4 c)
    · obtain ⟨w1, e5, d5, g5⟩ := s_lose_ok (q := (Q : Int)) (hA.2.2.2.1 Q hQ4) p.1 p.2 c
      rw [Int.toNat_natCast] at d5 g5
      have hA1 := hA.sh (fun k hk => g5 k (by simp; omega)) (sh_set hA.2.2.2.1 d5 (fun k k1 k2 k3 => g5 k (by simp; omega)))
      have hB1 := hB.c (fun k k1 k2 => g5 k (by simp; omega))
      have e6 := r_lose_ok (hB1.2.2.2.1 Q hQ4) hQ4 c
      refine ⟨_, _, _, e5, e6, J.mk (hA1.m (fun k hk => en_up_ne (by omega))) (hB1.x (fun k k1 k2 k3 k4 => en_up_ne k1) (bs_set (Q := Q) (m := 0) (f := -1) (i := it Q) hB1.2.2.2.1 ⟨⟨by rw [en_up_eq, upd_eq], by omega, by omega⟩, ⟨fun z => absurd rfl z, by omega⟩, fun j hj => absurd hj (Nat.not_lt_zero j)⟩ (fun q hq => by rw [en_up_eq, upd_ne hq]) (fun q hq => by rw [en_up_ne (by omega)]) (fun k hk => by rw [en_up_ne (by omega)])))⟩
  · exact jq hA hB ⟨w, s_lose_bad p q1 q2, en_fr.rf⟩ (fun w1 _ => ⟨w1, r_lose_bad p q1 q2, ofr.rf⟩)
theorem j_lay (hJ : J w) (x y z u : Int32) : JI SX5_lay SX6_lay [.int x, .int y, .int z, .int u] w := by
  obtain ⟨G, s, n, tb, kick, law, life, pat, fo, sz, it, hn, hm, hr, lat, hA, hB⟩ := hJ
  obtain ⟨q, q1, q2, rfl⟩ := zI_any x
  obtain ⟨f, f1, f2, rfl⟩ := zI_any y
  obtain ⟨i, i1, i2, rfl⟩ := zI_any z
  by_cases p : (0 ≤ q ∧ q ≤ 3) ∧ (0 ≤ f ∧ f ≤ 2)
  · obtain ⟨⟨p1, p2⟩, p3, p4⟩ := p
    obtain ⟨Q, hQ⟩ : ∃ Q : Nat, q = (Q : Int) := ⟨q.toNat, by omega⟩
    subst hQ
    have hQ4 : Q < 4 := by omega
    by_cases c : iRef (fo Q) (sz Q) f i = 0
    · obtain ⟨c1, c2, c3, c4⟩ := iRef_0 c
      have e5 := s_lay_ok (q := (Q : Int)) (x := u) (hA.2.2.2.1 Q hQ4) p1 p2 p3 p4 i1 i2 c
      rw [Int.toNat_natCast] at e5
      obtain ⟨I, hI⟩ : ∃ I : Nat, i = (I : Int) := ⟨i.toNat, by omega⟩
      subst hI
      rw [Int.toNat_natCast] at e5
      obtain ⟨w1, hw1⟩ : ∃ w1, en_up w (54 + 2 * Q + 1) I (cutF (fo Q) u) = w1 := ⟨_, rfl⟩
      rw [hw1] at e5
      have g5 : ∀ k, k ≠ 54 + 2 * Q + 1 → w1 k = w k := fun k hk => by rw [← hw1, en_up_ne hk]
      have d5 : aS1 w1 (54 + 2 * Q) (fo Q) (sz Q) (upd (it Q) I (cutF (fo Q) u)) := by
        obtain ⟨b1, b2, b3, b4⟩ := hA.2.2.2.1 Q hQ4
        refine ⟨b1, by rw [g5 _ (by omega)]; exact b2, by rw [g5 _ (by omega)]; exact b3, fun j hj => ?_⟩
        rw [← hw1, en_up_eq]
        by_cases e : j = I
        · rw [e, upd_eq, upd_eq]
        · rw [upd_ne e, upd_ne e]; exact b4 j hj
      have hA1 := hA.sh (fun k hk => g5 k (by omega)) (sh_set hA.2.2.2.1 d5 (fun k k1 k2 k3 => g5 k k3))
      have hB1 := hB.c (fun k k1 k2 => g5 k (by omega))
      have e6 := r_lay_ok (x := u) (hB1.2.2.2.1 Q hQ4) hQ4 p3 p4 i1 i2 c
      rw [Int.toNat_natCast] at e6
      refine ⟨_, _, _, e5, e6, J.mk (hA1.m (fun k hk => en_up_ne (by omega))) (hB1.x (fun k k1 k2 k3 k4 => en_up_ne k3) (bs_set (Q := Q) hB1.2.2.2.1 ?_ (fun q hq => by rw [en_up_ne (by omega)]) (fun q hq => by rw [en_up_ne (by omega)]) (fun k hk => by rw [en_up_eq, upd_ne (by have := (hB1.2.2.2.1 Q hQ4).2.1.2; omega)])))⟩
      obtain ⟨b1, b2, b3⟩ := hB1.2.2.2.1 Q hQ4
      refine ⟨by rw [en_up_ne (by omega)]; exact b1, by rw [en_up_ne (by omega)]; exact b2, fun j hj => ?_⟩
      rw [en_up_eq]
      by_cases e : j = I
      · rw [e, upd_eq, upd_eq]
      · rw [upd_ne (by omega), upd_ne e]; exact b3 j hj
    · exact jf c hA hB (s_lay_no (hA.2.2.2.1 Q hQ4) p1 p2 p3 p4 i1 i2 c) (fun w1 b => r_lay_no (b.2.2.2.1 Q hQ4) hQ4 p3 p4 i1 i2 c)
  · exact jq hA hB ⟨w, s_lay_bad p q1 q2 f1 f2, en_fr.rf⟩ (fun w1 _ => ⟨w1, r_lay_bad p q1 q2 f1 f2, ofr.rf⟩)
theorem j_get (hJ : J w) (x y z : Int32) : JI SX5_get SX6_get [.int x, .int y, .int z] w := by
  obtain ⟨G, s, n, tb, kick, law, life, pat, fo, sz, it, hn, hm, hr, lat, hA, hB⟩ := hJ
  obtain ⟨q, q1, q2, rfl⟩ := zI_any x
  obtain ⟨f, f1, f2, rfl⟩ := zI_any y
  obtain ⟨i, i1, i2, rfl⟩ := zI_any z
  by_cases p : (0 ≤ q ∧ q ≤ 3) ∧ (0 ≤ f ∧ f ≤ 2)
  · obtain ⟨⟨p1, p2⟩, p3, p4⟩ := p
    obtain ⟨Q, hQ⟩ : ∃ Q : Nat, q = (Q : Int) := ⟨q.toNat, by omega⟩
    subst hQ
    have hQ4 : Q < 4 := by omega
    by_cases c : iRef (fo Q) (sz Q) f i = 0
    · exact jq hA hB ⟨w, s_get_ok (q := (Q : Int)) (hA.2.2.2.1 Q hQ4) p1 p2 p3 p4 i1 i2 c, en_fr.rf⟩ (fun w1 b => ⟨w1, r_get_ok (b.2.2.2.1 Q hQ4) hQ4 p3 p4 i1 i2 c, ofr.rf⟩)
    · exact jf c hA hB (s_get_no (hA.2.2.2.1 Q hQ4) p1 p2 p3 p4 i1 i2 c) (fun w1 b => r_get_no (b.2.2.2.1 Q hQ4) hQ4 p3 p4 i1 i2 c)
  · exact jq hA hB ⟨w, s_get_bad p q1 q2 f1 f2, en_fr.rf⟩ (fun w1 _ => ⟨w1, r_get_bad p q1 q2 f1 f2, ofr.rf⟩)
theorem j_copy (hJ : J w) (x y z u v : Int32) : JI SX5_copy SX6_copy [.int x, .int y, .int z, .int u, .int v] w := by
  obtain ⟨G, s, n, tb, kick, law, life, pat, fo, sz, it, hn, hm, hr, lat, hA, hB⟩ := hJ
  obtain ⟨q, q1, q2, rfl⟩ := zI_any x
  obtain ⟨i, i1, i2, rfl⟩ := zI_any y
  obtain ⟨t, t1, t2, rfl⟩ := zI_any z
  obtain ⟨j, j1, j2, rfl⟩ := zI_any u
  obtain ⟨c, c1, c2, rfl⟩ := zI_any v
  by_cases p : (0 ≤ q ∧ q ≤ 3) ∧ (0 ≤ t ∧ t ≤ 3)
  · obtain ⟨⟨p1, p2⟩, p3, p4⟩ := p
    obtain ⟨Q, hQ⟩ : ∃ Q : Nat, q = (Q : Int) := ⟨q.toNat, by omega⟩
    subst hQ
    obtain ⟨T, hT⟩ : ∃ T : Nat, t = (T : Int) := ⟨t.toNat, by omega⟩
    subst hT
    have hQ4 : Q < 4 := by omega
    have hT4 : T < 4 := by omega
    by_cases d : iCp (fo Q) (sz Q) (fo T) (sz T) i j c = 0
    · obtain ⟨g1, g2, g3, g4⟩ := iCp_0 d
      have e5 := s_copy_ok (q := (Q : Int)) (t := (T : Int)) (hA.2.2.2.1 Q hQ4) (hA.2.2.2.1 T hT4) p1 p2 p3 p4 i1 i2 j1 j2 c1 c2 d
      rw [Int.toNat_natCast, Int.toNat_natCast] at e5
      obtain ⟨I, hI⟩ : ∃ I : Nat, i = (I : Int) := ⟨i.toNat, by omega⟩
      subst hI
      obtain ⟨Jx, hJx⟩ : ∃ Jx : Nat, j = (Jx : Int) := ⟨j.toNat, by omega⟩
      subst hJx
      obtain ⟨C, hC⟩ : ∃ C : Nat, c = (C : Int) := ⟨c.toNat, by omega⟩
      subst hC
      rw [Int.toNat_natCast, Int.toNat_natCast, Int.toNat_natCast] at e5
      have hsQ := (hA.2.2.2.1 Q hQ4).2.2.1.2.1
      have hsT := (hA.2.2.2.1 T hT4).2.2.1.2.1
      obtain ⟨w1, hw1⟩ : ∃ w1, en_row w (54 + 2 * T + 1) (va_cpy (w (54 + 2 * Q + 1)) (w (54 + 2 * T + 1)) I Jx C) = w1 := ⟨_, rfl⟩
      rw [hw1] at e5
      have g5 : ∀ k, k ≠ 54 + 2 * T + 1 → w1 k = w k := fun k hk => by rw [← hw1, en_row_ne hk]
      have d5 : aS1 w1 (54 + 2 * T) (fo T) (sz T) (fun r => if Jx ≤ r ∧ r < Jx + C then it Q (I + (r - Jx)) else it T r) := by
        obtain ⟨b1, b2, b3, b4⟩ := hA.2.2.2.1 T hT4
        refine ⟨b1, by rw [g5 _ (by omega)]; exact b2, by rw [g5 _ (by omega)]; exact b3, fun r hr => ?_⟩
        rw [← hw1, en_row_eq]
        show va_cpy (w (54 + 2 * Q + 1)) (w (54 + 2 * T + 1)) I Jx C r = if Jx ≤ r ∧ r < Jx + C then it Q (I + (r - Jx)) else it T r
        unfold va_cpy
        by_cases e : Jx ≤ r ∧ r < Jx + C
        · rw [if_pos e, if_pos e]
          exact (hA.2.2.2.1 Q hQ4).2.2.2 _ (by omega)
        · rw [if_neg e, if_neg e]; exact b4 r hr
      have hA1 := hA.sh (fun k hk => g5 k (by omega)) (sh_set hA.2.2.2.1 d5 (fun k k1 k2 k3 => g5 k k3))
      have hB1 := hB.c (fun k k1 k2 => g5 k (by omega))
      have bQ := hB1.2.2.2.1 Q hQ4
      have bT' := hB1.2.2.2.1 T hT4
      obtain ⟨w2, e6, a22, g6⟩ := r_copy_ok (i := I) (j := Jx) (c := C) bQ bT' hQ4 hT4 g1 g2 (by omega) (by omega)
      refine ⟨_, _, _, e5, e6, J.mk (hA1.m (fun k hk => g6 k (by simp; omega))) (hB1.x (fun k k1 k2 k3 k4 => g6 k (by simp; omega)) (bs_set (Q := T) hB1.2.2.2.1 ?_ (fun q hq => by rw [g6 20 (by decide)]) (fun q hq => by rw [g6 21 (by decide)]) (fun k hk => by rw [a22, if_neg (by omega)])))⟩
      obtain ⟨b1, b2, b3⟩ := bT'
      refine ⟨by rw [g6 20 (by decide)]; exact b1, by rw [g6 21 (by decide)]; exact b2, fun r hr => ?_⟩
      rw [a22]
      show (if _ then _ else _) = if Jx ≤ r ∧ r < Jx + C then it Q (I + (r - Jx)) else it T r
      by_cases e : Jx ≤ r ∧ r < Jx + C
      · rw [if_pos e, if_pos (by omega)]
        have := bQ.2.2 (I + (r - Jx)) (by omega)
        rw [← this]
        congr 1
        omega
      · rw [if_neg e, if_neg (by omega)]; exact b3 r hr
    · exact jf d hA hB (s_copy_no (hA.2.2.2.1 Q hQ4) (hA.2.2.2.1 T hT4) p1 p2 p3 p4 i1 i2 j1 j2 c1 c2 d) (fun w1 b => r_copy_no (b.2.2.2.1 Q hQ4) (b.2.2.2.1 T hT4) hQ4 hT4 i1 i2 j1 j2 c1 c2 d)
  · exact jq hA hB ⟨w, s_copy_bad p q1 q2 t1 t2, en_fr.rf⟩ (fun w1 _ => ⟨w1, r_copy_bad p q1 q2 t1 t2, ofr.rf⟩)
theorem j_read (hJ : J w) (x : Int32) : JI SX5_read SX6_read [.int x] w := by
  obtain ⟨G, s, n, tb, kick, law, life, pat, fo, sz, it, hn, hm, hr, lat, hA, hB⟩ := hJ
  obtain ⟨q, q1, q2, rfl⟩ := zI_any x
  by_cases p : 0 ≤ q ∧ q ≤ 3
  · obtain ⟨Q, hQ⟩ : ∃ Q : Nat, q = (Q : Int) := ⟨q.toNat, by omega⟩
    subst hQ
    have hQ4 : Q < 4 := by omega
    by_cases c : fo Q = -1
    · exact jf (y := 1) (by decide) hA hB (s_read_null (hA.2.2.2.1 Q hQ4) p.1 p.2 c) (fun w1 b => r_read_null (b.2.2.2.1 Q hQ4) hQ4 c)
    · obtain ⟨w1, e5, d5, g5⟩ := s_read_ok (q := (Q : Int)) (hA.2.2.2.1 Q hQ4) hA.1 p.1 p.2 c
      have g5' : ∀ k, k < 34 ∨ 54 ≤ k → w1 k = w k := fun k hk => g5 k (by rw [DF_mem]; omega)
      have hA1 := hA.disc g5' d5
      have hB1 := hB.c (fun k k1 k2 => g5' k (by omega))
      obtain ⟨w2, e6, d6, g6⟩ := r_read_ok (hB1.2.2.2.1 Q hQ4) hB1.1 hQ4 c
      exact ⟨_, _, _, e5, e6, J.mk (hA1.m (fun k hk => g6 k (by simp; omega))) (hB1.g (fun k k1 k2 => g6 k (by simp; omega)) d6)⟩
  · exact jq hA hB ⟨w, s_read_bad p q1 q2, en_fr.rf⟩ (fun w1 _ => ⟨w1, r_read_bad p q1 q2, ofr.rf⟩)
theorem j_write (hJ : J w) (x : Int32) : JI SX5_write SX6_write [.int x] w := by
  obtain ⟨G, s, n, tb, kick, law, life, pat, fo, sz, it, hn, hm, hr, lat, hA, hB⟩ := hJ
  obtain ⟨q, q1, q2, rfl⟩ := zI_any x
  by_cases p : 0 ≤ q ∧ q ≤ 3
  · obtain ⟨Q, hQ⟩ : ∃ Q : Nat, q = (Q : Int) := ⟨q.toNat, by omega⟩
    subst hQ
    have hQ4 : Q < 4 := by omega
    by_cases c : fo Q = -1
    · exact jf (y := 1) (by decide) hA hB (s_write_null (hA.2.2.2.1 Q hQ4) p.1 p.2 c) (fun w1 b => r_write_null (b.2.2.2.1 Q hQ4) hQ4 c)
    · obtain ⟨w1, e5, d5, g5⟩ := s_write_ok (q := (Q : Int)) (hA.2.2.2.1 Q hQ4) hA.1 hA.2.1 hA.2.2.1 p.1 p.2 c
      rw [Int.toNat_natCast] at d5 g5
      have g5' : ∀ k, ¬ (8 ≤ k ∧ k < 17) → k ≠ 54 + 2 * Q + 1 → w1 k = w k := fun k k1 k2 => g5 k (by rw [List.mem_cons, NF_mem]; omega)
      have hA1 := hA.sh (fun k hk => g5' k (by omega) (by omega)) (sh_set hA.2.2.2.1 d5 (fun k k1 k2 k3 => g5' k (by omega) k3))
      have hB1 := hB.c (fun k k1 k2 => g5' k (by omega) (by omega))
      obtain ⟨w3, e6, w2, f2, f3, a22⟩ := r_write_ok (hB1.2.2.2.1 Q hQ4) hB1.1 hB1.2.1 hB1.2.2.1 hQ4 c
      have hB2 := hB1.o f2
      have hsz := (hB1.2.2.2.1 Q hQ4).2.1.2
      refine ⟨_, _, _, e5, e6, J.mk ((hA1.o f2).m (fun k hk => f3 k (by simp; omega))) (hB2.x (fun k k1 k2 k3 k4 => f3 k (by simp; omega)) (bs_set (Q := Q) hB2.2.2.2.1 ?_ (fun q hq => by rw [f3 20 (by decide)]) (fun q hq => by rw [f3 21 (by decide)]) (fun k hk => by rw [a22, if_neg (by omega), f2.1 22 (by decide)])))⟩
      obtain ⟨b1, b2, b3⟩ := hB2.2.2.2.1 Q hQ4
      refine ⟨by rw [f3 20 (by decide)]; exact b1, by rw [f3 21 (by decide)]; exact b2, fun r hr => ?_⟩
      rw [a22]
      unfold wrI
      by_cases e : r < min (sz Q) (tcn n tb)
      · rw [if_pos (by omega), if_pos e, show 60 * Q + r - 60 * Q = r by omega]
      · rw [if_neg (by omega), if_neg e, ← f2.1 22 (by decide)]
        exact b3 r hr
  · exact jq hA hB ⟨w, s_write_bad p q1 q2, en_fr.rf⟩ (fun w1 _ => ⟨w1, r_write_bad p q1 q2, ofr.rf⟩)
end
