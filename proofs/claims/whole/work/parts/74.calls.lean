/-! ===== each call answers alike ===== -/
section
variable {w : en_W}
theorem j_record (hJ : J w) (x y : Int32) : JI SX5_record SX6_record [.int x, .int y] w := by
  obtain ⟨G, s, n, tb, kick, law, life, pat, fo, sz, it, hn, hm, hr, lat, hA, hB⟩ := hJ
  obtain ⟨r, r1, r2, rfl⟩ := zI_any x
  obtain ⟨v, v1, v2, rfl⟩ := zI_any y
  by_cases p : (0 ≤ r ∧ r < 10) ∧ (1 ≤ v ∧ v ≤ 9)
  · obtain ⟨R, hR⟩ : ∃ R : Nat, r = (R : Int) := ⟨r.toNat, by omega⟩
    subst hR
    have e5 := s_record_ok hA.1 p.1.1 p.1.2 p.2.1 p.2.2
    have d5 := aD_long hA.1 p.1.1 p.1.2 p.2.1 p.2.2
    rw [Int.toNat_natCast] at e5 d5
    have hA1 := hA.disc (w' := en_up w (34 + 2 * R) 0 (zI v)) (fun k hk => en_up_ne (by omega)) d5
    have hB1 : bAll (en_up w (34 + 2 * R) 0 (zI v)) G s n tb kick law life pat fo sz it hn hm hr lat := hB.c (fun k h1 h2 => en_up_ne (by omega))
    have e6 := r_record_ok (r := R) (v := v) hB1.1 (by omega) p.2.1 p.2.2
    exact ⟨_, _, _, e5, e6, J.mk (hA1.m (fun k hk => en_up_ne (by omega))) (hB1.g (fun k h1 h2 => en_up_ne (by omega)) (bG_long hB1.1 (by omega) p.2.1 p.2.2))⟩
  · exact jq hA hB ⟨w, s_record_bad p hA.1 r1 r2 v1 v2, en_fr.rf⟩ (fun w1 _ => ⟨w1, r_record_bad p r1 r2 v1 v2, ofr.rf⟩)
theorem j_scratch (hJ : J w) (x y z : Int32) : JI SX5_scratch SX6_scratch [.int x, .int y, .int z] w := by
  obtain ⟨G, s, n, tb, kick, law, life, pat, fo, sz, it, hn, hm, hr, lat, hA, hB⟩ := hJ
  obtain ⟨r, r1, r2, rfl⟩ := zI_any x
  obtain ⟨c, c1, c2, rfl⟩ := zI_any y
  obtain ⟨v, v1, v2, rfl⟩ := zI_any z
  by_cases p : (0 ≤ r ∧ r < 10) ∧ (0 ≤ c ∧ c < 9) ∧ (-1 ≤ v ∧ v ≤ 9)
  · obtain ⟨⟨p1, p2⟩, ⟨p3, p4⟩, p5, p6⟩ := p
    obtain ⟨R, hR⟩ : ∃ R : Nat, r = (R : Int) := ⟨r.toNat, by omega⟩
    subst hR
    obtain ⟨g, hg⟩ : ∃ g : Nat, c = (g : Int) := ⟨c.toNat, by omega⟩
    subst hg
    have e5 := s_scratch_ok hA.1 p1 p2 p5 p6 p3 p4
    have d5 := aD_scr hA.1 p1 p2 p5 p6 p3 p4
    rw [Int.toNat_natCast, Int.toNat_natCast] at e5 d5
    have hA1 := hA.disc (w' := en_up w (34 + 2 * R + 1) g (zI v)) (fun k hk => en_up_ne (by omega)) d5
    have hB1 : bAll (en_up w (34 + 2 * R + 1) g (zI v)) G s n tb kick law life pat fo sz it hn hm hr lat := hB.c (fun k h1 h2 => en_up_ne (by omega))
    have e6 := r_scratch_ok (r := R) (g := g) (v := v) hB1.1 (by omega) (by omega) p5 p6
    exact ⟨_, _, _, e5, e6, J.mk (hA1.m (fun k hk => en_up_ne (by omega))) (hB1.g (fun k h1 h2 => en_up_ne (by omega)) (bG_scr hB1.1 (by omega) (by omega) p5 p6))⟩
  · exact jq hA hB ⟨w, s_scratch_bad p hA.1 r1 r2 v1 v2 c1 c2, en_fr.rf⟩ (fun w1 _ => ⟨w1, r_scratch_bad p r1 r2 v1 v2 c1 c2, ofr.rf⟩)
theorem j_type (hJ : J w) (x : Int32) : JI SX5_type SX6_type [.int x] w := by
  obtain ⟨G, s, n, tb, kick, law, life, pat, fo, sz, it, hn, hm, hr, lat, hA, hB⟩ := hJ
  obtain ⟨v, v1, v2, rfl⟩ := zI_any x
  by_cases p : 0 ≤ v ∧ v ≤ 255
  · by_cases q : n = 80
    · exact jq hA hB ⟨w, s_type_full hA.2.1 q p.1 p.2, en_fr.rf⟩ (fun w1 b => ⟨w1, r_type_full b.2.2.1 q p.1 p.2, ofr.rf⟩)
    · have hn80 : n < 80 := by
        have := hB.2.2.1.2.1
        omega
      obtain ⟨w1, e5, d5, f5⟩ := s_type_ok hA.2.1 hn80 p.1 p.2
      have hA1 := hA.slip (fun k hk => f5 k (by simp; omega)) d5
      have hB1 := hB.c (fun k h1 h2 => f5 k (by simp; omega))
      obtain ⟨w2, e6, d6, hw⟩ := r_type_ok hB1.2.2.1 hn80 p.1 p.2
      exact ⟨_, _, _, e5, e6, J.mk (hA1.m (fun k hk => by rw [hw, en_up_ne (by omega), en_up_ne (by omega)])) (hB1.t (fun k h1 h2 h3 => by rw [hw, en_up_ne h1, en_up_ne h2]) (by rw [hw, en_up_eq, upd_ne (by omega), en_up_ne (by omega)]) (by rw [hw, en_up_eq, upd_ne (by omega), en_up_ne (by omega)]) d6)⟩
  · exact jq hA hB ⟨w, s_type_bad p v1 v2, en_fr.rf⟩ (fun w1 _ => ⟨w1, r_type_bad p v1 v2, ofr.rf⟩)
theorem j_wipe (hJ : J w) : JI SX5_wipe SX6_wipe [] w := by
  obtain ⟨G, s, n, tb, kick, law, life, pat, fo, sz, it, hn, hm, hr, lat, hA, hB⟩ := hJ
  obtain ⟨w1, e5, d5, f5⟩ := s_wipe hA.2.1
  have hA1 := hA.slip (fun k hk => f5 k (by simp; omega)) d5
  have hB1 := hB.c (fun k h1 h2 => f5 k (by simp; omega))
  have e6 := r_wipe hB1.2.2.1
  refine ⟨_, _, _, e5, e6, J.mk (hA1.m (fun k hk => en_up_ne (by omega))) (hB1.t (n' := 0) (tb' := tb) (fun k h1 h2 h3 => en_up_ne h1) (by rw [en_up_eq, upd_ne (by omega)]) (by rw [en_up_eq, upd_ne (by omega)]) ⟨by rw [en_up_eq, upd_eq]; rfl, by omega, fun j hj => absurd hj (Nat.not_lt_zero j)⟩)⟩
theorem j_fault (hJ : J w) : JI SX5_fault SX6_fault [] w := by
  obtain ⟨G, s, n, tb, kick, law, life, pat, fo, sz, it, hn, hm, hr, lat, hA, hB⟩ := hJ
  refine jq hA hB ⟨w, s_fault hA.2.1, en_fr.rf⟩ (fun w1 b => ?_)
  obtain ⟨w2, e, f⟩ := r_fault b.2.2.1
  exact ⟨w2, e, f.o⟩
theorem j_undo (hJ : J w) : JI SX5_undo SX6_undo [] w := by
  obtain ⟨G, s, n, tb, kick, law, life, pat, fo, sz, it, hn, hm, hr, lat, hA, hB⟩ := hJ
  by_cases p : tcn n tb = 0
  · refine jq hA hB ⟨w, s_undo_not hA.2.1 p, en_fr.rf⟩ (fun w1 b => ?_)
    obtain ⟨w2, e, f⟩ := r_undo_not b.2.2.1 p
    exact ⟨w2, e, f.o⟩
  · obtain ⟨w1, e5, d5, f5⟩ := s_undo_ok hA.2.1 p
    have hA1 := hA.slip (fun k hk => f5 k (by simp; omega)) d5
    have hB1 := hB.c (fun k h1 h2 => f5 k (by simp; omega))
    obtain ⟨w2, e6, d6, f6, g6⟩ := r_undo_ok hB1.2.2.1 p
    exact ⟨_, _, _, e5, e6, J.mk (hA1.m (fun k hk => f6 k (by simp; omega))) (hB1.t (fun k h1 h2 h3 => f6 k (by simp; omega)) (g6 4 (by omega) (by omega) (by omega)) (g6 20 (by omega) (by omega) (by omega)) d6)⟩
theorem j_set (hJ : J w) (x y : Int32) : JI SX5_set SX6_set [.int x, .int y] w := by
  obtain ⟨G, s, n, tb, kick, law, life, pat, fo, sz, it, hn, hm, hr, lat, hA, hB⟩ := hJ
  obtain ⟨a, a1, a2, rfl⟩ := zI_any x
  obtain ⟨v, v1, v2, rfl⟩ := zI_any y
  by_cases p : okSet a v
  · obtain ⟨w1, e5, d5, hw⟩ := s_set_ok hA.2.2.1 p
    have ha : a = 0 ∨ a = 1 ∨ a = 2 ∨ a = 3 := by
      unfold okSet at p
      omega
    have hA1 := hA.zero (fun k h0 _ _ => by rw [hw, en_up_ne h0]) d5 (hA.2.2.2.2.1.fr (by rw [hw, en_up_eq, upd_ne (by omega)]) (by rw [hw, en_up_ne (by omega)]) (by rw [hw, en_up_ne (by omega)])) (show w1 0 11 = zI lat by rw [hw, en_up_eq, upd_ne (by omega)]; exact hA.2.2.2.2.2)
    have hB1 : bAll w1 G s n tb kick law life pat fo sz it hn hm hr lat := hB.c (fun k h1 h2 => by rw [hw, en_up_ne (by omega)])
    have e6 := r_set_ok hB1.2.1 p
    exact ⟨_, _, _, e5, e6, J.mk (hA1.m (fun k hk => en_up_ne (by omega))) (hB1.p (fun k h1 => en_up_ne h1) (bP_set hB1.2.1 p))⟩
  · exact jq hA hB ⟨w, s_set_bad hA.2.2.1 p v1 v2 a1 a2, en_fr.rf⟩ (fun w1 _ => ⟨w1, r_set_bad p v1 v2 a1 a2, ofr.rf⟩)
theorem j_plays (hJ : J w) (x : Int32) : JI SX5_plays SX6_plays [.int x] w := by
  obtain ⟨G, s, n, tb, kick, law, life, pat, fo, sz, it, hn, hm, hr, lat, hA, hB⟩ := hJ
  obtain ⟨r, r1, r2, rfl⟩ := zI_any x
  exact jq hA hB ⟨w, s_plays hA.1 hA.2.2.1 r1 r2, en_fr.rf⟩ (fun w1 b => ⟨w1, r_plays b.1 b.2.1 r1 r2, ofr.rf⟩)
theorem j_groove (hJ : J w) (x y : Int32) : JI SX5_groove SX6_groove [.int x, .int y] w := by
  obtain ⟨G, s, n, tb, kick, law, life, pat, fo, sz, it, hn, hm, hr, lat, hA, hB⟩ := hJ
  obtain ⟨r, r1, r2, rfl⟩ := zI_any x
  obtain ⟨m, m1, m2, rfl⟩ := zI_any y
  exact jq hA hB ⟨w, s_groove hA.1 hA.2.2.1 r1 r2 m1 m2, en_fr.rf⟩ (fun w1 b => ⟨w1, r_groove b.1 b.2.1 r1 r2 m1 m2, ofr.rf⟩)
theorem j_loops (hJ : J w) (x : Int32) : JI SX5_loops SX6_loops [.int x] w := by
  obtain ⟨G, s, n, tb, kick, law, life, pat, fo, sz, it, hn, hm, hr, lat, hA, hB⟩ := hJ
  obtain ⟨r, r1, r2, rfl⟩ := zI_any x
  exact jq hA hB ⟨w, s_loops hA.1 r1 r2, en_fr.rf⟩ (fun w1 b => ⟨w1, r_loops b.1 r1 r2, ofr.rf⟩)
theorem j_wax (hJ : J w) (x y : Int32) : JI SX5_wax SX6_wax [.int x, .int y] w := by
  obtain ⟨G, s, n, tb, kick, law, life, pat, fo, sz, it, hn, hm, hr, lat, hA, hB⟩ := hJ
  obtain ⟨r, r1, r2, rfl⟩ := zI_any x
  obtain ⟨a, a1, a2, rfl⟩ := zI_any y
  by_cases p : (0 ≤ r ∧ r < 10) ∧ (0 ≤ a ∧ a ≤ 1)
  · obtain ⟨R, hR⟩ : ∃ R : Nat, r = (R : Int) := ⟨r.toNat, by omega⟩
    subst hR
    exact jq hA hB ⟨w, s_wax_ok hA.1 p.1.1 p.1.2 p.2.1 p.2.2, en_fr.rf⟩ (fun w1 b => ⟨w1, r_wax_ok (r := R) b.1 (by omega) p.2.1 p.2.2, ofr.rf⟩)
  · exact jq hA hB ⟨w, s_wax_bad hA.1 p r1 r2 a1 a2, en_fr.rf⟩ (fun w1 _ => ⟨w1, r_wax_bad p r1 r2 a1 a2, ofr.rf⟩)
theorem j_coin (hJ : J w) (x y : Int32) : JI SX5_coin SX6_coin [.int x, .int y] w := by
  obtain ⟨G, s, n, tb, kick, law, life, pat, fo, sz, it, hn, hm, hr, lat, hA, hB⟩ := hJ
  obtain ⟨c, c1, c2, rfl⟩ := zI_any x
  obtain ⟨a, a1, a2, rfl⟩ := zI_any y
  refine jq hA hB ⟨w, s_coin hA.2.1 c1 c2 a1 a2, en_fr.rf⟩ (fun w1 b => ?_)
  obtain ⟨w2, e, f⟩ := r_coin b.2.2.1 c1 c2 a1 a2
  exact ⟨w2, e, f.o⟩
theorem j_at (hJ : J w) (x : Int32) : JI SX5_at SX6_at [.int x] w := by
  obtain ⟨G, s, n, tb, kick, law, life, pat, fo, sz, it, hn, hm, hr, lat, hA, hB⟩ := hJ
  obtain ⟨m, m1, m2, rfl⟩ := zI_any x
  by_cases p : 0 ≤ m ∧ m ≤ 199
  · exact jq hA hB (s_at_ok hA.1 hA.2.1 hA.2.2.1 p.1 p.2) (fun w1 b => r_at_ok b.1 b.2.1 b.2.2.1 p.1 p.2)
  · exact jq hA hB ⟨w, s_at_bad p m1 m2, en_fr.rf⟩ (fun w1 _ => ⟨w1, r_at_bad p m1 m2, ofr.rf⟩)
theorem j_served (hJ : J w) (x y : Int32) : JI SX5_served SX6_served [.int x, .int y] w := by
  obtain ⟨G, s, n, tb, kick, law, life, pat, fo, sz, it, hn, hm, hr, lat, hA, hB⟩ := hJ
  obtain ⟨c, c1, c2, rfl⟩ := zI_any x
  obtain ⟨a, a1, a2, rfl⟩ := zI_any y
  by_cases p : (0 ≤ c ∧ c < tcn n tb) ∧ (0 ≤ a ∧ a ≤ 2)
  · exact jq hA hB (s_served_ok hA.1 hA.2.1 hA.2.2.1 p.1.1 p.1.2 p.2.1 p.2.2) (fun w1 b => r_served_ok b.1 b.2.1 b.2.2.1 p.1.1 p.1.2 p.2.1 p.2.2)
  · exact jq hA hB ⟨w, s_served_bad hA.2.1 p c1 c2 a1 a2, en_fr.rf⟩ (fun w1 b => r_served_bad b.2.2.1 p c1 c2 a1 a2)
theorem j_night (hJ : J w) (x y : Int32) : JI SX5_night SX6_night [.int x, .int y] w := by
  obtain ⟨G, s, n, tb, kick, law, life, pat, fo, sz, it, hn, hm, hr, lat, hA, hB⟩ := hJ
  obtain ⟨c, c1, c2, rfl⟩ := zI_any x
  obtain ⟨a, a1, a2, rfl⟩ := zI_any y
  by_cases p : (0 ≤ c ∧ c ≤ 3) ∧ (0 ≤ a ∧ a ≤ 2)
  · exact jq hA hB (s_night_ok hA.1 hA.2.1 hA.2.2.1 p.1.1 p.1.2 p.2.1 p.2.2) (fun w1 b => r_night_ok b.1 b.2.1 b.2.2.1 p.1.1 p.1.2 p.2.1 p.2.2)
  · exact jq hA hB ⟨w, s_night_bad p c1 c2 a1 a2, en_fr.rf⟩ (fun w1 b => r_night_bad b.2.2.1 p c1 c2 a1 a2)
theorem j_best (hJ : J w) : JI SX5_best SX6_best [] w := by
  obtain ⟨G, s, n, tb, kick, law, life, pat, fo, sz, it, hn, hm, hr, lat, hA, hB⟩ := hJ
  exact jq hA hB (s_best hA.1 hA.2.1 hA.2.2.1) (fun w1 b => r_best b.1 b.2.1 b.2.2.1)
theorem j_times (hJ : J w) (x : Int32) : JI SX5_times SX6_times [.int x] w := by
  obtain ⟨G, s, n, tb, kick, law, life, pat, fo, sz, it, hn, hm, hr, lat, hA, hB⟩ := hJ
  obtain ⟨r, r1, r2, rfl⟩ := zI_any x
  by_cases p : 0 ≤ r ∧ r < 10
  · exact jq hA hB (s_times_ok hA.1 hA.2.1 hA.2.2.1 p.1 p.2) (fun w1 b => r_times_ok b.1 b.2.1 b.2.2.1 p.1 p.2)
  · exact jq hA hB ⟨w, s_times_bad p r1 r2, en_fr.rf⟩ (fun w1 b => r_times_bad b.1 b.2.1 b.2.2.1 p r1 r2)
theorem j_first (hJ : J w) : JI SX5_first SX6_first [] w := by
  obtain ⟨G, s, n, tb, kick, law, life, pat, fo, sz, it, hn, hm, hr, lat, hA, hB⟩ := hJ
  exact jq hA hB (s_first hA.1 hA.2.1 hA.2.2.1) (fun w1 b => r_first b.1 b.2.1 b.2.2.1)
theorem j_ask (hJ : J w) (x y z u : Int32) : JI SX5_ask SX6_ask [.int x, .int y, .int z, .int u] w := by
  obtain ⟨G, s, n, tb, kick, law, life, pat, fo, sz, it, hn, hm, hr, lat, hA, hB⟩ := hJ
  obtain ⟨m, m1, m2, rfl⟩ := zI_any x
  obtain ⟨r, r1, r2, rfl⟩ := zI_any y
  obtain ⟨h, h1, h2, rfl⟩ := zI_any z
  obtain ⟨a, a1, a2, rfl⟩ := zI_any u
  by_cases p : okAsk n tb m r h a
  · exact jq hA hB (s_ask_ok hA.1 hA.2.1 hA.2.2.1 p) (fun w1 b => r_ask_ok b.1 b.2.1 b.2.2.1 p)
  · exact jq hA hB ⟨w, s_ask_bad hA.2.1 p m1 m2 r1 r2 h1 h2 a1 a2, en_fr.rf⟩ (fun w1 b => r_ask_bad b.2.2.1 p m1 m2 r1 r2 h1 h2 a1 a2)
theorem j_stuck (hJ : J w) (x y : Int32) : JI SX5_stuck SX6_stuck [.int x, .int y] w := by
  obtain ⟨G, s, n, tb, kick, law, life, pat, fo, sz, it, hn, hm, hr, lat, hA, hB⟩ := hJ
  obtain ⟨c, c1, c2, rfl⟩ := zI_any x
  obtain ⟨r, r1, r2, rfl⟩ := zI_any y
  by_cases p : (0 ≤ c ∧ c < tcn n tb) ∧ (-1 ≤ r ∧ r ≤ 9)
  · exact jq hA hB (s_stuck_ok hA.1 hA.2.1 hA.2.2.1 p.1.1 p.1.2 p.2.1 p.2.2) (fun w1 b => r_stuck_ok b.1 b.2.1 b.2.2.1 p.1.1 p.1.2 p.2.1 p.2.2)
  · exact jq hA hB ⟨w, s_stuck_bad hA.2.1 p c1 c2 r1 r2, en_fr.rf⟩ (fun w1 b => r_stuck_bad b.2.2.1 p c1 c2 r1 r2)
theorem j_heard (hJ : J w) (x y : Int32) : JI SX5_heard SX6_heard [.int x, .int y] w := by
  obtain ⟨G, s, n, tb, kick, law, life, pat, fo, sz, it, hn, hm, hr, lat, hA, hB⟩ := hJ
  obtain ⟨m, m1, m2, rfl⟩ := zI_any x
  obtain ⟨r, r1, r2, rfl⟩ := zI_any y
  by_cases p : (0 ≤ m ∧ m ≤ 199) ∧ (-1 ≤ r ∧ r ≤ 9)
  · by_cases q : hn = 8
    · exact jq hA hB ⟨w, s_heard_full hA.2.2.2.2.1 q p.1.1 p.1.2 p.2.1 p.2.2, en_fr.rf⟩ (fun w1 b => ⟨w1, r_heard_full b.2.2.2.2.1 q p.1.1 p.1.2 p.2.1 p.2.2, ofr.rf⟩)
    · have h8 : hn < 8 := by
        have := hA.2.2.2.2.1.2.1
        omega
      obtain ⟨w1, e5, d5, hw⟩ := s_heard_ok hA.2.2.2.2.1 h8 p.1.1 p.1.2 p.2.1 p.2.2
      have g0 : ∀ j, j ≠ 6 → w1 0 j = w 0 j := fun j hj => by rw [hw, en_up_eq, upd_ne hj, en_up_ne (by omega), en_up_ne (by omega)]
      have hA1 := hA.zero (fun k h0 h17 h18 => by rw [hw, en_up_ne h0, en_up_ne h18, en_up_ne h17]) (hA.2.2.1.f (g0 7 (by omega)) (g0 8 (by omega)) (g0 9 (by omega)) (g0 10 (by omega))) d5 (show w1 0 11 = zI lat by rw [g0 11 (by omega)]; exact hA.2.2.2.2.2)
      have hB1 : bAll w1 G s n tb kick law life pat fo sz it hn hm hr lat := hB.c (fun k h1 h2 => by rw [hw, en_up_ne (by omega), en_up_ne (by omega), en_up_ne (by omega)])
      obtain ⟨w2, e6, d6, hw2⟩ := r_heard_ok hB1.2.2.2.2.1 h8 p.1.1 p.1.2 p.2.1 p.2.2
      have g1 : ∀ j, j ≠ 20 → w2 19 j = w1 19 j := fun j hj => by rw [hw2, en_up_eq, upd_ne hj, en_up_ne (by omega), en_up_ne (by omega)]
      exact ⟨_, _, _, e5, e6, J.mk (hA1.m (fun k hk => by rw [hw2, en_up_ne (by omega), en_up_ne (by omega), en_up_ne (by omega)])) (hB1.h (fun k h1 h2 => by rw [hw2, en_up_ne h1, en_up_ne h2, en_up_ne h2]) (g1 4 (by omega)) (g1 9 (by omega)) d6)⟩
  · exact jq hA hB ⟨w, s_heard_bad p m1 m2 r1 r2, en_fr.rf⟩ (fun w1 b => ⟨w1, r_heard_bad p m1 m2 r1 r2, ofr.rf⟩)
theorem j_forget (hJ : J w) : JI SX5_forget SX6_forget [] w := by
  obtain ⟨G, s, n, tb, kick, law, life, pat, fo, sz, it, hn, hm, hr, lat, hA, hB⟩ := hJ
  have e5 := s_forget hA.2.2.2.2.1
  have g0 : ∀ j, j ≠ 6 → en_up w 0 6 (zI 0) 0 j = w 0 j := fun j hj => by rw [en_up_eq, upd_ne hj]
  have hA1 := hA.zero (w' := en_up w 0 6 (zI 0)) (hn' := 0) (hm' := hm) (hr' := hr) (lat' := lat) (fun k h0 h17 h18 => en_up_ne h0) (hA.2.2.1.f (g0 7 (by omega)) (g0 8 (by omega)) (g0 9 (by omega)) (g0 10 (by omega))) ⟨by rw [en_up_eq, upd_eq]; rfl, by omega, fun j hj => absurd hj (Nat.not_lt_zero j)⟩ (by rw [g0 11 (by omega)]; exact hA.2.2.2.2.2)
  have hB1 : bAll (en_up w 0 6 (zI 0)) G s n tb kick law life pat fo sz it hn hm hr lat := hB.c (fun k h1 h2 => en_up_ne (by omega))
  have e6 := r_forget hB1.2.2.2.2.1
  have g1 : ∀ j, j ≠ 20 → en_up (en_up w 0 6 (zI 0)) 19 20 (zI 0) 19 j = en_up w 0 6 (zI 0) 19 j := fun j hj => by rw [en_up_eq, upd_ne hj]
  exact ⟨_, _, _, e5, e6, J.mk (hA1.m (fun k hk => en_up_ne (by omega))) (hB1.h (hn' := 0) (hm' := hm) (hr' := hr) (fun k h1 h2 => en_up_ne h1) (g1 4 (by omega)) (g1 9 (by omega)) ⟨by rw [en_up_eq, upd_eq]; rfl, by omega, fun j hj => absurd hj (Nat.not_lt_zero j)⟩)⟩
theorem j_laws (hJ : J w) : JI SX5_laws SX6_laws [] w := by
  obtain ⟨G, s, n, tb, kick, law, life, pat, fo, sz, it, hn, hm, hr, lat, hA, hB⟩ := hJ
  exact jq hA hB (s_laws hA.1 hA.2.1 hA.2.2.1 hA.2.2.2.2.1) (fun w1 b => r_laws b.1 b.2.1 b.2.2.1 b.2.2.2.2.1)
theorem j_next (hJ : J w) (x y : Int32) : JL SX5_next SX6_next [.int x, .int y] w := by
  obtain ⟨G, s, n, tb, kick, law, life, pat, fo, sz, it, hn, hm, hr, lat, hA, hB⟩ := hJ
  obtain ⟨r, r1, r2, rfl⟩ := zI_any x
  obtain ⟨a, a1, a2, rfl⟩ := zI_any y
  by_cases p : (0 ≤ r ∧ r < 10) ∧ (0 ≤ a ∧ a ≤ 1)
  · exact jql hA hB ⟨w, s_next_ok hA.2.1 p.1.1 p.1.2 p.2.1 p.2.2, en_fr.rf⟩ (fun w1 b => r_next_ok b.2.2.1 p.1.1 p.1.2 p.2.1 p.2.2)
  · exact jql hA hB ⟨w, s_next_bad p r1 r2 a1 a2, en_fr.rf⟩ (fun w1 b => r_next_bad b.2.2.1 p r1 r2 a1 a2)
theorem j_since (hJ : J w) (x : Int32) : JI SX5_since SX6_since [.int x] w := by
  obtain ⟨G, s, n, tb, kick, law, life, pat, fo, sz, it, hn, hm, hr, lat, hA, hB⟩ := hJ
  obtain ⟨r, r1, r2, rfl⟩ := zI_any x
  exact jq hA hB ⟨w, s_since hA.2.1 r1 r2, en_fr.rf⟩ (fun w1 b => r_since b.2.2.1 r1 r2)
theorem j_count (hJ : J w) (x : Int32) : JI SX5_count SX6_count [.int x] w := by
  obtain ⟨G, s, n, tb, kick, law, life, pat, fo, sz, it, hn, hm, hr, lat, hA, hB⟩ := hJ
  obtain ⟨a, a1, a2, rfl⟩ := zI_any x
  exact jq hA hB (s_count hA.1 hA.2.1 hA.2.2.1 hA.2.2.2.2.1 hA.2.2.2.2.2 a1 a2) (fun w1 b => r_count b.1 b.2.1 b.2.2.1 b.2.2.2.2.1 b.2.2.2.2.2 a1 a2)
theorem j_digest (hJ : J w) : JL SX5_digest SX6_digest [] w := by
  obtain ⟨G, s, n, tb, kick, law, life, pat, fo, sz, it, hn, hm, hr, lat, hA, hB⟩ := hJ
  exact jql hA hB (s_digest hA) (fun w1 b => r_digest b.q)
end
