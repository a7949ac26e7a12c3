/-! ===== who is chosen, told twice ===== -/
/-- coin i waits in minute m -/
abbrev wai (cm ch : Nat → Int) (m : Int) (i : Nat) : Prop := ch i = -1 ∧ cm i ≤ m
theorem nw_wai {n : Nat} {cm ch : Nat → Int} {m : Int} {i : Nat} (h : i < n) : nw n cm ch m (i : Int) ↔ wai cm ch m i := by
  unfold wai
  show (0 ≤ (i : Int) ∧ (i : Int) < n ∧ ch (i : Int).toNat = -1 ∧ cm (i : Int).toNat ≤ m) ↔ _
  rw [Int.toNat_natCast]
  exact ⟨fun h => h.2.2, fun h2 => ⟨by omega, by omega, h2⟩⟩
theorem nfl_spec {ch : Nat → Int} : ∀ d i : Nat, (nfl ch d i = -1 ∧ ∀ j, i ≤ j → j < i + d → ch j ≠ -1) ∨ ∃ a : Nat, i ≤ a ∧ a < i + d ∧ nfl ch d i = a ∧ ch a = -1 ∧ ∀ j, i ≤ j → j < a → ch j ≠ -1
  | 0, i => .inl ⟨rfl, fun j h1 h2 => by omega⟩
  | d + 1, i => by
    unfold nfl
    by_cases c : ch i = -1
    · rw [if_pos c]
      exact .inr ⟨i, by omega, by omega, rfl, c, fun j h1 h2 => by omega⟩
    · rw [if_neg c]
      rcases nfl_spec (ch := ch) d (i + 1) with ⟨h1, h2⟩ | ⟨a, h1, h2, h3, h4, h5⟩
      · refine .inl ⟨h1, fun j k1 k2 => ?_⟩
        by_cases e : j = i
        · rw [e]; exact c
        · exact h2 j (by omega) (by omega)
      · refine .inr ⟨a, by omega, by omega, h3, h4, fun j k1 k2 => ?_⟩
        by_cases e : j = i
        · rw [e]; exact c
        · exact h5 j (by omega) k2
theorem nfl_n {ch : Nat → Int} {n : Nat} : (nfl ch n 0 = -1 ∧ ∀ j, j < n → ch j ≠ -1) ∨ ∃ a : Nat, a < n ∧ nfl ch n 0 = a ∧ ch a = -1 ∧ ∀ j, j < a → ch j ≠ -1 := by
  rcases nfl_spec (ch := ch) n 0 with ⟨h1, h2⟩ | ⟨a, h1, h2, h3, h4, h5⟩
  · exact .inl ⟨h1, fun j hj => h2 j (by omega) (by omega)⟩
  · exact .inr ⟨a, by omega, h3, h4, fun j hj => h5 j (by omega) hj⟩
/-- the first and the last that wait, of those below i -/
def wf (cm ch : Nat → Int) (m : Int) : Nat → Int
  | 0 => -1
  | i + 1 => if wai cm ch m i then (if wf cm ch m i = -1 then (i : Int) else wf cm ch m i) else wf cm ch m i
def wl (cm ch : Nat → Int) (m : Int) : Nat → Int
  | 0 => -1
  | i + 1 => if wai cm ch m i then (i : Int) else wl cm ch m i
theorem wf_spec {cm ch : Nat → Int} {m : Int} : ∀ n : Nat, (wf cm ch m n = -1 ∧ ∀ j, j < n → ¬ wai cm ch m j) ∨ ∃ a : Nat, a < n ∧ wf cm ch m n = a ∧ wai cm ch m a ∧ ∀ j, j < a → ¬ wai cm ch m j
  | 0 => .inl ⟨rfl, fun j h => by omega⟩
  | n + 1 => by
    unfold wf
    rcases wf_spec (cm := cm) (ch := ch) (m := m) n with ⟨h1, h2⟩ | ⟨a, h1, h2, h3, h4⟩
    · by_cases c : wai cm ch m n
      · rw [if_pos c, if_pos h1]
        exact .inr ⟨n, by omega, rfl, c, h2⟩
      · rw [if_neg c]
        refine .inl ⟨h1, fun j hj => ?_⟩
        by_cases e : j = n
        · rw [e]; exact c
        · exact h2 j (by omega)
    · by_cases c : wai cm ch m n
      · rw [if_pos c, if_neg (by omega)]
        exact .inr ⟨a, by omega, h2, h3, h4⟩
      · rw [if_neg c]
        exact .inr ⟨a, by omega, h2, h3, h4⟩
theorem wl_spec {cm ch : Nat → Int} {m : Int} : ∀ n : Nat, (wl cm ch m n = -1 ∧ ∀ j, j < n → ¬ wai cm ch m j) ∨ ∃ a : Nat, a < n ∧ wl cm ch m n = a ∧ wai cm ch m a ∧ ∀ j, a < j → j < n → ¬ wai cm ch m j
  | 0 => .inl ⟨rfl, fun j h => by omega⟩
  | n + 1 => by
    unfold wl
    by_cases c : wai cm ch m n
    · rw [if_pos c]
      exact .inr ⟨n, by omega, rfl, c, fun j h1 h2 => by omega⟩
    · rw [if_neg c]
      rcases wl_spec (cm := cm) (ch := ch) (m := m) n with ⟨h1, h2⟩ | ⟨a, h1, h2, h3, h4⟩
      · refine .inl ⟨h1, fun j hj => ?_⟩
        by_cases e : j = n
        · rw [e]; exact c
        · exact h2 j (by omega)
      · refine .inr ⟨a, by omega, h2, h3, fun j k1 k2 => ?_⟩
        by_cases e : j = n
        · rw [e]; exact c
        · exact h4 j k1 (by omega)
theorem nla_spec {cm ch : Nat → Int} {m : Int} {n a : Nat} (ha : wai cm ch m a) (han : a < n) : ∀ i : Nat, a < i → i ≤ n → ∃ b : Nat, b < i ∧ nla n cm ch m (a : Int) i = b ∧ wai cm ch m b ∧ ∀ j, b < j → j < i → ¬ wai cm ch m j
  | 0, h, _ => by omega
  | i + 1, h, hi => by
    unfold nla
    by_cases c1 : (i : Int) ≤ (a : Int)
    · rw [if_pos c1]
      exact ⟨a, by omega, rfl, ha, fun j h1 h2 => by omega⟩
    · rw [if_neg c1]
      by_cases c2 : wai cm ch m i
      · rw [if_pos ((nw_wai (by omega)).mpr c2)]
        exact ⟨i, by omega, rfl, c2, fun j h1 h2 => by omega⟩
      · rw [if_neg (fun z => c2 ((nw_wai (by omega)).mp z))]
        obtain ⟨b, h1, h2, h3, h4⟩ := nla_spec ha han i (by omega) (by omega)
        refine ⟨b, by omega, h2, h3, fun j k1 k2 => ?_⟩
        by_cases e : j = i
        · rw [e]; exact c2
        · exact h4 j k1 (by omega)
theorem wl_nla {cm ch : Nat → Int} {m : Int} {n a : Nat} (ha : wai cm ch m a) (han : a < n) : wl cm ch m n = nla n cm ch m (a : Int) n := by
  obtain ⟨b, h1, h2, h3, h4⟩ := nla_spec ha han n han (Nat.le_refl n)
  rw [h2]
  rcases wl_spec (cm := cm) (ch := ch) (m := m) n with ⟨k1, k2⟩ | ⟨c, k1, k2, k3, k4⟩
  · exact absurd ha (k2 a han)
  · rw [k2]
    have : ¬ b < c := fun z => h4 c z k1 k3
    have : ¬ c < b := fun z => k4 b z h1 h3
    omega
/-- sorted: nobody came ahead of who stands ahead -/
def srt (n : Nat) (cm : Nat → Int) : Prop := ∀ i j, i ≤ j → j < n → cm i ≤ cm j
theorem wf_nfl {cm ch : Nat → Int} {m : Int} {n : Nat} (hs : srt n cm) : (∀ a : Nat, a < n → nfl ch n 0 = a → cm a ≤ m → wf cm ch m n = a ∧ wai cm ch m a) ∧ ((∀ a : Nat, a < n → nfl ch n 0 = a → m < cm a) → wf cm ch m n = -1) := by
  constructor
  · intro a h1 h2 h3
    rcases nfl_n (ch := ch) (n := n) with ⟨k1, -⟩ | ⟨b, k1, k2, k3, k4⟩
    · omega
    · have e : b = a := by omega
      subst e
      have hw : wai cm ch m b := ⟨k3, h3⟩
      refine ⟨?_, hw⟩
      rcases wf_spec (cm := cm) (ch := ch) (m := m) n with ⟨g1, g2⟩ | ⟨c, g1, g2, g3, g4⟩
      · exact absurd hw (g2 b k1)
      · have : ¬ c < b := fun z => k4 c z g3.1
        have : ¬ b < c := fun z => g4 b z hw
        rw [g2]
        omega
  · intro h
    rcases wf_spec (cm := cm) (ch := ch) (m := m) n with ⟨g1, g2⟩ | ⟨c, g1, g2, g3, g4⟩
    · exact g1
    · exfalso
      rcases nfl_n (ch := ch) (n := n) with ⟨k1, k2⟩ | ⟨b, k1, k2, k3, k4⟩
      · exact k2 c g1 g3.1
      · have h1 := h b k1 k2
        have : ¬ c < b := fun z => k4 c z g3.1
        have := hs b c (by omega) g1
        have := g3.2
        omega
/-- coin i waits for b -/
abbrev wab (cm cb ch : Nat → Int) (m : Int) (b i : Nat) : Prop := wai cm ch m i ∧ cb i = (b : Int)
theorem nqc_zero {n : Nat} {cm cb ch : Nat → Int} {m : Int} {b : Nat} : ∀ i : Nat, i ≤ n → (nqc n cm cb ch m b i = 0 ↔ ∀ j, j < i → ¬ wab cm cb ch m b j)
  | 0, _ => ⟨fun _ j hj => by omega, fun _ => rfl⟩
  | i + 1, hi => by
    have ih := nqc_zero (cm := cm) (cb := cb) (ch := ch) (m := m) (b := b) i (show i ≤ n by omega)
    unfold nqc
    by_cases c : nw n cm ch m (i : Int) ∧ cb i = (b : Int)
    · rw [if_pos c]
      exact ⟨fun h => by omega, fun h => absurd ⟨(nw_wai (by omega)).mp c.1, c.2⟩ (h i (by omega))⟩
    · rw [if_neg c, Nat.add_zero, ih]
      refine ⟨fun h j hj => ?_, fun h j hj => h j (by omega)⟩
      by_cases e : j = i
      · subst e; exact fun z => c ⟨(nw_wai (by omega)).mpr z.1, z.2⟩
      · exact h j (by omega)
theorem nfi_spec {n : Nat} {cm cb ch : Nat → Int} {m ahead : Int} {b : Nat} : ∀ d i : Nat, i + d ≤ n → (∃ j, i ≤ j ∧ j < i + d ∧ wab cm cb ch m b j) → ∃ f : Nat, i ≤ f ∧ f < i + d ∧ nfi n cm cb ch m ahead b d i = f ∧ wab cm cb ch m b f ∧ ∀ j, i ≤ j → j < f → ¬ wab cm cb ch m b j
  | 0, i, _, ⟨j, h1, h2, _⟩ => by omega
  | d + 1, i, hi, ⟨j, h1, h2, h3⟩ => by
    unfold nfi
    by_cases c : wab cm cb ch m b i
    · rw [if_pos ⟨(nw_wai (by omega)).mpr c.1, c.2⟩]
      exact ⟨i, by omega, by omega, rfl, c, fun j k1 k2 => by omega⟩
    · rw [if_neg (fun z => c ⟨(nw_wai (by omega)).mp z.1, z.2⟩)]
      have hj : j ≠ i := fun e => c (e ▸ h3)
      obtain ⟨f, k1, k2, k3, k4, k5⟩ := nfi_spec (n := n) (ahead := ahead) d (i + 1) (by omega) (⟨j, by omega, by omega, h3⟩ : ∃ j, i + 1 ≤ j ∧ j < i + 1 + d ∧ wab cm cb ch m b j)
      refine ⟨f, by omega, by omega, k3, k4, fun j' g1 g2 => ?_⟩
      by_cases e : j' = i
      · rw [e]; exact c
      · exact k5 j' (by omega) g2
theorem nmo_spec {q : Nat → Nat} : ∀ i : Nat, nmo q i ≤ i ∧ (∀ b, b ≤ i → q b ≤ q (nmo q i)) ∧ ∀ b, b < nmo q i → q b < q (nmo q i)
  | 0 => ⟨Nat.le_refl 0, fun b hb => by
      have : b = 0 := by omega
      rw [this]
      exact Nat.le_refl _, fun b hb => absurd hb (Nat.not_lt_zero b)⟩
  | i + 1 => by
    obtain ⟨h1, h2, h3⟩ := nmo_spec (q := q) i
    unfold nmo
    by_cases c : q (nmo q i) < q (i + 1)
    · rw [if_pos c]
      refine ⟨Nat.le_refl _, fun b hb => ?_, fun b hb => ?_⟩
      · by_cases e : b = i + 1
        · rw [e]; exact Nat.le_refl _
        · have := h2 b (by omega)
          omega
      · have := h2 b (by omega)
        omega
    · rw [if_neg c]
      refine ⟨by omega, fun b hb => ?_, h3⟩
      by_cases e : b = i + 1
      · rw [e]; omega
      · exact h2 b (by omega)
/-- the model's own look for the most asked, the buttons from j to 9 behind it -/
def mok (q : Nat → Nat) (f : Nat → Int) (j : Nat) (best : Int) (most : Nat) : Prop :=
  (most = 0 ∧ best = -1 ∧ ∀ b, j ≤ b → b ≤ 9 → q b = 0) ∨ ∃ b0, j ≤ b0 ∧ b0 ≤ 9 ∧ best = f b0 ∧ most = q b0 ∧ 0 < q b0 ∧ (∀ b, j ≤ b → b ≤ 9 → q b ≤ q b0) ∧ ∀ b, j ≤ b → b < b0 → q b < q b0
theorem mok_step {q : Nat → Nat} {f : Nat → Int} {j : Nat} {best : Int} {most : Nat} (hj : j ≤ 9) (h : mok q f (j + 1) best most) : mok q f j (if 0 < q j ∧ most ≤ q j then f j else best) (if most < q j then q j else most) := by
  rcases h with ⟨h1, h2, h3⟩ | ⟨b0, h1, h2, h3, h4, h5, h6, h7⟩
  · by_cases c : 0 < q j
    · rw [if_pos ⟨c, by omega⟩, if_pos (by omega)]
      refine .inr ⟨j, Nat.le_refl j, hj, rfl, rfl, c, fun b k1 k2 => ?_, fun b k1 k2 => by omega⟩
      by_cases e : b = j
      · rw [e]; exact Nat.le_refl _
      · rw [h3 b (by omega) k2]; omega
    · rw [if_neg (fun z => c z.1), if_neg (by omega)]
      refine .inl ⟨h1, h2, fun b k1 k2 => ?_⟩
      by_cases e : b = j
      · rw [e]; omega
      · exact h3 b (by omega) k2
  · by_cases c : most ≤ q j
    · rw [if_pos ⟨by omega, c⟩]
      have e2 : (if most < q j then q j else most) = q j := by split <;> omega
      rw [e2]
      refine .inr ⟨j, Nat.le_refl j, hj, rfl, rfl, by omega, fun b k1 k2 => ?_, fun b k1 k2 => by omega⟩
      by_cases e : b = j
      · rw [e]; exact Nat.le_refl _
      · have := h6 b (by omega) k2
        omega
    · rw [if_neg (fun z => c z.2), if_neg (by omega)]
      refine .inr ⟨b0, by omega, h2, h3, h4, h5, fun b k1 k2 => ?_, fun b k1 k2 => ?_⟩
      · by_cases e : b = j
        · rw [e]; omega
        · exact h6 b (by omega) k2
      · by_cases e : b = j
        · rw [e]; omega
        · exact h7 b (by omega) k2
theorem mok_end {q : Nat → Nat} {f : Nat → Int} {best : Int} {most b1 : Nat} (h : mok q f 0 best most) (h1 : b1 ≤ 9) (h2 : 0 < q b1) : best = f (nmo q 9) ∧ 0 < q (nmo q 9) := by
  obtain ⟨g1, g2, g3⟩ := nmo_spec (q := q) 9
  rcases h with ⟨k1, k2, k3⟩ | ⟨b0, k1, k2, k3, k4, k5, k6, k7⟩
  · have := k3 b1 (by omega) h1
    omega
  · have e : b0 = nmo q 9 := by
      have a1 : ¬ b0 < nmo q 9 := fun z => by
        have := g3 b0 z
        have := k6 (nmo q 9) (by omega) g1
        omega
      have a2 : ¬ nmo q 9 < b0 := fun z => by
        have := k7 (nmo q 9) (by omega) z
        have := g2 b0 k2
        omega
      omega
    rw [← e]
    exact ⟨k3, k5⟩
