/-! ===== a night's numbers, step by step ===== -/
/-- how many of the first i are left -/
def nlf (ch : Nat → Int) : Nat → Nat
  | 0 => 0
  | i + 1 => nlf ch i + (if ch i = -1 then 1 else 0)
theorem nlf_le {ch : Nat → Int} : ∀ i : Nat, nlf ch i ≤ i
  | 0 => Nat.le_refl 0
  | i + 1 => by
    have := nlf_le (ch := ch) i
    show nlf ch i + (if ch i = -1 then 1 else 0) ≤ i + 1
    split <;> omega
theorem nlf_z {ch : Nat → Int} : ∀ n : Nat, nlf ch n = 0 ↔ ∀ j, j < n → ch j ≠ -1
  | 0 => ⟨fun _ j hj => absurd hj (Nat.not_lt_zero j), fun _ => rfl⟩
  | n + 1 => by
    have ih := nlf_z (ch := ch) n
    show nlf ch n + (if ch n = -1 then 1 else 0) = 0 ↔ _
    by_cases c : ch n = -1
    · rw [if_pos c]
      exact ⟨fun h => by omega, fun h => absurd c (h n (by omega))⟩
    · rw [if_neg c, Nat.add_zero, ih]
      refine ⟨fun h j hj => ?_, fun h j hj => h j (by omega)⟩
      by_cases e : j = n
      · rw [e]; exact c
      · exact h j (by omega)
theorem nlf_all {ch : Nat → Int} : ∀ n : Nat, (∀ j, j < n → ch j = -1) → nlf ch n = n
  | 0, _ => rfl
  | n + 1, h => by
    have ih := nlf_all (ch := ch) n (fun j hj => h j (by omega))
    show nlf ch n + (if ch n = -1 then 1 else 0) = n + 1
    rw [if_pos (h n (by omega)), ih]
theorem nlf_iu {ch : Nat → Int} {c : Nat} {m : Int} (hc : ch c = -1) (hm : m ≠ -1) : ∀ i : Nat, nlf (iu ch c m) i + (if c < i then 1 else 0) = nlf ch i
  | 0 => by
    rw [if_neg (Nat.not_lt_zero c)]
    rfl
  | i + 1 => by
    have ih := nlf_iu hc hm i
    show nlf (iu ch c m) i + (if iu ch c m i = -1 then 1 else 0) + (if c < i + 1 then 1 else 0) = nlf ch i + (if ch i = -1 then 1 else 0)
    by_cases e : i = c
    · subst e
      rw [if_neg (Nat.lt_irrefl i)] at ih
      rw [iu_eq, if_neg hm, if_pos hc, if_pos (Nat.lt_succ_self i)]
      omega
    · rw [iu_ne e]
      by_cases z : c < i
      · rw [if_pos z] at ih
        rw [if_pos (show c < i + 1 by omega)]
        omega
      · rw [if_neg z] at ih
        rw [if_neg (show ¬ c < i + 1 by omega)]
        omega
/-- coin j's play sounds in minute h -/
abbrev sol (len : Nat → Int) (t : NT) (h : Int) (j : Nat) : Prop := 0 ≤ npl t j ∧ nch t j ≤ h ∧ h - nch t j < len (npl t j).toNat
theorem npi_cong {n : Nat} {len : Nat → Int} {t t' : NT} {h : Int} : ∀ d i : Nat, (∀ j, i ≤ j → j < i + d → (sol len t h j ↔ sol len t' h j) ∧ (sol len t h j → npl t j = npl t' j)) → npi n len t h d i = npi n len t' h d i
  | 0, _, _ => rfl
  | d + 1, i, hh => by
    have hi := hh i (Nat.le_refl i) (by omega)
    have ih := npi_cong (n := n) d (i + 1) (fun j h1 h2 => hh j (by omega) (by omega))
    unfold npi
    by_cases c : sol len t h i
    · rw [if_pos c, if_pos (hi.1.mp c)]
      exact hi.2 c
    · rw [if_neg c, if_neg (fun z => c (hi.1.mpr z))]
      exact ih
theorem npi_none {n : Nat} {len : Nat → Int} {t : NT} {h : Int} : ∀ d i : Nat, (∀ j, i ≤ j → j < i + d → ¬ sol len t h j) → npi n len t h d i = -1
  | 0, _, _ => rfl
  | d + 1, i, hh => by
    unfold npi
    rw [if_neg (hh i (Nat.le_refl i) (by omega))]
    exact npi_none d (i + 1) (fun j h1 h2 => hh j (by omega) (by omega))
theorem npi_hit {n : Nat} {len : Nat → Int} {t : NT} {h : Int} {c : Nat} (hc : sol len t h c) : ∀ d i : Nat, i ≤ c → c < i + d → (∀ j, i ≤ j → j < c → ¬ sol len t h j) → npi n len t h d i = npl t c
  | 0, i, h1, h2, _ => by omega
  | d + 1, i, h1, h2, hh => by
    unfold npi
    by_cases e : i = c
    · subst e
      rw [if_pos hc]
    · rw [if_neg (hh i (Nat.le_refl i) (by omega))]
      exact npi_hit hc d (i + 1) (by omega) (by omega) (fun j k1 k2 => hh j (by omega) k2)
theorem sG_iu {f : Nat → Int} {r : Nat} {x : Int} : ∀ n : Nat, sG (iu f r x) n = sG f n + (if r < n then x - f r else 0)
  | 0 => by
    rw [if_neg (Nat.not_lt_zero r)]
    rfl
  | n + 1 => by
    have ih := sG_iu (f := f) (r := r) (x := x) n
    show sG (iu f r x) n + iu f r x n = sG f n + f n + _
    rw [ih]
    by_cases e : n = r
    · subst e
      rw [iu_eq, if_neg (Nat.lt_irrefl n), if_pos (Nat.lt_succ_self n)]
      omega
    · rw [iu_ne e]
      by_cases z : r < n
      · rw [if_pos z, if_pos (show r < n + 1 by omega)]
        omega
      · rw [if_neg z, if_neg (show ¬ r < n + 1 by omega)]
        omega
section
variable {n : Nat} {cm cb len : Nat → Int} {life law r m : Int} {t : NT} {c B : Nat}
theorem nsv_play (h : (0 ≤ r ∧ r < 10) ∧ ntm t r.toNat < life) : nsv len life t c r m = ((iu (nch t) c m, iu (npl t) c r, iu (ntm t) r.toNat (ntm t r.toNat + 1), nps t + 1, npm t + len r.toNat, m + len r.toNat, if nwo t = -1 ∧ ntm t r.toNat + 1 = life then r else nwo t), len r.toNat) := by
  unfold nsv
  rw [if_pos h]
theorem nsv_not (h : ¬ ((0 ≤ r ∧ r < 10) ∧ ntm t r.toNat < life)) : nsv len life t c r m = ((iu (nch t) c m, npl t, ntm t, nps t, npm t, nle t, nwo t), 0) := by
  unfold nsv
  rw [if_neg h]
theorem nsv_ch : nch (nsv len life t c r m).1 = iu (nch t) c m := by
  unfold nsv
  split <;> rfl
/-- what holds of a night's numbers when all its plays are over by minute m -/
def nG (n : Nat) (len : Nat → Int) (t : NT) (m : Int) : Prop := (∀ i, nch t i = -1 → npl t i = -1) ∧ sG (ntm t) 10 = nps t ∧ nps t ≤ npm t ∧ (nps t = 0 → npm t = 0) ∧ ∀ i, i < n → 0 ≤ npl t i → nch t i + len (npl t i).toNat ≤ m
theorem nG_mono {m' : Int} (h : nG n len t m) (hm : m ≤ m') : nG n len t m' := ⟨h.1, h.2.1, h.2.2.1, h.2.2.2.1, fun i hi h0 => by
  have := h.2.2.2.2 i hi h0
  omega⟩
theorem nG_0 : nG n len nt0 0 := ⟨fun _ _ => rfl, by decide, by decide, fun _ => rfl, fun i _ h0 => absurd h0 (by show ¬ (0 : Int) ≤ -1; omega)⟩
theorem nsv_G (h : nG n len t m) (hB : nB B t) (hl : ∀ r, r < 10 → 1 ≤ len r ∧ len r ≤ 60) (hc : nch t c = -1) (m0 : 0 ≤ m) : nG n len (nsv len life t c r m).1 (m + (nsv len life t c r m).2) := by
  obtain ⟨g1, g2, g3, g4, g5⟩ := h
  have hps := hB.2.2.2.1
  by_cases p : (0 ≤ r ∧ r < 10) ∧ ntm t r.toNat < life
  · rw [nsv_play p]
    have hr := hl r.toNat (by omega)
    refine ⟨fun i hi => ?_, ?_, ?_, fun z => ?_, fun i hi h0 => ?_⟩
    · have hi' : iu (nch t) c m i = -1 := hi
      show iu (npl t) c r i = -1
      by_cases e : i = c
      · subst e
        rw [iu_eq] at hi'
        omega
      · rw [iu_ne e] at hi' ⊢
        exact g1 i hi'
    · show sG (iu (ntm t) r.toNat (ntm t r.toNat + 1)) 10 = nps t + 1
      rw [sG_iu, if_pos (by omega), g2]
      omega
    · show nps t + 1 ≤ npm t + len r.toNat
      omega
    · have z' : nps t + 1 = 0 := z
      omega
    · have h0' : 0 ≤ iu (npl t) c r i := h0
      show iu (nch t) c m i + len (iu (npl t) c r i).toNat ≤ m + len r.toNat
      by_cases e : i = c
      · subst e
        rw [iu_eq, iu_eq]
        exact Int.le_refl _
      · simp only [iu_ne e] at h0' ⊢
        have := g5 i hi h0'
        omega
  · rw [nsv_not p]
    refine ⟨fun i hi => ?_, g2, g3, g4, fun i hi h0 => ?_⟩
    · have hi' : iu (nch t) c m i = -1 := hi
      show npl t i = -1
      by_cases e : i = c
      · rw [e]; exact g1 c hc
      · rw [iu_ne e] at hi'
        exact g1 i hi'
    · have h0' : 0 ≤ npl t i := h0
      show iu (nch t) c m i + len (npl t i).toNat ≤ m + 0
      by_cases e : i = c
      · rw [e, g1 c hc] at h0'
        omega
      · rw [iu_ne e]
        have := g5 i hi h0'
        omega
theorem nsv_npi_play {h : Int} (hg : nG n len t m) (hc : nch t c = -1) (hcn : c < n) (p : (0 ≤ r ∧ r < 10) ∧ ntm t r.toNat < life) : npi n len (nsv len life t c r m).1 h n 0 = if m ≤ h ∧ h < m + len r.toNat then r else npi n len t h n 0 := by
  obtain ⟨g1, g2, g3, g4, g5⟩ := hg
  rw [nsv_play p]
  obtain ⟨t1, ht1⟩ : ∃ t1 : NT, (iu (nch t) c m, iu (npl t) c r, iu (ntm t) r.toNat (ntm t r.toNat + 1), nps t + 1, npm t + len r.toNat, m + len r.toNat, if nwo t = -1 ∧ ntm t r.toNat + 1 = life then r else nwo t) = t1 := ⟨_, rfl⟩
  have ec : nch t1 = iu (nch t) c m := by rw [← ht1]; rfl
  have ep : npl t1 = iu (npl t) c r := by rw [← ht1]; rfl
  rw [ht1]
  by_cases z : m ≤ h ∧ h < m + len r.toNat
  · rw [if_pos z]
    have hs : sol len t1 h c := by
      show 0 ≤ npl t1 c ∧ nch t1 c ≤ h ∧ h - nch t1 c < len (npl t1 c).toNat
      rw [ec, ep, iu_eq, iu_eq]
      exact ⟨p.1.1, z.1, by omega⟩
    rw [npi_hit hs n 0 (Nat.zero_le c) (by omega) (fun j _ k2 => ?_), ep, iu_eq]
    have e : j ≠ c := by omega
    show ¬ (0 ≤ npl t1 j ∧ nch t1 j ≤ h ∧ h - nch t1 j < len (npl t1 j).toNat)
    rw [ec, ep, iu_ne e, iu_ne e]
    rintro ⟨q1, q2, q3⟩
    have := g5 j (by omega) q1
    omega
  · rw [if_neg z]
    refine npi_cong n 0 (fun j _ hj => ?_)
    by_cases e : j = c
    · subst e
      have h1 : ¬ sol len t1 h j := by
        show ¬ (0 ≤ npl t1 j ∧ nch t1 j ≤ h ∧ h - nch t1 j < len (npl t1 j).toNat)
        rw [ec, ep, iu_eq, iu_eq]
        rintro ⟨q1, q2, q3⟩
        exact z ⟨q2, by omega⟩
      have h2 : ¬ sol len t h j := by
        rintro ⟨q1, q2, q3⟩
        rw [g1 j hc] at q1
        omega
      exact ⟨⟨fun a => absurd a h1, fun a => absurd a h2⟩, fun a => absurd a h1⟩
    · have h1 : npl t1 j = npl t j := by rw [ep, iu_ne e]
      have h2 : nch t1 j = nch t j := by rw [ec, iu_ne e]
      refine ⟨?_, fun _ => h1⟩
      show (0 ≤ npl t1 j ∧ nch t1 j ≤ h ∧ h - nch t1 j < len (npl t1 j).toNat) ↔ (0 ≤ npl t j ∧ nch t j ≤ h ∧ h - nch t j < len (npl t j).toNat)
      rw [h1, h2]
theorem nsv_npi_not {h : Int} (hg : nG n len t m) (hc : nch t c = -1) (p : ¬ ((0 ≤ r ∧ r < 10) ∧ ntm t r.toNat < life)) : npi n len (nsv len life t c r m).1 h n 0 = npi n len t h n 0 := by
  obtain ⟨g1, g2, g3, g4, g5⟩ := hg
  rw [nsv_not p]
  obtain ⟨t1, ht1⟩ : ∃ t1 : NT, (iu (nch t) c m, npl t, ntm t, nps t, npm t, nle t, nwo t) = t1 := ⟨_, rfl⟩
  have ec : nch t1 = iu (nch t) c m := by rw [← ht1]; rfl
  have ep : npl t1 = npl t := by rw [← ht1]; rfl
  rw [ht1]
  refine npi_cong n 0 (fun j _ hj => ?_)
  refine ⟨?_, fun _ => by rw [ep]⟩
  show (0 ≤ npl t1 j ∧ nch t1 j ≤ h ∧ h - nch t1 j < len (npl t1 j).toNat) ↔ (0 ≤ npl t j ∧ nch t j ≤ h ∧ h - nch t j < len (npl t j).toNat)
  by_cases e : j = c
  · rw [ep, e, g1 c hc]
    exact ⟨fun a => absurd a.1 (by omega), fun a => absurd a.1 (by omega)⟩
  · rw [ec, ep, iu_ne e]
theorem npk_wai {ch : Nat → Int} {a : Nat} (hcb : ∀ i, i < n → 0 ≤ cb i ∧ cb i ≤ 9) (hw : wai cm ch m a) (ha : a < n) : ∃ c : Nat, c < n ∧ npk law n cm cb ch m (a : Int) = c ∧ wai cm ch m c := by
  unfold npk
  by_cases l2 : law = 2
  · rw [if_pos l2]
    unfold nma
    obtain ⟨q, hq⟩ : ∃ q : Nat → Nat, (fun b => nqc n cm cb ch m b n) = q := ⟨_, rfl⟩
    have hq' : ∀ b, q b = nqc n cm cb ch m b n := fun b => by rw [← hq]
    rw [hq]
    obtain ⟨g1, g2, g3⟩ := nmo_spec (q := q) 9
    have hb := hcb a ha
    have h1 : q (cb a).toNat ≠ 0 := by
      rw [hq']
      intro z
      exact (nqc_zero n (Nat.le_refl n)).mp z a ha ⟨hw, by omega⟩
    have h2 := g2 (cb a).toNat (by omega)
    have h3 : ∃ j, j < n ∧ wab cm cb ch m (nmo q 9) j := by
      apply Classical.byContradiction
      intro hn
      have : q (nmo q 9) = 0 := by
        rw [hq']
        exact (nqc_zero n (Nat.le_refl n)).mpr (fun j hj hz => hn ⟨j, hj, hz⟩)
      omega
    obtain ⟨j, hj, hz⟩ := h3
    obtain ⟨f, k1, k2, k3, k4, k5⟩ := nfi_spec (n := n) (ahead := (a : Int)) n 0 (by omega) (⟨j, by omega, by omega, hz⟩ : ∃ j, 0 ≤ j ∧ j < 0 + n ∧ wab cm cb ch m (nmo q 9) j)
    exact ⟨f, by omega, k3, k4.1⟩
  · rw [if_neg l2]
    by_cases l3 : law = 3
    · rw [if_pos l3]
      obtain ⟨b, h1, h2, h3, h4⟩ := nla_spec hw ha n ha (Nat.le_refl n)
      exact ⟨b, h1, h2, h3⟩
    · rw [if_neg l3]
      exact ⟨a, ha, rfl, hw⟩
theorem nat1_at {f : Nat → Int} {a : Nat} (ha : a < n) : nat1 n f (a : Int) = f a := by
  unfold nat1
  rw [if_pos ⟨by omega, by omega⟩, Int.toNat_natCast]
theorem nst_at {a : Nat} (ha : nfl (nch t) n 0 = a) (han : a < n) (hm : cm a ≤ m) (m2 : m < 200) (hc : npk law n cm cb (nch t) m (a : Int) = c) (hcn : c < n) : nst law n cm cb len life (t, m) = ((nsv len life t c (nrec law n cb c) m).1, m + (nsv len life t c (nrec law n cb c) m).2) := by
  have e : max m (nat1 n cm (a : Int)) = m := by rw [nat1_at han]; omega
  unfold nst
  dsimp only
  rw [ha, e, hc, if_neg (by omega), if_pos ⟨by omega, by omega⟩, Int.toNat_natCast]
theorem nst_up {a : Nat} (ha : nfl (nch t) n 0 = a) (han : a < n) (hm : m ≤ cm a) : nst law n cm cb len life (t, m) = nst law n cm cb len life (t, cm a) := by
  have e : max m (nat1 n cm (a : Int)) = cm a := by rw [nat1_at han]; omega
  have e2 : max (cm a) (nat1 n cm (a : Int)) = cm a := by rw [nat1_at han]; omega
  unfold nst
  dsimp only
  rw [ha, e, e2]
end
/-- what a whole night leaves -/
def nF (n : Nat) (t : NT) : Prop := nB n t ∧ (∀ i, nch t i = -1 → npl t i = -1) ∧ sG (ntm t) 10 = nps t ∧ nps t ≤ npm t ∧ (nps t = 0 → npm t = 0)
/-- a night's numbers in the model -/
def mN (w : en_W) (n : Nat) (len : Nat → Int) (t : NT) : Prop := (∀ i, i < n → w 29 i = zI (nch t i) ∧ w 30 i = zI (npl t i)) ∧ (∀ r, r < 10 → w 32 r = zI (ntm t r)) ∧ w 19 17 = zI (nle t) ∧ w 19 18 = zI (npm t) ∧ w 19 19 = zI (nwo t) ∧ ∀ h : Nat, h < 200 → w 31 h = zI (npi n len t h n 0)
theorem upd_iu {f : Nat → Int32} {g : Nat → Int} {c i : Nat} {x : Int} (h : f i = zI (g i)) : upd f c (zI x) i = zI (iu g c x i) := by
  by_cases e : i = c
  · rw [e, upd_eq, iu_eq]
  · rw [upd_ne e, iu_ne e]
    exact h
