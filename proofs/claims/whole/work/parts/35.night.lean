/-! ===== a night, as numbers ===== -/
def iu (f : Nat → Int) (k : Nat) (x : Int) : Nat → Int := fun j => if j = k then x else f j
theorem iu_eq {f : Nat → Int} {k : Nat} {x : Int} : iu f k x k = x := if_pos rfl
theorem iu_ne {f : Nat → Int} {k j : Nat} {x : Int} (h : j ≠ k) : iu f k x j = f j := if_neg h
/-- chosen, played, times, plays, minutes played, the last end, worn -/
abbrev NT : Type := (Nat → Int) × (Nat → Int) × (Nat → Int) × Int × Int × Int × Int
def nch (t : NT) : Nat → Int := t.1
def npl (t : NT) : Nat → Int := t.2.1
def ntm (t : NT) : Nat → Int := t.2.2.1
def nps (t : NT) : Int := t.2.2.2.1
def npm (t : NT) : Int := t.2.2.2.2.1
def nle (t : NT) : Int := t.2.2.2.2.2.1
def nwo (t : NT) : Int := t.2.2.2.2.2.2
def nt0 : NT := (fun _ => -1, fun _ => -1, fun _ => 0, 0, 0, 0, -1)
/-- the first coin that is left, of d from i on; -1: none -/
def nfl (ch : Nat → Int) : Nat → Nat → Int
  | 0, _ => -1
  | d + 1, i => if ch i = -1 then i else nfl ch d (i + 1)
/-- coin i waits in minute m -/
abbrev nw (n : Nat) (cm ch : Nat → Int) (m : Int) (i : Int) : Prop := 0 ≤ i ∧ i < n ∧ ch i.toNat = -1 ∧ cm i.toNat ≤ m
/-- the latest that waits, of those below i; else ahead -/
def nla (n : Nat) (cm ch : Nat → Int) (m ahead : Int) : Nat → Int
  | 0 => ahead
  | i + 1 => if (i : Int) ≤ ahead then ahead else if nw n cm ch m i then i else nla n cm ch m ahead i
/-- how many of the first i coins wait for b -/
def nqc (n : Nat) (cm cb ch : Nat → Int) (m : Int) (b : Nat) : Nat → Nat
  | 0 => 0
  | i + 1 => nqc n cm cb ch m b i + (if nw n cm ch m i ∧ cb i = b then 1 else 0)
/-- the least button of which most wait, of 0 to i -/
def nmo (q : Nat → Nat) : Nat → Nat
  | 0 => 0
  | i + 1 => if q (nmo q i) < q (i + 1) then i + 1 else nmo q i
def nfi (n : Nat) (cm cb ch : Nat → Int) (m ahead : Int) (b : Nat) : Nat → Nat → Int
  | 0, _ => ahead
  | d + 1, i => if nw n cm ch m i ∧ cb i = b then i else nfi n cm cb ch m ahead b d (i + 1)
def nma (n : Nat) (cm cb ch : Nat → Int) (m ahead : Int) : Int := nfi n cm cb ch m ahead (nmo (fun b => nqc n cm cb ch m b n) 9) n 0
/-- the coin that is chosen -/
def npk (law : Int) (n : Nat) (cm cb ch : Nat → Int) (m ahead : Int) : Int := if law = 2 then nma n cm cb ch m ahead else if law = 3 then nla n cm ch m ahead n else ahead
def nat1 (n : Nat) (f : Nat → Int) (i : Int) : Int := if 0 ≤ i ∧ i < n then f i.toNat else -1
/-- coin c is chosen in minute m, for record r (-1: nothing): what is then, and how long it plays -/
def nsv (len : Nat → Int) (life : Int) (t : NT) (c : Nat) (r m : Int) : NT × Int :=
  if (0 ≤ r ∧ r < 10) ∧ ntm t r.toNat < life then
    ((iu (nch t) c m, iu (npl t) c r, iu (ntm t) r.toNat (ntm t r.toNat + 1), nps t + 1, npm t + len r.toNat, m + len r.toNat, if nwo t = -1 ∧ ntm t r.toNat + 1 = life then r else nwo t), len r.toNat)
  else ((iu (nch t) c m, npl t, ntm t, nps t, npm t, nle t, nwo t), 0)
def nrec (law : Int) (n : Nat) (cb : Nat → Int) (c : Int) : Int := nat1 n cb (if law = 1 then c - 2 else c)
/-- one choice: the state and the minute -/
def nst (law : Int) (n : Nat) (cm cb len : Nat → Int) (life : Int) (q : NT × Int) : NT × Int :=
  if 200 ≤ max q.2 (nat1 n cm (nfl (nch q.1) n 0)) then (q.1, max q.2 (nat1 n cm (nfl (nch q.1) n 0)))
  else if 0 ≤ npk law n cm cb (nch q.1) (max q.2 (nat1 n cm (nfl (nch q.1) n 0))) (nfl (nch q.1) n 0) ∧ npk law n cm cb (nch q.1) (max q.2 (nat1 n cm (nfl (nch q.1) n 0))) (nfl (nch q.1) n 0) < n then
    ((nsv len life q.1 (npk law n cm cb (nch q.1) (max q.2 (nat1 n cm (nfl (nch q.1) n 0))) (nfl (nch q.1) n 0)).toNat (nrec law n cb (npk law n cm cb (nch q.1) (max q.2 (nat1 n cm (nfl (nch q.1) n 0))) (nfl (nch q.1) n 0))) (max q.2 (nat1 n cm (nfl (nch q.1) n 0)))).1,
      max q.2 (nat1 n cm (nfl (nch q.1) n 0)) + (nsv len life q.1 (npk law n cm cb (nch q.1) (max q.2 (nat1 n cm (nfl (nch q.1) n 0))) (nfl (nch q.1) n 0)).toNat (nrec law n cb (npk law n cm cb (nch q.1) (max q.2 (nat1 n cm (nfl (nch q.1) n 0))) (nfl (nch q.1) n 0))) (max q.2 (nat1 n cm (nfl (nch q.1) n 0)))).2)
  else (q.1, max q.2 (nat1 n cm (nfl (nch q.1) n 0)))
def nit (law : Int) (n : Nat) (cm cb len : Nat → Int) (life : Int) : Nat → NT × Int → NT × Int
  | 0, q => q
  | k + 1, q => nit law n cm cb len life k (nst law n cm cb len life q)
/-- the night -/
def nnight (law : Int) (n : Nat) (cm cb len : Nat → Int) (life : Int) : NT := (nit law n cm cb len life n (nt0, 0)).1
/-- what a night's numbers may be behind B choices -/
def nB (B : Nat) (t : NT) : Prop := (∀ i, -1 ≤ nch t i ∧ nch t i ≤ 199) ∧ (∀ i, -1 ≤ npl t i ∧ npl t i ≤ 9) ∧ (∀ r, 0 ≤ ntm t r ∧ ntm t r ≤ B) ∧ 0 ≤ nps t ∧ nps t ≤ B ∧ 0 ≤ npm t ∧ npm t ≤ 60 * B ∧ 0 ≤ nle t ∧ nle t ≤ 260 ∧ -1 ≤ nwo t ∧ nwo t ≤ 9
theorem nB_0 : nB 0 nt0 := ⟨fun i => ⟨show (-1 : Int) ≤ -1 by decide, show (-1 : Int) ≤ 199 by decide⟩, fun i => ⟨show (-1 : Int) ≤ -1 by decide, show (-1 : Int) ≤ 9 by decide⟩, fun i => ⟨show (0 : Int) ≤ 0 by decide, show (0 : Int) ≤ ((0 : Nat) : Int) by decide⟩, by decide, by decide, by decide, by decide, by decide, by decide, by decide, by decide⟩
theorem nfl_rng (ch : Nat → Int) : ∀ d i : Nat, -1 ≤ nfl ch d i ∧ nfl ch d i < i + d ∨ nfl ch d i = -1
  | 0, i => Or.inr rfl
  | d + 1, i => by
    unfold nfl
    split
    · exact Or.inl (by omega)
    · rcases nfl_rng ch d (i + 1) with h | h
      · exact Or.inl (by omega)
      · exact Or.inr h
theorem nfi_rng {n : Nat} {cm cb ch : Nat → Int} {m ahead : Int} {b : Nat} : ∀ d i : Nat, i + d ≤ n → nfi n cm cb ch m ahead b d i = ahead ∨ (0 ≤ nfi n cm cb ch m ahead b d i ∧ nfi n cm cb ch m ahead b d i < n)
  | 0, i, _ => Or.inl rfl
  | d + 1, i, h => by
    unfold nfi
    split
    · exact Or.inr (by omega)
    · exact nfi_rng d (i + 1) (by omega)
theorem nla_rng {n : Nat} {cm ch : Nat → Int} {m ahead : Int} : ∀ i : Nat, i ≤ n → nla n cm ch m ahead i = ahead ∨ (0 ≤ nla n cm ch m ahead i ∧ nla n cm ch m ahead i < n)
  | 0, _ => Or.inl rfl
  | i + 1, h => by
    unfold nla
    split
    · exact Or.inl rfl
    · split
      · exact Or.inr (by omega)
      · exact nla_rng i (by omega)
theorem npk_rng {law : Int} {n : Nat} {cm cb ch : Nat → Int} {m ahead : Int} : npk law n cm cb ch m ahead = ahead ∨ (0 ≤ npk law n cm cb ch m ahead ∧ npk law n cm cb ch m ahead < n) := by
  unfold npk nma
  split
  · exact nfi_rng n 0 (by omega)
  · split
    · exact nla_rng n (Nat.le_refl n)
    · exact Or.inl rfl
theorem nsv_B {len : Nat → Int} {life : Int} {t : NT} {c B : Nat} {r m : Int} (h : nB B t) (hl : ∀ r, r < 10 → 1 ≤ len r ∧ len r ≤ 60) (h1 : 0 ≤ m) (h2 : m < 200) : nB (B + 1) (nsv len life t c r m).1 ∧ 0 ≤ (nsv len life t c r m).2 ∧ (nsv len life t c r m).2 ≤ 60 := by
  obtain ⟨g1, g2, g3, g4, g5, g6, g7, g8, g9, g10, g11⟩ := h
  have u1 : ∀ i, -1 ≤ iu (nch t) c m i ∧ iu (nch t) c m i ≤ 199 := fun i => by
    by_cases e : i = c
    · subst e; rw [iu_eq]; omega
    · rw [iu_ne e]; exact g1 i
  unfold nsv
  split
  next hr =>
    have hl' := hl r.toNat (by omega)
    have g3' := g3 r.toNat
    refine ⟨⟨u1, fun i => ?_, fun i => ?_, ?_, ?_, ?_, ?_, ?_, ?_, ?_, ?_⟩, by omega, by omega⟩
    · show -1 ≤ iu (npl t) c r i ∧ iu (npl t) c r i ≤ 9
      by_cases e : i = c
      · subst e; rw [iu_eq]; omega
      · rw [iu_ne e]; exact g2 i
    · show 0 ≤ iu (ntm t) r.toNat (ntm t r.toNat + 1) i ∧ iu (ntm t) r.toNat (ntm t r.toNat + 1) i ≤ ((B + 1 : Nat) : Int)
      by_cases e : i = r.toNat
      · rw [e, iu_eq]; omega
      · rw [iu_ne e]
        have := g3 i
        omega
    · show 0 ≤ nps t + 1; omega
    · show nps t + 1 ≤ ((B + 1 : Nat) : Int); omega
    · show 0 ≤ npm t + len r.toNat; omega
    · show npm t + len r.toNat ≤ 60 * ((B + 1 : Nat) : Int); omega
    · show 0 ≤ m + len r.toNat; omega
    · show m + len r.toNat ≤ 260; omega
    · show -1 ≤ (if nwo t = -1 ∧ ntm t r.toNat + 1 = life then r else nwo t)
      split <;> omega
    · show (if nwo t = -1 ∧ ntm t r.toNat + 1 = life then r else nwo t) ≤ 9
      split <;> omega
  next =>
    exact ⟨⟨u1, g2, fun i => ⟨(g3 i).1, by have := (g3 i).2; show ntm t i ≤ ((B + 1 : Nat) : Int); omega⟩, g4, by show nps t ≤ ((B + 1 : Nat) : Int); omega, g6, by show npm t ≤ 60 * ((B + 1 : Nat) : Int); omega, g8, g9, g10, g11⟩, show (0 : Int) ≤ 0 by decide, show (0 : Int) ≤ 60 by decide⟩
theorem nB_mono {B B' : Nat} {t : NT} (h : nB B t) (hb : B ≤ B') : nB B' t := by
  obtain ⟨g1, g2, g3, g4, g5, g6, g7, g8, g9, g10, g11⟩ := h
  exact ⟨g1, g2, fun i => ⟨(g3 i).1, by have := (g3 i).2; omega⟩, g4, by omega, g6, by omega, g8, g9, g10, g11⟩
