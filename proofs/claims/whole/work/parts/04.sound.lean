/-! ===== the engine is sound: what it runs, the machine runs ===== -/
def en_lh (ad : Nat → Nat) (ls : Array Slot) (nL : Nat) (L : en_L) : Prop := ls.size = nL ∧ lv_wf ls ∧ L.length = nL ∧ ∀ (i : Nat) (v : Value), L[i]? = some (some v) → ls[i]? = some (.val (en_v ad v))
def en_prs (ad : Nat → Nat) (L : en_L) : List (Nat × Value) := (List.range L.length).filterMap (fun i => match L[i]? with
  | some (some v) => some (i, en_v ad v)
  | _ => none)
theorem en_prs_mem {ad : Nat → Nat} {L : en_L} {q : Nat × Value} : q ∈ en_prs ad L ↔ ∃ v : Value, L[q.1]? = some (some v) ∧ q.2 = en_v ad v := by
  unfold en_prs
  rw [List.mem_filterMap]
  constructor
  · rintro ⟨i, -, h⟩
    cases hL : L[i]? with
    | none => rw [hL] at h; cases h
    | some o => cases o with
      | none => rw [hL] at h; cases h
      | some v => rw [hL] at h; cases h; exact ⟨v, hL, rfl⟩
  · rintro ⟨v, h1, h2⟩
    refine ⟨q.1, List.mem_range.mpr (List.getElem?_eq_some_iff.mp h1).1, ?_⟩
    rw [h1]
    show some (q.1, en_v ad v) = some q
    rw [← h2]
theorem en_lh_has {ad : Nat → Nat} {ls : Array Slot} {nL : Nat} {L : en_L} (h : en_lh ad ls nL L) : lv_has ls nL (en_prs ad L) :=
  ⟨h.1, h.2.1, fun q hq => by
    obtain ⟨v, h1, h2⟩ := en_prs_mem.mp hq
    rw [h2]
    exact h.2.2.2 q.1 v h1⟩
theorem en_kl_some {o : Option Value} {u : Value} (h : en_kl o = some u) : o = some u ∧ u.category ≠ 2 := by
  cases o with
  | none => cases h
  | some v => cases v <;> first | (cases h; done) | (cases h; exact ⟨rfl, by decide⟩) | (cases h; exact ⟨rfl, fun z => by cases z⟩)
theorem en_sto_len : ∀ (L : en_L) (i : Nat) (v : Value), (en_sto L i v).length = L.length
  | [], _, _ => rfl
  | _ :: t, 0, v => rfl
  | a :: t, 1, v => by simp [en_sto, en_sto_len t 0 v]
  | a :: t, i + 2, v => by simp [en_sto, en_sto_len t (i + 1) v]
theorem en_sto_at : ∀ (L : en_L) (i : Nat) (v : Value) (j : Nat) (u : Value), (en_sto L i v)[j]? = some (some u) → (j = i ∧ u = v) ∨ (j ≠ i ∧ L[j]? = some (some u) ∧ (j + 1 = i → u.category ≠ 2))
  | [], i, v, j, u, h => by simp [en_sto] at h
  | a :: t, 0, v, 0, u, h => by
    simp [en_sto] at h
    exact Or.inl ⟨rfl, h.symm⟩
  | a :: t, 0, v, j + 1, u, h => by
    simp [en_sto] at h
    exact Or.inr ⟨by omega, by simpa using h, by omega⟩
  | a :: t, 1, v, 0, u, h => by
    simp [en_sto] at h
    obtain ⟨h1, h2⟩ := en_kl_some h
    exact Or.inr ⟨by omega, by simp [h1], fun _ => h2⟩
  | a :: t, 1, v, j + 1, u, h => by
    simp [en_sto] at h
    rcases en_sto_at t 0 v j u h with ⟨h1, h2⟩ | ⟨h1, h2, h3⟩
    · exact Or.inl ⟨by omega, h2⟩
    · exact Or.inr ⟨by omega, by simpa using h2, by omega⟩
  | a :: t, i + 2, v, 0, u, h => by
    simp [en_sto] at h
    exact Or.inr ⟨by omega, by simp [h], by omega⟩
  | a :: t, i + 2, v, j + 1, u, h => by
    simp [en_sto] at h
    rcases en_sto_at t (i + 1) v j u h with ⟨h1, h2⟩ | ⟨h1, h2, h3⟩
    · exact Or.inl ⟨by omega, h2⟩
    · exact Or.inr ⟨by omega, by simpa using h2, fun hh => h3 (by omega)⟩
theorem en_lh_sto {ad : Nat → Nat} {ls' : Array Slot} {nL i : Nat} {L : en_L} {v : Value} (hl : L.length = nL) (h : lv_has ls' nL ((i, en_v ad v) :: (en_prs ad L).filter (fun q => !(q.1 == i) && !(q.1 + 1 == i && q.2.category == 2)))) : en_lh ad ls' nL (en_sto L i v) := by
  refine ⟨h.1, h.2.1, by rw [en_sto_len]; exact hl, fun j u hj => ?_⟩
  rcases en_sto_at L i v j u hj with ⟨h1, h2⟩ | ⟨h1, h2, h3⟩
  · subst h1; subst h2
    exact h.2.2 (j, en_v ad u) List.mem_cons_self
  · refine h.2.2 (j, en_v ad u) (List.mem_cons_of_mem _ (List.mem_filter.mpr ⟨en_prs_mem.mpr ⟨u, h2, rfl⟩, ?_⟩))
    by_cases hq : j + 1 = i
    · have := h3 hq
      simp [h1, en_v_cat, this]
    · simp [h1, hq]
theorem en_lh_stl {ad : Nat → Nat} {ls' : Array Slot} {nL i : Nat} {L : en_L} {v : Value} (hl : L.length = nL) (h : lv_has ls' nL ((i, en_v ad v) :: (en_prs ad L).filter (fun q => !(q.1 == i) && (!(q.1 == i + 1) && !(q.1 + 1 == i && q.2.category == 2))))) : en_lh ad ls' nL (en_stl L i v) := by
  refine ⟨h.1, h.2.1, by rw [en_stl, List.length_set, en_sto_len]; exact hl, fun j u hj => ?_⟩
  have hj1 : j ≠ i + 1 := by
    intro e
    subst e
    rw [en_stl, List.getElem?_set] at hj
    simp at hj
  rw [en_stl, List.getElem?_set, if_neg (fun e => hj1 e.symm)] at hj
  rcases en_sto_at L i v j u hj with ⟨h1, h2⟩ | ⟨h1, h2, h3⟩
  · subst h1; subst h2
    exact h.2.2 (j, en_v ad u) List.mem_cons_self
  · refine h.2.2 (j, en_v ad u) (List.mem_cons_of_mem _ (List.mem_filter.mpr ⟨en_prs_mem.mpr ⟨u, h2, rfl⟩, ?_⟩))
    by_cases hq : j + 1 = i
    · have := h3 hq
      simp [h1, hj1, en_v_cat, this]
    · simp [h1, hj1, hq]
theorem en_ld_at {L : en_L} {i : Nat} {q : Value → Bool} {v : Value} (h : en_ld L i q = some v) : L[i]? = some (some v) ∧ q v = true := by
  unfold en_ld at h
  cases hL : L[i]? with
  | none => rw [hL] at h; cases h
  | some o => cases o with
    | none => rw [hL] at h; cases h
    | some u =>
      rw [hL] at h
      dsimp only at h
      split at h
      next hq => cases h; exact ⟨rfl, hq⟩
      next => cases h
theorem en_u_some {st : List Value} {k : Int32 → List Value → en_O} {r : Nat × en_L × List Value × en_W} (h : en_u st k = some r) : ∃ x t, st = .int x :: t ∧ k x t = some r := by
  unfold en_u at h
  split at h
  next x t => exact ⟨x, t, rfl, h⟩
  next => cases h
theorem en_b_some {st : List Value} {k : Int32 → Int32 → List Value → en_O} {r : Nat × en_L × List Value × en_W} (h : en_b st k = some r) : ∃ x y t, st = .int y :: .int x :: t ∧ k x y t = some r := by
  unfold en_b at h
  split at h
  next y x t => exact ⟨x, y, t, rfl, h⟩
  next => cases h
theorem en_bl_some {st : List Value} {k : Int64 → Int64 → List Value → en_O} {r : Nat × en_L × List Value × en_W} (h : en_bl st k = some r) : ∃ x y t, st = .long y :: .long x :: t ∧ k x y t = some r := by
  unfold en_bl at h
  split at h
  next y x t => exact ⟨x, y, t, rfl, h⟩
  next => cases h
theorem en_to_some {pc : Nat} {off : Int} {L : en_L} {st : List Value} {w : en_W} {r : Nat × en_L × List Value × en_W} (h : en_to pc off L st w = some r) : (pc : Int) + off = (r.1 : Int) ∧ r.2 = (L, st, w) := by
  unfold en_to at h
  split at h
  next h0 => cases h; exact ⟨by simp; omega, rfl⟩
  next => cases h
def en_fok (Ts : List Jvm.Cond) (own : String) (e : Nat × Nat × Nat × Option String) : Prop := ∃ (C : String) (T : u_T) (N : Nat), vwCl[e.2.1]? = some (C, T, N) ∧ e.2.2.1 < N ∧ (∀ w ∈ u_ws C T N, w ∈ Ts) ∧ (T e.2.2.1).1 = C ∧ ((e.2.2.2 = none ∧ Jvm.Cond.fieldLink own e.1 C (T e.2.2.1).2.1 (T e.2.2.1).2.2.1 ∈ Ts) ∨ ∃ h : String, e.2.2.2 = some h ∧ Jvm.Cond.fieldLinkNest own e.1 C (T e.2.2.1).2.1 (T e.2.2.1).2.2.1 h ∈ wsL_law_r43)
def en_kok (k : Nat) : Bool := match en_kd k with
  | .inl (ci, sl) => (match vwCl[ci]? with
    | some (_, T, N) => sl.length == N && (List.range N).all (fun j => !(sl[j]? == some none) || (!(T j).2.2.2 && decide (parseFieldDescriptor (T j).2.2.1 = some .int)))
    | none => false)
  | _ => true
theorem en_kok_all : ∀ k, k < 62 → en_kok k = true := by decide +kernel
theorem en_kd_obj {k ci : Nat} {sl : List (Option Nat)} {C : String} {T : u_T} {N : Nat} (hk : k < 62) (h : en_kd k = .inl (ci, sl)) (hc : vwCl[ci]? = some (C, T, N)) : sl.length = N ∧ ∀ j, sl[j]? = some none → (T j).2.2.2 = false ∧ parseFieldDescriptor (T j).2.2.1 = some .int := by
  have h1 := en_kok_all k hk
  unfold en_kok at h1
  rw [h] at h1
  dsimp only at h1
  rw [hc] at h1
  simp only [Bool.and_eq_true, beq_iff_eq, List.all_eq_true, List.mem_range] at h1
  refine ⟨h1.1, fun j hj => ?_⟩
  have hjl : j < sl.length := (List.getElem?_eq_some_iff.mp hj).1
  have h2 := h1.2 j (by rw [← h1.1]; exact hjl)
  rw [hj] at h2
  simpa using h2
theorem en_nm {ci : Nat} {C : String} {T : u_T} {N : Nat} (hc : vwCl[ci]? = some (C, T, N)) : (∃ ty0 : Nat → FieldType, ∀ k, k < N → parseFieldDescriptor (T k).2.2.1 = some (ty0 k)) ∧ ∀ a, a < N → ∀ b, b < N → a ≠ b → (T a).2.1 ≠ (T b).2.1 := by
  match ci, hc with
  | 0, hc => cases hc; exact ⟨⟨tyX0, tyX0_ok⟩, nmX0⟩
  | 1, hc => cases hc; exact ⟨⟨tyX1, tyX1_ok⟩, nmX1⟩
  | 2, hc => cases hc; exact ⟨⟨tyX2, tyX2_ok⟩, nmX2⟩
  | 3, hc => cases hc; exact ⟨⟨tyX3, tyX3_ok⟩, nmX3⟩
  | 4, hc => cases hc; exact ⟨⟨tyX4, tyX4_ok⟩, nmX4⟩
  | 5, hc => cases hc; exact ⟨⟨tyX5, tyX5_ok⟩, nmX5⟩
  | 6, hc => cases hc; exact ⟨⟨tyX6, tyX6_ok⟩, nmX6⟩
  | k + 7, hc => simp at hc
theorem en_find_mem {α β : Type} {l : List (Nat × α)} {i : Nat} {g : Nat × α → β} {v : β} (h : (l.find? (fun e => e.1 == i)).map g = some v) : ∃ e ∈ l, e.1 = i ∧ g e = v := by
  cases hf : l.find? (fun e => e.1 == i) with
  | none => rw [hf] at h; cases h
  | some e =>
    rw [hf] at h
    cases h
    exact ⟨e, List.mem_of_find?_eq_some hf, by simpa using List.find?_some hf, rfl⟩
def en_WD (D : va_G) (cA : Nat → ClassId) (ad : Nat → Nat) (w : en_W) (H : Heap) : Prop := va_P D vwCl (en_ws cA ad w) H
theorem en_D {ad : Nat → Nat} {A : Nat → Prop} {cA : Nat → ClassId} {w : en_W} (hi : ∀ i j, i < 62 → j < 62 → ad i = ad j → i = j) (hA : ∀ k, k < 62 → A (ad k)) : va_D A (en_ws cA ad w) := by
  have at' : ∀ (k : Nat) (q : Nat × va_E), (en_ws cA ad w)[k]? = some q → k < 62 ∧ q.1 = ad k := by
    intro k q h
    have hk : k < 62 := by
      have := (List.getElem?_eq_some_iff.mp h).1
      simpa [en_ws] using this
    rw [en_ws_at hk] at h
    cases h
    exact ⟨hk, rfl⟩
  refine ⟨fun i j x y hx hy hxy => ?_, fun k q h => ?_⟩
  · obtain ⟨h1, h2⟩ := at' i x hx
    obtain ⟨h3, h4⟩ := at' j y hy
    exact hi i j h1 h3 (by rw [← h2, ← h4, hxy])
  · obtain ⟨h1, h2⟩ := at' k q h
    rw [h2]
    exact hA k h1
