/-! a permuted world; the frame with a variable rest -/
theorem fr_P {D : va_G} {cl : List vw_C} {ws : va_W} {H : Heap} : va_P D cl ws H ↔ ∀ q, q ∈ ws → va_at D cl q H := by
  constructor
  · intro h q hq
    obtain ⟨i, hi⟩ := List.getElem?_of_mem hq
    exact h i q hi
  · intro h k q hk
    exact h q (List.mem_of_getElem? hk)
theorem fr_D {A : Nat → Prop} {ws : va_W} : va_D A ws ↔ ((ws.map Prod.fst).Nodup ∧ ∀ q, q ∈ ws → A q.1) := by
  have e : (∀ (k : Nat) (q : Nat × va_E), ws[k]? = some q → A q.1) ↔ ∀ q, q ∈ ws → A q.1 := by
    constructor
    · intro h q hq
      obtain ⟨i, hi⟩ := List.getElem?_of_mem hq
      exact h i q hi
    · intro h k q hk
      exact h q (List.mem_of_getElem? hk)
  unfold va_D
  rw [e]
  refine and_congr_left (fun _ => ?_)
  constructor
  · intro h
    rw [List.Nodup, List.pairwise_iff_getElem]
    intro i j hi hj hij heq
    rw [List.length_map] at hi hj
    rw [List.getElem_map, List.getElem_map] at heq
    have := h i j ws[i] ws[j] (List.getElem?_eq_getElem hi) (List.getElem?_eq_getElem hj) heq
    omega
  · intro h i j p q hp hq heq
    rw [List.Nodup, List.pairwise_iff_getElem] at h
    obtain ⟨hi, ei⟩ := List.getElem?_eq_some_iff.mp hp
    obtain ⟨hj, ej⟩ := List.getElem?_eq_some_iff.mp hq
    rcases Nat.lt_trichotomy i j with a | a | a
    · exact absurd (by rw [List.getElem_map, List.getElem_map, ei, ej]; exact heq) (h i j (by rw [List.length_map]; exact hi) (by rw [List.length_map]; exact hj) a)
    · exact a
    · exact absurd (by rw [List.getElem_map, List.getElem_map, ei, ej]; exact heq.symm) (h j i (by rw [List.length_map]; exact hj) (by rw [List.length_map]; exact hi) a)
theorem xz_perm {Γ : xz_G} {cells slots : Nat} {ws ws' : va_W} {pc : Nat} {lc : List (Nat × Value)} {st : List Value} (h : ws.Perm ws') (k : xz_X Γ cells slots ws' pc lc st) : xz_X Γ cells slots ws pc lc st := fun H locs ls hP hD hS hl => k H locs ls (fr_P.mpr (fun q hq => fr_P.mp hP q (h.mem_iff.mpr hq))) (fr_D.mpr ⟨((h.map Prod.fst).nodup_iff).mp (fr_D.mp hD).1, fun q hq => (fr_D.mp hD).2 q (h.mem_iff.mpr hq)⟩) hS hl
theorem fr_nd : ∀ (l : List Nat), l.Nodup → va_nd l = true
  | [], _ => rfl
  | a :: l, h => by
    rw [List.nodup_cons] at h
    show (decide (a ∉ l) && va_nd l) = true
    rw [fr_nd l h.2, decide_eq_true h.1]
    rfl
def fr_R (n m : Nat) : List Nat := (List.range m).map (fun i => n + i)
theorem fr_0 (n : Nat) : va_nd (List.range n) = true := fr_nd _ List.nodup_range
theorem fr_1 (wc wR : va_W) : (List.range wc.length).map (fun i => (wc ++ wR)[i]?) = wc.map some := by
  apply List.ext_getElem?
  intro n
  rw [List.getElem?_map, List.getElem?_map]
  by_cases h : n < wc.length
  · rw [List.getElem?_range h]
    show some (wc ++ wR)[n]? = Option.map some wc[n]?
    rw [List.getElem?_append_left h, List.getElem?_eq_getElem h]
    rfl
  · rw [List.getElem?_eq_none (by simp; omega), List.getElem?_eq_none (by omega)]
    rfl
theorem fr_2 (wc wR : va_W) : (fr_R wc.length wR.length).map (fun i => (wc ++ wR)[i]?) = wR.map some := by
  apply List.ext_getElem?
  intro n
  unfold fr_R
  rw [List.map_map, List.getElem?_map, List.getElem?_map]
  by_cases h : n < wR.length
  · rw [List.getElem?_range h]
    simp [h]
  · rw [List.getElem?_eq_none (by simp; omega), List.getElem?_eq_none (by omega)]
    rfl
theorem fr_3 (n m : Nat) : va_nd (fr_R n m) = true := by
  refine fr_nd _ ?_
  unfold fr_R
  rw [List.Nodup, List.pairwise_map]
  exact List.Pairwise.imp (fun hab e => hab (by omega)) (List.nodup_range (n := m))
theorem fr_4 (n m : Nat) : ∀ i ∈ fr_R n m, i ∉ List.range n := by
  intro i hi h
  unfold fr_R at hi
  obtain ⟨j, -, rfl⟩ := List.mem_map.mp hi
  have := List.mem_range.mp h
  omega
