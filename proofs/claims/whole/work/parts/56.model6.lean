/-! rows for the reference's bindings -/
theorem xm_fold {q : Nat → Nat} {p : Nat} {bd : Nat → Bool} {vv : Nat → Nat} {c i : Nat} : (((∀ a, a < i → xm_m q p bd vv c a) ∧ xm_c1 q p bd vv c i) ∧ ∀ j, j < i → xm_c2 q p c i j) ↔ ∀ a, a < i + 1 → xm_m q p bd vv c a := by
  constructor
  · rintro ⟨⟨h1, h2⟩, h3⟩
    exact lt_s h1 ⟨h2, h3⟩
  · intro h
    exact ⟨⟨fun a ha => h a (by omega), (h i (by omega)).1⟩, (h i (by omega)).2⟩
theorem xm_bI (b : Bool) : vp_nar .boolean (bI b) = bI b := bI_v b
/-- the reference's binding of the first u variables of the row to the digits of b -/
def xm_Bo (r : Nat → Nat) (u : Nat) : Nat → Bool := fun v => (decide (0 < u) && decide (r 0 = v)) || (decide (1 < u) && decide (r 1 = v)) || (decide (2 < u) && decide (r 2 = v))
def xm_Vv (r : Nat → Nat) (ts : List Nat) : Nat → Nat := fun v => if 0 < ts.length ∧ r 0 = v then ts.getD 0 0 else if 1 < ts.length ∧ r 1 = v then ts.getD 1 0 else ts.getD 2 0
theorem xm_bd_ok {r : Nat → Nat} {ts : List Nat} (hr : xs_rw r ts.length) : xq_bd r ts (xm_Bo r ts.length) (xm_Vv r ts) := by
  obtain ⟨h3, hlt, hinj⟩ := hr
  refine ⟨fun v hv => ?_, fun j hj => ⟨hlt j hj, ?_⟩⟩
  · unfold xm_Bo
    simp only [Bool.or_eq_true, Bool.and_eq_true, decide_eq_true_eq]
    constructor
    · rintro ((⟨a, b⟩ | ⟨a, b⟩) | ⟨a, b⟩)
      · exact ⟨0, a, b⟩
      · exact ⟨1, a, b⟩
      · exact ⟨2, a, b⟩
    · rintro ⟨j, hj, e⟩
      rcases (show j = 0 ∨ j = 1 ∨ j = 2 by omega) with rfl | rfl | rfl
      · exact Or.inl (Or.inl ⟨hj, e⟩)
      · exact Or.inl (Or.inr ⟨hj, e⟩)
      · exact Or.inr ⟨hj, e⟩
  · unfold xm_Vv
    rcases (show j = 0 ∨ j = 1 ∨ j = 2 by omega) with rfl | rfl | rfl
    · rw [if_pos ⟨hj, rfl⟩]
    · rw [if_neg (fun z => by have := hinj 0 1 (by omega) hj z.2; omega), if_pos ⟨hj, rfl⟩]
    · rw [if_neg (fun z => by have := hinj 0 2 (by omega) hj z.2; omega), if_neg (fun z => by have := hinj 1 2 (by omega) hj z.2; omega)]
theorem xm_vl_vv {r : Nat → Nat} {ts : List Nat} (hr : xs_rw r ts.length) {v : Nat} (hb : xm_Bo r ts.length v = true) : xq_vl r ts v = nI (xm_Vv r ts v) := by
  obtain ⟨h3, hlt, hinj⟩ := hr
  unfold xm_Bo at hb
  simp only [Bool.or_eq_true, Bool.and_eq_true, decide_eq_true_eq] at hb
  unfold xq_vl xm_Vv
  by_cases a : 0 < ts.length ∧ r 0 = v
  · rw [if_pos a, if_pos a]
  · rw [if_neg a, if_neg a]
    by_cases b : 1 < ts.length ∧ r 1 = v
    · rw [if_pos b, if_pos b]
    · rw [if_neg b, if_neg b]
      rw [if_pos (by rcases hb with (h | h) | h; exact absurd h a; exact absurd h b; exact h)]
