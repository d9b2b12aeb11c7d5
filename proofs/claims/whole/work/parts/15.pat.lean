/-! patterns: numbers q (3 p + i), variables from 32 on; r: the row's variables; ts: the terms bound so far -/
def xq_fp (q : Nat → Nat) (p v : Nat) : Nat := if q (3 * p) = v then 0 else if q (3 * p + 1) = v then 1 else if q (3 * p + 2) = v then 2 else 3
theorem xq_fp_le (q : Nat → Nat) (p v : Nat) : xq_fp q p v ≤ 3 := by
  unfold xq_fp
  split
  · omega
  · split
    · omega
    · split <;> omega
theorem xq_fp_at {q : Nat → Nat} {p v : Nat} (h : xq_fp q p v < 3) : q (3 * p + xq_fp q p v) = v := by
  unfold xq_fp at h ⊢
  split
  · assumption
  · split
    · assumption
    · split
      · assumption
      · rename_i a b c
        rw [if_neg a, if_neg b, if_neg c] at h
        omega
theorem xq_fp_min {q : Nat → Nat} {p v i : Nat} (hi : i < 3) (h : q (3 * p + i) = v) : xq_fp q p v ≤ i := by
  unfold xq_fp
  split
  · omega
  · rename_i a
    split
    · have : i ≠ 0 := fun z => a (by rw [← h, z]; rfl)
      omega
    · rename_i b
      have h0 : i ≠ 0 := fun z => a (by rw [← h, z]; rfl)
      have h1 : i ≠ 1 := fun z => b (by rw [← h, z])
      have : i = 2 := by omega
      subst this
      rw [if_pos h]
      omega
theorem xq_fp3 {q : Nat → Nat} {p v : Nat} (h : ∀ i, i < 3 → q (3 * p + i) ≠ v) : xq_fp q p v = 3 := by
  unfold xq_fp
  rw [if_neg (show ¬ q (3 * p) = v from h 0 (by omega)), if_neg (h 1 (by omega)), if_neg (h 2 (by omega))]
/-- the numbers of a pattern: terms, or variables -/
def xq_ok (q : Nat → Nat) (n : Nat) : Prop := ∀ i, i < n → q i < 35
def xq_ag (q : Nat → Nat) (p c : Nat) : Prop := ∀ i, i < 3 → xk_pt c i = (if 32 ≤ q (3 * p + i) then xk_pt c (xq_fp q p (q (3 * p + i))) else q (3 * p + i))
def xq_in (q : Nat → Nat) (p : Nat) (r : Nat → Nat) (ts : List Nat) (c : Nat) : Prop := xq_ag q p c ∧ ∀ j, j < ts.length → xq_fp q p (32 + r j) < 3 → xk_pt c (xq_fp q p (32 + r j)) = ts.getD j 0
def xq_ne (q : Nat → Nat) (p : Nat) (r : Nat → Nat) (ts : List Nat) (P : Nat → Prop) : Prop := ∃ c, P c ∧ xq_in q p r ts c
def xq_fix (q : Nat → Nat) (p : Nat) : Prop := ∀ i, i < 3 → q (3 * p + i) < 32
def xq_has (q : Nat → Nat) (p : Nat) (r : Nat → Nat) (d : Nat) : Prop := ∃ j, j < d ∧ xq_fp q p (32 + r j) < 3
def xq_L (q : Nat → Nat) (n : Nat) (r : Nat → Nat) (P : Nat → Prop) (ts : List Nat) : Prop := (∀ p, p < n → xq_fix q p → xq_ne q p r [] P) ∧ ∀ p, p < n → xq_has q p r ts.length → xq_ne q p r ts P
noncomputable def xq_live (q : Nat → Nat) (n : Nat) (r : Nat → Nat) (P : Nat → Prop) (ts : List Nat) : Bool := xP (xq_L q n r P ts)
theorem xq_getD {ts : List Nat} {t j : Nat} : (ts ++ [t]).getD j 0 = if j < ts.length then ts.getD j 0 else if j = ts.length then t else 0 := by
  rw [List.getD_eq_getElem?_getD, List.getElem?_append]
  by_cases h : j < ts.length
  · rw [if_pos h, if_pos h, List.getD_eq_getElem?_getD]
  · rw [if_neg h, if_neg h]
    by_cases e : j = ts.length
    · subst e; simp
    · rw [if_neg e]
      rw [List.getElem?_eq_none (by simp; omega)]
      rfl
theorem xq_in_step {q : Nat → Nat} {p : Nat} {r : Nat → Nat} {ts : List Nat} {t c : Nat} : xq_in q p r (ts ++ [t]) c ↔ (xq_in q p r ts c ∧ (xq_fp q p (32 + r ts.length) < 3 → xk_pt c (xq_fp q p (32 + r ts.length)) = t)) := by
  unfold xq_in
  constructor
  · rintro ⟨h1, h2⟩
    refine ⟨⟨h1, fun j hj hf => ?_⟩, fun hf => ?_⟩
    · have := h2 j (by rw [List.length_append]; simp; omega) hf
      rw [xq_getD, if_pos hj] at this
      exact this
    · have := h2 ts.length (by rw [List.length_append]; simp) hf
      rw [xq_getD, if_neg (by omega), if_pos rfl] at this
      exact this
  · rintro ⟨⟨h1, h2⟩, h3⟩
    refine ⟨h1, fun j hj hf => ?_⟩
    rw [xq_getD]
    rw [List.length_append] at hj
    simp at hj
    by_cases e : j < ts.length
    · rw [if_pos e]; exact h2 j e hf
    · have : j = ts.length := by omega
      subst this
      rw [if_neg e, if_pos rfl]
      exact h3 hf
theorem xq_ne_mono {q : Nat → Nat} {p : Nat} {r : Nat → Nat} {ts : List Nat} {t : Nat} {P : Nat → Prop} (h : xq_ne q p r (ts ++ [t]) P) : xq_ne q p r ts P := by
  obtain ⟨c, hc, hi⟩ := h
  exact ⟨c, hc, (xq_in_step.mp hi).1⟩
theorem xq_L_step {q : Nat → Nat} {n : Nat} {r : Nat → Nat} {P : Nat → Prop} {ts : List Nat} {t : Nat} : xq_L q n r P (ts ++ [t]) ↔ (xq_L q n r P ts ∧ ∀ p, p < n → xq_fp q p (32 + r ts.length) < 3 → xq_ne q p r (ts ++ [t]) P) := by
  have hlen : (ts ++ [t]).length = ts.length + 1 := by rw [List.length_append]; rfl
  unfold xq_L
  rw [hlen]
  constructor
  · rintro ⟨h1, h2⟩
    refine ⟨⟨h1, fun p hp => ?_⟩, fun p hp hf => h2 p hp ⟨ts.length, by omega, hf⟩⟩
    rintro ⟨j, hj, hf⟩
    exact xq_ne_mono (h2 p hp ⟨j, by omega, hf⟩)
  · rintro ⟨⟨h1, h2⟩, h3⟩
    refine ⟨h1, fun p hp => ?_⟩
    rintro ⟨j, hj, hf⟩
    by_cases hd : xq_fp q p (32 + r ts.length) < 3
    · exact h3 p hp hd
    · have : j < ts.length := by
        rcases Nat.lt_or_ge j ts.length with a | a
        · exact a
        · have : j = ts.length := by omega
          subst this
          exact absurd hf hd
      obtain ⟨c, hc, hi⟩ := h2 p hp ⟨j, this, hf⟩
      exact ⟨c, hc, xq_in_step.mpr ⟨hi, fun z => absurd z hd⟩⟩
theorem xq_live_pre {q : Nat → Nat} {n : Nat} {r : Nat → Nat} {P : Nat → Prop} (ts : List Nat) (t : Nat) (h : xq_live q n r P (ts ++ [t]) = true) : xq_live q n r P ts = true := xP_iff.mpr (xq_L_step.mp (xP_iff.mp h)).1
/-! the reference's way to say it -/
def xq_mt (q : Nat → Nat) (p : Nat) (bd : Nat → Bool) (vl : Nat → Nat) (c : Nat) : Prop := ∀ i, i < 3 → (q (3 * p + i) < 32 → q (3 * p + i) = xk_pt c i) ∧ (32 ≤ q (3 * p + i) → bd (q (3 * p + i) - 32) = true → vl (q (3 * p + i) - 32) = xk_pt c i) ∧ ∀ j, j < i → q (3 * p + j) = q (3 * p + i) → xk_pt c j = xk_pt c i
/-- the reference's bound variables are the row's first ones -/
def xq_bd (r : Nat → Nat) (ts : List Nat) (bd : Nat → Bool) (vl : Nat → Nat) : Prop := (∀ v, v < 3 → (bd v = true ↔ ∃ j, j < ts.length ∧ r j = v)) ∧ ∀ j, j < ts.length → r j < 3 ∧ vl (r j) = ts.getD j 0
theorem xq_mt_in {q : Nat → Nat} {p : Nat} {r : Nat → Nat} {ts : List Nat} {bd : Nat → Bool} {vl : Nat → Nat} (hok : ∀ i, i < 3 → q (3 * p + i) < 35) (hb : xq_bd r ts bd vl) (c : Nat) : xq_mt q p bd vl c ↔ xq_in q p r ts c := by
  obtain ⟨hb1, hb2⟩ := hb
  constructor
  · intro h
    refine ⟨fun i hi => ?_, fun j hj hf => ?_⟩
    · by_cases hv : 32 ≤ q (3 * p + i)
      · rw [if_pos hv]
        have hle : xq_fp q p (q (3 * p + i)) ≤ i := xq_fp_min hi rfl
        have hat := xq_fp_at (q := q) (p := p) (v := q (3 * p + i)) (by omega)
        by_cases e : xq_fp q p (q (3 * p + i)) = i
        · rw [e]
        · exact ((h i hi).2.2 _ (by omega) hat).symm
      · rw [if_neg hv]
        exact ((h i hi).1 (by omega)).symm
    · have hat := xq_fp_at hf
      have h1 := (h _ hf).2.1 (by omega)
      rw [hat] at h1
      rw [show 32 + r j - 32 = r j by omega] at h1
      rw [← h1 ((hb1 (r j) (hb2 j hj).1).mpr ⟨j, hj, rfl⟩)]
      exact (hb2 j hj).2
  · rintro ⟨ha, hi⟩ i h3
    refine ⟨fun hlt => ?_, fun hge hbd => ?_, fun j hj he => ?_⟩
    · have := ha i h3
      rw [if_neg (by omega)] at this
      exact this.symm
    · have hok' := hok i h3
      obtain ⟨j, hj, hr⟩ := (hb1 _ (by omega)).mp hbd
      have hx : 32 + r j = q (3 * p + i) := by omega
      have hle : xq_fp q p (q (3 * p + i)) ≤ i := xq_fp_min h3 rfl
      have h1 := hi j hj (by rw [hx]; omega)
      rw [hx] at h1
      have h2 := ha i h3
      rw [if_pos hge] at h2
      rw [h2, h1, ← hr]
      exact (hb2 j hj).2
    · have h1 := ha i h3
      have h2 := ha j (by omega)
      rw [he] at h2
      rw [h1, h2]
