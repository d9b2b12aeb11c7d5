/-! rows for the reference's questions -/
theorem xm_kp_add {Kp Vl : Nat → Int32} {Ls : List (List Nat)} {V : List Nat → Nat → Int32} {p : List Nat} (h : xs_kp Kp Ls V) (hb : ∀ v, v < 3 → Vl v = V p v) : xs_kp (upd (upd (upd Kp (3 * Ls.length + 0) (Vl 0)) (3 * Ls.length + 1) (Vl 1)) (3 * Ls.length + 2) (Vl 2)) (Ls ++ [p]) V := by
  intro i x hx hi v hv
  by_cases e : i < Ls.length
  · rw [List.getElem?_append_left e] at hx
    rw [pk_un (by omega), pk_un (by omega), pk_un (by omega)]
    exact h i x hx hi v hv
  · have hlen : i < (Ls ++ [p]).length := (List.getElem?_eq_some_iff.mp hx).1
    rw [List.length_append] at hlen
    simp at hlen
    have hie : i = Ls.length := by omega
    subst hie
    rw [List.getElem?_append_right (by omega)] at hx
    simp at hx
    subst hx
    rcases (show v = 0 ∨ v = 1 ∨ v = 2 by omega) with rfl | rfl | rfl
    · rw [pk_un (by omega), pk_un (by omega), pk_us]; exact hb 0 hv
    · rw [pk_un (by omega), pk_us]; exact hb 1 hv
    · rw [pk_us]; exact hb 2 hv
def xm_c1 (q : Nat → Nat) (p : Nat) (bd : Nat → Bool) (vv : Nat → Nat) (c i : Nat) : Prop := (q (3 * p + i) < 32 → q (3 * p + i) = xk_pt c i) ∧ (32 ≤ q (3 * p + i) → bd (q (3 * p + i) - 32) = true → vv (q (3 * p + i) - 32) = xk_pt c i)
def xm_c2 (q : Nat → Nat) (p c i j : Nat) : Prop := q (3 * p + j) = q (3 * p + i) → xk_pt c j = xk_pt c i
def xm_m (q : Nat → Nat) (p : Nat) (bd : Nat → Bool) (vv : Nat → Nat) (c i : Nat) : Prop := xm_c1 q p bd vv c i ∧ ∀ j, j < i → xm_c2 q p c i j
theorem xm_mt {q : Nat → Nat} {p : Nat} {bd : Nat → Bool} {vv : Nat → Nat} {c : Nat} : (∀ i, i < 3 → xm_m q p bd vv c i) ↔ xq_mt q p bd vv c := by
  constructor
  · intro h i hi
    exact ⟨(h i hi).1.1, (h i hi).1.2, (h i hi).2⟩
  · intro h i hi
    exact ⟨⟨(h i hi).1, (h i hi).2.1⟩, (h i hi).2.2⟩
def xm_cn (q : Nat → Nat) (p : Nat) (bd : Nat → Bool) : Prop := (∀ i, i < 3 → q (3 * p + i) < 32) ∨ ∃ i, i < 3 ∧ 32 ≤ q (3 * p + i) ∧ bd (q (3 * p + i) - 32) = true
def xm_ex (q : Nat → Nat) (p : Nat) (bd : Nat → Bool) (vv : Nat → Nat) (pp : Nat → Nat) (n : Nat) : Prop := ∃ k, k < n ∧ xq_mt q p bd vv (pp k)
def xm_bo (Bo Vl : Nat → Int32) (bd : Nat → Bool) (vv : Nat → Nat) : Prop := ∀ v, v < 3 → Bo v = bI (bd v) ∧ (bd v = true → Vl v = nI (vv v) ∧ vv v < 32)
/-- the reference's liveness is the class's -/
theorem xm_live {q : Nat → Nat} {pa : Nat} {r : Nat → Nat} {ts : List Nat} {bd : Nat → Bool} {vv pp : Nat → Nat} {n : Nat} {P : Nat → Prop} (hq : ∀ i, i < 3 * pa → q i < 35) (hb : xq_bd r ts bd vv) (hP : ∀ c, P c ↔ xo_mem pp n c) : (∀ k, k < pa → xm_cn q k bd → xm_ex q k bd vv pp n) ↔ xq_live q pa r P ts = true := by
  unfold xq_live
  rw [xP_iff]
  unfold xq_L
  have hq' : ∀ k, k < pa → ∀ i, i < 3 → q (3 * k + i) < 35 := fun k hk i hi => hq _ (by omega)
  have hex : ∀ k, k < pa → (xm_ex q k bd vv pp n ↔ xq_ne q k r ts P) := by
    intro k hk
    constructor
    · rintro ⟨j, hj, hm⟩
      exact ⟨pp j, (hP _).mpr ⟨j, hj, rfl⟩, (xq_mt_in (hq' k hk) hb _).mp hm⟩
    · rintro ⟨c, hc, hi⟩
      obtain ⟨j, hj, rfl⟩ := (hP c).mp hc
      exact ⟨j, hj, (xq_mt_in (hq' k hk) hb _).mpr hi⟩
  have hhas : ∀ k, k < pa → ((∃ i, i < 3 ∧ 32 ≤ q (3 * k + i) ∧ bd (q (3 * k + i) - 32) = true) ↔ xq_has q k r ts.length) := by
    intro k hk
    constructor
    · rintro ⟨i, hi, h32, hbd⟩
      have := hq' k hk i hi
      obtain ⟨j, hj, e⟩ := (hb.1 _ (by omega)).mp hbd
      refine ⟨j, hj, ?_⟩
      have := xq_fp_min (q := q) (p := k) (v := 32 + r j) hi (by omega)
      omega
    · rintro ⟨j, hj, hf⟩
      have hat := xq_fp_at hf
      refine ⟨_, hf, by omega, ?_⟩
      rw [hat, show 32 + r j - 32 = r j by omega]
      exact (hb.1 _ (hb.2 j hj).1).mpr ⟨j, hj, rfl⟩
  have hnil : ∀ k, k < pa → xq_fix q k → (xq_ne q k r [] P ↔ xq_ne q k r ts P) := by
    intro k hk hfix
    have h3 : ∀ j, ¬ xq_fp q k (32 + r j) < 3 := fun j hf => by
      have := xq_fp_at hf
      have := hfix _ hf
      omega
    constructor
    · rintro ⟨c, hc, hi⟩
      exact ⟨c, hc, hi.1, fun j _ hf => absurd hf (h3 j)⟩
    · rintro ⟨c, hc, hi⟩
      exact ⟨c, hc, hi.1, fun j hj => absurd hj (by simp)⟩
  constructor
  · intro h
    refine ⟨fun k hk hfix => (hnil k hk hfix).mpr ((hex k hk).mp (h k hk (Or.inl hfix))), fun k hk hh => (hex k hk).mp (h k hk (Or.inr ((hhas k hk).mpr hh)))⟩
  · rintro ⟨h1, h2⟩ k hk hc
    rw [hex k hk]
    rcases hc with hc | hc
    · exact (hnil k hk hc).mp (h1 k hk hc)
    · exact h2 k hk ((hhas k hk).mp hc)
