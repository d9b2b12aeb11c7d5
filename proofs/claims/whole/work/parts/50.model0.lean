/-! rows for the reference -/
theorem xn_char {c : Nat} (h : c < 65536) : vp_nar .char (nI c) = nI c := by
  unfold vp_nar
  rw [(pk_charN h).1]
theorem xk_cd_m (a b c : Nat) : (a * 32 + b) * 32 + c = xk_cd a b c := by unfold xk_cd; omega
theorem xk_pt_m0 {c : Nat} (h : c < 32768) : c / 1024 = xk_pt c 0 := by rw [xk_pt0]; omega
theorem xc_succ (p : Nat → Bool) (n : Nat) : xc_n p (n + 1) = xc_n p n + (if p n = true then 1 else 0) := rfl
theorem xc_yes {p : Nat → Bool} {n : Nat} (h : p n = true) : xc_n p (n + 1) = xc_n p n + 1 := by rw [xc_succ, if_pos h]
theorem xc_no {p : Nat → Bool} {n : Nat} (h : p n = false) : xc_n p (n + 1) = xc_n p n + 0 := by rw [xc_succ, h]; rfl
/-- the words as the reference has them -/
def xm_W (Le Lt : Nat → Int32) (ln : Nat → Nat) (Lw : Nat → Nat → Nat) (n : Nat) : Prop := ∀ t, t < n → Le t = nI (ln t) ∧ ln t ≤ 6 ∧ ∀ i, i < ln t → Lt (6 * t + i) = nI (Lw t i) ∧ Lw t i < 128
def xm_B (Wo : Nat → Int32) (bw : Nat → Nat) (n : Nat) : Prop := ∀ i, i < n → Wo i = nI (bw i) ∧ bw i < 128
def xm_eq (ln : Nat → Nat) (Lw : Nat → Nat → Nat) (bw : Nat → Nat) (n t : Nat) : Prop := ln t = n ∧ ∀ i, i < n → Lw t i = bw i
def xm_add (p : Nat → Nat) (n c : Nat) : Nat → Nat := fun i => if i = n then c else p i
def xm_del (p : Nat → Nat) (k m : Nat) : Nat → Nat := fun i => if i = k then p m else p i
theorem xm_add_og {Pe : Nat → Int32} {p : Nat → Nat} {n c : Nat} (h : xo_og Pe p n) (hc : c < 32768) : xo_og (upd Pe n (nI c)) (xm_add p n c) (n + 1) := by
  intro i hi
  unfold xm_add
  by_cases e : i = n
  · subst e; rw [pk_us, if_pos rfl]; exact ⟨rfl, hc⟩
  · rw [pk_un e, if_neg e]; exact h i (by omega)
theorem xm_del_og {Pe : Nat → Int32} {p : Nat → Nat} {n k : Nat} (h : xo_og Pe p n) (hk : k < n) : xo_og (upd Pe k (nI (p (n - 1)))) (xm_del p k (n - 1)) (n - 1) := by
  intro i hi
  unfold xm_del
  by_cases e : i = k
  · subst e; rw [pk_us, if_pos rfl]; exact ⟨rfl, (h (n - 1) (by omega)).2⟩
  · rw [pk_un e, if_neg e]; exact h i (by omega)
theorem xm_add_mem {p : Nat → Nat} {n c : Nat} (y : Nat) : xo_mem (xm_add p n c) (n + 1) y ↔ (y = c ∨ xo_mem p n y) := by
  unfold xo_mem xm_add
  constructor
  · rintro ⟨i, hi, e⟩
    by_cases z : i = n
    · rw [if_pos z] at e; exact Or.inl e.symm
    · rw [if_neg z] at e; exact Or.inr ⟨i, by omega, e⟩
  · rintro (rfl | ⟨i, hi, e⟩)
    · exact ⟨n, by omega, if_pos rfl⟩
    · exact ⟨i, by omega, by rw [if_neg (by omega)]; exact e⟩
theorem xm_add_nd {p : Nat → Nat} {n c : Nat} (h : xo_nd p n) (hc : ¬ xo_mem p n c) : xo_nd (xm_add p n c) (n + 1) := by
  intro i j hi hj e
  unfold xm_add at e
  by_cases a : i = n
  · by_cases b : j = n
    · omega
    · rw [if_pos a, if_neg b] at e
      exact absurd ⟨j, by omega, e.symm⟩ hc
  · by_cases b : j = n
    · rw [if_neg a, if_pos b] at e
      exact absurd ⟨i, by omega, e⟩ hc
    · rw [if_neg a, if_neg b] at e
      exact h i j (by omega) (by omega) e
theorem xm_del_nd {p : Nat → Nat} {n k : Nat} (h : xo_nd p n) (hk : k < n) : xo_nd (xm_del p k (n - 1)) (n - 1) := by
  intro i j hi hj e
  unfold xm_del at e
  by_cases a : i = k
  · by_cases b : j = k
    · omega
    · rw [if_pos a, if_neg b] at e
      have := h (n - 1) j (by omega) (by omega) e
      omega
  · by_cases b : j = k
    · rw [if_neg a, if_pos b] at e
      have := h i (n - 1) (by omega) (by omega) e
      omega
    · rw [if_neg a, if_neg b] at e
      exact h i j (by omega) (by omega) e
theorem xm_del_mem {p : Nat → Nat} {n k : Nat} (h : xo_nd p n) (hk : k < n) (y : Nat) : xo_mem (xm_del p k (n - 1)) (n - 1) y ↔ (xo_mem p n y ∧ y ≠ p k) := by
  unfold xo_mem xm_del
  constructor
  · rintro ⟨i, hi, e⟩
    by_cases a : i = k
    · rw [if_pos a] at e
      refine ⟨⟨n - 1, by omega, e⟩, fun z => ?_⟩
      have := h (n - 1) k (by omega) hk (by rw [e, z])
      omega
    · rw [if_neg a] at e
      refine ⟨⟨i, by omega, e⟩, fun z => ?_⟩
      exact a (h i k (by omega) hk (by rw [e, z]))
  · rintro ⟨⟨i, hi, e⟩, hy⟩
    have hik : i ≠ k := fun z => hy (by rw [← e, z])
    by_cases a : i = n - 1
    · exact ⟨k, by omega, by rw [if_pos rfl, ← a]; exact e⟩
    · exact ⟨i, by omega, by rw [if_neg hik]; exact e⟩
theorem xk_kw_lt (w c : Nat) : xk_kw w c < 32768 := by
  unfold xk_kw
  split <;> exact xk_ky_lt _ _ _ _
