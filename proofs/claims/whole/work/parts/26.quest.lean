/-! the question: places, the bits of its variables, a row's codes -/
def xq_pl (k : Nat) : Int32 := if k < 3 then nI k else -1
theorem xq_pl_lt {k : Nat} (h : k < 3) : xq_pl k = nI k := if_pos h
theorem xq_pl_ge {k : Nat} (h : ¬ k < 3) : xq_pl k = -1 := if_neg h
theorem xq_f0 {q : Nat → Nat} {p v : Nat} (h : q (3 * p) = v) : xq_fp q p v = 0 := by unfold xq_fp; rw [if_pos h]
theorem xq_f1 {q : Nat → Nat} {p v : Nat} (h0 : q (3 * p) ≠ v) (h : q (3 * p + 1) = v) : xq_fp q p v = 1 := by unfold xq_fp; rw [if_neg h0, if_pos h]
theorem xq_f2 {q : Nat → Nat} {p v : Nat} (h0 : q (3 * p) ≠ v) (h1 : q (3 * p + 1) ≠ v) (h : q (3 * p + 2) = v) : xq_fp q p v = 2 := by unfold xq_fp; rw [if_neg h0, if_neg h1, if_pos h]
theorem xq_f3 {q : Nat → Nat} {p v : Nat} (h0 : q (3 * p) ≠ v) (h1 : q (3 * p + 1) ≠ v) (h : q (3 * p + 2) ≠ v) : xq_fp q p v = 3 := by unfold xq_fp; rw [if_neg h0, if_neg h1, if_neg h]
def xq_nu (F : Nat → Int32) (q : Nat → Nat) (n : Nat) : Prop := ∀ i, i < n → F i = nI (q i) ∧ q i < 35
def xq_vb (q : Nat → Nat) : Nat → Nat
  | 0 => 0
  | i + 1 => if 32 ≤ q i then xq_vb q i ||| 2 ^ (q i - 32) else xq_vb q i
theorem xq_vb_lt {q : Nat → Nat} : ∀ {n : Nat}, (∀ i, i < n → q i < 35) → xq_vb q n < 8
  | 0, _ => by show 0 < 8; decide
  | n + 1, h => by
    have h1 := xq_vb_lt (q := q) (n := n) (fun i hi => h i (by omega))
    have h2 := h n (by omega)
    show (if 32 ≤ q n then xq_vb q n ||| 2 ^ (q n - 32) else xq_vb q n) < 8
    by_cases hv : 32 ≤ q n
    · rw [if_pos hv]
      have h3 : 2 ^ (q n - 32) < 2 ^ 3 := by
        rcases (show q n - 32 = 0 ∨ q n - 32 = 1 ∨ q n - 32 = 2 by omega) with e | e | e <;> rw [e] <;> decide
      exact Nat.or_lt_two_pow (n := 3) h1 h3
    · rw [if_neg hv]; exact h1
theorem xq_vb_bit {q : Nat → Nat} {v : Nat} (hv : v < 3) : ∀ {n : Nat}, (∀ i, i < n → q i < 35) → ((xq_vb q n).testBit v = true ↔ ∃ i, i < n ∧ q i = 32 + v)
  | 0, _ => by
    show (0 : Nat).testBit v = true ↔ _
    rw [Nat.zero_testBit]
    exact ⟨fun z => absurd z (by decide), fun ⟨i, hi, _⟩ => by omega⟩
  | n + 1, h => by
    have ih := xq_vb_bit hv (q := q) (n := n) (fun i hi => h i (by omega))
    have h2 := h n (by omega)
    show (if 32 ≤ q n then xq_vb q n ||| 2 ^ (q n - 32) else xq_vb q n).testBit v = true ↔ _
    by_cases hq : 32 ≤ q n
    · rw [if_pos hq, Nat.testBit_or, Bool.or_eq_true, ih, Nat.testBit_two_pow]
      constructor
      · rintro (⟨i, hi, e⟩ | e)
        · exact ⟨i, by omega, e⟩
        · rw [decide_eq_true_eq] at e
          exact ⟨n, by omega, by omega⟩
      · rintro ⟨i, hi, e⟩
        by_cases z : i = n
        · subst z
          exact Or.inr (by rw [decide_eq_true_eq]; omega)
        · exact Or.inl ⟨i, by omega, e⟩
    · rw [if_neg hq, ih]
      constructor
      · rintro ⟨i, hi, e⟩
        exact ⟨i, by omega, e⟩
      · rintro ⟨i, hi, e⟩
        by_cases z : i = n
        · subst z; omega
        · exact ⟨i, by omega, e⟩
/-- a number of a row: 0, 1, 2 its variables, 3 none, 4 anything else -/
def xq_ev (x : Int32) : Nat := if x.toInt = -1 then 3 else if 32 ≤ x.toInt ∧ x.toInt < 35 then (x.toInt - 32).toNat else 4
/-- the awaited variables as bits; 8: the row is wrong -/
def xq_aI (a : Nat) : Int32 := if a < 8 then nI a else -1
theorem xq_aI_lt {a : Nat} (h : a < 8) : xq_aI a = nI a := if_pos h
theorem xq_aI_ge {a : Nat} (h : ¬ a < 8) : xq_aI a = -1 := if_neg h
theorem xq_aI_0 {a : Nat} : (xq_aI a).toInt = 0 ↔ a = 0 := by
  by_cases h : a < 8
  · rw [xq_aI_lt h, nI_toInt (by omega)]; omega
  · rw [xq_aI_ge h, xn_m1]; omega
def xq_aw (a e : Nat) : Nat := if 8 ≤ a then 8 else if e = 3 then (if a = 0 then 0 else 8) else if e = 4 then 8 else if a / 2 ^ e % 2 = 1 then a - 2 ^ e else 8
theorem xq_aw8 {a e : Nat} (h : ¬ a < 8) : xq_aw a e = 8 := by unfold xq_aw; rw [if_pos (by omega)]
theorem xq_ev_m {x : Int32} (h : x.toInt = -1) : xq_ev x = 3 := by unfold xq_ev; rw [if_pos h]
theorem xq_ev_v {j : Nat} (h : j < 3) : xq_ev (nI (32 + j)) = j := by
  unfold xq_ev
  rw [nI_toInt (by omega), if_neg (by omega), if_pos (by omega)]
  omega
theorem xq_ev_o {x : Int32} (h : x.toInt ≠ -1) (h2 : ¬ (32 ≤ x.toInt ∧ x.toInt < 35)) : xq_ev x = 4 := by unfold xq_ev; rw [if_neg h, if_neg h2]
theorem xq_ev_lt (x : Int32) : xq_ev x < 5 := by
  unfold xq_ev
  split
  · omega
  · split <;> omega
theorem xz_lce {Γ : xz_G} {cells slots : Nat} {ws : va_W} {pc : Nat} {lc lc' : List (Nat × Value)} {st : List Value} (h1 : lc = lc') (k : xz_X Γ cells slots ws pc lc' st) : xz_X Γ cells slots ws pc lc st := h1 ▸ k
