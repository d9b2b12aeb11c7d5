/-! rows for the orders' arrays -/
def xi (x : Int32) : Nat := x.toInt.toNat
theorem xi_nI {n : Nat} (h : n < 2 ^ 31) : xi (nI n) = n := by
  unfold xi
  rw [nI_toInt h]
  rfl
theorem xk_sh {n p : Nat} (hn : n < 32) : n * 2 ^ (5 * (2 - p)) < 2 ^ 32 := by
  have h : 2 ^ (5 * (2 - p)) ≤ 2 ^ 10 := Nat.pow_le_pow_right (by decide) (by omega)
  have h2 : n * 2 ^ (5 * (2 - p)) ≤ 31 * 2 ^ 10 := Nat.mul_le_mul (by omega) h
  omega
theorem xk_or012 : ∀ a, a < 32 → ∀ b, b < 32 → ∀ c, c < 32 → ((a * 1024 ||| b * 32) ||| c) = a * 1024 + b * 32 + c := by
  intro a ha b hb c hc
  have e1 : a * 1024 ||| b * 32 = a * 1024 + b * 32 := by
    rw [show a * 1024 = 2 ^ 10 * a by omega]
    exact (Nat.two_pow_add_eq_or_of_lt (i := 10) (b := b * 32) (by omega) a).symm
  rw [e1]
  rw [show a * 1024 + b * 32 = 2 ^ 5 * (a * 32 + b) by omega]
  exact (Nat.two_pow_add_eq_or_of_lt (i := 5) (b := c) (by omega) (a * 32 + b)).symm
theorem xk_orun {p q r a b c : Nat} (h : xk_pm p q r) (ha : a < 32) (hb : b < 32) (hc : c < 32) : ((a * 2 ^ (5 * (2 - p)) ||| b * 2 ^ (5 * (2 - q))) ||| c * 2 ^ (5 * (2 - r))) = a * 2 ^ (5 * (2 - p)) + b * 2 ^ (5 * (2 - q)) + c * 2 ^ (5 * (2 - r)) := by
  rcases h with ⟨rfl, rfl, rfl⟩ | ⟨rfl, rfl, rfl⟩ | ⟨rfl, rfl, rfl⟩ | ⟨rfl, rfl, rfl⟩ | ⟨rfl, rfl, rfl⟩ | ⟨rfl, rfl, rfl⟩ <;> simp only [Nat.reduceSub, Nat.reduceMul, Nat.reducePow, Nat.mul_one]
  · exact xk_or012 a ha b hb c hc
  · rw [Nat.or_assoc, Nat.or_comm b, ← Nat.or_assoc, xk_or012 a ha c hc b hb]; omega
  · rw [Nat.or_comm (a * 32), xk_or012 b hb a ha c hc]; omega
  · rw [Nat.or_comm _ (c * 1024), ← Nat.or_assoc, xk_or012 c hc a ha b hb]; omega
  · rw [Nat.or_assoc, Nat.or_comm a, xk_or012 b hb c hc a ha]; omega
  · rw [Nat.or_comm _ (c * 1024), Nat.or_comm a, ← Nat.or_assoc, xk_or012 c hc b hb a ha]; omega
theorem xo_put_og {f : Nat → Int32} {g : Nat → Nat} {n r x : Nat} (hg : xo_og f g n) (hx : x < 32768) (hr : r ≤ n) : xo_og (upd (va_cpy f f r (r + 1) (n - r)) r (nI x)) (xo_ins g r x) (n + 1) := by
  intro i hi
  unfold xo_ins
  by_cases a : i = r
  · subst a
    rw [pk_us, if_neg (by omega), if_pos rfl]
    exact ⟨rfl, hx⟩
  · rw [pk_un a]
    by_cases b : i < r
    · rw [if_pos b, pk_cpy_out (Or.inl (by omega))]
      exact hg i (by omega)
    · rw [if_neg b, if_neg a, pk_cpy_in (by omega) (by omega)]
      rw [show r + (i - (r + 1)) = i - 1 by omega]
      exact hg (i - 1) (by omega)
theorem xo_take_og {f : Nat → Int32} {g : Nat → Nat} {n r : Nat} (hg : xo_og f g n) (hr : r < n) : xo_og (va_cpy f f (r + 1) r (n - r - 1)) (xo_del g r) (n - 1) := by
  intro i hi
  unfold xo_del
  by_cases b : i < r
  · rw [if_pos b, pk_cpy_out (Or.inl b)]
    exact hg i (by omega)
  · rw [if_neg b, pk_cpy_in (by omega) (by omega)]
    rw [show r + 1 + (i - r) = i + 1 by omega]
    exact hg (i + 1) (by omega)
theorem xo_copy_og {e f : Nat → Int32} {h : Nat → Nat} {m : Nat} (hh : xo_og e h m) : xo_og (va_cpy e f 0 0 m) h m := by
  intro i hi
  rw [pk_cpy_in (by omega) (by omega)]
  rw [show 0 + (i - 0) = i by omega]
  exact hh i hi
