/-! the set in its six orders -/
def xs_ok (p q r : Nat) (f : Nat → Int32) (g : Nat → Nat) (n : Nat) (P : Nat → Prop) : Prop := xo_og f g n ∧ xo_srt g n ∧ ∀ c, c < 32768 → (P c ↔ xo_mem g n (xk_ky p q r c))
def xs_six (f : Nat → Nat → Int32) (g : Nat → Nat → Nat) (n : Nat) (P : Nat → Prop) : Prop := xs_ok 0 1 2 (f 0) (g 0) n P ∧ xs_ok 0 2 1 (f 1) (g 1) n P ∧ xs_ok 1 0 2 (f 2) (g 2) n P ∧ xs_ok 1 2 0 (f 3) (g 3) n P ∧ xs_ok 2 0 1 (f 4) (g 4) n P ∧ xs_ok 2 1 0 (f 5) (g 5) n P
def x6 {α : Type} (a b c d e f : α) : Nat → α := fun w => match w with
  | 0 => a
  | 1 => b
  | 2 => c
  | 3 => d
  | 4 => e
  | _ => f
def xk_kw (w c : Nat) : Nat := match w with
  | 0 => xk_ky 0 1 2 c
  | 1 => xk_ky 0 2 1 c
  | 2 => xk_ky 1 0 2 c
  | 3 => xk_ky 1 2 0 c
  | 4 => xk_ky 2 0 1 c
  | _ => xk_ky 2 1 0 c
theorem pm0 : xk_pm 0 1 2 := Or.inl ⟨rfl, rfl, rfl⟩
theorem pm1 : xk_pm 0 2 1 := Or.inr (Or.inl ⟨rfl, rfl, rfl⟩)
theorem pm2 : xk_pm 1 0 2 := Or.inr (Or.inr (Or.inl ⟨rfl, rfl, rfl⟩))
theorem pm3 : xk_pm 1 2 0 := Or.inr (Or.inr (Or.inr (Or.inl ⟨rfl, rfl, rfl⟩)))
theorem pm4 : xk_pm 2 0 1 := Or.inr (Or.inr (Or.inr (Or.inr (Or.inl ⟨rfl, rfl, rfl⟩))))
theorem pm5 : xk_pm 2 1 0 := Or.inr (Or.inr (Or.inr (Or.inr (Or.inr ⟨rfl, rfl, rfl⟩))))
theorem xs_put {p q r : Nat} {f f' : Nat → Int32} {g g' : Nat → Nat} {n c : Nat} {P : Nat → Prop} (hpm : xk_pm p q r) (h : xs_ok p q r f g n P) (hc : c < 32768) (ho : xo_og f' g' (n + 1)) (hs : xo_srt g' (n + 1)) (hm : ∀ y, xo_mem g' (n + 1) y ↔ (y = xk_ky p q r c ∨ xo_mem g n y)) : xs_ok p q r f' g' (n + 1) (fun x => x = c ∨ P x) := by
  refine ⟨ho, hs, fun x hx => ?_⟩
  rw [hm, ← h.2.2 x hx]
  constructor
  · rintro (rfl | z)
    · exact Or.inl rfl
    · exact Or.inr z
  · rintro (z | z)
    · exact Or.inl (xk_ky_inj hpm hx hc z)
    · exact Or.inr z
theorem xs_take {p q r : Nat} {f f' : Nat → Int32} {g g' : Nat → Nat} {n c : Nat} {P : Nat → Prop} (hpm : xk_pm p q r) (h : xs_ok p q r f g n P) (hc : c < 32768) (ho : xo_og f' g' (n - 1)) (hs : xo_srt g' (n - 1)) (hm : ∀ y, xo_mem g' (n - 1) y ↔ (xo_mem g n y ∧ y ≠ xk_ky p q r c)) : xs_ok p q r f' g' (n - 1) (fun x => P x ∧ x ≠ c) := by
  refine ⟨ho, hs, fun x hx => ?_⟩
  rw [hm, ← h.2.2 x hx]
  constructor
  · rintro ⟨z, y⟩
    exact ⟨z, fun e => y (xk_ky_inj hpm hx hc e)⟩
  · rintro ⟨z, y⟩
    exact ⟨z, fun e => y (by rw [e])⟩
