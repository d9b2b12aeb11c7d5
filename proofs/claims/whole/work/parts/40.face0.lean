/-! rows for the face: a right row of variables -/
def x3 (a b c : Nat) : Nat → Nat := fun i => match i with
  | 0 => a
  | 1 => b
  | _ => c
def xq_pc (a : Nat) : Nat := a % 2 + a / 2 % 2 + a / 4 % 2
theorem xq_ra1F : ∀ (a : Fin 8) (e0 e1 e2 : Fin 5), xq_aw (xq_aw (xq_aw a.1 e0.1) e1.1) e2.1 = 0 → ((0 < xq_pc a.1 ∧ e0.1 < 3) ∨ (xq_pc a.1 = 0 ∧ ¬ e0.1 < 3)) := by decide +kernel
theorem xq_ra1 (a : Nat) (ha : a < 8) (e0 : Nat) (h0 : e0 < 5) (e1 : Nat) (h1 : e1 < 5) (e2 : Nat) (h2 : e2 < 5) : xq_aw (xq_aw (xq_aw a e0) e1) e2 = 0 → ((0 < xq_pc a ∧ e0 < 3) ∨ (xq_pc a = 0 ∧ ¬ e0 < 3)) := xq_ra1F ⟨a, ha⟩ ⟨e0, h0⟩ ⟨e1, h1⟩ ⟨e2, h2⟩
theorem xq_ra2F : ∀ (a : Fin 8) (e0 e1 e2 : Fin 5), xq_aw (xq_aw (xq_aw a.1 e0.1) e1.1) e2.1 = 0 → ((1 < xq_pc a.1 ∧ e1.1 < 3) ∨ (xq_pc a.1 ≤ 1 ∧ ¬ e1.1 < 3)) := by decide +kernel
theorem xq_ra2 (a : Nat) (ha : a < 8) (e0 : Nat) (h0 : e0 < 5) (e1 : Nat) (h1 : e1 < 5) (e2 : Nat) (h2 : e2 < 5) : xq_aw (xq_aw (xq_aw a e0) e1) e2 = 0 → ((1 < xq_pc a ∧ e1 < 3) ∨ (xq_pc a ≤ 1 ∧ ¬ e1 < 3)) := xq_ra2F ⟨a, ha⟩ ⟨e0, h0⟩ ⟨e1, h1⟩ ⟨e2, h2⟩
theorem xq_ra3F : ∀ (a : Fin 8) (e0 e1 e2 : Fin 5), xq_aw (xq_aw (xq_aw a.1 e0.1) e1.1) e2.1 = 0 → ((xq_pc a.1 = 3 ∧ e2.1 < 3) ∨ (xq_pc a.1 ≤ 2 ∧ ¬ e2.1 < 3)) := by decide +kernel
theorem xq_ra3 (a : Nat) (ha : a < 8) (e0 : Nat) (h0 : e0 < 5) (e1 : Nat) (h1 : e1 < 5) (e2 : Nat) (h2 : e2 < 5) : xq_aw (xq_aw (xq_aw a e0) e1) e2 = 0 → ((xq_pc a = 3 ∧ e2 < 3) ∨ (xq_pc a ≤ 2 ∧ ¬ e2 < 3)) := xq_ra3F ⟨a, ha⟩ ⟨e0, h0⟩ ⟨e1, h1⟩ ⟨e2, h2⟩
theorem xq_ra4F : ∀ (a : Fin 8) (e0 e1 e2 : Fin 5), xq_aw (xq_aw (xq_aw a.1 e0.1) e1.1) e2.1 = 0 → ((1 < xq_pc a.1 → e0.1 ≠ e1.1) ∧ (2 < xq_pc a.1 → e0.1 ≠ e2.1 ∧ e1.1 ≠ e2.1)) := by decide +kernel
theorem xq_ra4 (a : Nat) (ha : a < 8) (e0 : Nat) (h0 : e0 < 5) (e1 : Nat) (h1 : e1 < 5) (e2 : Nat) (h2 : e2 < 5) : xq_aw (xq_aw (xq_aw a e0) e1) e2 = 0 → ((1 < xq_pc a → e0 ≠ e1) ∧ (2 < xq_pc a → e0 ≠ e2 ∧ e1 ≠ e2)) := xq_ra4F ⟨a, ha⟩ ⟨e0, h0⟩ ⟨e1, h1⟩ ⟨e2, h2⟩
theorem xq_pc_le : ∀ a, a < 8 → xq_pc a ≤ 3 := by decide +kernel
theorem xq_row_ok {q : Nat → Nat} {n : Nat} {x y z : Int32} (hq : ∀ i, i < n → q i < 35) (h : xq_aw (xq_aw (xq_aw (xq_vb q n) (xq_ev x)) (xq_ev y)) (xq_ev z) = 0) : ((0 < xq_pc (xq_vb q n) ∧ xq_ev x < 3) ∨ (xq_pc (xq_vb q n) = 0 ∧ ¬ xq_ev x < 3)) ∧ ((1 < xq_pc (xq_vb q n) ∧ xq_ev y < 3) ∨ (xq_pc (xq_vb q n) ≤ 1 ∧ ¬ xq_ev y < 3)) ∧ ((xq_pc (xq_vb q n) = 3 ∧ xq_ev z < 3) ∨ (xq_pc (xq_vb q n) ≤ 2 ∧ ¬ xq_ev z < 3)) ∧ xs_rw (x3 (xq_ev x) (xq_ev y) (xq_ev z)) (xq_pc (xq_vb q n)) := by
  have ha := xq_vb_lt hq
  have h1 := xq_ra1 _ ha _ (xq_ev_lt x) _ (xq_ev_lt y) _ (xq_ev_lt z) h
  have h2 := xq_ra2 _ ha _ (xq_ev_lt x) _ (xq_ev_lt y) _ (xq_ev_lt z) h
  have h3 := xq_ra3 _ ha _ (xq_ev_lt x) _ (xq_ev_lt y) _ (xq_ev_lt z) h
  have h4 := xq_ra4 _ ha _ (xq_ev_lt x) _ (xq_ev_lt y) _ (xq_ev_lt z) h
  have h5 := xq_pc_le _ ha
  refine ⟨h1, h2, h3, h5, fun j hj => ?_, fun i j hi hj e => ?_⟩
  · rcases (show j = 0 ∨ j = 1 ∨ j = 2 by omega) with rfl | rfl | rfl
    · show xq_ev x < 3; omega
    · show xq_ev y < 3; omega
    · show xq_ev z < 3; omega
  · rcases (show i = 0 ∨ i = 1 ∨ i = 2 by omega) with rfl | rfl | rfl <;> rcases (show j = 0 ∨ j = 1 ∨ j = 2 by omega) with rfl | rfl | rfl
    · rfl
    · exact absurd (show xq_ev x = xq_ev y from e) (h4.1 (by omega))
    · exact absurd (show xq_ev x = xq_ev z from e) (h4.2 (by omega)).1
    · exact absurd (show xq_ev y = xq_ev x from e).symm (h4.1 (by omega))
    · rfl
    · exact absurd (show xq_ev y = xq_ev z from e) (h4.2 (by omega)).2
    · exact absurd (show xq_ev z = xq_ev x from e).symm (h4.2 (by omega)).1
    · exact absurd (show xq_ev z = xq_ev y from e).symm (h4.2 (by omega)).2
    · rfl
theorem xs_rw_begin {Rw : Nat → Int32} {a b c d : Nat} (hd : d ≤ 3) (h0 : 0 < d → Rw 0 = nI a) (h1 : 1 < d → Rw 1 = nI b) (h2 : 2 < d → Rw 2 = nI c) : ∀ j, j < d → Rw j = nI (x3 a b c j) := by
  intro j hj
  rcases (show j = 0 ∨ j = 1 ∨ j = 2 by omega) with rfl | rfl | rfl
  · exact h0 hj
  · exact h1 hj
  · exact h2 hj
theorem xs_bd_nil {Bi : Nat → Int32} {r : Nat → Nat} {d : Nat} (h : ∀ v, v < 3 → Bi v = -1) : xs_bd Bi r d [] := ⟨fun j hj => absurd hj (by simp), fun v hv _ => h v hv⟩
