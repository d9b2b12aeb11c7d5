/-! rows for the recursion -/
theorem xs_live_step {q : Nat → Nat} {n : Nat} {r : Nat → Nat} {P : Nat → Prop} {ts : List Nat} {d t : Nat} (h : xq_live q n r P ts = true) (hd : ts.length = d) : (∀ j, j < n → xq_fp q j (32 + r d) < 3 → xq_ne q j r (ts ++ [t]) P) ↔ xq_live q n r P (ts ++ [t]) = true := by
  subst hd
  unfold xq_live at h ⊢
  rw [xP_iff] at h ⊢
  rw [xq_L_step]
  exact ⟨fun z => ⟨h, z⟩, fun z => z.2⟩
theorem xs_bd_pre {Bi : Nat → Int32} {r : Nat → Nat} {d t : Nat} {ts : List Nat} (h : xs_bd Bi r d (ts ++ [t])) : xs_bd Bi r d ts := by
  refine ⟨fun j hj => ?_, h.2⟩
  have := h.1 j (by rw [List.length_append]; simp; omega)
  rw [xq_getD, if_pos hj] at this
  exact this
theorem xr_lv_24 {live : List Nat → Bool} {W : Nat} (hW : W ≤ 24) (k : Nat) (p : List Nat) : (xr_lv live W k p).length ≤ 24 ^ k := Nat.le_trans (xr_lv_len k p) (Nat.pow_le_pow_left hW k)
theorem xq_live_nil {q : Nat → Nat} {n : Nat} {r : Nat → Nat} {P : Nat → Prop} : xq_live q n r P [] = true ↔ ∀ j, j < n → xq_fix q j → xq_ne q j r [] P := by
  unfold xq_live
  rw [xP_iff]
  unfold xq_L
  exact ⟨fun h => h.1, fun h => ⟨h, fun p _ ⟨j, hj, _⟩ => absurd hj (by simp)⟩⟩
theorem xr_fin_yes {live : List Nat → Bool} (hl : ∀ p t, live (p ++ [t]) = true → live p = true) (W k : Nat) (h : live [] = true) : xr_lv live W k [] = xr_F live W k ∧ xr_ct live W k [] = xr_sm (fun j => (xr_F live W (1 + j)).length) k := by
  have h0 : xr_F live W 0 = [[]] := by unfold xr_F xr_tup; simp [h]
  have h1 := xr_leaves hl W k 0
  have h2 := xr_count hl W k 0
  rw [h0] at h1 h2
  refine ⟨?_, ?_⟩
  · rw [Nat.zero_add] at h1
    rw [← h1]
    simp
  · have : xr_tot (xr_ct live W k) [[]] = xr_ct live W k [] := by show xr_ct live W k [] + 0 = _; omega
    rw [this] at h2
    rw [h2]
theorem xr_fin_no {live : List Nat → Bool} (hl : ∀ p t, live (p ++ [t]) = true → live p = true) (W k : Nat) (h : live [] = false) : xr_F live W k = [] ∧ xr_sm (fun j => (xr_F live W (1 + j)).length) k = 0 := by
  have h0 : xr_F live W 0 = [] := by unfold xr_F xr_tup; simp [h]
  have h1 := xr_leaves hl W k 0
  have h2 := xr_count hl W k 0
  rw [h0] at h1 h2
  refine ⟨?_, ?_⟩
  · rw [Nat.zero_add] at h1
    rw [← h1]
    rfl
  · rw [show xr_sm (fun j => (xr_F live W (1 + j)).length) k = xr_sm (fun j => (xr_F live W (0 + 1 + j)).length) k from rfl, ← h2]
    rfl
