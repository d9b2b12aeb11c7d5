/-! rows for bind and through -/
theorem xm_bind_fin {Vl Bo : Nat → Int32} {r : Nat → Nat} {ts : List Nat} (hr : xs_rw r ts.length) (hlt : ∀ i, ts.getD i 0 < 32) (hv : ∀ v, v < 3 → Vl v = xq_vl r ts v) (hb : ∀ v, v < 3 → Bo v = bI (xm_Bo r ts.length v)) : xm_bo Bo Vl (xm_Bo r ts.length) (xm_Vv r ts) ∧ ∀ v, v < 3 → Vl v = xq_vl r ts v := by
  refine ⟨fun v hv3 => ⟨hb v hv3, fun hbd => ⟨by rw [hv v hv3, xm_vl_vv hr hbd], ?_⟩⟩, hv⟩
  unfold xm_Vv
  split
  · exact hlt 0
  · split
    · exact hlt 1
    · exact hlt 2
theorem xm_get0 : ∀ i, ([] : List Nat).getD i 0 < 32 := fun i => by simp
theorem xm_get1 {a : Nat} (ha : a < 32) : ∀ i, [a].getD i 0 < 32
  | 0 => ha
  | i + 1 => by simp
theorem xm_get2 {a b : Nat} (ha : a < 32) (hb : b < 32) : ∀ i, [a, b].getD i 0 < 32
  | 0 => ha
  | 1 => hb
  | i + 2 => by simp
theorem xm_get3 {a b c : Nat} (ha : a < 32) (hb : b < 32) (hc : c < 32) : ∀ i, [a, b, c].getD i 0 < 32
  | 0 => ha
  | 1 => hb
  | 2 => hc
  | i + 3 => by simp
def xm_Z (f : Nat → Int32) (x : Int32) : Nat → Int32 := upd (upd (upd f 0 x) 1 x) 2 x
theorem xm_Z_at {f : Nat → Int32} {x : Int32} {v : Nat} (h : v < 3) : xm_Z f x v = x := by
  rcases (show v = 0 ∨ v = 1 ∨ v = 2 by omega) with rfl | rfl | rfl <;> rfl
theorem xm_u {f : Nat → Int32} {k v : Nat} {x : Int32} : upd f k x v = if k = v then x else f v := by
  unfold upd
  by_cases h : v = k
  · rw [if_pos h, if_pos h.symm]
  · rw [if_neg h, if_neg (fun z => h z.symm)]
theorem xm_v0 {f : Nat → Int32} {r : Nat → Nat} : ∀ v, v < 3 → xm_Z f (-1) v = xq_vl r [] v := fun v hv => by
  rw [xm_Z_at hv]; simp [xq_vl]
theorem xm_v1 {f : Nat → Int32} {r : Nat → Nat} {a : Nat} : ∀ v, v < 3 → upd (xm_Z f (-1)) (r 0) (nI a) v = xq_vl r [a] v := fun v hv => by
  rw [xm_u, xm_Z_at hv]; simp [xq_vl]
theorem xm_v2 {f : Nat → Int32} {r : Nat → Nat} {a b : Nat} : ∀ v, v < 3 → upd (upd (xm_Z f (-1)) (r 1) (nI b)) (r 0) (nI a) v = xq_vl r [a, b] v := fun v hv => by
  rw [xm_u, xm_u, xm_Z_at hv]; simp [xq_vl]
theorem xm_v3 {f : Nat → Int32} {r : Nat → Nat} {a b c : Nat} : ∀ v, v < 3 → upd (upd (upd (xm_Z f (-1)) (r 2) (nI c)) (r 1) (nI b)) (r 0) (nI a) v = xq_vl r [a, b, c] v := fun v hv => by
  rw [xm_u, xm_u, xm_u, xm_Z_at hv]; simp [xq_vl]
theorem xm_bif {c : Prop} {d : Bool} [Decidable c] : (if c then bI true else bI d) = bI (decide c || d) := by
  by_cases h : c
  · simp [h]
  · simp [h]
theorem xm_b0 {f : Nat → Int32} {r : Nat → Nat} : ∀ v, v < 3 → xm_Z f (bI false) v = bI (xm_Bo r 0 v) := fun v hv => by
  rw [xm_Z_at hv]; simp [xm_Bo]
theorem xm_b1 {f : Nat → Int32} {r : Nat → Nat} : ∀ v, v < 3 → upd (xm_Z f (bI false)) (r 0) (bI true) v = bI (xm_Bo r 1 v) := fun v hv => by
  rw [xm_u, xm_Z_at hv, xm_bif]; congr 1; simp [xm_Bo]
theorem xm_b2 {f : Nat → Int32} {r : Nat → Nat} : ∀ v, v < 3 → upd (upd (xm_Z f (bI false)) (r 1) (bI true)) (r 0) (bI true) v = bI (xm_Bo r 2 v) := fun v hv => by
  rw [xm_u, xm_u, xm_Z_at hv, xm_bif, xm_bif]; congr 1; simp [xm_Bo]
theorem xm_b3 {f : Nat → Int32} {r : Nat → Nat} : ∀ v, v < 3 → upd (upd (upd (xm_Z f (bI false)) (r 2) (bI true)) (r 1) (bI true)) (r 0) (bI true) v = bI (xm_Bo r 3 v) := fun v hv => by
  rw [xm_u, xm_u, xm_u, xm_Z_at hv, xm_bif, xm_bif, xm_bif]; congr 1; simp [xm_Bo, Bool.or_assoc]
theorem xm_pos {mw u b : Nat} (h : b < mw ^ u) : 0 < u → 0 < mw := by
  intro hu
  rcases Nat.eq_zero_or_pos mw with z | z
  · rw [z, Nat.zero_pow hu] at h; omega
  · exact z
theorem xm_bd_dg {r : Nat → Nat} {mw u b : Nat} (hr : xs_rw r u) : xq_bd r (xr_dg mw u b) (xm_Bo r u) (xm_Vv r (xr_dg mw u b)) := by
  have := xm_bd_ok (r := r) (ts := xr_dg mw u b) (by rw [xr_dg_len]; exact hr)
  rw [xr_dg_len] at this
  exact this
theorem xr_K_len (live : List Nat → Bool) (W d b : Nat) : (xr_K live W d b).length ≤ b := by
  unfold xr_K
  refine Nat.le_trans (List.length_filter_le _ _) ?_
  simp
