/-! the search: places, holders, agreeing sets, answers kept -/
theorem xq_ev3 {x : Int32} : xq_ev x < 3 ↔ (32 ≤ x.toInt ∧ x.toInt < 35) := by
  unfold xq_ev
  constructor
  · intro h
    by_cases a : x.toInt = -1
    · rw [if_pos a] at h; omega
    · rw [if_neg a] at h
      by_cases b : 32 ≤ x.toInt ∧ x.toInt < 35
      · exact b
      · rw [if_neg b] at h; omega
  · intro h
    rw [if_neg (by omega), if_pos h]
    omega
theorem xq_ev_t {t : Nat} (h0 : 32 ≤ t) (h : t < 35) : t - 32 = xq_ev (nI t) := by
  have := xq_ev_v (j := t - 32) (by omega)
  rw [show 32 + (t - 32) = t by omega] at this
  exact this.symm
theorem xq_pl_m1 {k : Nat} : (xq_pl k).toInt = -1 ↔ ¬ k < 3 := by
  by_cases h : k < 3
  · rw [xq_pl_lt h, nI_toInt (by omega)]; omega
  · rw [xq_pl_ge h, xn_m1]; simp [h]
def xs_pl (Pl : Nat → Int32) (q : Nat → Nat) (n : Nat) : Prop := ∀ i, i < 3 * n → Pl i = xq_pl (xq_fp q (i / 3) (32 + i % 3))
theorem xs_pl_at {Pl : Nat → Int32} {q : Nat → Nat} {n p v : Nat} (h : xs_pl Pl q n) (hp : p < n) (hv : v < 3) : Pl (p * 3 + v) = xq_pl (xq_fp q p (32 + v)) := by
  have := h (p * 3 + v) (by omega)
  rw [show (p * 3 + v) / 3 = p by omega, show (p * 3 + v) % 3 = v by omega] at this
  exact this
theorem xs_pl_step {Pl : Nat → Int32} {q : Nat → Nat} {p : Nat} (h : xs_pl Pl q p) : xs_pl (upd (upd (upd Pl (p * 3 + 0) (xq_pl (xq_fp q p (32 + 0)))) (p * 3 + 1) (xq_pl (xq_fp q p (32 + 1)))) (p * 3 + 2) (xq_pl (xq_fp q p (32 + 2)))) q (p + 1) := by
  intro i hi
  by_cases a : i = p * 3 + 2
  · subst a
    rw [pk_us, show (p * 3 + 2) / 3 = p by omega, show (p * 3 + 2) % 3 = 2 by omega]
  · rw [pk_un a]
    by_cases b : i = p * 3 + 1
    · subst b
      rw [pk_us, show (p * 3 + 1) / 3 = p by omega, show (p * 3 + 1) % 3 = 1 by omega]
    · rw [pk_un b]
      by_cases c : i = p * 3 + 0
      · subst c
        rw [pk_us, show (p * 3 + 0) / 3 = p by omega, show (p * 3 + 0) % 3 = 0 by omega]
      · rw [pk_un c]
        exact h i (by omega)
theorem xq_fix_iff {q : Nat → Nat} {p : Nat} (hq : ∀ i, i < 3 → q (3 * p + i) < 35) : xq_fix q p ↔ ∀ v, v < 3 → ¬ xq_fp q p (32 + v) < 3 := by
  constructor
  · intro h v hv hf
    have := xq_fp_at hf
    have := h _ hf
    omega
  · intro h i hi
    rcases Nat.lt_or_ge (q (3 * p + i)) 32 with z | z
    · exact z
    · have h1 := hq i hi
      have h2 := h (q (3 * p + i) - 32) (by omega)
      have h3 := xq_fp_min (q := q) (p := p) (v := 32 + (q (3 * p + i) - 32)) hi (by omega)
      omega
theorem xq_in_nil {q : Nat → Nat} {p : Nat} {r : Nat → Nat} {c : Nat} : xq_in q p r [] c ↔ xq_ag q p c := by
  unfold xq_in
  exact ⟨fun h => h.1, fun h => ⟨h, fun j hj => absurd hj (by simp)⟩⟩
def xs_ho (Ho : Nat → Int64) (g : Nat → Nat) (k : Nat) : Prop := ∀ i, i < 72 → ∀ b, b < 64 → xb_b (Ho i) b = (decide (b < k) && decide (xk_pt (g b) (i / 24) = i % 24))
def xs_or (H : Nat → Int64) (i k : Nat) : Nat → Int64 := vp_updL H i (H i ||| (1 : Int64) <<< ((nI k).toInt64 &&& 63))
theorem xs_or_at {H : Nat → Int64} {i k j b : Nat} (hk : k < 64) : xb_b (xs_or H i k j) b = (xb_b (H j) b || (decide (j = i) && decide (b = k))) := by
  unfold xs_or
  by_cases h : j = i
  · subst h
    rw [pk_uLs, xb_or, xb_shl hk]
    simp
  · rw [pk_uLn h]
    simp [h]
theorem xs_ho_step {Ho : Nat → Int64} {g : Nat → Nat} {k : Nat} (h : xs_ho Ho g k) (hk : k < 64) (h0 : xk_pt (g k) 0 < 24) (h1 : xk_pt (g k) 1 < 24) (h2 : xk_pt (g k) 2 < 24) : xs_ho (xs_or (xs_or (xs_or Ho (0 * 24 + xk_pt (g k) 0) k) (1 * 24 + xk_pt (g k) 1) k) (2 * 24 + xk_pt (g k) 2) k) g (k + 1) := by
  intro i hi b hb
  rw [xs_or_at hk, xs_or_at hk, xs_or_at hk, h i hi b hb]
  by_cases e : b = k
  · subst e
    rcases (show i / 24 = 0 ∨ i / 24 = 1 ∨ i / 24 = 2 by omega) with z | z | z
    · rw [z]
      have e1 : decide (i = 1 * 24 + xk_pt (g b) 1) = false := decide_eq_false (by omega)
      have e2 : decide (i = 2 * 24 + xk_pt (g b) 2) = false := decide_eq_false (by omega)
      have e3 : decide (i = 0 * 24 + xk_pt (g b) 0) = decide (xk_pt (g b) 0 = i % 24) := by congr 1; apply propext; omega
      rw [e1, e2, e3]
      simp
    · rw [z]
      have e1 : decide (i = 0 * 24 + xk_pt (g b) 0) = false := decide_eq_false (by omega)
      have e2 : decide (i = 2 * 24 + xk_pt (g b) 2) = false := decide_eq_false (by omega)
      have e3 : decide (i = 1 * 24 + xk_pt (g b) 1) = decide (xk_pt (g b) 1 = i % 24) := by congr 1; apply propext; omega
      rw [e1, e2, e3]
      simp
    · rw [z]
      have e1 : decide (i = 0 * 24 + xk_pt (g b) 0) = false := decide_eq_false (by omega)
      have e2 : decide (i = 1 * 24 + xk_pt (g b) 1) = false := decide_eq_false (by omega)
      have e3 : decide (i = 2 * 24 + xk_pt (g b) 2) = decide (xk_pt (g b) 2 = i % 24) := by congr 1; apply propext; omega
      rw [e1, e2, e3]
      simp
  · have e1 : decide (b = k) = false := decide_eq_false e
    have e2 : decide (b < k + 1) = decide (b < k) := by congr 1; apply propext; omega
    rw [e1, e2]
    simp
def xs_ag (x : Int64) (q : Nat → Nat) (p : Nat) (r : Nat → Nat) (ts : List Nat) (g : Nat → Nat) (n : Nat) : Prop := ∀ b, b < 64 → xb_b x b = (decide (b < n) && xP (xq_in q p r ts (g b)))
def xs_au (x : Int64) (q : Nat → Nat) (p : Nat) (g : Nat → Nat) (n : Nat) : Prop := ∀ b, b < 64 → xb_b x b = (decide (b < n) && xP (xq_ag q p (g b)))
theorem xs_au_0 {q : Nat → Nat} {p : Nat} {g : Nat → Nat} : xs_au 0 q p g 0 := by
  intro b _
  rw [xb_0]
  simp
theorem xs_au_yes {x : Int64} {q : Nat → Nat} {p : Nat} {g : Nat → Nat} {k : Nat} (h : xs_au x q p g k) (hk : k < 64) (ha : xq_ag q p (g k)) : xs_au (x ||| (1 : Int64) <<< ((nI k).toInt64 &&& 63)) q p g (k + 1) := by
  intro b hb
  rw [xb_or, xb_shl hk, h b hb]
  by_cases e : b = k
  · subst e
    rw [xP_iff.mpr ha]
    simp
  · have e2 : decide (b < k + 1) = decide (b < k) := by congr 1; apply propext; omega
    rw [e2]
    simp [e]
theorem xs_au_no {x : Int64} {q : Nat → Nat} {p : Nat} {g : Nat → Nat} {k : Nat} (h : xs_au x q p g k) (ha : ¬ xq_ag q p (g k)) : xs_au x q p g (k + 1) := by
  intro b hb
  rw [h b hb]
  by_cases e : b = k
  · subst e
    rw [xP_f.mpr ha]
    simp
  · have e2 : decide (b < k + 1) = decide (b < k) := by congr 1; apply propext; omega
    rw [e2]
theorem xs_au_ag {x : Int64} {q : Nat → Nat} {p : Nat} {r g : Nat → Nat} {n : Nat} (h : xs_au x q p g n) : xs_ag x q p r [] g n := by
  intro b hb
  rw [h b hb, xP_eq xq_in_nil]
theorem xs_ag_ne {x : Int64} {q : Nat → Nat} {p : Nat} {r : Nat → Nat} {ts : List Nat} {g : Nat → Nat} {n : Nat} (h : xs_ag x q p r ts g n) (hn : n ≤ 64) : x ≠ 0 ↔ xq_ne q p r ts (xo_mem g n) := by
  rw [ne_eq, xb_z]
  constructor
  · intro z
    apply Classical.byContradiction
    intro hne
    apply z
    intro b hb
    rw [h b hb]
    by_cases e : b < n
    · rw [xP_f.mpr (fun w => hne ⟨g b, ⟨b, e, rfl⟩, w⟩)]
      simp
    · simp [e]
  · rintro ⟨c, ⟨b, hb, rfl⟩, hi⟩ z
    have := z b (by omega)
    rw [h b (by omega), xP_iff.mpr hi] at this
    simp [hb] at this
theorem xs_ag_in {x y : Int64} {q : Nat → Nat} {p : Nat} {r : Nat → Nat} {ts : List Nat} {g : Nat → Nat} {n t : Nat} (h : xs_ag x q p r ts g n) (hf : xq_fp q p (32 + r ts.length) < 3) (hy : ∀ b, b < 64 → xb_b y b = (decide (b < n) && decide (xk_pt (g b) (xq_fp q p (32 + r ts.length)) = t))) : xs_ag (x &&& y) q p r (ts ++ [t]) g n := by
  intro b hb
  rw [xb_and, h b hb, hy b hb]
  by_cases e : b < n
  · by_cases i : xq_in q p r ts (g b)
    · rw [xP_iff.mpr i]
      by_cases k : xk_pt (g b) (xq_fp q p (32 + r ts.length)) = t
      · rw [xP_iff.mpr (xq_in_step.mpr ⟨i, fun _ => k⟩)]
        simp [e, k]
      · rw [xP_f.mpr (fun w => k ((xq_in_step.mp w).2 hf))]
        simp [k]
    · rw [xP_f.mpr i, xP_f.mpr (fun w => i (xq_in_step.mp w).1)]
      simp
  · simp [e]
theorem xs_ag_out {x : Int64} {q : Nat → Nat} {p : Nat} {r : Nat → Nat} {ts : List Nat} {g : Nat → Nat} {n t : Nat} (h : xs_ag x q p r ts g n) (hf : ¬ xq_fp q p (32 + r ts.length) < 3) : xs_ag x q p r (ts ++ [t]) g n := by
  intro b hb
  rw [h b hb]
  rw [xP_eq (show xq_in q p r ts (g b) ↔ xq_in q p r (ts ++ [t]) (g b) from ⟨fun w => xq_in_step.mpr ⟨w, fun z => absurd z hf⟩, fun w => (xq_in_step.mp w).1⟩)]
theorem xs_ho_at {Ho : Nat → Int64} {g : Nat → Nat} {n f t : Nat} (h : xs_ho Ho g n) (hf : f < 3) (ht : t < 24) : ∀ b, b < 64 → xb_b (Ho (f * 24 + t)) b = (decide (b < n) && decide (xk_pt (g b) f = t)) := by
  intro b hb
  have := h (f * 24 + t) (by omega) b hb
  rw [show (f * 24 + t) / 24 = f by omega, show (f * 24 + t) % 24 = t by omega] at this
  exact this
/-! answers kept -/
def xq_vl (r : Nat → Nat) (p : List Nat) (v : Nat) : Int32 := if 0 < p.length ∧ r 0 = v then nI (p.getD 0 0) else if 1 < p.length ∧ r 1 = v then nI (p.getD 1 0) else if 2 < p.length ∧ r 2 = v then nI (p.getD 2 0) else -1
def xs_kp (An : Nat → Int32) (Ls : List (List Nat)) (V : List Nat → Nat → Int32) : Prop := ∀ (i : Nat) (p : List Nat), Ls[i]? = some p → i < 200 → ∀ v, v < 3 → An (3 * i + v) = V p v
theorem xs_kp_0 {An : Nat → Int32} {V : List Nat → Nat → Int32} : xs_kp An [] V := fun i p h => by simp at h
theorem xs_kp_over {An : Nat → Int32} {Ls : List (List Nat)} {V : List Nat → Nat → Int32} {p : List Nat} (h : xs_kp An Ls V) (hl : 200 ≤ Ls.length) : xs_kp An (Ls ++ [p]) V := by
  intro i x hx hi v hv
  rw [List.getElem?_append_left (by omega)] at hx
  exact h i x hx hi v hv
theorem xs_kp_add {An Bi : Nat → Int32} {Ls : List (List Nat)} {V : List Nat → Nat → Int32} {p : List Nat} (h : xs_kp An Ls V) (hb : ∀ v, v < 3 → Bi v = V p v) : xs_kp (va_cpy Bi An 0 (Ls.length * 3) 3) (Ls ++ [p]) V := by
  intro i x hx hi v hv
  by_cases e : i < Ls.length
  · rw [List.getElem?_append_left e] at hx
    rw [pk_cpy_out (Or.inl (by omega))]
    exact h i x hx hi v hv
  · have hlen : i < (Ls ++ [p]).length := (List.getElem?_eq_some_iff.mp hx).1
    rw [List.length_append] at hlen
    simp at hlen
    have hie : i = Ls.length := by omega
    subst hie
    rw [List.getElem?_append_right (by omega)] at hx
    simp at hx
    subst hx
    rw [pk_cpy_in (by omega) (by omega)]
    rw [show 0 + (3 * Ls.length + v - Ls.length * 3) = v by omega]
    exact hb v hv
/-- the class's binding: the first variables of the row have their terms, those that the row lacks have none -/
def xs_bd (Bi : Nat → Int32) (r : Nat → Nat) (d : Nat) (ts : List Nat) : Prop := (∀ j, j < ts.length → Bi (r j) = nI (ts.getD j 0)) ∧ ∀ v, v < 3 → (∀ j, j < d → r j ≠ v) → Bi v = -1
theorem xs_bd_leaf {Bi : Nat → Int32} {r : Nat → Nat} {ts : List Nat} (h : xs_bd Bi r ts.length ts) (hl : ts.length ≤ 3) : ∀ v, v < 3 → Bi v = xq_vl r ts v := by
  intro v hv
  unfold xq_vl
  by_cases a : 0 < ts.length ∧ r 0 = v
  · rw [if_pos a, ← a.2]; exact h.1 0 a.1
  · rw [if_neg a]
    by_cases b : 1 < ts.length ∧ r 1 = v
    · rw [if_pos b, ← b.2]; exact h.1 1 b.1
    · rw [if_neg b]
      by_cases c : 2 < ts.length ∧ r 2 = v
      · rw [if_pos c, ← c.2]; exact h.1 2 c.1
      · rw [if_neg c]
        refine h.2 v hv (fun j hj e => ?_)
        rcases (show j = 0 ∨ j = 1 ∨ j = 2 by omega) with rfl | rfl | rfl
        · exact a ⟨hj, e⟩
        · exact b ⟨hj, e⟩
        · exact c ⟨hj, e⟩
def xs_rw (r : Nat → Nat) (d : Nat) : Prop := d ≤ 3 ∧ (∀ j, j < d → r j < 3) ∧ ∀ i j, i < d → j < d → r i = r j → i = j
theorem xs_bd_step {Bi : Nat → Int32} {r : Nat → Nat} {d t : Nat} {ts : List Nat} (h : xs_bd Bi r d ts) (hr : xs_rw r d) (hd : ts.length < d) : xs_bd (upd Bi (r ts.length) (nI t)) r d (ts ++ [t]) := by
  refine ⟨fun j hj => ?_, fun v hv hn => ?_⟩
  · rw [xq_getD]
    rw [List.length_append] at hj
    simp at hj
    by_cases e : j < ts.length
    · rw [if_pos e, pk_un (fun z => by have := hr.2.2 j ts.length (by omega) hd z; omega)]
      exact h.1 j e
    · have : j = ts.length := by omega
      subst this
      rw [if_neg e, if_pos rfl, pk_us]
  · rw [pk_un (fun z => hn ts.length hd z.symm)]
    exact h.2 v hv hn
theorem xr_up_len {live : List Nat → Bool} {f : List Nat → List (List Nat)} {M : Nat} (hf : ∀ p, (f p).length ≤ M) (p : List Nat) : ∀ T, (xr_up live f p T).length ≤ T * M
  | 0 => by show 0 ≤ _; omega
  | T + 1 => by
    rw [xr_up_succ, List.length_append, Nat.succ_mul]
    have := xr_up_len hf p (live := live) T
    by_cases h : live (p ++ [T]) = true
    · rw [if_pos h]
      have := hf (p ++ [T])
      omega
    · rw [if_neg h]
      show _ + 0 ≤ _
      omega
theorem xr_lv_len {live : List Nat → Bool} {W : Nat} : ∀ (k : Nat) (p : List Nat), (xr_lv live W k p).length ≤ W ^ k
  | 0, p => by show 1 ≤ 1; omega
  | k + 1, p => by
    have := xr_up_len (live := live) (f := xr_lv live W k) (xr_lv_len k) p W
    rw [Nat.pow_succ, Nat.mul_comm]
    exact this
