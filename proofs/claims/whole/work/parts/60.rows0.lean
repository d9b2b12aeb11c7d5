/-! a right row, as the reference says it -/
noncomputable def xm_as (q : Nat → Nat) (n v : Nat) : Bool := xP (∃ j, j < n ∧ q j = 32 + v)
theorem xm_as_bit {q : Nat → Nat} {n v : Nat} (hv : v < 3) (hq : ∀ i, i < n → q i < 35) : xm_as q n v = (xq_vb q n).testBit v := by
  have h := xq_vb_bit hv hq
  cases e : (xq_vb q n).testBit v
  · rw [e] at h
    exact xP_f.mpr (fun z => absurd (h.mpr z) (by decide))
  · exact xP_iff.mpr (h.mp e)
theorem xm_pcF : ∀ a : Fin 8, xc_n (fun v => (a.1).testBit v) 3 = xq_pc a.1 := by decide +kernel
theorem xm_many {q : Nat → Nat} {n : Nat} (hq : ∀ i, i < n → q i < 35) : xc_n (fun v => xm_as q n v) 3 = xq_pc (xq_vb q n) := by
  rw [xc_congr (q := fun v => (xq_vb q n).testBit v) (fun i hi => xm_as_bit hi hq)]
  exact xm_pcF ⟨_, xq_vb_lt hq⟩
def xm_tw (R : Nat → Int32) (i j : Nat) : Prop := ∃ a, a < j ∧ (R a).toInt = (R i).toInt
def xm_ask (q : Nat → Nat) (n v : Nat) : Prop := ∃ j, j < n ∧ q j = v
/-- the i-th number of a row: an asked variable that did not come before -/
def xm_its (R : Nat → Int32) (q : Nat → Nat) (n i : Nat) : Prop := (32 ≤ (R i).toInt ∧ (R i).toInt < 35) ∧ (∃ j, j < n ∧ q j = xi (R i)) ∧ ¬ ∃ j, j < i ∧ (R j).toInt = (R i).toInt
def xm_rf (R : Nat → Int32) (q : Nat → Nat) (n m i : Nat) : Prop := (i < m → xm_its R q n i) ∧ (¬ i < m → (R i).toInt = -1)
theorem xq_ev_inj {x y : Int32} (h : xq_ev x < 3) : xq_ev x = xq_ev y ↔ x.toInt = y.toInt := by
  have hx := xq_ev3.mp h
  constructor
  · intro e
    have hy := xq_ev3.mp (e ▸ h)
    unfold xq_ev at e
    rw [if_neg (by omega), if_pos hx, if_neg (by omega), if_pos hy] at e
    omega
  · intro e
    unfold xq_ev
    rw [e]
theorem xq_ev_3 {x : Int32} : xq_ev x = 3 ↔ x.toInt = -1 := by
  constructor
  · intro h
    unfold xq_ev at h
    by_cases a : x.toInt = -1
    · exact a
    · rw [if_neg a] at h
      by_cases b : 32 ≤ x.toInt ∧ x.toInt < 35
      · rw [if_pos b] at h; omega
      · rw [if_neg b] at h; omega
  · exact xq_ev_m
theorem xm_its_ev {R : Nat → Int32} {q : Nat → Nat} {n i : Nat} (hq : ∀ i, i < n → q i < 35) : xm_its R q n i ↔ (xq_ev (R i) < 3 ∧ (xq_vb q n).testBit (xq_ev (R i)) = true ∧ ∀ j, j < i → xq_ev (R i) ≠ xq_ev (R j)) := by
  unfold xm_its
  rw [← xq_ev3]
  constructor
  · rintro ⟨h1, ⟨j, hj, e⟩, h3⟩
    have hx := xq_ev3.mp h1
    refine ⟨h1, (xq_vb_bit h1 hq).mpr ⟨j, hj, ?_⟩, fun k hk e2 => h3 ⟨k, hk, ((xq_ev_inj h1).mp e2).symm⟩⟩
    rw [e]
    unfold xi xq_ev
    rw [if_neg (by omega), if_pos hx]
    omega
  · rintro ⟨h1, h2, h3⟩
    have hx := xq_ev3.mp h1
    obtain ⟨j, hj, e⟩ := (xq_vb_bit h1 hq).mp h2
    refine ⟨h1, ⟨j, hj, ?_⟩, fun ⟨k, hk, e2⟩ => h3 k hk ((xq_ev_inj h1).mpr e2.symm)⟩
    rw [e]
    unfold xi xq_ev
    rw [if_neg (by omega), if_pos hx]
    omega
def xm_chk (a e0 e1 e2 : Nat) : Bool :=
  (if 0 < xq_pc a then decide (e0 < 3) && a.testBit e0 else decide (e0 = 3)) &&
  (if 1 < xq_pc a then decide (e1 < 3) && a.testBit e1 && decide (e1 ≠ e0) else decide (e1 = 3)) &&
  (if 2 < xq_pc a then decide (e2 < 3) && a.testBit e2 && decide (e2 ≠ e0) && decide (e2 ≠ e1) else decide (e2 = 3))
theorem xm_chkF : ∀ (a : Fin 8) (e0 e1 e2 : Fin 5), xm_chk a.1 e0.1 e1.1 e2.1 = decide (xq_aw (xq_aw (xq_aw a.1 e0.1) e1.1) e2.1 = 0) := by decide +kernel
theorem xm_row {R : Nat → Int32} {q : Nat → Nat} {n : Nat} (hq : ∀ i, i < n → q i < 35) : (∀ i, i < 3 → xm_rf R q n (xq_pc (xq_vb q n)) i) ↔ xq_aw (xq_aw (xq_aw (xq_vb q n) (xq_ev (R 0))) (xq_ev (R 1))) (xq_ev (R 2)) = 0 := by
  have hF := xm_chkF ⟨_, xq_vb_lt hq⟩ ⟨_, xq_ev_lt (R 0)⟩ ⟨_, xq_ev_lt (R 1)⟩ ⟨_, xq_ev_lt (R 2)⟩
  have h2 : xq_aw (xq_aw (xq_aw (xq_vb q n) (xq_ev (R 0))) (xq_ev (R 1))) (xq_ev (R 2)) = 0 ↔ xm_chk (xq_vb q n) (xq_ev (R 0)) (xq_ev (R 1)) (xq_ev (R 2)) = true := by
    rw [show xm_chk (xq_vb q n) (xq_ev (R 0)) (xq_ev (R 1)) (xq_ev (R 2)) = _ from hF, decide_eq_true_eq]
  rw [h2]
  have key : ∀ i, xm_rf R q n (xq_pc (xq_vb q n)) i ↔ (if i < xq_pc (xq_vb q n) then (xq_ev (R i) < 3 ∧ (xq_vb q n).testBit (xq_ev (R i)) = true ∧ ∀ j, j < i → xq_ev (R i) ≠ xq_ev (R j)) else xq_ev (R i) = 3) := by
    intro i
    unfold xm_rf
    rw [xm_its_ev hq]
    by_cases h : i < xq_pc (xq_vb q n)
    · rw [if_pos h]; exact ⟨fun z => z.1 h, fun z => ⟨fun _ => z, fun w => absurd h w⟩⟩
    · rw [if_neg h, xq_ev_3]; exact ⟨fun z => z.2 h, fun z => ⟨fun w => absurd w h, fun _ => z⟩⟩
  have h3 : (∀ i, i < 3 → xm_rf R q n (xq_pc (xq_vb q n)) i) ↔ (xm_rf R q n (xq_pc (xq_vb q n)) 0 ∧ xm_rf R q n (xq_pc (xq_vb q n)) 1 ∧ xm_rf R q n (xq_pc (xq_vb q n)) 2) := by
    constructor
    · intro z; exact ⟨z 0 (by omega), z 1 (by omega), z 2 (by omega)⟩
    · rintro ⟨a, b, c⟩ i hi
      rcases (show i = 0 ∨ i = 1 ∨ i = 2 by omega) with rfl | rfl | rfl <;> assumption
  rw [h3, key 0, key 1, key 2]
  unfold xm_chk
  have n0 : (∀ j, j < 0 → xq_ev (R 0) ≠ xq_ev (R j)) ↔ True := ⟨fun _ => trivial, fun _ j hj => absurd hj (by omega)⟩
  have n1 : (∀ j, j < 1 → xq_ev (R 1) ≠ xq_ev (R j)) ↔ xq_ev (R 1) ≠ xq_ev (R 0) := ⟨fun z => z 0 (by omega), fun z j hj => by rw [show j = 0 by omega]; exact z⟩
  have n2 : (∀ j, j < 2 → xq_ev (R 2) ≠ xq_ev (R j)) ↔ (xq_ev (R 2) ≠ xq_ev (R 0) ∧ xq_ev (R 2) ≠ xq_ev (R 1)) := ⟨fun z => ⟨z 0 (by omega), z 1 (by omega)⟩, fun z j hj => by rcases (show j = 0 ∨ j = 1 by omega) with rfl | rfl; exact z.1; exact z.2⟩
  rw [n0, n1, n2]
  generalize xq_pc (xq_vb q n) = m
  generalize xq_ev (R 0) = a
  generalize xq_ev (R 1) = b
  generalize xq_ev (R 2) = c
  by_cases h0 : 0 < m <;> by_cases h1 : 1 < m <;> by_cases h2 : 2 < m <;> simp [h0, h1, h2, and_assoc]
