/-! rows for the law's cases -/
theorem iv_S_mono {dn n m pd : Nat} {f : Nat → Nat → Int32} {e Pe St : Nat → Int32} {g : Nat → Nat → Nat} {h pp s0 : Nat → Nat} (H : iv_S dn n m pd f e Pe St g h pp s0) : iv_S (dn + 1) n m pd f e Pe St g h pp s0 := by
  obtain ⟨a1, a2, a3, a4, a5, a6, a7, a8, a9, a10, a11⟩ := H
  exact ⟨a1, a2, a3, a4, a5, a6, a7, a8, a9, a10, fun k hk i hi => Nat.lt_succ_of_lt (a11 k hk i hi)⟩
theorem xo_pd_self {p : Nat → Nat} {n : Nat} : xo_pd p n p n = 0 := by
  unfold xo_pd
  have h : xc_n (fun i => !xo_mb p (p i) n) n = 0 := xc_false (fun i hi => by
    show (!xo_mb p (p i) n) = false
    rw [xo_mb_iff.mpr ⟨i, hi, rfl⟩]; rfl)
  rw [h]
theorem iv_merge {dn n m pd : Nat} {f : Nat → Nat → Int32} {e e' Pe St St' : Nat → Int32} {g : Nat → Nat → Nat} {h pp s0 : Nat → Nat} (H : iv_S dn n m pd f e Pe St g h pp s0) (he : xs_ok 0 1 2 e' (g 0) n (xo_mem pp n)) (hst : xo_og St' pp n) : iv_S dn n n 0 f e' Pe St' g (g 0) pp pp := by
  obtain ⟨a1, a2, a3, a4, a5, a6, a7, a8, a9, a10, a11⟩ := H
  exact ⟨a1, a1, a3, he, a5, a6, hst, a6, xo_pd_self.symm, by omega, a11⟩
theorem xi_eq {x : Int32} (h : 0 ≤ x.toInt) : x = nI (xi x) := by
  obtain ⟨t, ht, rfl⟩ := xn_of (x := x) (n := 2 ^ 31) h (by have := Int32.toInt_lt x; omega)
  rw [xi_nI ht]
def iv_q (q : Nat → Nat) (n a b c : Nat) : Nat → Nat := fun j => if j = 3 * n then a else if j = 3 * n + 1 then b else if j = 3 * n + 2 then c else q j
theorem iv_nu {F : Nat → Int32} {q : Nat → Nat} {n : Nat} {x y z : Int32} (hq : xq_nu F q (3 * n)) (hx : 0 ≤ x.toInt ∧ x.toInt < 35) (hy : 0 ≤ y.toInt ∧ y.toInt < 35) (hz : 0 ≤ z.toInt ∧ z.toInt < 35) : xq_nu (upd (upd (upd F (3 * n) x) (3 * n + 1) y) (3 * n + 2) z) (iv_q q n (xi x) (xi y) (xi z)) (3 * (n + 1)) := by
  intro j hj
  unfold iv_q
  by_cases c : j = 3 * n + 2
  · subst c
    rw [pk_us, if_neg (by omega), if_neg (by omega), if_pos rfl]
    exact ⟨xi_eq hz.1, by unfold xi; omega⟩
  · rw [pk_un c]
    by_cases b : j = 3 * n + 1
    · subst b
      rw [pk_us, if_neg (by omega), if_pos rfl]
      exact ⟨xi_eq hy.1, by unfold xi; omega⟩
    · rw [pk_un b]
      by_cases a : j = 3 * n
      · subst a
        rw [pk_us, if_pos rfl]
        exact ⟨xi_eq hx.1, by unfold xi; omega⟩
      · rw [pk_un a, if_neg a, if_neg b, if_neg c]
        exact hq j (by omega)
theorem iv_where {n : Nat} {F Pt : Nat → Int32} {q : Nat → Nat} {x y z : Int32} (H : iv_Q n F Pt q) (hn : n < 4) (hx : 0 ≤ x.toInt ∧ x.toInt < 35) (hy : 0 ≤ y.toInt ∧ y.toInt < 35) (hz : 0 ≤ z.toInt ∧ z.toInt < 35) : iv_Q (n + 1) (upd (upd (upd F (n * 3) x) (n * 3 + 1) y) (n * 3 + 2) z) (upd (upd (upd Pt (3 * n) x) (3 * n + 1) y) (3 * n + 2) z) (iv_q q n (xi x) (xi y) (xi z)) := by
  refine ⟨by omega, ?_, iv_nu H.2.2 hx hy hz⟩
  rw [Nat.mul_comm n 3]
  exact iv_nu H.2.1 hx hy hz
/-- the place of a code in an order, and its rank among the reference's codes -/
theorem iv_rank {p q r : Nat} {f : Nat → Int32} {g pp : Nat → Nat} {n k c : Nat} (hpm : xk_pm p q r) (h : xs_ok p q r f g n (xo_mem pp n)) (hnd : xo_nd pp n) (hlt : ∀ i, i < n → pp i < 32768) (hk : k < n) (hc : c < 32768) (hg : xk_ky p q r c = g k) : (∃ i, i < n ∧ pp i = c ∧ xc_n (fun j => decide (xk_ky p q r (pp j) < xk_ky p q r (pp i))) n = k) ∧ ∀ i, i < n → xc_n (fun j => decide (xk_ky p q r (pp j) < xk_ky p q r (pp i))) n = k → pp i = c := by
  obtain ⟨h1, h2, h3⟩ := h
  have cnt : ∀ k', k' < n → xc_n (fun j => decide (xk_ky p q r (pp j) < g k')) n = k' := by
    intro k' hk'
    have e1 : xc_n (fun j => decide (xk_ky p q r (xk_un p q r (g j)) < g k')) n = xc_n (fun j => decide (xk_ky p q r (pp j) < g k')) n := by
      refine xc_same (q := fun x => decide (xk_ky p q r x < g k')) (g := fun j => xk_un p q r (g j)) (h := pp) (N := 32768) ?_ hnd (fun i hi => (xk_un_ky hpm (h1 i hi).2).1) hlt ?_
      · intro i j hi hj e
        have e2 : g i = g j := by rw [← (xk_un_ky hpm (h1 i hi).2).2, ← (xk_un_ky hpm (h1 j hj).2).2]; exact congrArg (xk_ky p q r) e
        exact xo_srt_nd h2 i j hi hj e2
      · intro x hx
        rw [h3 x hx]
        constructor
        · rintro ⟨i, hi, e⟩
          exact ⟨i, hi, by rw [← e]; exact ((xk_un_ky hpm (h1 i hi).2).2).symm⟩
        · rintro ⟨i, hi, e⟩
          refine ⟨i, hi, xk_ky_inj hpm (xk_un_ky hpm (h1 i hi).2).1 hx ?_⟩
          rw [(xk_un_ky hpm (h1 i hi).2).2, e]
    rw [← e1, xc_congr (q := fun j => decide (g j < g k')) (fun i hi => by show decide _ = decide _; rw [(xk_un_ky hpm (h1 i hi).2).2]), xc_rank h2 hk' (Nat.le_refl n)]
    omega
  refine ⟨?_, fun i hi he => ?_⟩
  · obtain ⟨i, hi, e⟩ := (h3 c hc).mpr ⟨k, hk, hg.symm⟩
    exact ⟨i, hi, e, by rw [e, hg]; exact cnt k hk⟩
  · obtain ⟨k', hk', e⟩ := (h3 (pp i) (hlt i hi)).mp ⟨i, hi, rfl⟩
    rw [← e, cnt k' hk'] at he
    subst he
    exact xk_ky_inj hpm (hlt i hi) hc (by rw [hg, e])
theorem iv_rank6 {f : Nat → Nat → Int32} {g : Nat → Nat → Nat} {pp : Nat → Nat} {n k c w : Nat} (h : xs_six f g n (xo_mem pp n)) (hw : w < 6) (hnd : xo_nd pp n) (hlt : ∀ i, i < n → pp i < 32768) (hk : k < n) (hc : c < 32768) (hg : xk_kw w c = g w k) : (∃ i, i < n ∧ pp i = c ∧ xc_n (fun j => decide (xk_kw w (pp j) < xk_kw w (pp i))) n = k) ∧ ∀ i, i < n → xc_n (fun j => decide (xk_kw w (pp j) < xk_kw w (pp i))) n = k → pp i = c := by
  obtain ⟨a0, a1, a2, a3, a4, a5⟩ := h
  rcases (show w = 0 ∨ w = 1 ∨ w = 2 ∨ w = 3 ∨ w = 4 ∨ w = 5 by omega) with rfl | rfl | rfl | rfl | rfl | rfl
  · exact iv_rank pm0 a0 hnd hlt hk hc hg
  · exact iv_rank pm1 a1 hnd hlt hk hc hg
  · exact iv_rank pm2 a2 hnd hlt hk hc hg
  · exact iv_rank pm3 a3 hnd hlt hk hc hg
  · exact iv_rank pm4 a4 hnd hlt hk hc hg
  · exact iv_rank pm5 a5 hnd hlt hk hc hg
/-- the reference's members are the class's -/
theorem iv_P {f : Nat → Int32} {g pp : Nat → Nat} {n : Nat} (h : xs_ok 0 1 2 f g n (xo_mem pp n)) (hlt : ∀ i, i < n → pp i < 32768) : xo_mem g n = xo_mem pp n := by
  obtain ⟨h1, h2, h3⟩ := h
  funext c
  apply propext
  constructor
  · intro hm
    obtain ⟨i, hi, e⟩ := id hm
    have hc : c < 32768 := e ▸ (h1 i hi).2
    exact (h3 c hc).mpr (by rw [xk_ky_id hc]; exact hm)
  · intro hm
    obtain ⟨i, hi, e⟩ := id hm
    have hc : c < 32768 := e ▸ hlt i hi
    have := (h3 c hc).mp hm
    rw [xk_ky_id hc] at this
    exact this
theorem iv_F_len {live : List Nat → Bool} {W d : Nat} (hW : W ≤ 24) (hd : d ≤ 3) : (xr_F live W d).length ≤ 13824 := by
  rw [← xr_K_all]
  refine Nat.le_trans (xr_K_len live W d _) ?_
  exact Nat.le_trans (Nat.pow_le_pow_left hW d) (Nat.pow_le_pow_right (n := 24) (by decide) hd)
theorem iv_kept {An Kp : Nat → Int32} {Ls : List (List Nat)} {V : List Nat → Nat → Int32} (h1 : xs_kp An Ls V) (h2 : xs_kp Kp Ls V) : ∀ i, i < Ls.length → i < 200 → ∀ v, v < 3 → An (i * 3 + v) = Kp (3 * i + v) := by
  intro i hi h200 v hv
  have hx : Ls[i]? = some Ls[i] := List.getElem?_eq_getElem hi
  rw [Nat.mul_comm i 3, h1 i _ hx h200 v hv, h2 i _ hx h200 v hv]
