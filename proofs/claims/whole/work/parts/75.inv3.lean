/-! insert and remove keep the invariant -/
theorem iv_insert {dn n m pd c m' pd' mg mg' b0 : Nat} {f f' : Nat → Nat → Int32} {e e' Pe St : Nat → Int32} {g g' : Nat → Nat → Nat} {h h' pp s0 : Nat → Nat} {S' : Nat → Prop} (H : iv_S dn n m pd f e Pe St g h pp s0) (hc : c < 32768) (hpt : ∀ i, i < 3 → xk_pt c i < dn) (hP : ¬ xo_mem pp n c) (hn : n < 60)
    (q1 : xs_six f' g' (n + 1) (fun k => k = c ∨ xo_mem pp n k)) (q2 : xs_ok 0 1 2 e' h' m' S') (q3 : (pd < 12 ∧ S' = xo_mem s0 m ∧ h' = h ∧ m' = m ∧ mg' = mg ∧ b0 = pd) ∨ (12 ≤ pd ∧ S' = xo_mem pp n ∧ h' = g 0 ∧ m' = n ∧ mg' = mg + 1 ∧ b0 = 0)) (q4 : (S' c ∧ pd' + 1 = b0) ∨ (¬ S' c ∧ pd' = b0 + 1)) :
    (xo_pd pp n s0 m ≠ 12 → m' = m ∧ mg' = mg ∧ iv_S dn (n + 1) m pd' f' e' (upd Pe n (nI c)) St g' h' (xm_add pp n c) s0) ∧ (xo_pd pp n s0 m = 12 → m' = n ∧ mg' = mg + 1 ∧ ∀ St' : Nat → Int32, xo_og St' pp n → iv_S dn (n + 1) n pd' f' e' (upd Pe n (nI c)) St' g' h' (xm_add pp n c) pp) := by
  obtain ⟨a1, a2, a3, a4, a5, a6, a7, a8, a9, a10, a11⟩ := H
  have hlt : ∀ i, i < n → pp i < 32768 := fun i hi => (a5 i hi).2
  have hset : (fun k => k = c ∨ xo_mem pp n k) = xo_mem (xm_add pp n c) (n + 1) := funext (fun k => propext (xm_add_mem k).symm)
  rw [hset] at q1
  have hog := xm_add_og (c := c) a5 hc
  have hnd := xm_add_nd a6 hP
  have hlt' : ∀ i, i < n + 1 → xm_add pp n c i < 32768 := fun i hi => (hog i hi).2
  have hpts : ∀ k, k < n + 1 → ∀ i, i < 3 → xk_pt (xm_add pp n c k) i < dn := by
    intro k hk i hi
    unfold xm_add
    by_cases z : k = n
    · rw [if_pos z]; exact hpt i hi
    · rw [if_neg z]; exact a11 k (by omega) i hi
  constructor
  · intro hne
    rcases q3 with ⟨b1, rfl, rfl, rfl, rfl, rfl⟩ | ⟨b1, -⟩
    · obtain ⟨d1, d2⟩ := xo_pd_add a6 hnd a8 hlt hlt' (fun i hi => (a7 i hi).2) hP hc (fun x => xm_add_mem x)
      refine ⟨rfl, rfl, by omega, a2, q1, q2, hog, hnd, a7, a8, ?_, ?_, hpts⟩
      · rcases q4 with ⟨s1, s2⟩ | ⟨s1, s2⟩
        · have := d1 s1; omega
        · have := d2 s1; omega
      · rcases q4 with ⟨s1, s2⟩ | ⟨s1, s2⟩ <;> omega
    · omega
  · intro h12
    rcases q3 with ⟨b1, -⟩ | ⟨b1, e1, e2, e3, e4, e5⟩
    · omega
    · subst e1
      subst e2
      have e3 := e3.symm
      subst e3
      subst e4
      subst e5
      refine ⟨rfl, rfl, fun St' hst => ?_⟩
      obtain ⟨d1, d2⟩ := xo_pd_add a6 hnd a6 hlt hlt' hlt hP hc (fun x => xm_add_mem x)
      have hz : xo_pd pp n pp n = 0 := xo_pd_self
      refine ⟨by omega, a1, q1, q2, hog, hnd, hst, a6, ?_, ?_, hpts⟩
      · rcases q4 with ⟨s1, s2⟩ | ⟨s1, s2⟩
        · exact absurd s1 hP
        · have := d2 s1; omega
      · rcases q4 with ⟨s1, s2⟩ | ⟨s1, s2⟩ <;> omega
theorem iv_remove {dn n m pd k m' pd' mg mg' b0 : Nat} {f f' : Nat → Nat → Int32} {e e' Pe St : Nat → Int32} {g g' : Nat → Nat → Nat} {h h' pp s0 : Nat → Nat} {S' : Nat → Prop} (H : iv_S dn n m pd f e Pe St g h pp s0) (hk : k < n)
    (q1 : xs_six f' g' (n - 1) (fun x => xo_mem pp n x ∧ x ≠ pp k)) (q2 : xs_ok 0 1 2 e' h' m' S') (q3 : (pd < 12 ∧ S' = xo_mem s0 m ∧ h' = h ∧ m' = m ∧ mg' = mg ∧ b0 = pd) ∨ (12 ≤ pd ∧ S' = xo_mem pp n ∧ h' = g 0 ∧ m' = n ∧ mg' = mg + 1 ∧ b0 = 0)) (q4 : (¬ S' (pp k) ∧ pd' + 1 = b0) ∨ (S' (pp k) ∧ pd' = b0 + 1)) :
    (xo_pd pp n s0 m ≠ 12 → m' = m ∧ mg' = mg ∧ iv_S dn (n - 1) m pd' f' e' (upd Pe k (nI (pp (n - 1)))) St g' h' (xm_del pp k (n - 1)) s0) ∧ (xo_pd pp n s0 m = 12 → m' = n ∧ mg' = mg + 1 ∧ ∀ St' : Nat → Int32, xo_og St' pp n → iv_S dn (n - 1) n pd' f' e' (upd Pe k (nI (pp (n - 1)))) St' g' h' (xm_del pp k (n - 1)) pp) := by
  obtain ⟨a1, a2, a3, a4, a5, a6, a7, a8, a9, a10, a11⟩ := H
  have hlt : ∀ i, i < n → pp i < 32768 := fun i hi => (a5 i hi).2
  have hset : (fun x => xo_mem pp n x ∧ x ≠ pp k) = xo_mem (xm_del pp k (n - 1)) (n - 1) := funext (fun x => propext (xm_del_mem a6 hk x).symm)
  rw [hset] at q1
  have hog := xm_del_og a5 hk
  have hnd := xm_del_nd a6 hk
  have hlt' : ∀ i, i < n - 1 → xm_del pp k (n - 1) i < 32768 := fun i hi => (hog i hi).2
  have hpts : ∀ j, j < n - 1 → ∀ i, i < 3 → xk_pt (xm_del pp k (n - 1) j) i < dn := by
    intro j hj i hi
    unfold xm_del
    by_cases z : j = k
    · rw [if_pos z]; exact a11 (n - 1) (by omega) i hi
    · rw [if_neg z]; exact a11 j (by omega) i hi
  have hnot : ¬ xo_mem (xm_del pp k (n - 1)) (n - 1) (pp k) := fun z => ((xm_del_mem a6 hk _).mp z).2 rfl
  have hmem : ∀ x, xo_mem pp n x ↔ (x = pp k ∨ xo_mem (xm_del pp k (n - 1)) (n - 1) x) := by
    intro x
    rw [xm_del_mem a6 hk]
    constructor
    · intro z
      by_cases w : x = pp k
      · exact Or.inl w
      · exact Or.inr ⟨z, w⟩
    · rintro (rfl | z)
      · exact ⟨k, hk, rfl⟩
      · exact z.1
  constructor
  · intro hne
    rcases q3 with ⟨b1, rfl, rfl, rfl, rfl, rfl⟩ | ⟨b1, -⟩
    · obtain ⟨d1, d2⟩ := xo_pd_add hnd a6 a8 hlt' hlt (fun i hi => (a7 i hi).2) hnot (hlt k hk) hmem
      refine ⟨rfl, rfl, by omega, a2, q1, q2, hog, hnd, a7, a8, ?_, ?_, hpts⟩
      · rcases q4 with ⟨s1, s2⟩ | ⟨s1, s2⟩
        · have := d2 s1; omega
        · have := d1 s1; omega
      · rcases q4 with ⟨s1, s2⟩ | ⟨s1, s2⟩ <;> omega
    · omega
  · intro h12
    rcases q3 with ⟨b1, -⟩ | ⟨b1, e1, e2, e3, e4, e5⟩
    · omega
    · subst e1
      subst e2
      have e3 := e3.symm
      subst e3
      subst e4
      subst e5
      refine ⟨rfl, rfl, fun St' hst => ?_⟩
      have hin : xo_mem pp n (pp k) := ⟨k, hk, rfl⟩
      obtain ⟨d1, d2⟩ := xo_pd_add hnd a6 a6 hlt' hlt hlt hnot (hlt k hk) hmem
      have hz : xo_pd pp n pp n = 0 := xo_pd_self
      refine ⟨by omega, a1, q1, q2, hog, hnd, hst, a6, ?_, ?_, hpts⟩
      · rcases q4 with ⟨s1, s2⟩ | ⟨s1, s2⟩
        · exact absurd hin s1
        · have := d1 hin; omega
      · rcases q4 with ⟨s1, s2⟩ | ⟨s1, s2⟩ <;> omega
