/-! counting below a bound -/
def xc_n (p : Nat → Bool) : Nat → Nat
  | 0 => 0
  | n + 1 => xc_n p n + (if p n = true then 1 else 0)
theorem xc_congr {p q : Nat → Bool} : ∀ {n : Nat}, (∀ i, i < n → p i = q i) → xc_n p n = xc_n q n
  | 0, _ => rfl
  | n + 1, h => by
    show xc_n p n + _ = xc_n q n + _
    rw [xc_congr (n := n) (fun i hi => h i (by omega)), h n (by omega)]
theorem xc_le (p : Nat → Bool) : ∀ n, xc_n p n ≤ n
  | 0 => Nat.le_refl _
  | n + 1 => by
    have := xc_le p n
    show xc_n p n + (if p n = true then 1 else 0) ≤ n + 1
    by_cases h : p n = true
    · rw [if_pos h]; omega
    · rw [if_neg h]; omega
theorem xc_true : ∀ n, xc_n (fun _ => true) n = n
  | 0 => rfl
  | n + 1 => by show xc_n _ n + 1 = n + 1; rw [xc_true n]
theorem xc_false {p : Nat → Bool} : ∀ {n : Nat}, (∀ i, i < n → p i = false) → xc_n p n = 0
  | 0, _ => rfl
  | n + 1, h => by
    show xc_n p n + (if p n = true then 1 else 0) = 0
    rw [xc_false (n := n) (fun i hi => h i (by omega)), h n (by omega)]
    rfl
/-- one place more -/
theorem xc_flip {p q : Nat → Bool} {c : Nat} (hp : p c = false) (hq : q c = true) (h : ∀ i, i ≠ c → q i = p i) : ∀ {n : Nat}, c < n → xc_n q n = xc_n p n + 1
  | 0, hc => by omega
  | n + 1, hc => by
    show xc_n q n + (if q n = true then 1 else 0) = xc_n p n + (if p n = true then 1 else 0) + 1
    by_cases hn : c = n
    · subst hn
      rw [xc_congr (p := q) (q := p) (n := c) (fun i hi => h i (by omega)), hp, hq]
      rfl
    · rw [xc_flip hp hq h (n := n) (by omega), h n (fun z => hn z.symm)]
      omega
/-- membership as a Bool -/
def xo_mb (g : Nat → Nat) (x : Nat) : Nat → Bool
  | 0 => false
  | n + 1 => xo_mb g x n || decide (g n = x)
theorem xo_mb_iff {g : Nat → Nat} {x : Nat} : ∀ {n : Nat}, xo_mb g x n = true ↔ xo_mem g n x
  | 0 => by
    constructor
    · intro h; exact absurd (show false = true from h) (by decide)
    · rintro ⟨i, hi, -⟩; omega
  | n + 1 => by
    show (xo_mb g x n || decide (g n = x)) = true ↔ _
    rw [Bool.or_eq_true, xo_mb_iff (n := n), decide_eq_true_eq]
    constructor
    · rintro (⟨i, hi, e⟩ | e)
      · exact ⟨i, by omega, e⟩
      · exact ⟨n, by omega, e⟩
    · rintro ⟨i, hi, e⟩
      by_cases hn : i = n
      · subst hn; exact Or.inr e
      · exact Or.inl ⟨i, by omega, e⟩
theorem xo_mb_f {g : Nat → Nat} {x n : Nat} : xo_mb g x n = false ↔ ¬ xo_mem g n x := by
  rw [← xo_mb_iff]
  cases xo_mb g x n <;> simp
def xo_nd (g : Nat → Nat) (n : Nat) : Prop := ∀ i j, i < n → j < n → g i = g j → i = j
theorem xo_srt_nd {g : Nat → Nat} {n : Nat} (h : xo_srt g n) : xo_nd g n := by
  intro i j hi hj e
  rcases Nat.lt_trichotomy i j with a | a | a
  · have := h i j a hj; omega
  · exact a
  · have := h j i a hi; omega
/-- a count over a row without doubles is a count over all numbers -/
theorem xc_enum {q : Nat → Bool} {N : Nat} : ∀ {g : Nat → Nat} {n : Nat}, xo_nd g n → (∀ i, i < n → g i < N) → xc_n (fun i => q (g i)) n = xc_n (fun x => xo_mb g x n && q x) N
  | g, 0, _, _ => by
    rw [xc_false (p := fun x => xo_mb g x 0 && q x) (fun i _ => rfl)]
    rfl
  | g, n + 1, hd, hN => by
    show xc_n (fun i => q (g i)) n + (if q (g n) = true then 1 else 0) = _
    rw [xc_enum (g := g) (n := n) (fun i j hi hj e => hd i j (by omega) (by omega) e) (fun i hi => hN i (by omega))]
    have hnot : xo_mb g (g n) n = false := by
      rw [xo_mb_f]
      rintro ⟨i, hi, e⟩
      have := hd i n (by omega) (by omega) e
      omega
    by_cases hq : q (g n) = true
    · rw [if_pos hq]
      refine (xc_flip (c := g n) ?_ ?_ ?_ (hN n (by omega))).symm
      · show (xo_mb g (g n) n && q (g n)) = false
        rw [hnot]; rfl
      · show ((xo_mb g (g n) n || decide (g n = g n)) && q (g n)) = true
        rw [hq]; simp
      · intro i hi
        show ((xo_mb g i n || decide (g n = i)) && q i) = (xo_mb g i n && q i)
        rw [decide_eq_false (fun z => hi z.symm), Bool.or_false]
    · rw [if_neg hq, Nat.add_zero]
      refine xc_congr (fun i _ => ?_)
      show (xo_mb g i n && q i) = ((xo_mb g i n || decide (g n = i)) && q i)
      by_cases hi : g n = i
      · subst hi
        have hq' : q (g n) = false := by cases h : q (g n); rfl; exact absurd h hq
        rw [hq', Bool.and_false, Bool.and_false]
      · rw [decide_eq_false hi, Bool.or_false]
/-- two rows with the same members have the same counts -/
theorem xc_same {q : Nat → Bool} {N : Nat} {g h : Nat → Nat} {n k : Nat} (hg : xo_nd g n) (hh : xo_nd h k) (hgN : ∀ i, i < n → g i < N) (hhN : ∀ i, i < k → h i < N) (e : ∀ x, x < N → (xo_mem g n x ↔ xo_mem h k x)) : xc_n (fun i => q (g i)) n = xc_n (fun i => q (h i)) k := by
  rw [xc_enum hg hgN, xc_enum hh hhN]
  refine xc_congr (fun i hi => ?_)
  have : xo_mb g i n = xo_mb h i k := by
    have := e i hi
    rw [← xo_mb_iff, ← xo_mb_iff] at this
    cases a : xo_mb g i n <;> cases b : xo_mb h i k <;> simp_all
  show (xo_mb g i n && q i) = (xo_mb h i k && q i)
  rw [this]
theorem xc_size {N : Nat} {g h : Nat → Nat} {n k : Nat} (hg : xo_nd g n) (hh : xo_nd h k) (hgN : ∀ i, i < n → g i < N) (hhN : ∀ i, i < k → h i < N) (e : ∀ x, x < N → (xo_mem g n x ↔ xo_mem h k x)) : n = k := by
  have := xc_same (q := fun _ => true) hg hh hgN hhN e
  rw [xc_true, xc_true] at this
  exact this
/-- in an ascending row, as many are smaller as its place says -/
theorem xc_rank {g : Nat → Nat} {n k : Nat} (hs : xo_srt g n) (hk : k < n) : ∀ {m : Nat}, m ≤ n → xc_n (fun i => decide (g i < g k)) m = min m k
  | 0, _ => by simp [xc_n]
  | m + 1, hm => by
    show xc_n _ m + (if decide (g m < g k) = true then 1 else 0) = _
    rw [xc_rank hs hk (m := m) (by omega)]
    by_cases h : m < k
    · rw [if_pos (by rw [decide_eq_true_eq]; exact hs m k h hk)]
      omega
    · rw [if_neg]
      · omega
      · rw [decide_eq_true_eq]
        intro z
        by_cases e : m = k
        · subst e; omega
        · have := hs k m (by omega) (by omega)
          omega
/-! pending: in one of two sets and not in the other -/
def xo_pd (m : Nat → Nat) (n : Nat) (s : Nat → Nat) (k : Nat) : Nat := xc_n (fun i => !xo_mb s (m i) k) n + xc_n (fun i => !xo_mb m (s i) n) k
theorem xo_pd_all {m s : Nat → Nat} {n k N : Nat} (hm : xo_nd m n) (hs : xo_nd s k) (hmN : ∀ i, i < n → m i < N) (hsN : ∀ i, i < k → s i < N) : xo_pd m n s k = xc_n (fun x => xo_mb m x n && !xo_mb s x k) N + xc_n (fun x => xo_mb s x k && !xo_mb m x n) N := by
  unfold xo_pd
  rw [xc_enum (q := fun x => !xo_mb s x k) hm hmN, xc_enum (q := fun x => !xo_mb m x n) hs hsN]
/-- one member more -/
theorem xo_pd_add {m m' s : Nat → Nat} {n n' k N c : Nat} (hm : xo_nd m n) (hm' : xo_nd m' n') (hs : xo_nd s k) (hmN : ∀ i, i < n → m i < N) (hmN' : ∀ i, i < n' → m' i < N) (hsN : ∀ i, i < k → s i < N) (hc : ¬ xo_mem m n c) (hcN : c < N) (e : ∀ x, xo_mem m' n' x ↔ (x = c ∨ xo_mem m n x)) :
    (xo_mem s k c → xo_pd m' n' s k + 1 = xo_pd m n s k) ∧ (¬ xo_mem s k c → xo_pd m' n' s k = xo_pd m n s k + 1) := by
  rw [xo_pd_all hm hs hmN hsN, xo_pd_all hm' hs hmN' hsN]
  have hmc : xo_mb m c n = false := xo_mb_f.mpr hc
  have hmc' : xo_mb m' c n' = true := xo_mb_iff.mpr ((e c).mpr (Or.inl rfl))
  have hne : ∀ i, i ≠ c → xo_mb m' i n' = xo_mb m i n := by
    intro i hi
    have := e i
    rw [← xo_mb_iff, ← xo_mb_iff] at this
    cases a : xo_mb m' i n' <;> cases b : xo_mb m i n <;> simp_all
  constructor
  · intro h
    have hsc : xo_mb s c k = true := xo_mb_iff.mpr h
    have h1 : xc_n (fun x => xo_mb m' x n' && !xo_mb s x k) N = xc_n (fun x => xo_mb m x n && !xo_mb s x k) N := xc_congr (fun i _ => by
      by_cases hi : i = c
      · subst hi; show (xo_mb m' i n' && !xo_mb s i k) = (xo_mb m i n && !xo_mb s i k); rw [hsc, hmc, hmc']; rfl
      · show (xo_mb m' i n' && !xo_mb s i k) = (xo_mb m i n && !xo_mb s i k); rw [hne i hi])
    have h2 : xc_n (fun x => xo_mb s x k && !xo_mb m x n) N = xc_n (fun x => xo_mb s x k && !xo_mb m' x n') N + 1 := xc_flip (c := c) (by show (xo_mb s c k && !xo_mb m' c n') = false; rw [hmc']; simp) (by show (xo_mb s c k && !xo_mb m c n) = true; rw [hmc, hsc]; rfl) (fun i hi => by show (xo_mb s i k && !xo_mb m i n) = (xo_mb s i k && !xo_mb m' i n'); rw [hne i hi]) hcN
    omega
  · intro h
    have hsc : xo_mb s c k = false := xo_mb_f.mpr h
    have h1 : xc_n (fun x => xo_mb m' x n' && !xo_mb s x k) N = xc_n (fun x => xo_mb m x n && !xo_mb s x k) N + 1 := xc_flip (c := c) (by show (xo_mb m c n && !xo_mb s c k) = false; rw [hmc]; rfl) (by show (xo_mb m' c n' && !xo_mb s c k) = true; rw [hmc', hsc]; rfl) (fun i hi => by show (xo_mb m' i n' && !xo_mb s i k) = (xo_mb m i n && !xo_mb s i k); rw [hne i hi]) hcN
    have h2 : xc_n (fun x => xo_mb s x k && !xo_mb m' x n') N = xc_n (fun x => xo_mb s x k && !xo_mb m x n) N := xc_congr (fun i _ => by
      by_cases hi : i = c
      · subst hi; show (xo_mb s i k && !xo_mb m' i n') = (xo_mb s i k && !xo_mb m i n); rw [hsc]; rfl
      · show (xo_mb s i k && !xo_mb m' i n') = (xo_mb s i k && !xo_mb m i n); rw [hne i hi])
    omega
