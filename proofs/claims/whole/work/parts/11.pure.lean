/-! pure rows: codes of triples, keys of the six ways, small numbers -/
theorem xn_shl {n k : Nat} (hk : k < 32) (h : n * 2 ^ k < 2 ^ 32) : nI n <<< (nI k &&& 31) = nI (n * 2 ^ k) := by
  have hs : ∀ j, j < 32 → ((nI j &&& 31).toBitVec.smod 32).toNat = j := by decide +kernel
  exact pk_shlN _ k (hs k hk) h
theorem xn_shr {n k : Nat} (hk : k < 32) (h : n < 2 ^ 31) : nI n >>> (nI k &&& 31) = nI (n / 2 ^ k) := by
  have hs : ∀ j, j < 32 → ((nI j &&& 31).toBitVec.smod 32).toNat = j := by decide +kernel
  exact pk_shrN h _ k (hs k hk)
theorem xn_or (a b : Nat) : nI a ||| nI b = nI (a ||| b) := by
  apply Int32.toBitVec_inj.mp
  show BitVec.ofNat 32 a ||| BitVec.ofNat 32 b = BitVec.ofNat 32 (a ||| b)
  apply BitVec.eq_of_toNat_eq
  simp [BitVec.toNat_or, BitVec.toNat_ofNat, Nat.or_mod_two_pow]
theorem xn_orS {a b : Nat} (k : Nat) (h : b < 2 ^ k) : nI (a * 2 ^ k) ||| nI b = nI (a * 2 ^ k + b) := by
  rw [xn_or, Nat.mul_comm, Nat.two_pow_add_eq_or_of_lt h]
theorem xn_31 (n : Nat) (h : n < 2 ^ 32) : nI n &&& nI 31 = nI (n % 32) := pk_andN h 5 (by decide +kernel)
theorem xn_inc (n : Nat) : nI n + Int32.ofInt 1 = nI (n + 1) := by
  rw [show Int32.ofInt 1 = nI 1 from by decide +kernel, nI_add]
def xk_cd (a b c : Nat) : Nat := 1024 * a + 32 * b + c
def xk_pt (c p : Nat) : Nat := c / 2 ^ (5 * (2 - p)) % 32
def xk_ky (p q r c : Nat) : Nat := xk_cd (xk_pt c p) (xk_pt c q) (xk_pt c r)
def xk_pm (p q r : Nat) : Prop := (p = 0 ∧ q = 1 ∧ r = 2) ∨ (p = 0 ∧ q = 2 ∧ r = 1) ∨ (p = 1 ∧ q = 0 ∧ r = 2) ∨ (p = 1 ∧ q = 2 ∧ r = 0) ∨ (p = 2 ∧ q = 0 ∧ r = 1) ∨ (p = 2 ∧ q = 1 ∧ r = 0)
theorem xk_pt_lt (c p : Nat) : xk_pt c p < 32 := Nat.mod_lt _ (by decide)
theorem xk_cd_lt {a b c : Nat} (ha : a < 32) (hb : b < 32) (hc : c < 32) : xk_cd a b c < 32768 := by unfold xk_cd; omega
theorem xk_ky_lt (p q r c : Nat) : xk_ky p q r c < 32768 := xk_cd_lt (xk_pt_lt _ _) (xk_pt_lt _ _) (xk_pt_lt _ _)
theorem xk_pt0 (c : Nat) : xk_pt c 0 = c / 1024 % 32 := rfl
theorem xk_pt1 (c : Nat) : xk_pt c 1 = c / 32 % 32 := rfl
theorem xk_pt2 (c : Nat) : xk_pt c 2 = c % 32 := by simp [xk_pt]
theorem xk_pt_cd0 {a b c : Nat} (ha : a < 32) (hb : b < 32) (hc : c < 32) : xk_pt (xk_cd a b c) 0 = a := by simp only [xk_cd, xk_pt0]; omega
theorem xk_pt_cd1 {a b c : Nat} (ha : a < 32) (hb : b < 32) (hc : c < 32) : xk_pt (xk_cd a b c) 1 = b := by simp only [xk_cd, xk_pt1]; omega
theorem xk_pt_cd2 {a b c : Nat} (ha : a < 32) (hb : b < 32) (hc : c < 32) : xk_pt (xk_cd a b c) 2 = c := by simp only [xk_cd, xk_pt2]; omega
theorem xk_split {c : Nat} (hc : c < 32768) : ∃ a b e, a < 32 ∧ b < 32 ∧ e < 32 ∧ c = xk_cd a b e := by
  refine ⟨c / 1024, c / 32 % 32, c % 32, by omega, by omega, by omega, ?_⟩
  unfold xk_cd
  omega
theorem xk_cd_inj {a b e a' b' e' : Nat} (hb : b < 32) (he : e < 32) (hb' : b' < 32) (he' : e' < 32) (h : xk_cd a b e = xk_cd a' b' e') : a = a' ∧ b = b' ∧ e = e' := by
  unfold xk_cd at h
  omega
theorem xk_ky_inj {p q r c d : Nat} (h : xk_pm p q r) (hc : c < 32768) (hd : d < 32768) (e : xk_ky p q r c = xk_ky p q r d) : c = d := by
  obtain ⟨a1, a2, a3, h1, h2, h3, rfl⟩ := xk_split hc
  obtain ⟨b1, b2, b3, g1, g2, g3, rfl⟩ := xk_split hd
  have e := xk_cd_inj (xk_pt_lt _ _) (xk_pt_lt _ _) (xk_pt_lt _ _) (xk_pt_lt _ _) e
  rcases h with ⟨rfl, rfl, rfl⟩ | ⟨rfl, rfl, rfl⟩ | ⟨rfl, rfl, rfl⟩ | ⟨rfl, rfl, rfl⟩ | ⟨rfl, rfl, rfl⟩ | ⟨rfl, rfl, rfl⟩ <;> (simp only [xk_pt_cd0 h1 h2 h3, xk_pt_cd1 h1 h2 h3, xk_pt_cd2 h1 h2 h3, xk_pt_cd0 g1 g2 g3, xk_pt_cd1 g1 g2 g3, xk_pt_cd2 g1 g2 g3] at e; obtain ⟨rfl, rfl, rfl⟩ := e; rfl)
theorem xk_ky_id {c : Nat} (hc : c < 32768) : xk_ky 0 1 2 c = c := by
  obtain ⟨a1, a2, a3, h1, h2, h3, rfl⟩ := xk_split hc
  simp only [xk_ky, xk_pt_cd0 h1 h2 h3, xk_pt_cd1 h1 h2 h3, xk_pt_cd2 h1 h2 h3]
/-- a key's code again -/
def xk_un (p q r k : Nat) : Nat := xk_pt k 0 * 2 ^ (5 * (2 - p)) + xk_pt k 1 * 2 ^ (5 * (2 - q)) + xk_pt k 2 * 2 ^ (5 * (2 - r))
theorem xk_un_ky {p q r k : Nat} (h : xk_pm p q r) (hk : k < 32768) : xk_un p q r k < 32768 ∧ xk_ky p q r (xk_un p q r k) = k := by
  obtain ⟨a, b, c, ha, hb, hc, rfl⟩ := xk_split hk
  unfold xk_un
  simp only [xk_pt_cd0 ha hb hc, xk_pt_cd1 ha hb hc, xk_pt_cd2 ha hb hc]
  have key : ∀ x y z : Nat, x < 32 → y < 32 → z < 32 → ∀ m, m = xk_cd x y z → m < 32768 ∧ xk_pt m 0 = x ∧ xk_pt m 1 = y ∧ xk_pt m 2 = z := by
    intro x y z hx hy hz m hm
    subst hm
    exact ⟨xk_cd_lt hx hy hz, xk_pt_cd0 hx hy hz, xk_pt_cd1 hx hy hz, xk_pt_cd2 hx hy hz⟩
  rcases h with ⟨rfl, rfl, rfl⟩ | ⟨rfl, rfl, rfl⟩ | ⟨rfl, rfl, rfl⟩ | ⟨rfl, rfl, rfl⟩ | ⟨rfl, rfl, rfl⟩ | ⟨rfl, rfl, rfl⟩
  · obtain ⟨h0, h1, h2, h3⟩ := key a b c ha hb hc (a * 2 ^ (5 * (2 - 0)) + b * 2 ^ (5 * (2 - 1)) + c * 2 ^ (5 * (2 - 2))) (by unfold xk_cd; omega)
    exact ⟨h0, by unfold xk_ky; rw [h1, h2, h3]⟩
  · obtain ⟨h0, h1, h2, h3⟩ := key a c b ha hc hb (a * 2 ^ (5 * (2 - 0)) + b * 2 ^ (5 * (2 - 2)) + c * 2 ^ (5 * (2 - 1))) (by unfold xk_cd; omega)
    exact ⟨h0, by unfold xk_ky; rw [h1, h2, h3]⟩
  · obtain ⟨h0, h1, h2, h3⟩ := key b a c hb ha hc (a * 2 ^ (5 * (2 - 1)) + b * 2 ^ (5 * (2 - 0)) + c * 2 ^ (5 * (2 - 2))) (by unfold xk_cd; omega)
    exact ⟨h0, by unfold xk_ky; rw [h1, h2, h3]⟩
  · obtain ⟨h0, h1, h2, h3⟩ := key c a b hc ha hb (a * 2 ^ (5 * (2 - 1)) + b * 2 ^ (5 * (2 - 2)) + c * 2 ^ (5 * (2 - 0))) (by unfold xk_cd; omega)
    exact ⟨h0, by unfold xk_ky; rw [h1, h2, h3]⟩
  · obtain ⟨h0, h1, h2, h3⟩ := key b c a hb hc ha (a * 2 ^ (5 * (2 - 2)) + b * 2 ^ (5 * (2 - 0)) + c * 2 ^ (5 * (2 - 1))) (by unfold xk_cd; omega)
    exact ⟨h0, by unfold xk_ky; rw [h1, h2, h3]⟩
  · obtain ⟨h0, h1, h2, h3⟩ := key c b a hc hb ha (a * 2 ^ (5 * (2 - 2)) + b * 2 ^ (5 * (2 - 1)) + c * 2 ^ (5 * (2 - 0))) (by unfold xk_cd; omega)
    exact ⟨h0, by unfold xk_ky; rw [h1, h2, h3]⟩
/-! a row of numbers without doubles, ascending; what it holds -/
def xo_mem (g : Nat → Nat) (n x : Nat) : Prop := ∃ i, i < n ∧ g i = x
def xo_srt (g : Nat → Nat) (n : Nat) : Prop := ∀ i j, i < j → j < n → g i < g j
def xo_og (f : Nat → Int32) (g : Nat → Nat) (n : Nat) : Prop := ∀ i, i < n → f i = nI (g i) ∧ g i < 32768
/-- r is the place of x in the row -/
def xo_rk (g : Nat → Nat) (n x r : Nat) : Prop := r ≤ n ∧ (∀ i, i < r → g i < x) ∧ (r < n → x ≤ g r)
theorem xo_rk_mem {g : Nat → Nat} {n x r : Nat} (hs : xo_srt g n) (h : xo_rk g n x r) : xo_mem g n x ↔ (r < n ∧ g r = x) := by
  obtain ⟨h1, h2, h3⟩ := h
  constructor
  · rintro ⟨i, hi, rfl⟩
    by_cases hir : i < r
    · have := h2 i hir; omega
    · by_cases hri : r < i
      · have a := hs r i hri hi
        have b := h3 (by omega)
        omega
      · have : i = r := by omega
        subst this
        exact ⟨hi, rfl⟩
  · rintro ⟨a, b⟩
    exact ⟨r, a, b⟩
def xo_ins (g : Nat → Nat) (r x : Nat) : Nat → Nat := fun i => if i < r then g i else if i = r then x else g (i - 1)
def xo_del (g : Nat → Nat) (r : Nat) : Nat → Nat := fun i => if i < r then g i else g (i + 1)
theorem xo_ins_srt {g : Nat → Nat} {n x r : Nat} (hs : xo_srt g n) (h : xo_rk g n x r) (hm : ¬ xo_mem g n x) : xo_srt (xo_ins g r x) (n + 1) := by
  have h0 := fun a b => hm ((xo_rk_mem hs h).mpr ⟨a, b⟩)
  obtain ⟨h1, h2, h3⟩ := h
  intro i j hij hj
  unfold xo_ins
  by_cases a : j < r
  · rw [if_pos (by omega), if_pos a]
    exact hs i j hij (by omega)
  · rw [if_neg a]
    by_cases b : j = r
    · rw [if_pos b, if_pos (by omega)]
      exact h2 i (by omega)
    · rw [if_neg b]
      have hx : x < g r := by
        have h8 := h3 (by omega)
        have h9 : g r ≠ x := h0 (by omega)
        omega
      by_cases c : i < r
      · rw [if_pos c]
        exact hs i (j - 1) (by omega) (by omega)
      · rw [if_neg c]
        by_cases d : i = r
        · rw [if_pos d]
          by_cases e : r = j - 1
          · rw [← e]; exact hx
          · have := hs r (j - 1) (by omega) (by omega)
            omega
        · rw [if_neg d]
          exact hs (i - 1) (j - 1) (by omega) (by omega)
theorem xo_ins_mem {g : Nat → Nat} {n x r : Nat} (hr : r ≤ n) (y : Nat) : xo_mem (xo_ins g r x) (n + 1) y ↔ (y = x ∨ xo_mem g n y) := by
  unfold xo_mem xo_ins
  constructor
  · rintro ⟨i, hi, e⟩
    by_cases a : i < r
    · rw [if_pos a] at e
      exact Or.inr ⟨i, by omega, e⟩
    · rw [if_neg a] at e
      by_cases b : i = r
      · rw [if_pos b] at e
        exact Or.inl e.symm
      · rw [if_neg b] at e
        exact Or.inr ⟨i - 1, by omega, e⟩
  · rintro (rfl | ⟨i, hi, e⟩)
    · exact ⟨r, by omega, by rw [if_neg (by omega), if_pos rfl]⟩
    · by_cases a : i < r
      · exact ⟨i, by omega, by rw [if_pos a]; exact e⟩
      · exact ⟨i + 1, by omega, by rw [if_neg (by omega), if_neg (by omega)]; exact e⟩
theorem xo_del_srt {g : Nat → Nat} {n r : Nat} (hs : xo_srt g n) (hr : r < n) : xo_srt (xo_del g r) (n - 1) := by
  intro i j hij hj
  unfold xo_del
  by_cases a : j < r
  · rw [if_pos a, if_pos (by omega)]
    exact hs i j hij (by omega)
  · rw [if_neg a]
    by_cases b : i < r
    · rw [if_pos b]
      exact hs i (j + 1) (by omega) (by omega)
    · rw [if_neg b]
      exact hs (i + 1) (j + 1) (by omega) (by omega)
theorem xo_del_mem {g : Nat → Nat} {n r : Nat} (hs : xo_srt g n) (hr : r < n) (y : Nat) : xo_mem (xo_del g r) (n - 1) y ↔ (xo_mem g n y ∧ y ≠ g r) := by
  unfold xo_mem xo_del
  constructor
  · rintro ⟨i, hi, e⟩
    by_cases a : i < r
    · rw [if_pos a] at e
      have := hs i r a hr
      exact ⟨⟨i, by omega, e⟩, by omega⟩
    · rw [if_neg a] at e
      have := hs r (i + 1) (by omega) (by omega)
      exact ⟨⟨i + 1, by omega, e⟩, by omega⟩
  · rintro ⟨⟨i, hi, e⟩, hy⟩
    have hne : i ≠ r := fun q => hy (by rw [← e, q])
    by_cases a : i < r
    · exact ⟨i, by omega, by rw [if_pos a]; exact e⟩
    · exact ⟨i - 1, by omega, by rw [if_neg (by omega)]; rw [show i - 1 + 1 = i by omega]; exact e⟩
