/-! words: letters in base 128 -/
def xw_pk (lt : Nat → Nat) : Nat → Nat
  | 0 => 0
  | n + 1 => xw_pk lt n * 128 + lt n
theorem xw_congr {a b : Nat → Nat} : ∀ {n : Nat}, (∀ i, i < n → a i = b i) → xw_pk a n = xw_pk b n
  | 0, _ => rfl
  | n + 1, h => by
    show xw_pk a n * 128 + a n = xw_pk b n * 128 + b n
    rw [xw_congr (n := n) (fun i hi => h i (by omega)), h n (by omega)]
theorem xw_lt {lt : Nat → Nat} : ∀ {n : Nat}, (∀ i, i < n → lt i < 128) → xw_pk lt n < 128 ^ n
  | 0, _ => Nat.zero_lt_one
  | n + 1, h => by
    have a := xw_lt (lt := lt) (n := n) (fun i hi => h i (by omega))
    have b := h n (by omega)
    show xw_pk lt n * 128 + lt n < 128 ^ (n + 1)
    rw [Nat.pow_succ]
    omega
theorem xw_div {lt : Nat → Nat} : ∀ (k : Nat) {n : Nat}, (∀ i, i < n + k → lt i < 128) → xw_pk lt (n + k) / 128 ^ k = xw_pk lt n
  | 0, n, _ => by simp
  | k + 1, n, h => by
    show (xw_pk lt (n + k) * 128 + lt (n + k)) / 128 ^ (k + 1) = _
    have b := h (n + k) (by omega)
    rw [Nat.pow_succ, Nat.mul_comm (128 ^ k) 128, ← Nat.div_div_eq_div_mul]
    rw [show (xw_pk lt (n + k) * 128 + lt (n + k)) / 128 = xw_pk lt (n + k) by omega]
    exact xw_div k (fun i hi => h i (by omega))
/-- the letter at a place -/
theorem xw_at {lt : Nat → Nat} {n i : Nat} (h : ∀ i, i < n → lt i < 128) (hi : i < n) : xw_pk lt n / 128 ^ (n - 1 - i) % 128 = lt i := by
  have e : n = (i + 1) + (n - 1 - i) := by omega
  have a := xw_div (lt := lt) (n - 1 - i) (n := i + 1) (fun j hj => h j (by omega))
  rw [← e] at a
  rw [a]
  show (xw_pk lt i * 128 + lt i) % 128 = lt i
  have := h i hi
  omega
theorem xw_inj {a b : Nat → Nat} : ∀ {n k : Nat}, (∀ i, i < n → 0 < a i ∧ a i < 128) → (∀ i, i < k → 0 < b i ∧ b i < 128) → xw_pk a n = xw_pk b k → n = k ∧ ∀ i, i < n → a i = b i
  | 0, 0, _, _, _ => ⟨rfl, fun i hi => by omega⟩
  | 0, k + 1, _, hb, e => by
    have : (0 : Nat) = xw_pk b k * 128 + b k := e
    have := hb k (by omega)
    omega
  | n + 1, 0, ha, _, e => by
    have : xw_pk a n * 128 + a n = 0 := e
    have := ha n (by omega)
    omega
  | n + 1, k + 1, ha, hb, e => by
    have e1 : xw_pk a n * 128 + a n = xw_pk b k * 128 + b k := e
    have h1 := ha n (by omega)
    have h2 := hb k (by omega)
    have h3 : a n = b k := by omega
    have h4 : xw_pk a n = xw_pk b k := by omega
    obtain ⟨h5, h6⟩ := xw_inj (n := n) (k := k) (fun i hi => ha i (by omega)) (fun i hi => hb i (by omega)) h4
    subst h5
    refine ⟨rfl, fun i hi => ?_⟩
    by_cases z : i = n
    · subst z; exact h3
    · exact h6 i (by omega)
/-! longs as sets of bits -/
def xb_b (x : Int64) (k : Nat) : Bool := x.toBitVec.getLsbD k
theorem xb_0 (k : Nat) : xb_b 0 k = false := by
  show (0 : Int64).toBitVec.getLsbD k = false
  rw [show (0 : Int64).toBitVec = 0#64 from rfl]
  exact BitVec.getLsbD_zero
theorem xb_and (x y : Int64) (k : Nat) : xb_b (x &&& y) k = (xb_b x k && xb_b y k) := by
  show (x &&& y).toBitVec.getLsbD k = _
  rw [Int64.toBitVec_and, BitVec.getLsbD_and]
  rfl
theorem xb_or (x y : Int64) (k : Nat) : xb_b (x ||| y) k = (xb_b x k || xb_b y k) := by
  show (x ||| y).toBitVec.getLsbD k = _
  rw [Int64.toBitVec_or, BitVec.getLsbD_or]
  rfl
theorem xb_z {x : Int64} : x = 0 ↔ ∀ k, k < 64 → xb_b x k = false := by
  constructor
  · rintro rfl k _
    exact xb_0 k
  · intro h
    apply Int64.toBitVec_inj.mp
    apply BitVec.eq_of_getLsbD_eq
    intro i hi
    rw [show (0 : Int64).toBitVec = 0#64 from rfl, BitVec.getLsbD_zero]
    exact h i hi
theorem xb_one : ∀ k, k < 64 → ((1 : Int64) <<< ((nI k).toInt64 &&& 63)).toBitVec = BitVec.twoPow 64 k := by decide +kernel
theorem xb_shl {k : Nat} (hk : k < 64) (j : Nat) : xb_b ((1 : Int64) <<< ((nI k).toInt64 &&& 63)) j = decide (j = k) := by
  show ((1 : Int64) <<< ((nI k).toInt64 &&& 63)).toBitVec.getLsbD j = _
  rw [xb_one k hk, BitVec.getLsbD_twoPow]
  by_cases h : j = k
  · subst h; simp [hk]
  · simp [h, Ne.symm h]
theorem xb_cmp {x y : Int64} : (lg_cmp x y).toInt = 0 ↔ x = y := by
  unfold lg_cmp
  by_cases h1 : y < x
  · simp only [h1, if_true]
    constructor
    · intro h; exact absurd h (by decide +kernel)
    · rintro rfl; exact absurd h1 Int64.lt_irrefl
  · by_cases h2 : x = y
    · simp [h1, h2]
    · simp only [h1, h2, if_false]
      constructor
      · intro h; exact absurd h (by decide +kernel)
      · intro h; exact h.elim
/-! the word that is begun, as a long -/
theorem xw_step {a c : Nat} (ha : a < 2 ^ 40) (hc : c < 128) : (lN a <<< ((nI 7).toInt64 &&& 63)) ||| (nI c).toInt64 = lN (a * 128 + c) := by
  have h1 : lN a <<< ((nI 7).toInt64 &&& 63) = lN (a * 2 ^ 7) := by
    apply Int64.toBitVec_inj.mp
    have hs : ((nI 7).toInt64 &&& 63) = (7 : Int64) := by decide +kernel
    rw [hs]
    rw [Int64.toBitVec_shiftLeft]
    apply BitVec.eq_of_toNat_eq
    have hsm : ((7 : Int64).toBitVec.smod 64) = 7#64 := by decide +kernel
    rw [hsm]
    show (BitVec.ofNat 64 a <<< 7#64).toNat = (BitVec.ofNat 64 (a * 2 ^ 7)).toNat
    rw [BitVec.shiftLeft_eq', BitVec.toNat_shiftLeft]
    simp only [BitVec.toNat_ofNat, Nat.shiftLeft_eq]
    rw [show 7 % 2 ^ 64 = 7 from rfl]
    omega
  rw [h1, nI_l (by omega)]
  apply Int64.toBitVec_inj.mp
  rw [Int64.toBitVec_or]
  show BitVec.ofNat 64 (a * 2 ^ 7) ||| BitVec.ofNat 64 c = BitVec.ofNat 64 (a * 128 + c)
  apply BitVec.eq_of_toNat_eq
  rw [BitVec.toNat_or, BitVec.toNat_ofNat, BitVec.toNat_ofNat, BitVec.toNat_ofNat]
  rw [Nat.mod_eq_of_lt (by omega), Nat.mod_eq_of_lt (by omega), Nat.mod_eq_of_lt (by omega)]
  rw [Nat.mul_comm a, ← Nat.two_pow_add_eq_or_of_lt (i := 7) (by omega)]
/-- a letter out of a long -/
theorem xw_take {a k : Nat} (ha : a < 2 ^ 62) (hk : k < 64) : ((lN a >>> ((nI k).toInt64 &&& 63)).toInt32 &&& nI 127) = nI (a / 2 ^ k % 128) := by
  have hs : ∀ k, k < 64 → ((nI k).toInt64 &&& 63) = lN k := by decide +kernel
  have hd : ∀ k, k < 64 → (((lN k).toBitVec.smod 64).toNat) = k := by decide +kernel
  have h1 : lN a >>> ((nI k).toInt64 &&& 63) = lN (a / 2 ^ k) := by
    rw [hs k hk]
    apply Int64.toInt_inj.mp
    have hdl : a / 2 ^ k ≤ a := Nat.div_le_self _ _
    have e : (lN a >>> lN k).toInt = (lN a).toInt >>> k := by
      show ((lN a).toBitVec.sshiftRight ((lN k).toBitVec.smod 64).toNat).toInt = _
      rw [hd k hk, BitVec.toInt_sshiftRight]
      rfl
    rw [e, Int.shiftRight_eq_div_pow, pk_lT (by omega), pk_lT (by omega)]
    rfl
  rw [h1, lN_i, pk_and _ 7 (by decide +kernel)]
  congr 1
  show (BitVec.ofNat 32 (a / 2 ^ k)).toNat % 2 ^ 7 = _
  rw [BitVec.toNat_ofNat]
  omega
