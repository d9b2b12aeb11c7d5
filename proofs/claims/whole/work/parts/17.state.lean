/-! the array classes, and small rows for ends -/
abbrev tz (K : Nat → ClassId) : xz_Y := [(K 0, .int), (K 1, .long), (K 2, .char), (K 3, .boolean), (K 4, .object "SixfoldTriples$Order")]
theorem xt_t {P : Prop} (h : P) : (true = true ↔ P) := ⟨fun _ => h, fun _ => rfl⟩
theorem xt_f {P : Prop} (h : ¬ P) : (false = true ↔ P) := ⟨fun z => absurd z (by decide), fun z => absurd z h⟩
theorem xn_of {x : Int32} {n : Nat} (h0 : 0 ≤ x.toInt) (h1 : x.toInt < n) : ∃ j : Nat, j < n ∧ x = nI j := by
  refine ⟨x.toInt.toNat, by omega, ?_⟩
  have hlt : x.toInt < 2 ^ 31 := Int32.toInt_lt x
  apply Int32.toInt_inj.mp
  rw [nI_toInt (by omega)]
  omega
theorem xn_dec {n : Nat} (h : 0 < n) : nI n + Int32.ofInt (-1) = nI (n - 1) := by
  rw [show Int32.ofInt (-1) = -1 from by decide +kernel]
  exact sb_m1 h
theorem xn_m1 : (-1 : Int32).toInt = -1 := by decide +kernel
theorem xn_m2 : (-2 : Int32).toInt = -2 := by decide +kernel
