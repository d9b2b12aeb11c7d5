set_option maxHeartbeats 1000000 in
set_option maxRecDepth 100000 in
theorem mSx_isVariable (l : Launch) (D : va_G) (K : Nat → ClassId) (x : Int32)  : xz_Met l D (tz K) ySx_isVariable cSx_isVariable 1 (some .boolean) { frames := 0, cells := 0, slots := 0, locals := 0 } [.int x] [] (fun v w => ∃ b : Bool, v = some (.int (bI b)) ∧ w = [] ∧ (b = true ↔ (32 ≤ x.toInt ∧ x.toInt < 35))) := by
  refine xz_enter (by decide +kernel) (Nat.le_of_ble_eq_true rfl) ?_
  intro Γ hC
  refine xz_lcs (lc' := [(0, .int x)]) [0] rfl ?_
  refine xz_iload_n hC 0 rfl rfl dSx_isVariable_0 ?_
  refine xz_bipush hC (v := nI 32) (by decide +kernel) dSx_isVariable_1 ?_
  refine xz_icmp_lt hC (tgt := 16) rfl (nI_toInt (by omega)) (by decide) dSx_isVariable_3 (fun h1 => ?_) (fun h1 => ?_)
  · skip
    refine xz_iconst hC (v := bI false) (by decide +kernel) dSx_isVariable_16 ?_
    exact xz_zreturn hC (by decide) (by decide) (⟨_, rfl, rfl, by first | exact xt_t (by omega) | exact xt_f (by omega)⟩) dSx_isVariable_17
  · skip
    refine xz_iload_n hC 0 rfl rfl dSx_isVariable_6 ?_
    refine xz_bipush hC (v := nI 35) (by decide +kernel) dSx_isVariable_7 ?_
    refine xz_icmp_ge hC (tgt := 16) rfl (nI_toInt (by omega)) (by decide) dSx_isVariable_9 (fun h2 => ?_) (fun h2 => ?_)
    · skip
      refine xz_iconst hC (v := bI false) (by decide +kernel) dSx_isVariable_16 ?_
      exact xz_zreturn hC (by decide) (by decide) (⟨_, rfl, rfl, by first | exact xt_t (by omega) | exact xt_f (by omega)⟩) dSx_isVariable_17
    · skip
      refine xz_iconst hC (v := bI true) (by decide +kernel) dSx_isVariable_12 ?_
      refine xz_goto hC (tgt := 17) (by decide) dSx_isVariable_13 ?_
      exact xz_zreturn hC (by decide) (by decide) (⟨_, rfl, rfl, by first | exact xt_t (by omega) | exact xt_f (by omega)⟩) dSx_isVariable_17
set_option maxHeartbeats 1000000 in
set_option maxRecDepth 100000 in
theorem mSx_codeOf (l : Launch) (D : va_G) (K : Nat → ClassId) (a b c : Nat) (ha : a < 32) (hb : b < 32) (hc : c < 32) : xz_Met l D (tz K) ySx_codeOf cSx_codeOf 3 (some .int) { frames := 0, cells := 0, slots := 0, locals := 0 } [.int (nI a), .int (nI b), .int (nI c)] [] (fun v w => v = some (.int (nI (xk_cd a b c))) ∧ w = []) := by
  refine xz_enter (by decide +kernel) (Nat.le_of_ble_eq_true rfl) ?_
  intro Γ hC
  refine xz_lcs (lc' := [(0, .int (nI a)), (1, .int (nI b)), (2, .int (nI c))]) [0, 1, 2] rfl ?_
  refine xz_iload_n hC 0 rfl rfl dSx_codeOf_0 ?_
  refine xz_iconst hC (v := nI 5) (by decide +kernel) dSx_codeOf_1 ?_
  refine xz_ishl hC (z := nI (a * 2 ^ 5)) (xn_shl (by omega) (by omega)) dSx_codeOf_2 ?_
  refine xz_iload_n hC 1 rfl rfl dSx_codeOf_3 ?_
  refine xz_ior hC (z := nI (a * 2 ^ 5 + b)) (xn_orS 5 (by omega)) dSx_codeOf_4 ?_
  refine xz_iconst hC (v := nI 5) (by decide +kernel) dSx_codeOf_5 ?_
  refine xz_ishl hC (z := nI ((a * 2 ^ 5 + b) * 2 ^ 5)) (xn_shl (by omega) (by omega)) dSx_codeOf_6 ?_
  refine xz_iload_n hC 2 rfl rfl dSx_codeOf_7 ?_
  refine xz_ior hC (z := nI ((a * 2 ^ 5 + b) * 2 ^ 5 + c)) (xn_orS 5 (by omega)) dSx_codeOf_8 ?_
  exact xz_ireturn hC (by decide) (by decide) (⟨by rw [show (a * 2 ^ 5 + b) * 2 ^ 5 + c = xk_cd a b c by unfold xk_cd; omega], rfl⟩) dSx_codeOf_9
set_option maxHeartbeats 1000000 in
set_option maxRecDepth 100000 in
theorem mSx_shiftOf (l : Launch) (D : va_G) (K : Nat → ClassId) (p : Nat) (hp : p < 3) : xz_Met l D (tz K) ySx_shiftOf cSx_shiftOf 1 (some .int) { frames := 0, cells := 0, slots := 0, locals := 0 } [.int (nI p)] [] (fun v w => v = some (.int (nI (5 * (2 - p)))) ∧ w = []) := by
  refine xz_enter (by decide +kernel) (Nat.le_of_ble_eq_true rfl) ?_
  intro Γ hC
  refine xz_lcs (lc' := [(0, .int (nI p))]) [0] rfl ?_
  refine xz_iconst hC (v := nI 5) (by decide +kernel) dSx_shiftOf_0 ?_
  refine xz_iconst hC (v := nI 2) (by decide +kernel) dSx_shiftOf_1 ?_
  refine xz_iload_n hC 0 rfl rfl dSx_shiftOf_2 ?_
  refine xz_isub hC (z := nI (2 - p)) (pk_sub (by omega)) dSx_shiftOf_3 ?_
  refine xz_imul hC (z := nI (5 * (2 - p))) (pk_mul _ _) dSx_shiftOf_4 ?_
  exact xz_ireturn hC (by decide) (by decide) (⟨rfl, rfl⟩) dSx_shiftOf_5
set_option maxHeartbeats 1000000 in
set_option maxRecDepth 100000 in
theorem mSx_partOf (l : Launch) (D : va_G) (K : Nat → ClassId) (c p : Nat) (hc : c < 32768) (hp : p < 3) : xz_Met l D (tz K) ySx_partOf cSx_partOf 2 (some .int) { frames := 1, cells := 0, slots := 0, locals := 20 } [.int (nI c), .int (nI p)] [] (fun v w => v = some (.int (nI (xk_pt c p))) ∧ w = []) := by
  refine xz_enter (by decide +kernel) (Nat.le_of_ble_eq_true rfl) ?_
  intro Γ hC
  refine xz_lcs (lc' := [(0, .int (nI c)), (1, .int (nI p))]) [0, 1] rfl ?_
  refine xz_iload_n hC 0 rfl rfl dSx_partOf_0 ?_
  refine xz_iload_n hC 1 rfl rfl dSx_partOf_1 ?_
  refine xz_callS hC (mSx_shiftOf l D K p hp) kSx_shiftOf tq1 tq225 tq226 (host := "") (b := 0) hSx_shiftOf (by decide) [] [] (by decide) rfl (wr := []) rfl (by decide) (by decide) (As := [.int (nI p)]) (rest := [.int (nI c)]) rfl rfl (Nat.le_of_ble_eq_true rfl) (by decide) dSx_partOf_2 (fun v w hq => ?_)
  obtain ⟨rfl, rfl⟩ := hq
  refine xz_ste (st' := [.int (nI (5 * (2 - p))), .int (nI c)]) rfl ?_
  refine xz_wss (ws' := []) [] (by decide) rfl rfl ?_
  refine xz_ishr hC (z := nI (c / 2 ^ (5 * (2 - p)))) (xn_shr (by omega) (by omega)) dSx_partOf_5 ?_
  refine xz_bipush hC (v := nI 31) (by decide +kernel) dSx_partOf_6 ?_
  refine xz_iand hC (z := nI (xk_pt c p)) (xn_31 _ (Nat.lt_of_le_of_lt (Nat.div_le_self _ _) (by omega))) dSx_partOf_8 ?_
  exact xz_ireturn hC (by decide) (by decide) (⟨rfl, rfl⟩) dSx_partOf_9
