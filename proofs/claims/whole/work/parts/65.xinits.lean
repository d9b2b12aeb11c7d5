set_option maxHeartbeats 1000000 in
set_option maxRecDepth 100000 in
theorem mTs_orderOfWay0 (l : Launch) (D : va_G) (K : Nat → ClassId) (tP : Nat)   : xz_MetZ l D (tz K) tP yTs_orderOfWay cTs_orderOfWay 2 (some (.object "SixfoldTriples$Order")) { frames := 2, cells := 2, slots := 65, locals := 43 } [.int (nI 0)] [] (fun v w => ∃ o k, v = some (.ref o) ∧ w = [(o, .inr (1, [.int (nI 0), .int (nI 1), .int (nI 2), .ref k, .int (nI 0)])), (k, .inl (K 0, 60, .inl (fun _ => nI 0)))]) := by
  refine xz_enterZ (by decide +kernel) (Nat.le_of_ble_eq_true rfl) ?_
  intro Γ hC hZ
  refine xz_lcs (lc' := [(0, .int (nI 0))]) [0] rfl ?_
  refine xz_iconst hC (v := nI 3) (by decide +kernel) dTs_orderOfWay_0 ?_
  refine xz_iload_n hC 0 rfl rfl dTs_orderOfWay_1 ?_
  refine xz_imul hC (z := nI 0) (by decide +kernel) dTs_orderOfWay_2 ?_
  refine xz_istore_n hC (lc' := [(1, .int (nI 0)), (0, .int (nI 0))]) rfl (by decide) rfl dTs_orderOfWay_3 ?_
  refine xz_new hC (ci := 1) (fs := [.int (nI 0), .int (nI 0), .int (nI 0), .null, .int (nI 0)]) rfl inOr tyOr tyOr_ok tq48 tq53 tq4 (fun j hj => by rcases (show j = 0 ∨ j = 1 ∨ j = 2 ∨ j = 3 ∨ j = 4 by omega) with rfl | rfl | rfl | rfl | rfl <;> rfl) (by decide) (by decide) dTs_orderOfWay_4 (fun o => ?_)
  refine xz_wse (ws' := [(o, .inr (1, [.int (nI 0), .int (nI 0), .int (nI 0), .null, .int (nI 0)]))]) rfl ?_
  refine xz_dup hC rfl dTs_orderOfWay_7 ?_
  refine xz_getsN hC hZ tq54 dTs_orderOfWay_8 ?_
  refine xz_iload_n hC 0 rfl rfl dTs_orderOfWay_11 ?_
  refine xz_tald hC hZ (v := 0) (by decide) rfl dTs_orderOfWay_12 ?_
  refine xz_getsN hC hZ tq54 dTs_orderOfWay_13 ?_
  refine xz_iload_n hC 0 rfl rfl dTs_orderOfWay_16 ?_
  refine xz_iconst hC (v := nI 1) (by decide +kernel) dTs_orderOfWay_17 ?_
  refine xz_iadd hC (z := nI 1) (by decide +kernel) dTs_orderOfWay_18 ?_
  refine xz_tald hC hZ (v := 1) (by decide) rfl dTs_orderOfWay_19 ?_
  refine xz_getsN hC hZ tq54 dTs_orderOfWay_20 ?_
  refine xz_iload_n hC 0 rfl rfl dTs_orderOfWay_23 ?_
  refine xz_iconst hC (v := nI 2) (by decide +kernel) dTs_orderOfWay_24 ?_
  refine xz_iadd hC (z := nI 2) (by decide +kernel) dTs_orderOfWay_25 ?_
  refine xz_tald hC hZ (v := 2) (by decide) rfl dTs_orderOfWay_26 ?_
  refine xz_callI hC (retC := none) (mOr_init l D K o 0 1 2) kOr_init tq4 tq56 tq57 rfl (b := o) (host := "") hOr_init (by decide) [0] [] (by decide) rfl (wr := []) rfl (by decide) (by decide) (As := [.int (nI 0), .int (nI 1), .int (nI 2)]) (rest := [.ref o]) rfl rfl (Nat.le_of_ble_eq_true rfl) (by decide) dTs_orderOfWay_27 (fun v w hq => ?_)
  obtain ⟨k, rfl, rfl⟩ := hq
  refine xz_ste (st' := [.ref o]) rfl ?_
  refine xz_wss (ws' := [(o, .inr (1, [.int (nI 0), .int (nI 1), .int (nI 2), .ref k, .int (nI 0)])), (k, .inl (K 0, 60, .inl (fun _ => nI 0)))]) [0, 1] (by decide) rfl rfl ?_
  exact xz_areturn hC (by decide) (by decide) (⟨o, k, rfl, rfl⟩) dTs_orderOfWay_30
set_option maxHeartbeats 1000000 in
set_option maxRecDepth 100000 in
theorem mTs_orderOfWay1 (l : Launch) (D : va_G) (K : Nat → ClassId) (tP : Nat)   : xz_MetZ l D (tz K) tP yTs_orderOfWay cTs_orderOfWay 2 (some (.object "SixfoldTriples$Order")) { frames := 2, cells := 2, slots := 65, locals := 43 } [.int (nI 1)] [] (fun v w => ∃ o k, v = some (.ref o) ∧ w = [(o, .inr (1, [.int (nI 0), .int (nI 2), .int (nI 1), .ref k, .int (nI 0)])), (k, .inl (K 0, 60, .inl (fun _ => nI 0)))]) := by
  refine xz_enterZ (by decide +kernel) (Nat.le_of_ble_eq_true rfl) ?_
  intro Γ hC hZ
  refine xz_lcs (lc' := [(0, .int (nI 1))]) [0] rfl ?_
  refine xz_iconst hC (v := nI 3) (by decide +kernel) dTs_orderOfWay_0 ?_
  refine xz_iload_n hC 0 rfl rfl dTs_orderOfWay_1 ?_
  refine xz_imul hC (z := nI 3) (by decide +kernel) dTs_orderOfWay_2 ?_
  refine xz_istore_n hC (lc' := [(1, .int (nI 3)), (0, .int (nI 1))]) rfl (by decide) rfl dTs_orderOfWay_3 ?_
  refine xz_new hC (ci := 1) (fs := [.int (nI 0), .int (nI 0), .int (nI 0), .null, .int (nI 0)]) rfl inOr tyOr tyOr_ok tq48 tq53 tq4 (fun j hj => by rcases (show j = 0 ∨ j = 1 ∨ j = 2 ∨ j = 3 ∨ j = 4 by omega) with rfl | rfl | rfl | rfl | rfl <;> rfl) (by decide) (by decide) dTs_orderOfWay_4 (fun o => ?_)
  refine xz_wse (ws' := [(o, .inr (1, [.int (nI 0), .int (nI 0), .int (nI 0), .null, .int (nI 0)]))]) rfl ?_
  refine xz_dup hC rfl dTs_orderOfWay_7 ?_
  refine xz_getsN hC hZ tq54 dTs_orderOfWay_8 ?_
  refine xz_iload_n hC 0 rfl rfl dTs_orderOfWay_11 ?_
  refine xz_tald hC hZ (v := 0) (by decide) rfl dTs_orderOfWay_12 ?_
  refine xz_getsN hC hZ tq54 dTs_orderOfWay_13 ?_
  refine xz_iload_n hC 0 rfl rfl dTs_orderOfWay_16 ?_
  refine xz_iconst hC (v := nI 1) (by decide +kernel) dTs_orderOfWay_17 ?_
  refine xz_iadd hC (z := nI 4) (by decide +kernel) dTs_orderOfWay_18 ?_
  refine xz_tald hC hZ (v := 2) (by decide) rfl dTs_orderOfWay_19 ?_
  refine xz_getsN hC hZ tq54 dTs_orderOfWay_20 ?_
  refine xz_iload_n hC 0 rfl rfl dTs_orderOfWay_23 ?_
  refine xz_iconst hC (v := nI 2) (by decide +kernel) dTs_orderOfWay_24 ?_
  refine xz_iadd hC (z := nI 5) (by decide +kernel) dTs_orderOfWay_25 ?_
  refine xz_tald hC hZ (v := 1) (by decide) rfl dTs_orderOfWay_26 ?_
  refine xz_callI hC (retC := none) (mOr_init l D K o 0 2 1) kOr_init tq4 tq56 tq57 rfl (b := o) (host := "") hOr_init (by decide) [0] [] (by decide) rfl (wr := []) rfl (by decide) (by decide) (As := [.int (nI 0), .int (nI 2), .int (nI 1)]) (rest := [.ref o]) rfl rfl (Nat.le_of_ble_eq_true rfl) (by decide) dTs_orderOfWay_27 (fun v w hq => ?_)
  obtain ⟨k, rfl, rfl⟩ := hq
  refine xz_ste (st' := [.ref o]) rfl ?_
  refine xz_wss (ws' := [(o, .inr (1, [.int (nI 0), .int (nI 2), .int (nI 1), .ref k, .int (nI 0)])), (k, .inl (K 0, 60, .inl (fun _ => nI 0)))]) [0, 1] (by decide) rfl rfl ?_
  exact xz_areturn hC (by decide) (by decide) (⟨o, k, rfl, rfl⟩) dTs_orderOfWay_30
set_option maxHeartbeats 1000000 in
set_option maxRecDepth 100000 in
theorem mTs_orderOfWay2 (l : Launch) (D : va_G) (K : Nat → ClassId) (tP : Nat)   : xz_MetZ l D (tz K) tP yTs_orderOfWay cTs_orderOfWay 2 (some (.object "SixfoldTriples$Order")) { frames := 2, cells := 2, slots := 65, locals := 43 } [.int (nI 2)] [] (fun v w => ∃ o k, v = some (.ref o) ∧ w = [(o, .inr (1, [.int (nI 1), .int (nI 0), .int (nI 2), .ref k, .int (nI 0)])), (k, .inl (K 0, 60, .inl (fun _ => nI 0)))]) := by
  refine xz_enterZ (by decide +kernel) (Nat.le_of_ble_eq_true rfl) ?_
  intro Γ hC hZ
  refine xz_lcs (lc' := [(0, .int (nI 2))]) [0] rfl ?_
  refine xz_iconst hC (v := nI 3) (by decide +kernel) dTs_orderOfWay_0 ?_
  refine xz_iload_n hC 0 rfl rfl dTs_orderOfWay_1 ?_
  refine xz_imul hC (z := nI 6) (by decide +kernel) dTs_orderOfWay_2 ?_
  refine xz_istore_n hC (lc' := [(1, .int (nI 6)), (0, .int (nI 2))]) rfl (by decide) rfl dTs_orderOfWay_3 ?_
  refine xz_new hC (ci := 1) (fs := [.int (nI 0), .int (nI 0), .int (nI 0), .null, .int (nI 0)]) rfl inOr tyOr tyOr_ok tq48 tq53 tq4 (fun j hj => by rcases (show j = 0 ∨ j = 1 ∨ j = 2 ∨ j = 3 ∨ j = 4 by omega) with rfl | rfl | rfl | rfl | rfl <;> rfl) (by decide) (by decide) dTs_orderOfWay_4 (fun o => ?_)
  refine xz_wse (ws' := [(o, .inr (1, [.int (nI 0), .int (nI 0), .int (nI 0), .null, .int (nI 0)]))]) rfl ?_
  refine xz_dup hC rfl dTs_orderOfWay_7 ?_
  refine xz_getsN hC hZ tq54 dTs_orderOfWay_8 ?_
  refine xz_iload_n hC 0 rfl rfl dTs_orderOfWay_11 ?_
  refine xz_tald hC hZ (v := 1) (by decide) rfl dTs_orderOfWay_12 ?_
  refine xz_getsN hC hZ tq54 dTs_orderOfWay_13 ?_
  refine xz_iload_n hC 0 rfl rfl dTs_orderOfWay_16 ?_
  refine xz_iconst hC (v := nI 1) (by decide +kernel) dTs_orderOfWay_17 ?_
  refine xz_iadd hC (z := nI 7) (by decide +kernel) dTs_orderOfWay_18 ?_
  refine xz_tald hC hZ (v := 0) (by decide) rfl dTs_orderOfWay_19 ?_
  refine xz_getsN hC hZ tq54 dTs_orderOfWay_20 ?_
  refine xz_iload_n hC 0 rfl rfl dTs_orderOfWay_23 ?_
  refine xz_iconst hC (v := nI 2) (by decide +kernel) dTs_orderOfWay_24 ?_
  refine xz_iadd hC (z := nI 8) (by decide +kernel) dTs_orderOfWay_25 ?_
  refine xz_tald hC hZ (v := 2) (by decide) rfl dTs_orderOfWay_26 ?_
  refine xz_callI hC (retC := none) (mOr_init l D K o 1 0 2) kOr_init tq4 tq56 tq57 rfl (b := o) (host := "") hOr_init (by decide) [0] [] (by decide) rfl (wr := []) rfl (by decide) (by decide) (As := [.int (nI 1), .int (nI 0), .int (nI 2)]) (rest := [.ref o]) rfl rfl (Nat.le_of_ble_eq_true rfl) (by decide) dTs_orderOfWay_27 (fun v w hq => ?_)
  obtain ⟨k, rfl, rfl⟩ := hq
  refine xz_ste (st' := [.ref o]) rfl ?_
  refine xz_wss (ws' := [(o, .inr (1, [.int (nI 1), .int (nI 0), .int (nI 2), .ref k, .int (nI 0)])), (k, .inl (K 0, 60, .inl (fun _ => nI 0)))]) [0, 1] (by decide) rfl rfl ?_
  exact xz_areturn hC (by decide) (by decide) (⟨o, k, rfl, rfl⟩) dTs_orderOfWay_30
set_option maxHeartbeats 1000000 in
set_option maxRecDepth 100000 in
theorem mTs_orderOfWay3 (l : Launch) (D : va_G) (K : Nat → ClassId) (tP : Nat)   : xz_MetZ l D (tz K) tP yTs_orderOfWay cTs_orderOfWay 2 (some (.object "SixfoldTriples$Order")) { frames := 2, cells := 2, slots := 65, locals := 43 } [.int (nI 3)] [] (fun v w => ∃ o k, v = some (.ref o) ∧ w = [(o, .inr (1, [.int (nI 1), .int (nI 2), .int (nI 0), .ref k, .int (nI 0)])), (k, .inl (K 0, 60, .inl (fun _ => nI 0)))]) := by
  refine xz_enterZ (by decide +kernel) (Nat.le_of_ble_eq_true rfl) ?_
  intro Γ hC hZ
  refine xz_lcs (lc' := [(0, .int (nI 3))]) [0] rfl ?_
  refine xz_iconst hC (v := nI 3) (by decide +kernel) dTs_orderOfWay_0 ?_
  refine xz_iload_n hC 0 rfl rfl dTs_orderOfWay_1 ?_
  refine xz_imul hC (z := nI 9) (by decide +kernel) dTs_orderOfWay_2 ?_
  refine xz_istore_n hC (lc' := [(1, .int (nI 9)), (0, .int (nI 3))]) rfl (by decide) rfl dTs_orderOfWay_3 ?_
  refine xz_new hC (ci := 1) (fs := [.int (nI 0), .int (nI 0), .int (nI 0), .null, .int (nI 0)]) rfl inOr tyOr tyOr_ok tq48 tq53 tq4 (fun j hj => by rcases (show j = 0 ∨ j = 1 ∨ j = 2 ∨ j = 3 ∨ j = 4 by omega) with rfl | rfl | rfl | rfl | rfl <;> rfl) (by decide) (by decide) dTs_orderOfWay_4 (fun o => ?_)
  refine xz_wse (ws' := [(o, .inr (1, [.int (nI 0), .int (nI 0), .int (nI 0), .null, .int (nI 0)]))]) rfl ?_
  refine xz_dup hC rfl dTs_orderOfWay_7 ?_
  refine xz_getsN hC hZ tq54 dTs_orderOfWay_8 ?_
  refine xz_iload_n hC 0 rfl rfl dTs_orderOfWay_11 ?_
  refine xz_tald hC hZ (v := 1) (by decide) rfl dTs_orderOfWay_12 ?_
  refine xz_getsN hC hZ tq54 dTs_orderOfWay_13 ?_
  refine xz_iload_n hC 0 rfl rfl dTs_orderOfWay_16 ?_
  refine xz_iconst hC (v := nI 1) (by decide +kernel) dTs_orderOfWay_17 ?_
  refine xz_iadd hC (z := nI 10) (by decide +kernel) dTs_orderOfWay_18 ?_
  refine xz_tald hC hZ (v := 2) (by decide) rfl dTs_orderOfWay_19 ?_
  refine xz_getsN hC hZ tq54 dTs_orderOfWay_20 ?_
  refine xz_iload_n hC 0 rfl rfl dTs_orderOfWay_23 ?_
  refine xz_iconst hC (v := nI 2) (by decide +kernel) dTs_orderOfWay_24 ?_
  refine xz_iadd hC (z := nI 11) (by decide +kernel) dTs_orderOfWay_25 ?_
  refine xz_tald hC hZ (v := 0) (by decide) rfl dTs_orderOfWay_26 ?_
  refine xz_callI hC (retC := none) (mOr_init l D K o 1 2 0) kOr_init tq4 tq56 tq57 rfl (b := o) (host := "") hOr_init (by decide) [0] [] (by decide) rfl (wr := []) rfl (by decide) (by decide) (As := [.int (nI 1), .int (nI 2), .int (nI 0)]) (rest := [.ref o]) rfl rfl (Nat.le_of_ble_eq_true rfl) (by decide) dTs_orderOfWay_27 (fun v w hq => ?_)
  obtain ⟨k, rfl, rfl⟩ := hq
  refine xz_ste (st' := [.ref o]) rfl ?_
  refine xz_wss (ws' := [(o, .inr (1, [.int (nI 1), .int (nI 2), .int (nI 0), .ref k, .int (nI 0)])), (k, .inl (K 0, 60, .inl (fun _ => nI 0)))]) [0, 1] (by decide) rfl rfl ?_
  exact xz_areturn hC (by decide) (by decide) (⟨o, k, rfl, rfl⟩) dTs_orderOfWay_30
set_option maxHeartbeats 1000000 in
set_option maxRecDepth 100000 in
theorem mTs_orderOfWay4 (l : Launch) (D : va_G) (K : Nat → ClassId) (tP : Nat)   : xz_MetZ l D (tz K) tP yTs_orderOfWay cTs_orderOfWay 2 (some (.object "SixfoldTriples$Order")) { frames := 2, cells := 2, slots := 65, locals := 43 } [.int (nI 4)] [] (fun v w => ∃ o k, v = some (.ref o) ∧ w = [(o, .inr (1, [.int (nI 2), .int (nI 0), .int (nI 1), .ref k, .int (nI 0)])), (k, .inl (K 0, 60, .inl (fun _ => nI 0)))]) := by
  refine xz_enterZ (by decide +kernel) (Nat.le_of_ble_eq_true rfl) ?_
  intro Γ hC hZ
  refine xz_lcs (lc' := [(0, .int (nI 4))]) [0] rfl ?_
  refine xz_iconst hC (v := nI 3) (by decide +kernel) dTs_orderOfWay_0 ?_
  refine xz_iload_n hC 0 rfl rfl dTs_orderOfWay_1 ?_
  refine xz_imul hC (z := nI 12) (by decide +kernel) dTs_orderOfWay_2 ?_
  refine xz_istore_n hC (lc' := [(1, .int (nI 12)), (0, .int (nI 4))]) rfl (by decide) rfl dTs_orderOfWay_3 ?_
  refine xz_new hC (ci := 1) (fs := [.int (nI 0), .int (nI 0), .int (nI 0), .null, .int (nI 0)]) rfl inOr tyOr tyOr_ok tq48 tq53 tq4 (fun j hj => by rcases (show j = 0 ∨ j = 1 ∨ j = 2 ∨ j = 3 ∨ j = 4 by omega) with rfl | rfl | rfl | rfl | rfl <;> rfl) (by decide) (by decide) dTs_orderOfWay_4 (fun o => ?_)
  refine xz_wse (ws' := [(o, .inr (1, [.int (nI 0), .int (nI 0), .int (nI 0), .null, .int (nI 0)]))]) rfl ?_
  refine xz_dup hC rfl dTs_orderOfWay_7 ?_
  refine xz_getsN hC hZ tq54 dTs_orderOfWay_8 ?_
  refine xz_iload_n hC 0 rfl rfl dTs_orderOfWay_11 ?_
  refine xz_tald hC hZ (v := 2) (by decide) rfl dTs_orderOfWay_12 ?_
  refine xz_getsN hC hZ tq54 dTs_orderOfWay_13 ?_
  refine xz_iload_n hC 0 rfl rfl dTs_orderOfWay_16 ?_
  refine xz_iconst hC (v := nI 1) (by decide +kernel) dTs_orderOfWay_17 ?_
  refine xz_iadd hC (z := nI 13) (by decide +kernel) dTs_orderOfWay_18 ?_
  refine xz_tald hC hZ (v := 0) (by decide) rfl dTs_orderOfWay_19 ?_
  refine xz_getsN hC hZ tq54 dTs_orderOfWay_20 ?_
  refine xz_iload_n hC 0 rfl rfl dTs_orderOfWay_23 ?_
  refine xz_iconst hC (v := nI 2) (by decide +kernel) dTs_orderOfWay_24 ?_
  refine xz_iadd hC (z := nI 14) (by decide +kernel) dTs_orderOfWay_25 ?_
  refine xz_tald hC hZ (v := 1) (by decide) rfl dTs_orderOfWay_26 ?_
  refine xz_callI hC (retC := none) (mOr_init l D K o 2 0 1) kOr_init tq4 tq56 tq57 rfl (b := o) (host := "") hOr_init (by decide) [0] [] (by decide) rfl (wr := []) rfl (by decide) (by decide) (As := [.int (nI 2), .int (nI 0), .int (nI 1)]) (rest := [.ref o]) rfl rfl (Nat.le_of_ble_eq_true rfl) (by decide) dTs_orderOfWay_27 (fun v w hq => ?_)
  obtain ⟨k, rfl, rfl⟩ := hq
  refine xz_ste (st' := [.ref o]) rfl ?_
  refine xz_wss (ws' := [(o, .inr (1, [.int (nI 2), .int (nI 0), .int (nI 1), .ref k, .int (nI 0)])), (k, .inl (K 0, 60, .inl (fun _ => nI 0)))]) [0, 1] (by decide) rfl rfl ?_
  exact xz_areturn hC (by decide) (by decide) (⟨o, k, rfl, rfl⟩) dTs_orderOfWay_30
set_option maxHeartbeats 1000000 in
set_option maxRecDepth 100000 in
theorem mTs_orderOfWay5 (l : Launch) (D : va_G) (K : Nat → ClassId) (tP : Nat)   : xz_MetZ l D (tz K) tP yTs_orderOfWay cTs_orderOfWay 2 (some (.object "SixfoldTriples$Order")) { frames := 2, cells := 2, slots := 65, locals := 43 } [.int (nI 5)] [] (fun v w => ∃ o k, v = some (.ref o) ∧ w = [(o, .inr (1, [.int (nI 2), .int (nI 1), .int (nI 0), .ref k, .int (nI 0)])), (k, .inl (K 0, 60, .inl (fun _ => nI 0)))]) := by
  refine xz_enterZ (by decide +kernel) (Nat.le_of_ble_eq_true rfl) ?_
  intro Γ hC hZ
  refine xz_lcs (lc' := [(0, .int (nI 5))]) [0] rfl ?_
  refine xz_iconst hC (v := nI 3) (by decide +kernel) dTs_orderOfWay_0 ?_
  refine xz_iload_n hC 0 rfl rfl dTs_orderOfWay_1 ?_
  refine xz_imul hC (z := nI 15) (by decide +kernel) dTs_orderOfWay_2 ?_
  refine xz_istore_n hC (lc' := [(1, .int (nI 15)), (0, .int (nI 5))]) rfl (by decide) rfl dTs_orderOfWay_3 ?_
  refine xz_new hC (ci := 1) (fs := [.int (nI 0), .int (nI 0), .int (nI 0), .null, .int (nI 0)]) rfl inOr tyOr tyOr_ok tq48 tq53 tq4 (fun j hj => by rcases (show j = 0 ∨ j = 1 ∨ j = 2 ∨ j = 3 ∨ j = 4 by omega) with rfl | rfl | rfl | rfl | rfl <;> rfl) (by decide) (by decide) dTs_orderOfWay_4 (fun o => ?_)
  refine xz_wse (ws' := [(o, .inr (1, [.int (nI 0), .int (nI 0), .int (nI 0), .null, .int (nI 0)]))]) rfl ?_
  refine xz_dup hC rfl dTs_orderOfWay_7 ?_
  refine xz_getsN hC hZ tq54 dTs_orderOfWay_8 ?_
  refine xz_iload_n hC 0 rfl rfl dTs_orderOfWay_11 ?_
  refine xz_tald hC hZ (v := 2) (by decide) rfl dTs_orderOfWay_12 ?_
  refine xz_getsN hC hZ tq54 dTs_orderOfWay_13 ?_
  refine xz_iload_n hC 0 rfl rfl dTs_orderOfWay_16 ?_
  refine xz_iconst hC (v := nI 1) (by decide +kernel) dTs_orderOfWay_17 ?_
  refine xz_iadd hC (z := nI 16) (by decide +kernel) dTs_orderOfWay_18 ?_
  refine xz_tald hC hZ (v := 1) (by decide) rfl dTs_orderOfWay_19 ?_
  refine xz_getsN hC hZ tq54 dTs_orderOfWay_20 ?_
  refine xz_iload_n hC 0 rfl rfl dTs_orderOfWay_23 ?_
  refine xz_iconst hC (v := nI 2) (by decide +kernel) dTs_orderOfWay_24 ?_
  refine xz_iadd hC (z := nI 17) (by decide +kernel) dTs_orderOfWay_25 ?_
  refine xz_tald hC hZ (v := 0) (by decide) rfl dTs_orderOfWay_26 ?_
  refine xz_callI hC (retC := none) (mOr_init l D K o 2 1 0) kOr_init tq4 tq56 tq57 rfl (b := o) (host := "") hOr_init (by decide) [0] [] (by decide) rfl (wr := []) rfl (by decide) (by decide) (As := [.int (nI 2), .int (nI 1), .int (nI 0)]) (rest := [.ref o]) rfl rfl (Nat.le_of_ble_eq_true rfl) (by decide) dTs_orderOfWay_27 (fun v w hq => ?_)
  obtain ⟨k, rfl, rfl⟩ := hq
  refine xz_ste (st' := [.ref o]) rfl ?_
  refine xz_wss (ws' := [(o, .inr (1, [.int (nI 2), .int (nI 1), .int (nI 0), .ref k, .int (nI 0)])), (k, .inl (K 0, 60, .inl (fun _ => nI 0)))]) [0, 1] (by decide) rfl rfl ?_
  exact xz_areturn hC (by decide) (by decide) (⟨o, k, rfl, rfl⟩) dTs_orderOfWay_30
set_option maxHeartbeats 1000000 in
set_option maxRecDepth 100000 in
theorem mTs_init (l : Launch) (D : va_G) (K : Nat → ClassId) (tP : Nat) (ts : Nat)  : xz_MetZ l D (tz K) tP yTs_init cTs_init 2 none { frames := 3, cells := 15, slots := 461, locals := 64 } [.ref ts] [(ts, .inr (4, [.null, .null, .int (nI 0), .int (nI 0)]))] (fun v w => ∃ (pr os ks : Nat) (fa : Nat → Option Nat) (oa ka : Nat → Nat), v = none ∧ w = [(ts, .inr (4, [.ref pr, .ref os, .int (nI 0), .int (nI 0)])), (pr, .inl (K 4, 6, .inr (.inr (.inr (.inr fa))))), (oa 0, .inr (1, [.int (nI 0), .int (nI 1), .int (nI 2), .ref (ka 0), .int (nI 0)])), (ka 0, .inl (K 0, 60, .inl ((fun _ _ => nI 0) 0))), (oa 1, .inr (1, [.int (nI 0), .int (nI 2), .int (nI 1), .ref (ka 1), .int (nI 0)])), (ka 1, .inl (K 0, 60, .inl ((fun _ _ => nI 0) 1))), (oa 2, .inr (1, [.int (nI 1), .int (nI 0), .int (nI 2), .ref (ka 2), .int (nI 0)])), (ka 2, .inl (K 0, 60, .inl ((fun _ _ => nI 0) 2))), (oa 3, .inr (1, [.int (nI 1), .int (nI 2), .int (nI 0), .ref (ka 3), .int (nI 0)])), (ka 3, .inl (K 0, 60, .inl ((fun _ _ => nI 0) 3))), (oa 4, .inr (1, [.int (nI 2), .int (nI 0), .int (nI 1), .ref (ka 4), .int (nI 0)])), (ka 4, .inl (K 0, 60, .inl ((fun _ _ => nI 0) 4))), (oa 5, .inr (1, [.int (nI 2), .int (nI 1), .int (nI 0), .ref (ka 5), .int (nI 0)])), (ka 5, .inl (K 0, 60, .inl ((fun _ _ => nI 0) 5))), (os, .inr (1, [.int (nI 0), .int (nI 1), .int (nI 2), .ref ks, .int (nI 0)])), (ks, .inl (K 0, 60, .inl (fun _ => nI 0)))] ∧ ∀ w, w < 6 → fa w = some (oa w)) := by
  refine xz_enterZ (by decide +kernel) (Nat.le_of_ble_eq_true rfl) ?_
  intro Γ hC hZ
  refine xz_lcs (lc' := [(0, .ref ts)]) [0] rfl ?_
  refine xz_aload_n hC 0 rfl rfl dTs_init_0 ?_
  refine xz_objinit hC tq47 tq15 tq16 (by decide) (Nat.le_of_ble_eq_true rfl) dTs_init_1 ?_
  refine xz_aload_n hC 0 rfl rfl dTs_init_4 ?_
  refine xz_bipush hC (v := nI 6) (by decide +kernel) dTs_init_5 ?_
  refine xz_anewarray hC tq48 4 rfl (N' := 6) (by decide) (by decide) (by decide) (by decide) dTs_init_7 hC.2.2.2.2.2.2.2.2.2.2.2.2.2.2.2 (fun pr => ?_)
  refine xz_wse (ws' := [(ts, .inr (4, [.null, .null, .int (nI 0), .int (nI 0)])), (pr, .inl (K 4, 6, .inr (.inr (.inr (.inr (fun _ => none))))))]) rfl ?_
  refine xz_putF hC 0 rfl rfl 0 (by decide) inTs tq77 rfl tyTs tyTs_ok nmTs rfl rfl rfl rfl rfl (Nat.le_of_ble_eq_true rfl) (ws' := [(ts, .inr (4, [.ref pr, .null, .int (nI 0), .int (nI 0)])), (pr, .inl (K 4, 6, .inr (.inr (.inr (.inr (fun _ => none))))))]) rfl dTs_init_10 ?_
  refine xz_iconst hC (v := nI 0) (by decide +kernel) dTs_init_13 ?_
  refine xz_istore_n hC (lc' := [(1, .int (nI 0)), (0, .ref ts)]) rfl (by decide) rfl dTs_init_14 ?_
  refine xz_iload_n hC 0 rfl rfl dTs_init_15 ?_
  refine xz_bipush hC (v := nI 6) (by decide +kernel) dTs_init_16 ?_
  refine xz_icmp_ge hC (tgt := 37) (nI_toInt (by omega)) (nI_toInt (by omega)) (by decide) dTs_init_18 (fun h1 => ?_) (fun h1 => ?_)
  · skip
    exfalso; omega
  · skip
    refine xz_aload_n hC 1 rfl rfl dTs_init_21 ?_
    refine xz_get hC 0 rfl rfl 0 (by decide) inTs tq77 rfl rfl dTs_init_22 ?_
    refine xz_iload_n hC 0 rfl rfl dTs_init_25 ?_
    refine xz_iload_n hC 0 rfl rfl dTs_init_26 ?_
    refine xz_callSZ hC hZ (mTs_orderOfWay0 l D K tP ) kTs_orderOfWay tq3 tq50 tq51 hTs_orderOfWay (by decide) [] [0, 1] (by decide) rfl (wr := [(ts, .inr (4, [.ref pr, .null, .int (nI 0), .int (nI 0)])), (pr, .inl (K 4, 6, .inr (.inr (.inr (.inr (fun _ => none))))))]) rfl (by decide) (by decide) (rest := [.int (nI 0), .ref pr]) rfl (Nat.le_of_ble_eq_true rfl) (by decide) dTs_init_27 (fun v w hq => ?_)
    obtain ⟨o0, k0, rfl, rfl⟩ := hq
    refine xz_ste (st' := [.ref o0, .int (nI 0), .ref pr]) rfl ?_
    refine xz_wss (ws' := [(ts, .inr (4, [.ref pr, .null, .int (nI 0), .int (nI 0)])), (pr, .inl (K 4, 6, .inr (.inr (.inr (.inr (fun _ => none)))))), (o0, .inr (1, [.int (nI 0), .int (nI 1), .int (nI 2), .ref k0, .int (nI 0)])), (k0, .inl (K 0, 60, .inl (fun _ => nI 0)))]) [0, 1, 2, 3] (by decide) rfl rfl ?_
    refine xz_aastore hC 1 4 2 1 (ws' := [(ts, .inr (4, [.ref pr, .null, .int (nI 0), .int (nI 0)])), (pr, .inl (K 4, 6, .inr (.inr (.inr (.inr (va_up (fun _ => none) 0 (some o0))))))), (o0, .inr (1, [.int (nI 0), .int (nI 1), .int (nI 2), .ref k0, .int (nI 0)])), (k0, .inl (K 0, 60, .inl (fun _ => nI 0)))]) rfl rfl rfl rfl (by decide) (by decide) rfl dTs_init_30 ?_
    refine xz_iinc hC 0 (lc' := [(1, .int (nI 1)), (0, .ref ts)]) rfl (xn_inc _) (by decide) rfl dTs_init_31 ?_
    refine xz_goto hC (tgt := 15) (by decide) dTs_init_34 ?_
    refine xz_iload_n hC 0 rfl rfl dTs_init_15 ?_
    refine xz_bipush hC (v := nI 6) (by decide +kernel) dTs_init_16 ?_
    refine xz_icmp_ge hC (tgt := 37) (nI_toInt (by omega)) (nI_toInt (by omega)) (by decide) dTs_init_18 (fun h2 => ?_) (fun h2 => ?_)
    · skip
      exfalso; omega
    · skip
      refine xz_aload_n hC 1 rfl rfl dTs_init_21 ?_
      refine xz_get hC 0 rfl rfl 0 (by decide) inTs tq77 rfl rfl dTs_init_22 ?_
      refine xz_iload_n hC 0 rfl rfl dTs_init_25 ?_
      refine xz_iload_n hC 0 rfl rfl dTs_init_26 ?_
      refine xz_callSZ hC hZ (mTs_orderOfWay1 l D K tP ) kTs_orderOfWay tq3 tq50 tq51 hTs_orderOfWay (by decide) [] [0, 1, 2, 3] (by decide) rfl (wr := [(ts, .inr (4, [.ref pr, .null, .int (nI 0), .int (nI 0)])), (pr, .inl (K 4, 6, .inr (.inr (.inr (.inr (va_up (fun _ => none) 0 (some o0))))))), (o0, .inr (1, [.int (nI 0), .int (nI 1), .int (nI 2), .ref k0, .int (nI 0)])), (k0, .inl (K 0, 60, .inl (fun _ => nI 0)))]) rfl (by decide) (by decide) (rest := [.int (nI 1), .ref pr]) rfl (Nat.le_of_ble_eq_true rfl) (by decide) dTs_init_27 (fun v w hq => ?_)
      obtain ⟨o1, k1, rfl, rfl⟩ := hq
      refine xz_ste (st' := [.ref o1, .int (nI 1), .ref pr]) rfl ?_
      refine xz_wss (ws' := [(ts, .inr (4, [.ref pr, .null, .int (nI 0), .int (nI 0)])), (pr, .inl (K 4, 6, .inr (.inr (.inr (.inr (va_up (fun _ => none) 0 (some o0))))))), (o0, .inr (1, [.int (nI 0), .int (nI 1), .int (nI 2), .ref k0, .int (nI 0)])), (k0, .inl (K 0, 60, .inl (fun _ => nI 0))), (o1, .inr (1, [.int (nI 0), .int (nI 2), .int (nI 1), .ref k1, .int (nI 0)])), (k1, .inl (K 0, 60, .inl (fun _ => nI 0)))]) [0, 1, 2, 3, 4, 5] (by decide) rfl rfl ?_
      refine xz_aastore hC 1 4 4 1 (ws' := [(ts, .inr (4, [.ref pr, .null, .int (nI 0), .int (nI 0)])), (pr, .inl (K 4, 6, .inr (.inr (.inr (.inr (va_up (va_up (fun _ => none) 0 (some o0)) 1 (some o1))))))), (o0, .inr (1, [.int (nI 0), .int (nI 1), .int (nI 2), .ref k0, .int (nI 0)])), (k0, .inl (K 0, 60, .inl (fun _ => nI 0))), (o1, .inr (1, [.int (nI 0), .int (nI 2), .int (nI 1), .ref k1, .int (nI 0)])), (k1, .inl (K 0, 60, .inl (fun _ => nI 0)))]) rfl rfl rfl rfl (by decide) (by decide) rfl dTs_init_30 ?_
      refine xz_iinc hC 0 (lc' := [(1, .int (nI 2)), (0, .ref ts)]) rfl (xn_inc _) (by decide) rfl dTs_init_31 ?_
      refine xz_goto hC (tgt := 15) (by decide) dTs_init_34 ?_
      refine xz_iload_n hC 0 rfl rfl dTs_init_15 ?_
      refine xz_bipush hC (v := nI 6) (by decide +kernel) dTs_init_16 ?_
      refine xz_icmp_ge hC (tgt := 37) (nI_toInt (by omega)) (nI_toInt (by omega)) (by decide) dTs_init_18 (fun h3 => ?_) (fun h3 => ?_)
      · skip
        exfalso; omega
      · skip
        refine xz_aload_n hC 1 rfl rfl dTs_init_21 ?_
        refine xz_get hC 0 rfl rfl 0 (by decide) inTs tq77 rfl rfl dTs_init_22 ?_
        refine xz_iload_n hC 0 rfl rfl dTs_init_25 ?_
        refine xz_iload_n hC 0 rfl rfl dTs_init_26 ?_
        refine xz_callSZ hC hZ (mTs_orderOfWay2 l D K tP ) kTs_orderOfWay tq3 tq50 tq51 hTs_orderOfWay (by decide) [] [0, 1, 2, 3, 4, 5] (by decide) rfl (wr := [(ts, .inr (4, [.ref pr, .null, .int (nI 0), .int (nI 0)])), (pr, .inl (K 4, 6, .inr (.inr (.inr (.inr (va_up (va_up (fun _ => none) 0 (some o0)) 1 (some o1))))))), (o0, .inr (1, [.int (nI 0), .int (nI 1), .int (nI 2), .ref k0, .int (nI 0)])), (k0, .inl (K 0, 60, .inl (fun _ => nI 0))), (o1, .inr (1, [.int (nI 0), .int (nI 2), .int (nI 1), .ref k1, .int (nI 0)])), (k1, .inl (K 0, 60, .inl (fun _ => nI 0)))]) rfl (by decide) (by decide) (rest := [.int (nI 2), .ref pr]) rfl (Nat.le_of_ble_eq_true rfl) (by decide) dTs_init_27 (fun v w hq => ?_)
        obtain ⟨o2, k2, rfl, rfl⟩ := hq
        refine xz_ste (st' := [.ref o2, .int (nI 2), .ref pr]) rfl ?_
        refine xz_wss (ws' := [(ts, .inr (4, [.ref pr, .null, .int (nI 0), .int (nI 0)])), (pr, .inl (K 4, 6, .inr (.inr (.inr (.inr (va_up (va_up (fun _ => none) 0 (some o0)) 1 (some o1))))))), (o0, .inr (1, [.int (nI 0), .int (nI 1), .int (nI 2), .ref k0, .int (nI 0)])), (k0, .inl (K 0, 60, .inl (fun _ => nI 0))), (o1, .inr (1, [.int (nI 0), .int (nI 2), .int (nI 1), .ref k1, .int (nI 0)])), (k1, .inl (K 0, 60, .inl (fun _ => nI 0))), (o2, .inr (1, [.int (nI 1), .int (nI 0), .int (nI 2), .ref k2, .int (nI 0)])), (k2, .inl (K 0, 60, .inl (fun _ => nI 0)))]) [0, 1, 2, 3, 4, 5, 6, 7] (by decide) rfl rfl ?_
        refine xz_aastore hC 1 4 6 1 (ws' := [(ts, .inr (4, [.ref pr, .null, .int (nI 0), .int (nI 0)])), (pr, .inl (K 4, 6, .inr (.inr (.inr (.inr (va_up (va_up (va_up (fun _ => none) 0 (some o0)) 1 (some o1)) 2 (some o2))))))), (o0, .inr (1, [.int (nI 0), .int (nI 1), .int (nI 2), .ref k0, .int (nI 0)])), (k0, .inl (K 0, 60, .inl (fun _ => nI 0))), (o1, .inr (1, [.int (nI 0), .int (nI 2), .int (nI 1), .ref k1, .int (nI 0)])), (k1, .inl (K 0, 60, .inl (fun _ => nI 0))), (o2, .inr (1, [.int (nI 1), .int (nI 0), .int (nI 2), .ref k2, .int (nI 0)])), (k2, .inl (K 0, 60, .inl (fun _ => nI 0)))]) rfl rfl rfl rfl (by decide) (by decide) rfl dTs_init_30 ?_
        refine xz_iinc hC 0 (lc' := [(1, .int (nI 3)), (0, .ref ts)]) rfl (xn_inc _) (by decide) rfl dTs_init_31 ?_
        refine xz_goto hC (tgt := 15) (by decide) dTs_init_34 ?_
        refine xz_iload_n hC 0 rfl rfl dTs_init_15 ?_
        refine xz_bipush hC (v := nI 6) (by decide +kernel) dTs_init_16 ?_
        refine xz_icmp_ge hC (tgt := 37) (nI_toInt (by omega)) (nI_toInt (by omega)) (by decide) dTs_init_18 (fun h4 => ?_) (fun h4 => ?_)
        · skip
          exfalso; omega
        · skip
          refine xz_aload_n hC 1 rfl rfl dTs_init_21 ?_
          refine xz_get hC 0 rfl rfl 0 (by decide) inTs tq77 rfl rfl dTs_init_22 ?_
          refine xz_iload_n hC 0 rfl rfl dTs_init_25 ?_
          refine xz_iload_n hC 0 rfl rfl dTs_init_26 ?_
          refine xz_callSZ hC hZ (mTs_orderOfWay3 l D K tP ) kTs_orderOfWay tq3 tq50 tq51 hTs_orderOfWay (by decide) [] [0, 1, 2, 3, 4, 5, 6, 7] (by decide) rfl (wr := [(ts, .inr (4, [.ref pr, .null, .int (nI 0), .int (nI 0)])), (pr, .inl (K 4, 6, .inr (.inr (.inr (.inr (va_up (va_up (va_up (fun _ => none) 0 (some o0)) 1 (some o1)) 2 (some o2))))))), (o0, .inr (1, [.int (nI 0), .int (nI 1), .int (nI 2), .ref k0, .int (nI 0)])), (k0, .inl (K 0, 60, .inl (fun _ => nI 0))), (o1, .inr (1, [.int (nI 0), .int (nI 2), .int (nI 1), .ref k1, .int (nI 0)])), (k1, .inl (K 0, 60, .inl (fun _ => nI 0))), (o2, .inr (1, [.int (nI 1), .int (nI 0), .int (nI 2), .ref k2, .int (nI 0)])), (k2, .inl (K 0, 60, .inl (fun _ => nI 0)))]) rfl (by decide) (by decide) (rest := [.int (nI 3), .ref pr]) rfl (Nat.le_of_ble_eq_true rfl) (by decide) dTs_init_27 (fun v w hq => ?_)
          obtain ⟨o3, k3, rfl, rfl⟩ := hq
          refine xz_ste (st' := [.ref o3, .int (nI 3), .ref pr]) rfl ?_
          refine xz_wss (ws' := [(ts, .inr (4, [.ref pr, .null, .int (nI 0), .int (nI 0)])), (pr, .inl (K 4, 6, .inr (.inr (.inr (.inr (va_up (va_up (va_up (fun _ => none) 0 (some o0)) 1 (some o1)) 2 (some o2))))))), (o0, .inr (1, [.int (nI 0), .int (nI 1), .int (nI 2), .ref k0, .int (nI 0)])), (k0, .inl (K 0, 60, .inl (fun _ => nI 0))), (o1, .inr (1, [.int (nI 0), .int (nI 2), .int (nI 1), .ref k1, .int (nI 0)])), (k1, .inl (K 0, 60, .inl (fun _ => nI 0))), (o2, .inr (1, [.int (nI 1), .int (nI 0), .int (nI 2), .ref k2, .int (nI 0)])), (k2, .inl (K 0, 60, .inl (fun _ => nI 0))), (o3, .inr (1, [.int (nI 1), .int (nI 2), .int (nI 0), .ref k3, .int (nI 0)])), (k3, .inl (K 0, 60, .inl (fun _ => nI 0)))]) [0, 1, 2, 3, 4, 5, 6, 7, 8, 9] (by decide) rfl rfl ?_
          refine xz_aastore hC 1 4 8 1 (ws' := [(ts, .inr (4, [.ref pr, .null, .int (nI 0), .int (nI 0)])), (pr, .inl (K 4, 6, .inr (.inr (.inr (.inr (va_up (va_up (va_up (va_up (fun _ => none) 0 (some o0)) 1 (some o1)) 2 (some o2)) 3 (some o3))))))), (o0, .inr (1, [.int (nI 0), .int (nI 1), .int (nI 2), .ref k0, .int (nI 0)])), (k0, .inl (K 0, 60, .inl (fun _ => nI 0))), (o1, .inr (1, [.int (nI 0), .int (nI 2), .int (nI 1), .ref k1, .int (nI 0)])), (k1, .inl (K 0, 60, .inl (fun _ => nI 0))), (o2, .inr (1, [.int (nI 1), .int (nI 0), .int (nI 2), .ref k2, .int (nI 0)])), (k2, .inl (K 0, 60, .inl (fun _ => nI 0))), (o3, .inr (1, [.int (nI 1), .int (nI 2), .int (nI 0), .ref k3, .int (nI 0)])), (k3, .inl (K 0, 60, .inl (fun _ => nI 0)))]) rfl rfl rfl rfl (by decide) (by decide) rfl dTs_init_30 ?_
          refine xz_iinc hC 0 (lc' := [(1, .int (nI 4)), (0, .ref ts)]) rfl (xn_inc _) (by decide) rfl dTs_init_31 ?_
          refine xz_goto hC (tgt := 15) (by decide) dTs_init_34 ?_
          refine xz_iload_n hC 0 rfl rfl dTs_init_15 ?_
          refine xz_bipush hC (v := nI 6) (by decide +kernel) dTs_init_16 ?_
          refine xz_icmp_ge hC (tgt := 37) (nI_toInt (by omega)) (nI_toInt (by omega)) (by decide) dTs_init_18 (fun h5 => ?_) (fun h5 => ?_)
          · skip
            exfalso; omega
          · skip
            refine xz_aload_n hC 1 rfl rfl dTs_init_21 ?_
            refine xz_get hC 0 rfl rfl 0 (by decide) inTs tq77 rfl rfl dTs_init_22 ?_
            refine xz_iload_n hC 0 rfl rfl dTs_init_25 ?_
            refine xz_iload_n hC 0 rfl rfl dTs_init_26 ?_
            refine xz_callSZ hC hZ (mTs_orderOfWay4 l D K tP ) kTs_orderOfWay tq3 tq50 tq51 hTs_orderOfWay (by decide) [] [0, 1, 2, 3, 4, 5, 6, 7, 8, 9] (by decide) rfl (wr := [(ts, .inr (4, [.ref pr, .null, .int (nI 0), .int (nI 0)])), (pr, .inl (K 4, 6, .inr (.inr (.inr (.inr (va_up (va_up (va_up (va_up (fun _ => none) 0 (some o0)) 1 (some o1)) 2 (some o2)) 3 (some o3))))))), (o0, .inr (1, [.int (nI 0), .int (nI 1), .int (nI 2), .ref k0, .int (nI 0)])), (k0, .inl (K 0, 60, .inl (fun _ => nI 0))), (o1, .inr (1, [.int (nI 0), .int (nI 2), .int (nI 1), .ref k1, .int (nI 0)])), (k1, .inl (K 0, 60, .inl (fun _ => nI 0))), (o2, .inr (1, [.int (nI 1), .int (nI 0), .int (nI 2), .ref k2, .int (nI 0)])), (k2, .inl (K 0, 60, .inl (fun _ => nI 0))), (o3, .inr (1, [.int (nI 1), .int (nI 2), .int (nI 0), .ref k3, .int (nI 0)])), (k3, .inl (K 0, 60, .inl (fun _ => nI 0)))]) rfl (by decide) (by decide) (rest := [.int (nI 4), .ref pr]) rfl (Nat.le_of_ble_eq_true rfl) (by decide) dTs_init_27 (fun v w hq => ?_)
            obtain ⟨o4, k4, rfl, rfl⟩ := hq
            refine xz_ste (st' := [.ref o4, .int (nI 4), .ref pr]) rfl ?_
            refine xz_wss (ws' := [(ts, .inr (4, [.ref pr, .null, .int (nI 0), .int (nI 0)])), (pr, .inl (K 4, 6, .inr (.inr (.inr (.inr (va_up (va_up (va_up (va_up (fun _ => none) 0 (some o0)) 1 (some o1)) 2 (some o2)) 3 (some o3))))))), (o0, .inr (1, [.int (nI 0), .int (nI 1), .int (nI 2), .ref k0, .int (nI 0)])), (k0, .inl (K 0, 60, .inl (fun _ => nI 0))), (o1, .inr (1, [.int (nI 0), .int (nI 2), .int (nI 1), .ref k1, .int (nI 0)])), (k1, .inl (K 0, 60, .inl (fun _ => nI 0))), (o2, .inr (1, [.int (nI 1), .int (nI 0), .int (nI 2), .ref k2, .int (nI 0)])), (k2, .inl (K 0, 60, .inl (fun _ => nI 0))), (o3, .inr (1, [.int (nI 1), .int (nI 2), .int (nI 0), .ref k3, .int (nI 0)])), (k3, .inl (K 0, 60, .inl (fun _ => nI 0))), (o4, .inr (1, [.int (nI 2), .int (nI 0), .int (nI 1), .ref k4, .int (nI 0)])), (k4, .inl (K 0, 60, .inl (fun _ => nI 0)))]) [0, 1, 2, 3, 4, 5, 6, 7, 8, 9, 10, 11] (by decide) rfl rfl ?_
            refine xz_aastore hC 1 4 10 1 (ws' := [(ts, .inr (4, [.ref pr, .null, .int (nI 0), .int (nI 0)])), (pr, .inl (K 4, 6, .inr (.inr (.inr (.inr (va_up (va_up (va_up (va_up (va_up (fun _ => none) 0 (some o0)) 1 (some o1)) 2 (some o2)) 3 (some o3)) 4 (some o4))))))), (o0, .inr (1, [.int (nI 0), .int (nI 1), .int (nI 2), .ref k0, .int (nI 0)])), (k0, .inl (K 0, 60, .inl (fun _ => nI 0))), (o1, .inr (1, [.int (nI 0), .int (nI 2), .int (nI 1), .ref k1, .int (nI 0)])), (k1, .inl (K 0, 60, .inl (fun _ => nI 0))), (o2, .inr (1, [.int (nI 1), .int (nI 0), .int (nI 2), .ref k2, .int (nI 0)])), (k2, .inl (K 0, 60, .inl (fun _ => nI 0))), (o3, .inr (1, [.int (nI 1), .int (nI 2), .int (nI 0), .ref k3, .int (nI 0)])), (k3, .inl (K 0, 60, .inl (fun _ => nI 0))), (o4, .inr (1, [.int (nI 2), .int (nI 0), .int (nI 1), .ref k4, .int (nI 0)])), (k4, .inl (K 0, 60, .inl (fun _ => nI 0)))]) rfl rfl rfl rfl (by decide) (by decide) rfl dTs_init_30 ?_
            refine xz_iinc hC 0 (lc' := [(1, .int (nI 5)), (0, .ref ts)]) rfl (xn_inc _) (by decide) rfl dTs_init_31 ?_
            refine xz_goto hC (tgt := 15) (by decide) dTs_init_34 ?_
            refine xz_iload_n hC 0 rfl rfl dTs_init_15 ?_
            refine xz_bipush hC (v := nI 6) (by decide +kernel) dTs_init_16 ?_
            refine xz_icmp_ge hC (tgt := 37) (nI_toInt (by omega)) (nI_toInt (by omega)) (by decide) dTs_init_18 (fun h6 => ?_) (fun h6 => ?_)
            · skip
              exfalso; omega
            · skip
              refine xz_aload_n hC 1 rfl rfl dTs_init_21 ?_
              refine xz_get hC 0 rfl rfl 0 (by decide) inTs tq77 rfl rfl dTs_init_22 ?_
              refine xz_iload_n hC 0 rfl rfl dTs_init_25 ?_
              refine xz_iload_n hC 0 rfl rfl dTs_init_26 ?_
              refine xz_callSZ hC hZ (mTs_orderOfWay5 l D K tP ) kTs_orderOfWay tq3 tq50 tq51 hTs_orderOfWay (by decide) [] [0, 1, 2, 3, 4, 5, 6, 7, 8, 9, 10, 11] (by decide) rfl (wr := [(ts, .inr (4, [.ref pr, .null, .int (nI 0), .int (nI 0)])), (pr, .inl (K 4, 6, .inr (.inr (.inr (.inr (va_up (va_up (va_up (va_up (va_up (fun _ => none) 0 (some o0)) 1 (some o1)) 2 (some o2)) 3 (some o3)) 4 (some o4))))))), (o0, .inr (1, [.int (nI 0), .int (nI 1), .int (nI 2), .ref k0, .int (nI 0)])), (k0, .inl (K 0, 60, .inl (fun _ => nI 0))), (o1, .inr (1, [.int (nI 0), .int (nI 2), .int (nI 1), .ref k1, .int (nI 0)])), (k1, .inl (K 0, 60, .inl (fun _ => nI 0))), (o2, .inr (1, [.int (nI 1), .int (nI 0), .int (nI 2), .ref k2, .int (nI 0)])), (k2, .inl (K 0, 60, .inl (fun _ => nI 0))), (o3, .inr (1, [.int (nI 1), .int (nI 2), .int (nI 0), .ref k3, .int (nI 0)])), (k3, .inl (K 0, 60, .inl (fun _ => nI 0))), (o4, .inr (1, [.int (nI 2), .int (nI 0), .int (nI 1), .ref k4, .int (nI 0)])), (k4, .inl (K 0, 60, .inl (fun _ => nI 0)))]) rfl (by decide) (by decide) (rest := [.int (nI 5), .ref pr]) rfl (Nat.le_of_ble_eq_true rfl) (by decide) dTs_init_27 (fun v w hq => ?_)
              obtain ⟨o5, k5, rfl, rfl⟩ := hq
              refine xz_ste (st' := [.ref o5, .int (nI 5), .ref pr]) rfl ?_
              refine xz_wss (ws' := [(ts, .inr (4, [.ref pr, .null, .int (nI 0), .int (nI 0)])), (pr, .inl (K 4, 6, .inr (.inr (.inr (.inr (va_up (va_up (va_up (va_up (va_up (fun _ => none) 0 (some o0)) 1 (some o1)) 2 (some o2)) 3 (some o3)) 4 (some o4))))))), (o0, .inr (1, [.int (nI 0), .int (nI 1), .int (nI 2), .ref k0, .int (nI 0)])), (k0, .inl (K 0, 60, .inl (fun _ => nI 0))), (o1, .inr (1, [.int (nI 0), .int (nI 2), .int (nI 1), .ref k1, .int (nI 0)])), (k1, .inl (K 0, 60, .inl (fun _ => nI 0))), (o2, .inr (1, [.int (nI 1), .int (nI 0), .int (nI 2), .ref k2, .int (nI 0)])), (k2, .inl (K 0, 60, .inl (fun _ => nI 0))), (o3, .inr (1, [.int (nI 1), .int (nI 2), .int (nI 0), .ref k3, .int (nI 0)])), (k3, .inl (K 0, 60, .inl (fun _ => nI 0))), (o4, .inr (1, [.int (nI 2), .int (nI 0), .int (nI 1), .ref k4, .int (nI 0)])), (k4, .inl (K 0, 60, .inl (fun _ => nI 0))), (o5, .inr (1, [.int (nI 2), .int (nI 1), .int (nI 0), .ref k5, .int (nI 0)])), (k5, .inl (K 0, 60, .inl (fun _ => nI 0)))]) [0, 1, 2, 3, 4, 5, 6, 7, 8, 9, 10, 11, 12, 13] (by decide) rfl rfl ?_
              refine xz_aastore hC 1 4 12 1 (ws' := [(ts, .inr (4, [.ref pr, .null, .int (nI 0), .int (nI 0)])), (pr, .inl (K 4, 6, .inr (.inr (.inr (.inr (va_up (va_up (va_up (va_up (va_up (va_up (fun _ => none) 0 (some o0)) 1 (some o1)) 2 (some o2)) 3 (some o3)) 4 (some o4)) 5 (some o5))))))), (o0, .inr (1, [.int (nI 0), .int (nI 1), .int (nI 2), .ref k0, .int (nI 0)])), (k0, .inl (K 0, 60, .inl (fun _ => nI 0))), (o1, .inr (1, [.int (nI 0), .int (nI 2), .int (nI 1), .ref k1, .int (nI 0)])), (k1, .inl (K 0, 60, .inl (fun _ => nI 0))), (o2, .inr (1, [.int (nI 1), .int (nI 0), .int (nI 2), .ref k2, .int (nI 0)])), (k2, .inl (K 0, 60, .inl (fun _ => nI 0))), (o3, .inr (1, [.int (nI 1), .int (nI 2), .int (nI 0), .ref k3, .int (nI 0)])), (k3, .inl (K 0, 60, .inl (fun _ => nI 0))), (o4, .inr (1, [.int (nI 2), .int (nI 0), .int (nI 1), .ref k4, .int (nI 0)])), (k4, .inl (K 0, 60, .inl (fun _ => nI 0))), (o5, .inr (1, [.int (nI 2), .int (nI 1), .int (nI 0), .ref k5, .int (nI 0)])), (k5, .inl (K 0, 60, .inl (fun _ => nI 0)))]) rfl rfl rfl rfl (by decide) (by decide) rfl dTs_init_30 ?_
              refine xz_iinc hC 0 (lc' := [(1, .int (nI 6)), (0, .ref ts)]) rfl (xn_inc _) (by decide) rfl dTs_init_31 ?_
              refine xz_goto hC (tgt := 15) (by decide) dTs_init_34 ?_
              refine xz_iload_n hC 0 rfl rfl dTs_init_15 ?_
              refine xz_bipush hC (v := nI 6) (by decide +kernel) dTs_init_16 ?_
              refine xz_icmp_ge hC (tgt := 37) (nI_toInt (by omega)) (nI_toInt (by omega)) (by decide) dTs_init_18 (fun h7 => ?_) (fun h7 => ?_)
              · skip
                refine xz_aload_n hC 1 rfl rfl dTs_init_37 ?_
                refine xz_iconst hC (v := nI 0) (by decide +kernel) dTs_init_38 ?_
                refine xz_callSZ hC hZ (mTs_orderOfWay0 l D K tP ) kTs_orderOfWay tq3 tq50 tq51 hTs_orderOfWay (by decide) [] [0, 1, 2, 3, 4, 5, 6, 7, 8, 9, 10, 11, 12, 13] (by decide) rfl (wr := [(ts, .inr (4, [.ref pr, .null, .int (nI 0), .int (nI 0)])), (pr, .inl (K 4, 6, .inr (.inr (.inr (.inr (va_up (va_up (va_up (va_up (va_up (va_up (fun _ => none) 0 (some o0)) 1 (some o1)) 2 (some o2)) 3 (some o3)) 4 (some o4)) 5 (some o5))))))), (o0, .inr (1, [.int (nI 0), .int (nI 1), .int (nI 2), .ref k0, .int (nI 0)])), (k0, .inl (K 0, 60, .inl (fun _ => nI 0))), (o1, .inr (1, [.int (nI 0), .int (nI 2), .int (nI 1), .ref k1, .int (nI 0)])), (k1, .inl (K 0, 60, .inl (fun _ => nI 0))), (o2, .inr (1, [.int (nI 1), .int (nI 0), .int (nI 2), .ref k2, .int (nI 0)])), (k2, .inl (K 0, 60, .inl (fun _ => nI 0))), (o3, .inr (1, [.int (nI 1), .int (nI 2), .int (nI 0), .ref k3, .int (nI 0)])), (k3, .inl (K 0, 60, .inl (fun _ => nI 0))), (o4, .inr (1, [.int (nI 2), .int (nI 0), .int (nI 1), .ref k4, .int (nI 0)])), (k4, .inl (K 0, 60, .inl (fun _ => nI 0))), (o5, .inr (1, [.int (nI 2), .int (nI 1), .int (nI 0), .ref k5, .int (nI 0)])), (k5, .inl (K 0, 60, .inl (fun _ => nI 0)))]) rfl (by decide) (by decide) (rest := [.ref ts]) rfl (Nat.le_of_ble_eq_true rfl) (by decide) dTs_init_39 (fun v w hq => ?_)
                obtain ⟨os, ks, rfl, rfl⟩ := hq
                refine xz_ste (st' := [.ref os, .ref ts]) rfl ?_
                refine xz_wss (ws' := [(ts, .inr (4, [.ref pr, .null, .int (nI 0), .int (nI 0)])), (pr, .inl (K 4, 6, .inr (.inr (.inr (.inr (va_up (va_up (va_up (va_up (va_up (va_up (fun _ => none) 0 (some o0)) 1 (some o1)) 2 (some o2)) 3 (some o3)) 4 (some o4)) 5 (some o5))))))), (o0, .inr (1, [.int (nI 0), .int (nI 1), .int (nI 2), .ref k0, .int (nI 0)])), (k0, .inl (K 0, 60, .inl (fun _ => nI 0))), (o1, .inr (1, [.int (nI 0), .int (nI 2), .int (nI 1), .ref k1, .int (nI 0)])), (k1, .inl (K 0, 60, .inl (fun _ => nI 0))), (o2, .inr (1, [.int (nI 1), .int (nI 0), .int (nI 2), .ref k2, .int (nI 0)])), (k2, .inl (K 0, 60, .inl (fun _ => nI 0))), (o3, .inr (1, [.int (nI 1), .int (nI 2), .int (nI 0), .ref k3, .int (nI 0)])), (k3, .inl (K 0, 60, .inl (fun _ => nI 0))), (o4, .inr (1, [.int (nI 2), .int (nI 0), .int (nI 1), .ref k4, .int (nI 0)])), (k4, .inl (K 0, 60, .inl (fun _ => nI 0))), (o5, .inr (1, [.int (nI 2), .int (nI 1), .int (nI 0), .ref k5, .int (nI 0)])), (k5, .inl (K 0, 60, .inl (fun _ => nI 0))), (os, .inr (1, [.int (nI 0), .int (nI 1), .int (nI 2), .ref ks, .int (nI 0)])), (ks, .inl (K 0, 60, .inl (fun _ => nI 0)))]) [0, 1, 2, 3, 4, 5, 6, 7, 8, 9, 10, 11, 12, 13, 14, 15] (by decide) rfl rfl ?_
                refine xz_putF hC 0 rfl rfl 1 (by decide) inTs tq78 rfl tyTs tyTs_ok nmTs rfl rfl rfl rfl rfl (Nat.le_of_ble_eq_true rfl) (ws' := [(ts, .inr (4, [.ref pr, .ref os, .int (nI 0), .int (nI 0)])), (pr, .inl (K 4, 6, .inr (.inr (.inr (.inr (va_up (va_up (va_up (va_up (va_up (va_up (fun _ => none) 0 (some o0)) 1 (some o1)) 2 (some o2)) 3 (some o3)) 4 (some o4)) 5 (some o5))))))), (o0, .inr (1, [.int (nI 0), .int (nI 1), .int (nI 2), .ref k0, .int (nI 0)])), (k0, .inl (K 0, 60, .inl (fun _ => nI 0))), (o1, .inr (1, [.int (nI 0), .int (nI 2), .int (nI 1), .ref k1, .int (nI 0)])), (k1, .inl (K 0, 60, .inl (fun _ => nI 0))), (o2, .inr (1, [.int (nI 1), .int (nI 0), .int (nI 2), .ref k2, .int (nI 0)])), (k2, .inl (K 0, 60, .inl (fun _ => nI 0))), (o3, .inr (1, [.int (nI 1), .int (nI 2), .int (nI 0), .ref k3, .int (nI 0)])), (k3, .inl (K 0, 60, .inl (fun _ => nI 0))), (o4, .inr (1, [.int (nI 2), .int (nI 0), .int (nI 1), .ref k4, .int (nI 0)])), (k4, .inl (K 0, 60, .inl (fun _ => nI 0))), (o5, .inr (1, [.int (nI 2), .int (nI 1), .int (nI 0), .ref k5, .int (nI 0)])), (k5, .inl (K 0, 60, .inl (fun _ => nI 0))), (os, .inr (1, [.int (nI 0), .int (nI 1), .int (nI 2), .ref ks, .int (nI 0)])), (ks, .inl (K 0, 60, .inl (fun _ => nI 0)))]) rfl dTs_init_42 ?_
                refine xz_aload_n hC 1 rfl rfl dTs_init_45 ?_
                refine xz_iconst hC (v := nI 0) (by decide +kernel) dTs_init_46 ?_
                refine xz_put hC 0 rfl rfl 2 (by decide) inTs tq79 rfl tyTs tyTs_ok nmTs rfl rfl rfl (Nat.le_of_ble_eq_true rfl) (ws' := [(ts, .inr (4, [.ref pr, .ref os, .int (nI 0), .int (nI 0)])), (pr, .inl (K 4, 6, .inr (.inr (.inr (.inr (va_up (va_up (va_up (va_up (va_up (va_up (fun _ => none) 0 (some o0)) 1 (some o1)) 2 (some o2)) 3 (some o3)) 4 (some o4)) 5 (some o5))))))), (o0, .inr (1, [.int (nI 0), .int (nI 1), .int (nI 2), .ref k0, .int (nI 0)])), (k0, .inl (K 0, 60, .inl (fun _ => nI 0))), (o1, .inr (1, [.int (nI 0), .int (nI 2), .int (nI 1), .ref k1, .int (nI 0)])), (k1, .inl (K 0, 60, .inl (fun _ => nI 0))), (o2, .inr (1, [.int (nI 1), .int (nI 0), .int (nI 2), .ref k2, .int (nI 0)])), (k2, .inl (K 0, 60, .inl (fun _ => nI 0))), (o3, .inr (1, [.int (nI 1), .int (nI 2), .int (nI 0), .ref k3, .int (nI 0)])), (k3, .inl (K 0, 60, .inl (fun _ => nI 0))), (o4, .inr (1, [.int (nI 2), .int (nI 0), .int (nI 1), .ref k4, .int (nI 0)])), (k4, .inl (K 0, 60, .inl (fun _ => nI 0))), (o5, .inr (1, [.int (nI 2), .int (nI 1), .int (nI 0), .ref k5, .int (nI 0)])), (k5, .inl (K 0, 60, .inl (fun _ => nI 0))), (os, .inr (1, [.int (nI 0), .int (nI 1), .int (nI 2), .ref ks, .int (nI 0)])), (ks, .inl (K 0, 60, .inl (fun _ => nI 0)))]) rfl dTs_init_47 ?_
                refine xz_aload_n hC 1 rfl rfl dTs_init_50 ?_
                refine xz_iconst hC (v := nI 0) (by decide +kernel) dTs_init_51 ?_
                refine xz_put hC 0 rfl rfl 3 (by decide) inTs tq81 rfl tyTs tyTs_ok nmTs rfl rfl rfl (Nat.le_of_ble_eq_true rfl) (ws' := [(ts, .inr (4, [.ref pr, .ref os, .int (nI 0), .int (nI 0)])), (pr, .inl (K 4, 6, .inr (.inr (.inr (.inr (va_up (va_up (va_up (va_up (va_up (va_up (fun _ => none) 0 (some o0)) 1 (some o1)) 2 (some o2)) 3 (some o3)) 4 (some o4)) 5 (some o5))))))), (o0, .inr (1, [.int (nI 0), .int (nI 1), .int (nI 2), .ref k0, .int (nI 0)])), (k0, .inl (K 0, 60, .inl (fun _ => nI 0))), (o1, .inr (1, [.int (nI 0), .int (nI 2), .int (nI 1), .ref k1, .int (nI 0)])), (k1, .inl (K 0, 60, .inl (fun _ => nI 0))), (o2, .inr (1, [.int (nI 1), .int (nI 0), .int (nI 2), .ref k2, .int (nI 0)])), (k2, .inl (K 0, 60, .inl (fun _ => nI 0))), (o3, .inr (1, [.int (nI 1), .int (nI 2), .int (nI 0), .ref k3, .int (nI 0)])), (k3, .inl (K 0, 60, .inl (fun _ => nI 0))), (o4, .inr (1, [.int (nI 2), .int (nI 0), .int (nI 1), .ref k4, .int (nI 0)])), (k4, .inl (K 0, 60, .inl (fun _ => nI 0))), (o5, .inr (1, [.int (nI 2), .int (nI 1), .int (nI 0), .ref k5, .int (nI 0)])), (k5, .inl (K 0, 60, .inl (fun _ => nI 0))), (os, .inr (1, [.int (nI 0), .int (nI 1), .int (nI 2), .ref ks, .int (nI 0)])), (ks, .inl (K 0, 60, .inl (fun _ => nI 0)))]) rfl dTs_init_52 ?_
                exact xz_return hC (by decide) (by decide) (⟨pr, os, ks, _, (x6 o0 o1 o2 o3 o4 o5), (x6 k0 k1 k2 k3 k4 k5), rfl, rfl, fun w hw => by rcases (show w = 0 ∨ w = 1 ∨ w = 2 ∨ w = 3 ∨ w = 4 ∨ w = 5 by omega) with rfl | rfl | rfl | rfl | rfl | rfl <;> rfl⟩) dTs_init_55
              · skip
                exfalso; omega
set_option maxHeartbeats 1000000 in
set_option maxRecDepth 100000 in
theorem mSx_init (l : Launch) (D : va_G) (K : Nat → ClassId) (tP : Nat) (xo : Nat)  : xz_MetZ l D (tz K) tP ySx_init cSx_init 1 none { frames := 4, cells := 28, slots := 1249, locals := 85 } [.ref xo] [(xo, .inr (5, [.null, .null, .null, .null]))] (fun v w => ∃ (di pw ln ts pr os ks : Nat) (fa : Nat → Option Nat) (oa ka : Nat → Nat) (qu nu se rw pl ho ag bi an : Nat), v = none ∧ w = [(xo, .inr (5, [.ref di, .ref ts, .ref qu, .ref se])), (di, .inr (0, [.ref pw, .ref ln, .int (nI 0), .long 0, .int (nI 0)])), (pw, .inl (K 1, 24, .inr (.inl (fun _ => 0)))), (ln, .inl (K 0, 24, .inl (fun _ => nI 0))), (ts, .inr (4, [.ref pr, .ref os, .int (nI 0), .int (nI 0)])), (pr, .inl (K 4, 6, .inr (.inr (.inr (.inr fa))))), (oa 0, .inr (1, [.int (nI 0), .int (nI 1), .int (nI 2), .ref (ka 0), .int (nI 0)])), (ka 0, .inl (K 0, 60, .inl ((fun _ _ => nI 0) 0))), (oa 1, .inr (1, [.int (nI 0), .int (nI 2), .int (nI 1), .ref (ka 1), .int (nI 0)])), (ka 1, .inl (K 0, 60, .inl ((fun _ _ => nI 0) 1))), (oa 2, .inr (1, [.int (nI 1), .int (nI 0), .int (nI 2), .ref (ka 2), .int (nI 0)])), (ka 2, .inl (K 0, 60, .inl ((fun _ _ => nI 0) 2))), (oa 3, .inr (1, [.int (nI 1), .int (nI 2), .int (nI 0), .ref (ka 3), .int (nI 0)])), (ka 3, .inl (K 0, 60, .inl ((fun _ _ => nI 0) 3))), (oa 4, .inr (1, [.int (nI 2), .int (nI 0), .int (nI 1), .ref (ka 4), .int (nI 0)])), (ka 4, .inl (K 0, 60, .inl ((fun _ _ => nI 0) 4))), (oa 5, .inr (1, [.int (nI 2), .int (nI 1), .int (nI 0), .ref (ka 5), .int (nI 0)])), (ka 5, .inl (K 0, 60, .inl ((fun _ _ => nI 0) 5))), (os, .inr (1, [.int (nI 0), .int (nI 1), .int (nI 2), .ref ks, .int (nI 0)])), (ks, .inl (K 0, 60, .inl (fun _ => nI 0))), (qu, .inr (2, [.ref nu, .int (nI 0)])), (nu, .inl (K 0, 12, .inl (fun _ => nI 0))), (se, .inr (3, [.ref rw, .int (nI 0), .int (nI 0), .int (nI 0), .ref pl, .ref ho, .ref ag, .ref bi, .ref an, .int (nI 0), .int (nI 0)])), (rw, .inl (K 0, 3, .inl (fun _ => nI 0))), (pl, .inl (K 0, 12, .inl (fun _ => nI 0))), (ho, .inl (K 1, 72, .inr (.inl (fun _ => 0)))), (ag, .inl (K 1, 16, .inr (.inl (fun _ => 0)))), (bi, .inl (K 0, 3, .inl (fun _ => nI 0))), (an, .inl (K 0, 600, .inl (fun _ => nI 0)))] ∧ ∀ w, w < 6 → fa w = some (oa w)) := by
  refine xz_enterZ (by decide +kernel) (Nat.le_of_ble_eq_true rfl) ?_
  intro Γ hC hZ
  refine xz_lcs (lc' := [(0, .ref xo)]) [0] rfl ?_
  refine xz_aload_n hC 0 rfl rfl dSx_init_0 ?_
  refine xz_objinit hC tq14 tq15 tq16 (by decide) (Nat.le_of_ble_eq_true rfl) dSx_init_1 ?_
  refine xz_aload_n hC 0 rfl rfl dSx_init_4 ?_
  refine xz_new hC (ci := 0) (fs := [.null, .null, .int (nI 0), .long 0, .int (nI 0)]) rfl inDi tyDi tyDi_ok tq17 tq18 tq2 (fun j hj => by rcases (show j = 0 ∨ j = 1 ∨ j = 2 ∨ j = 3 ∨ j = 4 by omega) with rfl | rfl | rfl | rfl | rfl <;> rfl) (by decide) (by decide) dSx_init_5 (fun di => ?_)
  refine xz_wse (ws' := [(xo, .inr (5, [.null, .null, .null, .null])), (di, .inr (0, [.null, .null, .int (nI 0), .long 0, .int (nI 0)]))]) rfl ?_
  refine xz_dup hC rfl dSx_init_8 ?_
  refine xz_callI hC (retC := none) (mDi_init l D K di) kDi_init tq2 tq19 tq20 rfl (b := di) (host := "") hDi_init (by decide) [1] [0] (by decide) rfl (wr := [(xo, .inr (5, [.null, .null, .null, .null]))]) rfl (by decide) (by decide) (As := []) (rest := [.ref di, .ref xo]) rfl rfl (Nat.le_of_ble_eq_true rfl) (by decide) dSx_init_9 (fun v w hq => ?_)
  obtain ⟨pw, ln, rfl, rfl⟩ := hq
  refine xz_ste (st' := [.ref di, .ref xo]) rfl ?_
  refine xz_wss (ws' := [(xo, .inr (5, [.null, .null, .null, .null])), (di, .inr (0, [.ref pw, .ref ln, .int (nI 0), .long 0, .int (nI 0)])), (pw, .inl (K 1, 24, .inr (.inl (fun _ => 0)))), (ln, .inl (K 0, 24, .inl (fun _ => nI 0)))]) [0, 1, 2, 3] (by decide) rfl rfl ?_
  refine xz_putF hC 0 rfl rfl 0 (by decide) inSx tq149 rfl tySx tySx_ok nmSx rfl rfl rfl rfl rfl (Nat.le_of_ble_eq_true rfl) (ws' := [(xo, .inr (5, [.ref di, .null, .null, .null])), (di, .inr (0, [.ref pw, .ref ln, .int (nI 0), .long 0, .int (nI 0)])), (pw, .inl (K 1, 24, .inr (.inl (fun _ => 0)))), (ln, .inl (K 0, 24, .inl (fun _ => nI 0)))]) rfl dSx_init_12 ?_
  refine xz_aload_n hC 0 rfl rfl dSx_init_15 ?_
  refine xz_new hC (ci := 4) (fs := [.null, .null, .int (nI 0), .int (nI 0)]) rfl inTs tyTs tyTs_ok tq42 tq43 tq3 (fun j hj => by rcases (show j = 0 ∨ j = 1 ∨ j = 2 ∨ j = 3 by omega) with rfl | rfl | rfl | rfl <;> rfl) (by decide) (by decide) dSx_init_16 (fun ts => ?_)
  refine xz_wse (ws' := [(xo, .inr (5, [.ref di, .null, .null, .null])), (di, .inr (0, [.ref pw, .ref ln, .int (nI 0), .long 0, .int (nI 0)])), (pw, .inl (K 1, 24, .inr (.inl (fun _ => 0)))), (ln, .inl (K 0, 24, .inl (fun _ => nI 0))), (ts, .inr (4, [.null, .null, .int (nI 0), .int (nI 0)]))]) rfl ?_
  refine xz_dup hC rfl dSx_init_19 ?_
  refine xz_callIZ hC hZ (mTs_init l D K tP ts) kTs_init tq3 tq44 tq45 rfl (b := ts) hTs_init (by decide) [4] [0, 1, 2, 3] (by decide) rfl (wr := [(xo, .inr (5, [.ref di, .null, .null, .null])), (di, .inr (0, [.ref pw, .ref ln, .int (nI 0), .long 0, .int (nI 0)])), (pw, .inl (K 1, 24, .inr (.inl (fun _ => 0)))), (ln, .inl (K 0, 24, .inl (fun _ => nI 0)))]) rfl (by decide) (by decide) (As := []) (rest := [.ref ts, .ref xo]) rfl rfl (Nat.le_of_ble_eq_true rfl) (by decide) dSx_init_20 (fun v w hq => ?_)
  obtain ⟨pr, os, ks, fa, oa, ka, rfl, rfl, hfa⟩ := hq
  refine xz_ste (st' := [.ref ts, .ref xo]) rfl ?_
  refine xz_wss (ws' := [(xo, .inr (5, [.ref di, .null, .null, .null])), (di, .inr (0, [.ref pw, .ref ln, .int (nI 0), .long 0, .int (nI 0)])), (pw, .inl (K 1, 24, .inr (.inl (fun _ => 0)))), (ln, .inl (K 0, 24, .inl (fun _ => nI 0))), (ts, .inr (4, [.ref pr, .ref os, .int (nI 0), .int (nI 0)])), (pr, .inl (K 4, 6, .inr (.inr (.inr (.inr fa))))), (oa 0, .inr (1, [.int (nI 0), .int (nI 1), .int (nI 2), .ref (ka 0), .int (nI 0)])), (ka 0, .inl (K 0, 60, .inl ((fun _ _ => nI 0) 0))), (oa 1, .inr (1, [.int (nI 0), .int (nI 2), .int (nI 1), .ref (ka 1), .int (nI 0)])), (ka 1, .inl (K 0, 60, .inl ((fun _ _ => nI 0) 1))), (oa 2, .inr (1, [.int (nI 1), .int (nI 0), .int (nI 2), .ref (ka 2), .int (nI 0)])), (ka 2, .inl (K 0, 60, .inl ((fun _ _ => nI 0) 2))), (oa 3, .inr (1, [.int (nI 1), .int (nI 2), .int (nI 0), .ref (ka 3), .int (nI 0)])), (ka 3, .inl (K 0, 60, .inl ((fun _ _ => nI 0) 3))), (oa 4, .inr (1, [.int (nI 2), .int (nI 0), .int (nI 1), .ref (ka 4), .int (nI 0)])), (ka 4, .inl (K 0, 60, .inl ((fun _ _ => nI 0) 4))), (oa 5, .inr (1, [.int (nI 2), .int (nI 1), .int (nI 0), .ref (ka 5), .int (nI 0)])), (ka 5, .inl (K 0, 60, .inl ((fun _ _ => nI 0) 5))), (os, .inr (1, [.int (nI 0), .int (nI 1), .int (nI 2), .ref ks, .int (nI 0)])), (ks, .inl (K 0, 60, .inl (fun _ => nI 0)))]) [0, 1, 2, 3, 4, 5, 6, 7, 8, 9, 10, 11, 12, 13, 14, 15, 16, 17, 18, 19] (by decide) rfl rfl ?_
  refine xz_putF hC 0 rfl rfl 1 (by decide) inSx tq150 rfl tySx tySx_ok nmSx rfl rfl rfl rfl rfl (Nat.le_of_ble_eq_true rfl) (ws' := [(xo, .inr (5, [.ref di, .ref ts, .null, .null])), (di, .inr (0, [.ref pw, .ref ln, .int (nI 0), .long 0, .int (nI 0)])), (pw, .inl (K 1, 24, .inr (.inl (fun _ => 0)))), (ln, .inl (K 0, 24, .inl (fun _ => nI 0))), (ts, .inr (4, [.ref pr, .ref os, .int (nI 0), .int (nI 0)])), (pr, .inl (K 4, 6, .inr (.inr (.inr (.inr fa))))), (oa 0, .inr (1, [.int (nI 0), .int (nI 1), .int (nI 2), .ref (ka 0), .int (nI 0)])), (ka 0, .inl (K 0, 60, .inl ((fun _ _ => nI 0) 0))), (oa 1, .inr (1, [.int (nI 0), .int (nI 2), .int (nI 1), .ref (ka 1), .int (nI 0)])), (ka 1, .inl (K 0, 60, .inl ((fun _ _ => nI 0) 1))), (oa 2, .inr (1, [.int (nI 1), .int (nI 0), .int (nI 2), .ref (ka 2), .int (nI 0)])), (ka 2, .inl (K 0, 60, .inl ((fun _ _ => nI 0) 2))), (oa 3, .inr (1, [.int (nI 1), .int (nI 2), .int (nI 0), .ref (ka 3), .int (nI 0)])), (ka 3, .inl (K 0, 60, .inl ((fun _ _ => nI 0) 3))), (oa 4, .inr (1, [.int (nI 2), .int (nI 0), .int (nI 1), .ref (ka 4), .int (nI 0)])), (ka 4, .inl (K 0, 60, .inl ((fun _ _ => nI 0) 4))), (oa 5, .inr (1, [.int (nI 2), .int (nI 1), .int (nI 0), .ref (ka 5), .int (nI 0)])), (ka 5, .inl (K 0, 60, .inl ((fun _ _ => nI 0) 5))), (os, .inr (1, [.int (nI 0), .int (nI 1), .int (nI 2), .ref ks, .int (nI 0)])), (ks, .inl (K 0, 60, .inl (fun _ => nI 0)))]) rfl dSx_init_23 ?_
  refine xz_aload_n hC 0 rfl rfl dSx_init_26 ?_
  refine xz_new hC (ci := 2) (fs := [.null, .int (nI 0)]) rfl inQu tyQu tyQu_ok tq92 tq93 tq5 (fun j hj => by rcases (show j = 0 ∨ j = 1 by omega) with rfl | rfl <;> rfl) (by decide) (by decide) dSx_init_27 (fun qu => ?_)
  refine xz_wse (ws' := [(xo, .inr (5, [.ref di, .ref ts, .null, .null])), (di, .inr (0, [.ref pw, .ref ln, .int (nI 0), .long 0, .int (nI 0)])), (pw, .inl (K 1, 24, .inr (.inl (fun _ => 0)))), (ln, .inl (K 0, 24, .inl (fun _ => nI 0))), (ts, .inr (4, [.ref pr, .ref os, .int (nI 0), .int (nI 0)])), (pr, .inl (K 4, 6, .inr (.inr (.inr (.inr fa))))), (oa 0, .inr (1, [.int (nI 0), .int (nI 1), .int (nI 2), .ref (ka 0), .int (nI 0)])), (ka 0, .inl (K 0, 60, .inl ((fun _ _ => nI 0) 0))), (oa 1, .inr (1, [.int (nI 0), .int (nI 2), .int (nI 1), .ref (ka 1), .int (nI 0)])), (ka 1, .inl (K 0, 60, .inl ((fun _ _ => nI 0) 1))), (oa 2, .inr (1, [.int (nI 1), .int (nI 0), .int (nI 2), .ref (ka 2), .int (nI 0)])), (ka 2, .inl (K 0, 60, .inl ((fun _ _ => nI 0) 2))), (oa 3, .inr (1, [.int (nI 1), .int (nI 2), .int (nI 0), .ref (ka 3), .int (nI 0)])), (ka 3, .inl (K 0, 60, .inl ((fun _ _ => nI 0) 3))), (oa 4, .inr (1, [.int (nI 2), .int (nI 0), .int (nI 1), .ref (ka 4), .int (nI 0)])), (ka 4, .inl (K 0, 60, .inl ((fun _ _ => nI 0) 4))), (oa 5, .inr (1, [.int (nI 2), .int (nI 1), .int (nI 0), .ref (ka 5), .int (nI 0)])), (ka 5, .inl (K 0, 60, .inl ((fun _ _ => nI 0) 5))), (os, .inr (1, [.int (nI 0), .int (nI 1), .int (nI 2), .ref ks, .int (nI 0)])), (ks, .inl (K 0, 60, .inl (fun _ => nI 0))), (qu, .inr (2, [.null, .int (nI 0)]))]) rfl ?_
  refine xz_dup hC rfl dSx_init_30 ?_
  refine xz_callI hC (retC := none) (mQu_init l D K qu) kQu_init tq5 tq94 tq95 rfl (b := qu) (host := "") hQu_init (by decide) [20] [0, 1, 2, 3, 4, 5, 6, 7, 8, 9, 10, 11, 12, 13, 14, 15, 16, 17, 18, 19] (by decide) rfl (wr := [(xo, .inr (5, [.ref di, .ref ts, .null, .null])), (di, .inr (0, [.ref pw, .ref ln, .int (nI 0), .long 0, .int (nI 0)])), (pw, .inl (K 1, 24, .inr (.inl (fun _ => 0)))), (ln, .inl (K 0, 24, .inl (fun _ => nI 0))), (ts, .inr (4, [.ref pr, .ref os, .int (nI 0), .int (nI 0)])), (pr, .inl (K 4, 6, .inr (.inr (.inr (.inr fa))))), (oa 0, .inr (1, [.int (nI 0), .int (nI 1), .int (nI 2), .ref (ka 0), .int (nI 0)])), (ka 0, .inl (K 0, 60, .inl ((fun _ _ => nI 0) 0))), (oa 1, .inr (1, [.int (nI 0), .int (nI 2), .int (nI 1), .ref (ka 1), .int (nI 0)])), (ka 1, .inl (K 0, 60, .inl ((fun _ _ => nI 0) 1))), (oa 2, .inr (1, [.int (nI 1), .int (nI 0), .int (nI 2), .ref (ka 2), .int (nI 0)])), (ka 2, .inl (K 0, 60, .inl ((fun _ _ => nI 0) 2))), (oa 3, .inr (1, [.int (nI 1), .int (nI 2), .int (nI 0), .ref (ka 3), .int (nI 0)])), (ka 3, .inl (K 0, 60, .inl ((fun _ _ => nI 0) 3))), (oa 4, .inr (1, [.int (nI 2), .int (nI 0), .int (nI 1), .ref (ka 4), .int (nI 0)])), (ka 4, .inl (K 0, 60, .inl ((fun _ _ => nI 0) 4))), (oa 5, .inr (1, [.int (nI 2), .int (nI 1), .int (nI 0), .ref (ka 5), .int (nI 0)])), (ka 5, .inl (K 0, 60, .inl ((fun _ _ => nI 0) 5))), (os, .inr (1, [.int (nI 0), .int (nI 1), .int (nI 2), .ref ks, .int (nI 0)])), (ks, .inl (K 0, 60, .inl (fun _ => nI 0)))]) rfl (by decide) (by decide) (As := []) (rest := [.ref qu, .ref xo]) rfl rfl (Nat.le_of_ble_eq_true rfl) (by decide) dSx_init_31 (fun v w hq => ?_)
  obtain ⟨nu, rfl, rfl⟩ := hq
  refine xz_ste (st' := [.ref qu, .ref xo]) rfl ?_
  refine xz_wss (ws' := [(xo, .inr (5, [.ref di, .ref ts, .null, .null])), (di, .inr (0, [.ref pw, .ref ln, .int (nI 0), .long 0, .int (nI 0)])), (pw, .inl (K 1, 24, .inr (.inl (fun _ => 0)))), (ln, .inl (K 0, 24, .inl (fun _ => nI 0))), (ts, .inr (4, [.ref pr, .ref os, .int (nI 0), .int (nI 0)])), (pr, .inl (K 4, 6, .inr (.inr (.inr (.inr fa))))), (oa 0, .inr (1, [.int (nI 0), .int (nI 1), .int (nI 2), .ref (ka 0), .int (nI 0)])), (ka 0, .inl (K 0, 60, .inl ((fun _ _ => nI 0) 0))), (oa 1, .inr (1, [.int (nI 0), .int (nI 2), .int (nI 1), .ref (ka 1), .int (nI 0)])), (ka 1, .inl (K 0, 60, .inl ((fun _ _ => nI 0) 1))), (oa 2, .inr (1, [.int (nI 1), .int (nI 0), .int (nI 2), .ref (ka 2), .int (nI 0)])), (ka 2, .inl (K 0, 60, .inl ((fun _ _ => nI 0) 2))), (oa 3, .inr (1, [.int (nI 1), .int (nI 2), .int (nI 0), .ref (ka 3), .int (nI 0)])), (ka 3, .inl (K 0, 60, .inl ((fun _ _ => nI 0) 3))), (oa 4, .inr (1, [.int (nI 2), .int (nI 0), .int (nI 1), .ref (ka 4), .int (nI 0)])), (ka 4, .inl (K 0, 60, .inl ((fun _ _ => nI 0) 4))), (oa 5, .inr (1, [.int (nI 2), .int (nI 1), .int (nI 0), .ref (ka 5), .int (nI 0)])), (ka 5, .inl (K 0, 60, .inl ((fun _ _ => nI 0) 5))), (os, .inr (1, [.int (nI 0), .int (nI 1), .int (nI 2), .ref ks, .int (nI 0)])), (ks, .inl (K 0, 60, .inl (fun _ => nI 0))), (qu, .inr (2, [.ref nu, .int (nI 0)])), (nu, .inl (K 0, 12, .inl (fun _ => nI 0)))]) [0, 1, 2, 3, 4, 5, 6, 7, 8, 9, 10, 11, 12, 13, 14, 15, 16, 17, 18, 19, 20, 21] (by decide) rfl rfl ?_
  refine xz_putF hC 0 rfl rfl 2 (by decide) inSx tq151 rfl tySx tySx_ok nmSx rfl rfl rfl rfl rfl (Nat.le_of_ble_eq_true rfl) (ws' := [(xo, .inr (5, [.ref di, .ref ts, .ref qu, .null])), (di, .inr (0, [.ref pw, .ref ln, .int (nI 0), .long 0, .int (nI 0)])), (pw, .inl (K 1, 24, .inr (.inl (fun _ => 0)))), (ln, .inl (K 0, 24, .inl (fun _ => nI 0))), (ts, .inr (4, [.ref pr, .ref os, .int (nI 0), .int (nI 0)])), (pr, .inl (K 4, 6, .inr (.inr (.inr (.inr fa))))), (oa 0, .inr (1, [.int (nI 0), .int (nI 1), .int (nI 2), .ref (ka 0), .int (nI 0)])), (ka 0, .inl (K 0, 60, .inl ((fun _ _ => nI 0) 0))), (oa 1, .inr (1, [.int (nI 0), .int (nI 2), .int (nI 1), .ref (ka 1), .int (nI 0)])), (ka 1, .inl (K 0, 60, .inl ((fun _ _ => nI 0) 1))), (oa 2, .inr (1, [.int (nI 1), .int (nI 0), .int (nI 2), .ref (ka 2), .int (nI 0)])), (ka 2, .inl (K 0, 60, .inl ((fun _ _ => nI 0) 2))), (oa 3, .inr (1, [.int (nI 1), .int (nI 2), .int (nI 0), .ref (ka 3), .int (nI 0)])), (ka 3, .inl (K 0, 60, .inl ((fun _ _ => nI 0) 3))), (oa 4, .inr (1, [.int (nI 2), .int (nI 0), .int (nI 1), .ref (ka 4), .int (nI 0)])), (ka 4, .inl (K 0, 60, .inl ((fun _ _ => nI 0) 4))), (oa 5, .inr (1, [.int (nI 2), .int (nI 1), .int (nI 0), .ref (ka 5), .int (nI 0)])), (ka 5, .inl (K 0, 60, .inl ((fun _ _ => nI 0) 5))), (os, .inr (1, [.int (nI 0), .int (nI 1), .int (nI 2), .ref ks, .int (nI 0)])), (ks, .inl (K 0, 60, .inl (fun _ => nI 0))), (qu, .inr (2, [.ref nu, .int (nI 0)])), (nu, .inl (K 0, 12, .inl (fun _ => nI 0)))]) rfl dSx_init_34 ?_
  refine xz_aload_n hC 0 rfl rfl dSx_init_37 ?_
  refine xz_new hC (ci := 3) (fs := [.null, .int (nI 0), .int (nI 0), .int (nI 0), .null, .null, .null, .null, .null, .int (nI 0), .int (nI 0)]) rfl inSe tySe tySe_ok tq107 tq108 tq6 (fun j hj => by rcases (show j = 0 ∨ j = 1 ∨ j = 2 ∨ j = 3 ∨ j = 4 ∨ j = 5 ∨ j = 6 ∨ j = 7 ∨ j = 8 ∨ j = 9 ∨ j = 10 by omega) with rfl | rfl | rfl | rfl | rfl | rfl | rfl | rfl | rfl | rfl | rfl <;> rfl) (by decide) (by decide) dSx_init_38 (fun se => ?_)
  refine xz_wse (ws' := [(xo, .inr (5, [.ref di, .ref ts, .ref qu, .null])), (di, .inr (0, [.ref pw, .ref ln, .int (nI 0), .long 0, .int (nI 0)])), (pw, .inl (K 1, 24, .inr (.inl (fun _ => 0)))), (ln, .inl (K 0, 24, .inl (fun _ => nI 0))), (ts, .inr (4, [.ref pr, .ref os, .int (nI 0), .int (nI 0)])), (pr, .inl (K 4, 6, .inr (.inr (.inr (.inr fa))))), (oa 0, .inr (1, [.int (nI 0), .int (nI 1), .int (nI 2), .ref (ka 0), .int (nI 0)])), (ka 0, .inl (K 0, 60, .inl ((fun _ _ => nI 0) 0))), (oa 1, .inr (1, [.int (nI 0), .int (nI 2), .int (nI 1), .ref (ka 1), .int (nI 0)])), (ka 1, .inl (K 0, 60, .inl ((fun _ _ => nI 0) 1))), (oa 2, .inr (1, [.int (nI 1), .int (nI 0), .int (nI 2), .ref (ka 2), .int (nI 0)])), (ka 2, .inl (K 0, 60, .inl ((fun _ _ => nI 0) 2))), (oa 3, .inr (1, [.int (nI 1), .int (nI 2), .int (nI 0), .ref (ka 3), .int (nI 0)])), (ka 3, .inl (K 0, 60, .inl ((fun _ _ => nI 0) 3))), (oa 4, .inr (1, [.int (nI 2), .int (nI 0), .int (nI 1), .ref (ka 4), .int (nI 0)])), (ka 4, .inl (K 0, 60, .inl ((fun _ _ => nI 0) 4))), (oa 5, .inr (1, [.int (nI 2), .int (nI 1), .int (nI 0), .ref (ka 5), .int (nI 0)])), (ka 5, .inl (K 0, 60, .inl ((fun _ _ => nI 0) 5))), (os, .inr (1, [.int (nI 0), .int (nI 1), .int (nI 2), .ref ks, .int (nI 0)])), (ks, .inl (K 0, 60, .inl (fun _ => nI 0))), (qu, .inr (2, [.ref nu, .int (nI 0)])), (nu, .inl (K 0, 12, .inl (fun _ => nI 0))), (se, .inr (3, [.null, .int (nI 0), .int (nI 0), .int (nI 0), .null, .null, .null, .null, .null, .int (nI 0), .int (nI 0)]))]) rfl ?_
  refine xz_dup hC rfl dSx_init_41 ?_
  refine xz_callI hC (retC := none) (mSe_init l D K se) kSe_init tq6 tq109 tq110 rfl (b := se) (host := "") hSe_init (by decide) [22] [0, 1, 2, 3, 4, 5, 6, 7, 8, 9, 10, 11, 12, 13, 14, 15, 16, 17, 18, 19, 20, 21] (by decide) rfl (wr := [(xo, .inr (5, [.ref di, .ref ts, .ref qu, .null])), (di, .inr (0, [.ref pw, .ref ln, .int (nI 0), .long 0, .int (nI 0)])), (pw, .inl (K 1, 24, .inr (.inl (fun _ => 0)))), (ln, .inl (K 0, 24, .inl (fun _ => nI 0))), (ts, .inr (4, [.ref pr, .ref os, .int (nI 0), .int (nI 0)])), (pr, .inl (K 4, 6, .inr (.inr (.inr (.inr fa))))), (oa 0, .inr (1, [.int (nI 0), .int (nI 1), .int (nI 2), .ref (ka 0), .int (nI 0)])), (ka 0, .inl (K 0, 60, .inl ((fun _ _ => nI 0) 0))), (oa 1, .inr (1, [.int (nI 0), .int (nI 2), .int (nI 1), .ref (ka 1), .int (nI 0)])), (ka 1, .inl (K 0, 60, .inl ((fun _ _ => nI 0) 1))), (oa 2, .inr (1, [.int (nI 1), .int (nI 0), .int (nI 2), .ref (ka 2), .int (nI 0)])), (ka 2, .inl (K 0, 60, .inl ((fun _ _ => nI 0) 2))), (oa 3, .inr (1, [.int (nI 1), .int (nI 2), .int (nI 0), .ref (ka 3), .int (nI 0)])), (ka 3, .inl (K 0, 60, .inl ((fun _ _ => nI 0) 3))), (oa 4, .inr (1, [.int (nI 2), .int (nI 0), .int (nI 1), .ref (ka 4), .int (nI 0)])), (ka 4, .inl (K 0, 60, .inl ((fun _ _ => nI 0) 4))), (oa 5, .inr (1, [.int (nI 2), .int (nI 1), .int (nI 0), .ref (ka 5), .int (nI 0)])), (ka 5, .inl (K 0, 60, .inl ((fun _ _ => nI 0) 5))), (os, .inr (1, [.int (nI 0), .int (nI 1), .int (nI 2), .ref ks, .int (nI 0)])), (ks, .inl (K 0, 60, .inl (fun _ => nI 0))), (qu, .inr (2, [.ref nu, .int (nI 0)])), (nu, .inl (K 0, 12, .inl (fun _ => nI 0)))]) rfl (by decide) (by decide) (As := []) (rest := [.ref se, .ref xo]) rfl rfl (Nat.le_of_ble_eq_true rfl) (by decide) dSx_init_42 (fun v w hq => ?_)
  obtain ⟨rw, pl, ho, ag, bi, an, rfl, rfl⟩ := hq
  refine xz_ste (st' := [.ref se, .ref xo]) rfl ?_
  refine xz_wss (ws' := [(xo, .inr (5, [.ref di, .ref ts, .ref qu, .null])), (di, .inr (0, [.ref pw, .ref ln, .int (nI 0), .long 0, .int (nI 0)])), (pw, .inl (K 1, 24, .inr (.inl (fun _ => 0)))), (ln, .inl (K 0, 24, .inl (fun _ => nI 0))), (ts, .inr (4, [.ref pr, .ref os, .int (nI 0), .int (nI 0)])), (pr, .inl (K 4, 6, .inr (.inr (.inr (.inr fa))))), (oa 0, .inr (1, [.int (nI 0), .int (nI 1), .int (nI 2), .ref (ka 0), .int (nI 0)])), (ka 0, .inl (K 0, 60, .inl ((fun _ _ => nI 0) 0))), (oa 1, .inr (1, [.int (nI 0), .int (nI 2), .int (nI 1), .ref (ka 1), .int (nI 0)])), (ka 1, .inl (K 0, 60, .inl ((fun _ _ => nI 0) 1))), (oa 2, .inr (1, [.int (nI 1), .int (nI 0), .int (nI 2), .ref (ka 2), .int (nI 0)])), (ka 2, .inl (K 0, 60, .inl ((fun _ _ => nI 0) 2))), (oa 3, .inr (1, [.int (nI 1), .int (nI 2), .int (nI 0), .ref (ka 3), .int (nI 0)])), (ka 3, .inl (K 0, 60, .inl ((fun _ _ => nI 0) 3))), (oa 4, .inr (1, [.int (nI 2), .int (nI 0), .int (nI 1), .ref (ka 4), .int (nI 0)])), (ka 4, .inl (K 0, 60, .inl ((fun _ _ => nI 0) 4))), (oa 5, .inr (1, [.int (nI 2), .int (nI 1), .int (nI 0), .ref (ka 5), .int (nI 0)])), (ka 5, .inl (K 0, 60, .inl ((fun _ _ => nI 0) 5))), (os, .inr (1, [.int (nI 0), .int (nI 1), .int (nI 2), .ref ks, .int (nI 0)])), (ks, .inl (K 0, 60, .inl (fun _ => nI 0))), (qu, .inr (2, [.ref nu, .int (nI 0)])), (nu, .inl (K 0, 12, .inl (fun _ => nI 0))), (se, .inr (3, [.ref rw, .int (nI 0), .int (nI 0), .int (nI 0), .ref pl, .ref ho, .ref ag, .ref bi, .ref an, .int (nI 0), .int (nI 0)])), (rw, .inl (K 0, 3, .inl (fun _ => nI 0))), (pl, .inl (K 0, 12, .inl (fun _ => nI 0))), (ho, .inl (K 1, 72, .inr (.inl (fun _ => 0)))), (ag, .inl (K 1, 16, .inr (.inl (fun _ => 0)))), (bi, .inl (K 0, 3, .inl (fun _ => nI 0))), (an, .inl (K 0, 600, .inl (fun _ => nI 0)))]) [0, 1, 2, 3, 4, 5, 6, 7, 8, 9, 10, 11, 12, 13, 14, 15, 16, 17, 18, 19, 20, 21, 22, 23, 24, 25, 26, 27, 28] (by decide) rfl rfl ?_
  refine xz_putF hC 0 rfl rfl 3 (by decide) inSx tq152 rfl tySx tySx_ok nmSx rfl rfl rfl rfl rfl (Nat.le_of_ble_eq_true rfl) (ws' := [(xo, .inr (5, [.ref di, .ref ts, .ref qu, .ref se])), (di, .inr (0, [.ref pw, .ref ln, .int (nI 0), .long 0, .int (nI 0)])), (pw, .inl (K 1, 24, .inr (.inl (fun _ => 0)))), (ln, .inl (K 0, 24, .inl (fun _ => nI 0))), (ts, .inr (4, [.ref pr, .ref os, .int (nI 0), .int (nI 0)])), (pr, .inl (K 4, 6, .inr (.inr (.inr (.inr fa))))), (oa 0, .inr (1, [.int (nI 0), .int (nI 1), .int (nI 2), .ref (ka 0), .int (nI 0)])), (ka 0, .inl (K 0, 60, .inl ((fun _ _ => nI 0) 0))), (oa 1, .inr (1, [.int (nI 0), .int (nI 2), .int (nI 1), .ref (ka 1), .int (nI 0)])), (ka 1, .inl (K 0, 60, .inl ((fun _ _ => nI 0) 1))), (oa 2, .inr (1, [.int (nI 1), .int (nI 0), .int (nI 2), .ref (ka 2), .int (nI 0)])), (ka 2, .inl (K 0, 60, .inl ((fun _ _ => nI 0) 2))), (oa 3, .inr (1, [.int (nI 1), .int (nI 2), .int (nI 0), .ref (ka 3), .int (nI 0)])), (ka 3, .inl (K 0, 60, .inl ((fun _ _ => nI 0) 3))), (oa 4, .inr (1, [.int (nI 2), .int (nI 0), .int (nI 1), .ref (ka 4), .int (nI 0)])), (ka 4, .inl (K 0, 60, .inl ((fun _ _ => nI 0) 4))), (oa 5, .inr (1, [.int (nI 2), .int (nI 1), .int (nI 0), .ref (ka 5), .int (nI 0)])), (ka 5, .inl (K 0, 60, .inl ((fun _ _ => nI 0) 5))), (os, .inr (1, [.int (nI 0), .int (nI 1), .int (nI 2), .ref ks, .int (nI 0)])), (ks, .inl (K 0, 60, .inl (fun _ => nI 0))), (qu, .inr (2, [.ref nu, .int (nI 0)])), (nu, .inl (K 0, 12, .inl (fun _ => nI 0))), (se, .inr (3, [.ref rw, .int (nI 0), .int (nI 0), .int (nI 0), .ref pl, .ref ho, .ref ag, .ref bi, .ref an, .int (nI 0), .int (nI 0)])), (rw, .inl (K 0, 3, .inl (fun _ => nI 0))), (pl, .inl (K 0, 12, .inl (fun _ => nI 0))), (ho, .inl (K 1, 72, .inr (.inl (fun _ => 0)))), (ag, .inl (K 1, 16, .inr (.inl (fun _ => 0)))), (bi, .inl (K 0, 3, .inl (fun _ => nI 0))), (an, .inl (K 0, 600, .inl (fun _ => nI 0)))]) rfl dSx_init_45 ?_
  exact xz_return hC (by decide) (by decide) (⟨di, pw, ln, ts, pr, os, ks, fa, oa, ka, qu, nu, se, rw, pl, ho, ag, bi, an, rfl, rfl, hfa⟩) dSx_init_48
