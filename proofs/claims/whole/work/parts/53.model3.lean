set_option maxHeartbeats 1000000 in
set_option maxRecDepth 100000 in
theorem mMo_partOf (l : Launch) (D : va_G) (K : Nat → ClassId) (c i : Nat) (hc : c < 32768) (hi : i < 3) : xz_Met l D (tz K) yMo_partOf cMo_partOf 2 (some .int) { frames := 0, cells := 0, slots := 0, locals := 0 } [.int (nI c), .int (nI i)] [] (fun v w => v = some (.int (nI (xk_pt c i))) ∧ w = []) := by
  refine xz_enter (by decide +kernel) (Nat.le_of_ble_eq_true rfl) ?_
  intro Γ hC
  refine xz_lcs (lc' := [(0, .int (nI c)), (1, .int (nI i))]) [0, 1] rfl ?_
  rcases (show i = 0 ∨ i = 1 ∨ i = 2 by omega) with rfl | rfl | rfl
  · skip
    refine xz_iload_n hC 1 rfl rfl dMo_partOf_0 ?_
    refine xz_if_ne hC (tgt := 12) (nI_toInt (by omega)) (by decide) dMo_partOf_1 (fun h1 => ?_) (fun h1 => ?_)
    · skip
      exfalso; omega
    · skip
      refine xz_iload_n hC 0 rfl rfl dMo_partOf_4 ?_
      refine xz_sipush hC (v := nI 1024) (by decide +kernel) dMo_partOf_5 ?_
      refine xz_idiv hC (z := nI (c / 1024)) (nI_ne0 (by omega) (by omega)) (pk_div (by omega) (by omega) (by omega)) dMo_partOf_8 ?_
      refine xz_goto hC (tgt := 31) (by decide) dMo_partOf_9 ?_
      exact xz_ireturn hC (by decide) (by decide) (by first | exact ⟨by rw [xk_pt_m0 hc], rfl⟩ | exact ⟨rfl, rfl⟩ | exact ⟨by rw [xk_pt2], rfl⟩) dMo_partOf_31
  · skip
    refine xz_iload_n hC 1 rfl rfl dMo_partOf_0 ?_
    refine xz_if_ne hC (tgt := 12) (nI_toInt (by omega)) (by decide) dMo_partOf_1 (fun h2 => ?_) (fun h2 => ?_)
    · skip
      refine xz_iload_n hC 1 rfl rfl dMo_partOf_12 ?_
      refine xz_iconst hC (v := nI 1) (by decide +kernel) dMo_partOf_13 ?_
      refine xz_icmp_ne hC (tgt := 27) (nI_toInt (by omega)) (nI_toInt (by omega)) (by decide) dMo_partOf_14 (fun h3 => ?_) (fun h3 => ?_)
      · skip
        exfalso; omega
      · skip
        refine xz_iload_n hC 0 rfl rfl dMo_partOf_17 ?_
        refine xz_bipush hC (v := nI 32) (by decide +kernel) dMo_partOf_18 ?_
        refine xz_idiv hC (z := nI (c / 32)) (nI_ne0 (by omega) (by omega)) (pk_div (by omega) (by omega) (by omega)) dMo_partOf_20 ?_
        refine xz_bipush hC (v := nI 32) (by decide +kernel) dMo_partOf_21 ?_
        refine xz_irem hC (z := nI ((c / 32) % 32)) (nI_ne0 (by omega) (by omega)) (pk_rem (by omega) (by omega) (by omega)) dMo_partOf_23 ?_
        refine xz_goto hC (tgt := 31) (by decide) dMo_partOf_24 ?_
        exact xz_ireturn hC (by decide) (by decide) (by first | exact ⟨by rw [xk_pt_m0 hc], rfl⟩ | exact ⟨rfl, rfl⟩ | exact ⟨by rw [xk_pt2], rfl⟩) dMo_partOf_31
    · skip
      exfalso; omega
  · skip
    refine xz_iload_n hC 1 rfl rfl dMo_partOf_0 ?_
    refine xz_if_ne hC (tgt := 12) (nI_toInt (by omega)) (by decide) dMo_partOf_1 (fun h4 => ?_) (fun h4 => ?_)
    · skip
      refine xz_iload_n hC 1 rfl rfl dMo_partOf_12 ?_
      refine xz_iconst hC (v := nI 1) (by decide +kernel) dMo_partOf_13 ?_
      refine xz_icmp_ne hC (tgt := 27) (nI_toInt (by omega)) (nI_toInt (by omega)) (by decide) dMo_partOf_14 (fun h5 => ?_) (fun h5 => ?_)
      · skip
        refine xz_iload_n hC 0 rfl rfl dMo_partOf_27 ?_
        refine xz_bipush hC (v := nI 32) (by decide +kernel) dMo_partOf_28 ?_
        refine xz_irem hC (z := nI (c % 32)) (nI_ne0 (by omega) (by omega)) (pk_rem (by omega) (by omega) (by omega)) dMo_partOf_30 ?_
        exact xz_ireturn hC (by decide) (by decide) (by first | exact ⟨by rw [xk_pt_m0 hc], rfl⟩ | exact ⟨rfl, rfl⟩ | exact ⟨by rw [xk_pt2], rfl⟩) dMo_partOf_31
      · skip
        exfalso; omega
    · skip
      exfalso; omega
set_option maxHeartbeats 1000000 in
set_option maxRecDepth 100000 in
theorem mMo_turned (l : Launch) (D : va_G) (K : Nat → ClassId) (c wy : Nat) (hc : c < 32768) (hwy : wy < 6) : xz_Met l D (tz K) yMo_turned cMo_turned 4 (some .int) { frames := 1, cells := 0, slots := 0, locals := 22 } [.int (nI c), .int (nI wy)] [] (fun v w => v = some (.int (nI (xk_kw wy c))) ∧ w = []) := by
  refine xz_enter (by decide +kernel) (Nat.le_of_ble_eq_true rfl) ?_
  intro Γ hC
  refine xz_lcs (lc' := [(0, .int (nI c)), (1, .int (nI wy))]) [0, 1] rfl ?_
  rcases (show wy = 0 ∨ wy = 1 ∨ wy = 2 ∨ wy = 3 ∨ wy = 4 ∨ wy = 5 by omega) with rfl | rfl | rfl | rfl | rfl | rfl
  · skip
    refine xz_iload_n hC 1 rfl rfl dMo_turned_0 ?_
    refine xz_iconst hC (v := nI 2) (by decide +kernel) dMo_turned_1 ?_
    refine xz_idiv hC (z := nI 0) (by decide +kernel) (by decide +kernel) dMo_turned_2 ?_
    refine xz_istore_n hC (lc' := [(2, .int (nI 0)), (0, .int (nI c)), (1, .int (nI 0))]) rfl (by decide) rfl dMo_turned_3 ?_
    refine xz_iload_n hC 2 rfl rfl dMo_turned_4 ?_
    refine xz_iconst hC (v := nI 2) (by decide +kernel) dMo_turned_5 ?_
    refine xz_irem hC (z := nI 0) (by decide +kernel) (by decide +kernel) dMo_turned_6 ?_
    refine xz_if_ne hC (tgt := 22) (nI_toInt (by omega)) (by decide) dMo_turned_7 (fun h1 => ?_) (fun h1 => ?_)
    · skip
      exfalso; omega
    · skip
      refine xz_iload_n hC 0 rfl rfl dMo_turned_10 ?_
      refine xz_if_ne hC (tgt := 18) (nI_toInt (by omega)) (by decide) dMo_turned_11 (fun h2 => ?_) (fun h2 => ?_)
      · skip
        exfalso; omega
      · skip
        refine xz_iconst hC (v := nI 1) (by decide +kernel) dMo_turned_14 ?_
        refine xz_goto hC (tgt := 32) (by decide) dMo_turned_15 ?_
        refine xz_istore_n hC (lc' := [(3, .int (nI 1)), (2, .int (nI 0)), (0, .int (nI c)), (1, .int (nI 0))]) rfl (by decide) rfl dMo_turned_32 ?_
        refine xz_iload_n hC 2 rfl rfl dMo_turned_33 ?_
        refine xz_iload_n hC 1 rfl rfl dMo_turned_34 ?_
        refine xz_callS hC (mMo_partOf l D K c 0 hc (by omega)) kMo_partOf tq7 tq561 tq562 (host := "") (b := 0) hMo_partOf (by decide) [] [] (by decide) rfl (wr := []) rfl (by decide) (by decide) (As := [.int (nI c), .int (nI 0)]) (rest := []) rfl rfl (Nat.le_of_ble_eq_true rfl) (by decide) dMo_turned_35 (fun v w hq => ?_)
        obtain ⟨rfl, rfl⟩ := hq
        refine xz_ste (st' := [.int (nI (xk_pt c 0))]) rfl ?_
        refine xz_wss (ws' := []) [] (by decide) rfl rfl ?_
        refine xz_iload_n hC 2 rfl rfl dMo_turned_38 ?_
        refine xz_iload_n hC 0 rfl rfl dMo_turned_39 ?_
        refine xz_callS hC (mMo_partOf l D K c 1 hc (by omega)) kMo_partOf tq7 tq561 tq562 (host := "") (b := 0) hMo_partOf (by decide) [] [] (by decide) rfl (wr := []) rfl (by decide) (by decide) (As := [.int (nI c), .int (nI 1)]) (rest := [.int (nI (xk_pt c 0))]) rfl rfl (Nat.le_of_ble_eq_true rfl) (by decide) dMo_turned_40 (fun v w hq => ?_)
        obtain ⟨rfl, rfl⟩ := hq
        refine xz_ste (st' := [.int (nI (xk_pt c 1)), .int (nI (xk_pt c 0))]) rfl ?_
        refine xz_wss (ws' := []) [] (by decide) rfl rfl ?_
        refine xz_iload_n hC 2 rfl rfl dMo_turned_43 ?_
        refine xz_iconst hC (v := nI 3) (by decide +kernel) dMo_turned_44 ?_
        refine xz_iload_n hC 1 rfl rfl dMo_turned_45 ?_
        refine xz_isub hC (z := nI 3) (by decide +kernel) dMo_turned_46 ?_
        refine xz_iload_n hC 0 rfl rfl dMo_turned_47 ?_
        refine xz_isub hC (z := nI 2) (by decide +kernel) dMo_turned_48 ?_
        refine xz_callS hC (mMo_partOf l D K c 2 hc (by omega)) kMo_partOf tq7 tq561 tq562 (host := "") (b := 0) hMo_partOf (by decide) [] [] (by decide) rfl (wr := []) rfl (by decide) (by decide) (As := [.int (nI c), .int (nI 2)]) (rest := [.int (nI (xk_pt c 1)), .int (nI (xk_pt c 0))]) rfl rfl (Nat.le_of_ble_eq_true rfl) (by decide) dMo_turned_49 (fun v w hq => ?_)
        obtain ⟨rfl, rfl⟩ := hq
        refine xz_ste (st' := [.int (nI (xk_pt c 2)), .int (nI (xk_pt c 1)), .int (nI (xk_pt c 0))]) rfl ?_
        refine xz_wss (ws' := []) [] (by decide) rfl rfl ?_
        refine xz_callS hC (mMo_code l D K (xk_pt c 0) (xk_pt c 1) (xk_pt c 2)) kMo_code tq7 tq534 tq535 (host := "") (b := 0) hMo_code (by decide) [] [] (by decide) rfl (wr := []) rfl (by decide) (by decide) (As := [.int (nI (xk_pt c 0)), .int (nI (xk_pt c 1)), .int (nI (xk_pt c 2))]) (rest := []) rfl rfl (Nat.le_of_ble_eq_true rfl) (by decide) dMo_turned_52 (fun v w hq => ?_)
        obtain ⟨rfl, rfl⟩ := hq
        refine xz_ste (st' := [.int (nI (xk_cd (xk_pt c 0) (xk_pt c 1) (xk_pt c 2)))]) rfl ?_
        refine xz_wss (ws' := []) [] (by decide) rfl rfl ?_
        exact xz_ireturn hC (by decide) (by decide) (⟨rfl, rfl⟩) dMo_turned_55
  · skip
    refine xz_iload_n hC 1 rfl rfl dMo_turned_0 ?_
    refine xz_iconst hC (v := nI 2) (by decide +kernel) dMo_turned_1 ?_
    refine xz_idiv hC (z := nI 0) (by decide +kernel) (by decide +kernel) dMo_turned_2 ?_
    refine xz_istore_n hC (lc' := [(2, .int (nI 0)), (0, .int (nI c)), (1, .int (nI 1))]) rfl (by decide) rfl dMo_turned_3 ?_
    refine xz_iload_n hC 2 rfl rfl dMo_turned_4 ?_
    refine xz_iconst hC (v := nI 2) (by decide +kernel) dMo_turned_5 ?_
    refine xz_irem hC (z := nI 1) (by decide +kernel) (by decide +kernel) dMo_turned_6 ?_
    refine xz_if_ne hC (tgt := 22) (nI_toInt (by omega)) (by decide) dMo_turned_7 (fun h3 => ?_) (fun h3 => ?_)
    · skip
      refine xz_iload_n hC 0 rfl rfl dMo_turned_22 ?_
      refine xz_iconst hC (v := nI 2) (by decide +kernel) dMo_turned_23 ?_
      refine xz_icmp_ne hC (tgt := 31) (nI_toInt (by omega)) (nI_toInt (by omega)) (by decide) dMo_turned_24 (fun h4 => ?_) (fun h4 => ?_)
      · skip
        refine xz_iconst hC (v := nI 2) (by decide +kernel) dMo_turned_31 ?_
        refine xz_istore_n hC (lc' := [(3, .int (nI 2)), (2, .int (nI 0)), (0, .int (nI c)), (1, .int (nI 1))]) rfl (by decide) rfl dMo_turned_32 ?_
        refine xz_iload_n hC 2 rfl rfl dMo_turned_33 ?_
        refine xz_iload_n hC 1 rfl rfl dMo_turned_34 ?_
        refine xz_callS hC (mMo_partOf l D K c 0 hc (by omega)) kMo_partOf tq7 tq561 tq562 (host := "") (b := 0) hMo_partOf (by decide) [] [] (by decide) rfl (wr := []) rfl (by decide) (by decide) (As := [.int (nI c), .int (nI 0)]) (rest := []) rfl rfl (Nat.le_of_ble_eq_true rfl) (by decide) dMo_turned_35 (fun v w hq => ?_)
        obtain ⟨rfl, rfl⟩ := hq
        refine xz_ste (st' := [.int (nI (xk_pt c 0))]) rfl ?_
        refine xz_wss (ws' := []) [] (by decide) rfl rfl ?_
        refine xz_iload_n hC 2 rfl rfl dMo_turned_38 ?_
        refine xz_iload_n hC 0 rfl rfl dMo_turned_39 ?_
        refine xz_callS hC (mMo_partOf l D K c 2 hc (by omega)) kMo_partOf tq7 tq561 tq562 (host := "") (b := 0) hMo_partOf (by decide) [] [] (by decide) rfl (wr := []) rfl (by decide) (by decide) (As := [.int (nI c), .int (nI 2)]) (rest := [.int (nI (xk_pt c 0))]) rfl rfl (Nat.le_of_ble_eq_true rfl) (by decide) dMo_turned_40 (fun v w hq => ?_)
        obtain ⟨rfl, rfl⟩ := hq
        refine xz_ste (st' := [.int (nI (xk_pt c 2)), .int (nI (xk_pt c 0))]) rfl ?_
        refine xz_wss (ws' := []) [] (by decide) rfl rfl ?_
        refine xz_iload_n hC 2 rfl rfl dMo_turned_43 ?_
        refine xz_iconst hC (v := nI 3) (by decide +kernel) dMo_turned_44 ?_
        refine xz_iload_n hC 1 rfl rfl dMo_turned_45 ?_
        refine xz_isub hC (z := nI 3) (by decide +kernel) dMo_turned_46 ?_
        refine xz_iload_n hC 0 rfl rfl dMo_turned_47 ?_
        refine xz_isub hC (z := nI 1) (by decide +kernel) dMo_turned_48 ?_
        refine xz_callS hC (mMo_partOf l D K c 1 hc (by omega)) kMo_partOf tq7 tq561 tq562 (host := "") (b := 0) hMo_partOf (by decide) [] [] (by decide) rfl (wr := []) rfl (by decide) (by decide) (As := [.int (nI c), .int (nI 1)]) (rest := [.int (nI (xk_pt c 2)), .int (nI (xk_pt c 0))]) rfl rfl (Nat.le_of_ble_eq_true rfl) (by decide) dMo_turned_49 (fun v w hq => ?_)
        obtain ⟨rfl, rfl⟩ := hq
        refine xz_ste (st' := [.int (nI (xk_pt c 1)), .int (nI (xk_pt c 2)), .int (nI (xk_pt c 0))]) rfl ?_
        refine xz_wss (ws' := []) [] (by decide) rfl rfl ?_
        refine xz_callS hC (mMo_code l D K (xk_pt c 0) (xk_pt c 2) (xk_pt c 1)) kMo_code tq7 tq534 tq535 (host := "") (b := 0) hMo_code (by decide) [] [] (by decide) rfl (wr := []) rfl (by decide) (by decide) (As := [.int (nI (xk_pt c 0)), .int (nI (xk_pt c 2)), .int (nI (xk_pt c 1))]) (rest := []) rfl rfl (Nat.le_of_ble_eq_true rfl) (by decide) dMo_turned_52 (fun v w hq => ?_)
        obtain ⟨rfl, rfl⟩ := hq
        refine xz_ste (st' := [.int (nI (xk_cd (xk_pt c 0) (xk_pt c 2) (xk_pt c 1)))]) rfl ?_
        refine xz_wss (ws' := []) [] (by decide) rfl rfl ?_
        exact xz_ireturn hC (by decide) (by decide) (⟨rfl, rfl⟩) dMo_turned_55
      · skip
        exfalso; omega
    · skip
      exfalso; omega
  · skip
    refine xz_iload_n hC 1 rfl rfl dMo_turned_0 ?_
    refine xz_iconst hC (v := nI 2) (by decide +kernel) dMo_turned_1 ?_
    refine xz_idiv hC (z := nI 1) (by decide +kernel) (by decide +kernel) dMo_turned_2 ?_
    refine xz_istore_n hC (lc' := [(2, .int (nI 1)), (0, .int (nI c)), (1, .int (nI 2))]) rfl (by decide) rfl dMo_turned_3 ?_
    refine xz_iload_n hC 2 rfl rfl dMo_turned_4 ?_
    refine xz_iconst hC (v := nI 2) (by decide +kernel) dMo_turned_5 ?_
    refine xz_irem hC (z := nI 0) (by decide +kernel) (by decide +kernel) dMo_turned_6 ?_
    refine xz_if_ne hC (tgt := 22) (nI_toInt (by omega)) (by decide) dMo_turned_7 (fun h5 => ?_) (fun h5 => ?_)
    · skip
      exfalso; omega
    · skip
      refine xz_iload_n hC 0 rfl rfl dMo_turned_10 ?_
      refine xz_if_ne hC (tgt := 18) (nI_toInt (by omega)) (by decide) dMo_turned_11 (fun h6 => ?_) (fun h6 => ?_)
      · skip
        refine xz_iconst hC (v := nI 0) (by decide +kernel) dMo_turned_18 ?_
        refine xz_goto hC (tgt := 32) (by decide) dMo_turned_19 ?_
        refine xz_istore_n hC (lc' := [(3, .int (nI 0)), (2, .int (nI 1)), (0, .int (nI c)), (1, .int (nI 2))]) rfl (by decide) rfl dMo_turned_32 ?_
        refine xz_iload_n hC 2 rfl rfl dMo_turned_33 ?_
        refine xz_iload_n hC 1 rfl rfl dMo_turned_34 ?_
        refine xz_callS hC (mMo_partOf l D K c 1 hc (by omega)) kMo_partOf tq7 tq561 tq562 (host := "") (b := 0) hMo_partOf (by decide) [] [] (by decide) rfl (wr := []) rfl (by decide) (by decide) (As := [.int (nI c), .int (nI 1)]) (rest := []) rfl rfl (Nat.le_of_ble_eq_true rfl) (by decide) dMo_turned_35 (fun v w hq => ?_)
        obtain ⟨rfl, rfl⟩ := hq
        refine xz_ste (st' := [.int (nI (xk_pt c 1))]) rfl ?_
        refine xz_wss (ws' := []) [] (by decide) rfl rfl ?_
        refine xz_iload_n hC 2 rfl rfl dMo_turned_38 ?_
        refine xz_iload_n hC 0 rfl rfl dMo_turned_39 ?_
        refine xz_callS hC (mMo_partOf l D K c 0 hc (by omega)) kMo_partOf tq7 tq561 tq562 (host := "") (b := 0) hMo_partOf (by decide) [] [] (by decide) rfl (wr := []) rfl (by decide) (by decide) (As := [.int (nI c), .int (nI 0)]) (rest := [.int (nI (xk_pt c 1))]) rfl rfl (Nat.le_of_ble_eq_true rfl) (by decide) dMo_turned_40 (fun v w hq => ?_)
        obtain ⟨rfl, rfl⟩ := hq
        refine xz_ste (st' := [.int (nI (xk_pt c 0)), .int (nI (xk_pt c 1))]) rfl ?_
        refine xz_wss (ws' := []) [] (by decide) rfl rfl ?_
        refine xz_iload_n hC 2 rfl rfl dMo_turned_43 ?_
        refine xz_iconst hC (v := nI 3) (by decide +kernel) dMo_turned_44 ?_
        refine xz_iload_n hC 1 rfl rfl dMo_turned_45 ?_
        refine xz_isub hC (z := nI 2) (by decide +kernel) dMo_turned_46 ?_
        refine xz_iload_n hC 0 rfl rfl dMo_turned_47 ?_
        refine xz_isub hC (z := nI 2) (by decide +kernel) dMo_turned_48 ?_
        refine xz_callS hC (mMo_partOf l D K c 2 hc (by omega)) kMo_partOf tq7 tq561 tq562 (host := "") (b := 0) hMo_partOf (by decide) [] [] (by decide) rfl (wr := []) rfl (by decide) (by decide) (As := [.int (nI c), .int (nI 2)]) (rest := [.int (nI (xk_pt c 0)), .int (nI (xk_pt c 1))]) rfl rfl (Nat.le_of_ble_eq_true rfl) (by decide) dMo_turned_49 (fun v w hq => ?_)
        obtain ⟨rfl, rfl⟩ := hq
        refine xz_ste (st' := [.int (nI (xk_pt c 2)), .int (nI (xk_pt c 0)), .int (nI (xk_pt c 1))]) rfl ?_
        refine xz_wss (ws' := []) [] (by decide) rfl rfl ?_
        refine xz_callS hC (mMo_code l D K (xk_pt c 1) (xk_pt c 0) (xk_pt c 2)) kMo_code tq7 tq534 tq535 (host := "") (b := 0) hMo_code (by decide) [] [] (by decide) rfl (wr := []) rfl (by decide) (by decide) (As := [.int (nI (xk_pt c 1)), .int (nI (xk_pt c 0)), .int (nI (xk_pt c 2))]) (rest := []) rfl rfl (Nat.le_of_ble_eq_true rfl) (by decide) dMo_turned_52 (fun v w hq => ?_)
        obtain ⟨rfl, rfl⟩ := hq
        refine xz_ste (st' := [.int (nI (xk_cd (xk_pt c 1) (xk_pt c 0) (xk_pt c 2)))]) rfl ?_
        refine xz_wss (ws' := []) [] (by decide) rfl rfl ?_
        exact xz_ireturn hC (by decide) (by decide) (⟨rfl, rfl⟩) dMo_turned_55
      · skip
        exfalso; omega
  · skip
    refine xz_iload_n hC 1 rfl rfl dMo_turned_0 ?_
    refine xz_iconst hC (v := nI 2) (by decide +kernel) dMo_turned_1 ?_
    refine xz_idiv hC (z := nI 1) (by decide +kernel) (by decide +kernel) dMo_turned_2 ?_
    refine xz_istore_n hC (lc' := [(2, .int (nI 1)), (0, .int (nI c)), (1, .int (nI 3))]) rfl (by decide) rfl dMo_turned_3 ?_
    refine xz_iload_n hC 2 rfl rfl dMo_turned_4 ?_
    refine xz_iconst hC (v := nI 2) (by decide +kernel) dMo_turned_5 ?_
    refine xz_irem hC (z := nI 1) (by decide +kernel) (by decide +kernel) dMo_turned_6 ?_
    refine xz_if_ne hC (tgt := 22) (nI_toInt (by omega)) (by decide) dMo_turned_7 (fun h7 => ?_) (fun h7 => ?_)
    · skip
      refine xz_iload_n hC 0 rfl rfl dMo_turned_22 ?_
      refine xz_iconst hC (v := nI 2) (by decide +kernel) dMo_turned_23 ?_
      refine xz_icmp_ne hC (tgt := 31) (nI_toInt (by omega)) (nI_toInt (by omega)) (by decide) dMo_turned_24 (fun h8 => ?_) (fun h8 => ?_)
      · skip
        refine xz_iconst hC (v := nI 2) (by decide +kernel) dMo_turned_31 ?_
        refine xz_istore_n hC (lc' := [(3, .int (nI 2)), (2, .int (nI 1)), (0, .int (nI c)), (1, .int (nI 3))]) rfl (by decide) rfl dMo_turned_32 ?_
        refine xz_iload_n hC 2 rfl rfl dMo_turned_33 ?_
        refine xz_iload_n hC 1 rfl rfl dMo_turned_34 ?_
        refine xz_callS hC (mMo_partOf l D K c 1 hc (by omega)) kMo_partOf tq7 tq561 tq562 (host := "") (b := 0) hMo_partOf (by decide) [] [] (by decide) rfl (wr := []) rfl (by decide) (by decide) (As := [.int (nI c), .int (nI 1)]) (rest := []) rfl rfl (Nat.le_of_ble_eq_true rfl) (by decide) dMo_turned_35 (fun v w hq => ?_)
        obtain ⟨rfl, rfl⟩ := hq
        refine xz_ste (st' := [.int (nI (xk_pt c 1))]) rfl ?_
        refine xz_wss (ws' := []) [] (by decide) rfl rfl ?_
        refine xz_iload_n hC 2 rfl rfl dMo_turned_38 ?_
        refine xz_iload_n hC 0 rfl rfl dMo_turned_39 ?_
        refine xz_callS hC (mMo_partOf l D K c 2 hc (by omega)) kMo_partOf tq7 tq561 tq562 (host := "") (b := 0) hMo_partOf (by decide) [] [] (by decide) rfl (wr := []) rfl (by decide) (by decide) (As := [.int (nI c), .int (nI 2)]) (rest := [.int (nI (xk_pt c 1))]) rfl rfl (Nat.le_of_ble_eq_true rfl) (by decide) dMo_turned_40 (fun v w hq => ?_)
        obtain ⟨rfl, rfl⟩ := hq
        refine xz_ste (st' := [.int (nI (xk_pt c 2)), .int (nI (xk_pt c 1))]) rfl ?_
        refine xz_wss (ws' := []) [] (by decide) rfl rfl ?_
        refine xz_iload_n hC 2 rfl rfl dMo_turned_43 ?_
        refine xz_iconst hC (v := nI 3) (by decide +kernel) dMo_turned_44 ?_
        refine xz_iload_n hC 1 rfl rfl dMo_turned_45 ?_
        refine xz_isub hC (z := nI 2) (by decide +kernel) dMo_turned_46 ?_
        refine xz_iload_n hC 0 rfl rfl dMo_turned_47 ?_
        refine xz_isub hC (z := nI 0) (by decide +kernel) dMo_turned_48 ?_
        refine xz_callS hC (mMo_partOf l D K c 0 hc (by omega)) kMo_partOf tq7 tq561 tq562 (host := "") (b := 0) hMo_partOf (by decide) [] [] (by decide) rfl (wr := []) rfl (by decide) (by decide) (As := [.int (nI c), .int (nI 0)]) (rest := [.int (nI (xk_pt c 2)), .int (nI (xk_pt c 1))]) rfl rfl (Nat.le_of_ble_eq_true rfl) (by decide) dMo_turned_49 (fun v w hq => ?_)
        obtain ⟨rfl, rfl⟩ := hq
        refine xz_ste (st' := [.int (nI (xk_pt c 0)), .int (nI (xk_pt c 2)), .int (nI (xk_pt c 1))]) rfl ?_
        refine xz_wss (ws' := []) [] (by decide) rfl rfl ?_
        refine xz_callS hC (mMo_code l D K (xk_pt c 1) (xk_pt c 2) (xk_pt c 0)) kMo_code tq7 tq534 tq535 (host := "") (b := 0) hMo_code (by decide) [] [] (by decide) rfl (wr := []) rfl (by decide) (by decide) (As := [.int (nI (xk_pt c 1)), .int (nI (xk_pt c 2)), .int (nI (xk_pt c 0))]) (rest := []) rfl rfl (Nat.le_of_ble_eq_true rfl) (by decide) dMo_turned_52 (fun v w hq => ?_)
        obtain ⟨rfl, rfl⟩ := hq
        refine xz_ste (st' := [.int (nI (xk_cd (xk_pt c 1) (xk_pt c 2) (xk_pt c 0)))]) rfl ?_
        refine xz_wss (ws' := []) [] (by decide) rfl rfl ?_
        exact xz_ireturn hC (by decide) (by decide) (⟨rfl, rfl⟩) dMo_turned_55
      · skip
        exfalso; omega
    · skip
      exfalso; omega
  · skip
    refine xz_iload_n hC 1 rfl rfl dMo_turned_0 ?_
    refine xz_iconst hC (v := nI 2) (by decide +kernel) dMo_turned_1 ?_
    refine xz_idiv hC (z := nI 2) (by decide +kernel) (by decide +kernel) dMo_turned_2 ?_
    refine xz_istore_n hC (lc' := [(2, .int (nI 2)), (0, .int (nI c)), (1, .int (nI 4))]) rfl (by decide) rfl dMo_turned_3 ?_
    refine xz_iload_n hC 2 rfl rfl dMo_turned_4 ?_
    refine xz_iconst hC (v := nI 2) (by decide +kernel) dMo_turned_5 ?_
    refine xz_irem hC (z := nI 0) (by decide +kernel) (by decide +kernel) dMo_turned_6 ?_
    refine xz_if_ne hC (tgt := 22) (nI_toInt (by omega)) (by decide) dMo_turned_7 (fun h9 => ?_) (fun h9 => ?_)
    · skip
      exfalso; omega
    · skip
      refine xz_iload_n hC 0 rfl rfl dMo_turned_10 ?_
      refine xz_if_ne hC (tgt := 18) (nI_toInt (by omega)) (by decide) dMo_turned_11 (fun h10 => ?_) (fun h10 => ?_)
      · skip
        refine xz_iconst hC (v := nI 0) (by decide +kernel) dMo_turned_18 ?_
        refine xz_goto hC (tgt := 32) (by decide) dMo_turned_19 ?_
        refine xz_istore_n hC (lc' := [(3, .int (nI 0)), (2, .int (nI 2)), (0, .int (nI c)), (1, .int (nI 4))]) rfl (by decide) rfl dMo_turned_32 ?_
        refine xz_iload_n hC 2 rfl rfl dMo_turned_33 ?_
        refine xz_iload_n hC 1 rfl rfl dMo_turned_34 ?_
        refine xz_callS hC (mMo_partOf l D K c 2 hc (by omega)) kMo_partOf tq7 tq561 tq562 (host := "") (b := 0) hMo_partOf (by decide) [] [] (by decide) rfl (wr := []) rfl (by decide) (by decide) (As := [.int (nI c), .int (nI 2)]) (rest := []) rfl rfl (Nat.le_of_ble_eq_true rfl) (by decide) dMo_turned_35 (fun v w hq => ?_)
        obtain ⟨rfl, rfl⟩ := hq
        refine xz_ste (st' := [.int (nI (xk_pt c 2))]) rfl ?_
        refine xz_wss (ws' := []) [] (by decide) rfl rfl ?_
        refine xz_iload_n hC 2 rfl rfl dMo_turned_38 ?_
        refine xz_iload_n hC 0 rfl rfl dMo_turned_39 ?_
        refine xz_callS hC (mMo_partOf l D K c 0 hc (by omega)) kMo_partOf tq7 tq561 tq562 (host := "") (b := 0) hMo_partOf (by decide) [] [] (by decide) rfl (wr := []) rfl (by decide) (by decide) (As := [.int (nI c), .int (nI 0)]) (rest := [.int (nI (xk_pt c 2))]) rfl rfl (Nat.le_of_ble_eq_true rfl) (by decide) dMo_turned_40 (fun v w hq => ?_)
        obtain ⟨rfl, rfl⟩ := hq
        refine xz_ste (st' := [.int (nI (xk_pt c 0)), .int (nI (xk_pt c 2))]) rfl ?_
        refine xz_wss (ws' := []) [] (by decide) rfl rfl ?_
        refine xz_iload_n hC 2 rfl rfl dMo_turned_43 ?_
        refine xz_iconst hC (v := nI 3) (by decide +kernel) dMo_turned_44 ?_
        refine xz_iload_n hC 1 rfl rfl dMo_turned_45 ?_
        refine xz_isub hC (z := nI 1) (by decide +kernel) dMo_turned_46 ?_
        refine xz_iload_n hC 0 rfl rfl dMo_turned_47 ?_
        refine xz_isub hC (z := nI 1) (by decide +kernel) dMo_turned_48 ?_
        refine xz_callS hC (mMo_partOf l D K c 1 hc (by omega)) kMo_partOf tq7 tq561 tq562 (host := "") (b := 0) hMo_partOf (by decide) [] [] (by decide) rfl (wr := []) rfl (by decide) (by decide) (As := [.int (nI c), .int (nI 1)]) (rest := [.int (nI (xk_pt c 0)), .int (nI (xk_pt c 2))]) rfl rfl (Nat.le_of_ble_eq_true rfl) (by decide) dMo_turned_49 (fun v w hq => ?_)
        obtain ⟨rfl, rfl⟩ := hq
        refine xz_ste (st' := [.int (nI (xk_pt c 1)), .int (nI (xk_pt c 0)), .int (nI (xk_pt c 2))]) rfl ?_
        refine xz_wss (ws' := []) [] (by decide) rfl rfl ?_
        refine xz_callS hC (mMo_code l D K (xk_pt c 2) (xk_pt c 0) (xk_pt c 1)) kMo_code tq7 tq534 tq535 (host := "") (b := 0) hMo_code (by decide) [] [] (by decide) rfl (wr := []) rfl (by decide) (by decide) (As := [.int (nI (xk_pt c 2)), .int (nI (xk_pt c 0)), .int (nI (xk_pt c 1))]) (rest := []) rfl rfl (Nat.le_of_ble_eq_true rfl) (by decide) dMo_turned_52 (fun v w hq => ?_)
        obtain ⟨rfl, rfl⟩ := hq
        refine xz_ste (st' := [.int (nI (xk_cd (xk_pt c 2) (xk_pt c 0) (xk_pt c 1)))]) rfl ?_
        refine xz_wss (ws' := []) [] (by decide) rfl rfl ?_
        exact xz_ireturn hC (by decide) (by decide) (⟨rfl, rfl⟩) dMo_turned_55
      · skip
        exfalso; omega
  · skip
    refine xz_iload_n hC 1 rfl rfl dMo_turned_0 ?_
    refine xz_iconst hC (v := nI 2) (by decide +kernel) dMo_turned_1 ?_
    refine xz_idiv hC (z := nI 2) (by decide +kernel) (by decide +kernel) dMo_turned_2 ?_
    refine xz_istore_n hC (lc' := [(2, .int (nI 2)), (0, .int (nI c)), (1, .int (nI 5))]) rfl (by decide) rfl dMo_turned_3 ?_
    refine xz_iload_n hC 2 rfl rfl dMo_turned_4 ?_
    refine xz_iconst hC (v := nI 2) (by decide +kernel) dMo_turned_5 ?_
    refine xz_irem hC (z := nI 1) (by decide +kernel) (by decide +kernel) dMo_turned_6 ?_
    refine xz_if_ne hC (tgt := 22) (nI_toInt (by omega)) (by decide) dMo_turned_7 (fun h11 => ?_) (fun h11 => ?_)
    · skip
      refine xz_iload_n hC 0 rfl rfl dMo_turned_22 ?_
      refine xz_iconst hC (v := nI 2) (by decide +kernel) dMo_turned_23 ?_
      refine xz_icmp_ne hC (tgt := 31) (nI_toInt (by omega)) (nI_toInt (by omega)) (by decide) dMo_turned_24 (fun h12 => ?_) (fun h12 => ?_)
      · skip
        exfalso; omega
      · skip
        refine xz_iconst hC (v := nI 1) (by decide +kernel) dMo_turned_27 ?_
        refine xz_goto hC (tgt := 32) (by decide) dMo_turned_28 ?_
        refine xz_istore_n hC (lc' := [(3, .int (nI 1)), (2, .int (nI 2)), (0, .int (nI c)), (1, .int (nI 5))]) rfl (by decide) rfl dMo_turned_32 ?_
        refine xz_iload_n hC 2 rfl rfl dMo_turned_33 ?_
        refine xz_iload_n hC 1 rfl rfl dMo_turned_34 ?_
        refine xz_callS hC (mMo_partOf l D K c 2 hc (by omega)) kMo_partOf tq7 tq561 tq562 (host := "") (b := 0) hMo_partOf (by decide) [] [] (by decide) rfl (wr := []) rfl (by decide) (by decide) (As := [.int (nI c), .int (nI 2)]) (rest := []) rfl rfl (Nat.le_of_ble_eq_true rfl) (by decide) dMo_turned_35 (fun v w hq => ?_)
        obtain ⟨rfl, rfl⟩ := hq
        refine xz_ste (st' := [.int (nI (xk_pt c 2))]) rfl ?_
        refine xz_wss (ws' := []) [] (by decide) rfl rfl ?_
        refine xz_iload_n hC 2 rfl rfl dMo_turned_38 ?_
        refine xz_iload_n hC 0 rfl rfl dMo_turned_39 ?_
        refine xz_callS hC (mMo_partOf l D K c 1 hc (by omega)) kMo_partOf tq7 tq561 tq562 (host := "") (b := 0) hMo_partOf (by decide) [] [] (by decide) rfl (wr := []) rfl (by decide) (by decide) (As := [.int (nI c), .int (nI 1)]) (rest := [.int (nI (xk_pt c 2))]) rfl rfl (Nat.le_of_ble_eq_true rfl) (by decide) dMo_turned_40 (fun v w hq => ?_)
        obtain ⟨rfl, rfl⟩ := hq
        refine xz_ste (st' := [.int (nI (xk_pt c 1)), .int (nI (xk_pt c 2))]) rfl ?_
        refine xz_wss (ws' := []) [] (by decide) rfl rfl ?_
        refine xz_iload_n hC 2 rfl rfl dMo_turned_43 ?_
        refine xz_iconst hC (v := nI 3) (by decide +kernel) dMo_turned_44 ?_
        refine xz_iload_n hC 1 rfl rfl dMo_turned_45 ?_
        refine xz_isub hC (z := nI 1) (by decide +kernel) dMo_turned_46 ?_
        refine xz_iload_n hC 0 rfl rfl dMo_turned_47 ?_
        refine xz_isub hC (z := nI 0) (by decide +kernel) dMo_turned_48 ?_
        refine xz_callS hC (mMo_partOf l D K c 0 hc (by omega)) kMo_partOf tq7 tq561 tq562 (host := "") (b := 0) hMo_partOf (by decide) [] [] (by decide) rfl (wr := []) rfl (by decide) (by decide) (As := [.int (nI c), .int (nI 0)]) (rest := [.int (nI (xk_pt c 1)), .int (nI (xk_pt c 2))]) rfl rfl (Nat.le_of_ble_eq_true rfl) (by decide) dMo_turned_49 (fun v w hq => ?_)
        obtain ⟨rfl, rfl⟩ := hq
        refine xz_ste (st' := [.int (nI (xk_pt c 0)), .int (nI (xk_pt c 1)), .int (nI (xk_pt c 2))]) rfl ?_
        refine xz_wss (ws' := []) [] (by decide) rfl rfl ?_
        refine xz_callS hC (mMo_code l D K (xk_pt c 2) (xk_pt c 1) (xk_pt c 0)) kMo_code tq7 tq534 tq535 (host := "") (b := 0) hMo_code (by decide) [] [] (by decide) rfl (wr := []) rfl (by decide) (by decide) (As := [.int (nI (xk_pt c 2)), .int (nI (xk_pt c 1)), .int (nI (xk_pt c 0))]) (rest := []) rfl rfl (Nat.le_of_ble_eq_true rfl) (by decide) dMo_turned_52 (fun v w hq => ?_)
        obtain ⟨rfl, rfl⟩ := hq
        refine xz_ste (st' := [.int (nI (xk_cd (xk_pt c 2) (xk_pt c 1) (xk_pt c 0)))]) rfl ?_
        refine xz_wss (ws' := []) [] (by decide) rfl rfl ?_
        exact xz_ireturn hC (by decide) (by decide) (⟨rfl, rfl⟩) dMo_turned_55
    · skip
      exfalso; omega
set_option maxHeartbeats 1000000 in
set_option maxRecDepth 100000 in
theorem mMo_triple (l : Launch) (D : va_G) (K : Nat → ClassId) (mo wo le lt pe st pt rr vl bo kp mb mw n o mg pa ma an lv : Nat) (Pe : Nat → Int32) (p : Nat → Nat) (y x : Int32) (hn : n ≤ 60) (hp : xo_og Pe p n) : xz_Met l D (tz K) yMo_triple cMo_triple 6 (some .int) { frames := 2, cells := 0, slots := 0, locals := 45 } [.ref mo, .int y, .int x] [(mo, .inr (6, [.int (nI mb), .ref wo, .int (nI mw), .ref le, .ref lt, .int (nI n), .ref pe, .int (nI o), .ref st, .int (nI mg), .int (nI pa), .ref pt, .int (nI ma), .ref rr, .ref vl, .ref bo, .int (nI an), .ref kp, .int (nI lv)])), (pe, .inl (K 0, 60, .inl Pe))] (fun v w => w = [(mo, .inr (6, [.int (nI mb), .ref wo, .int (nI mw), .ref le, .ref lt, .int (nI n), .ref pe, .int (nI o), .ref st, .int (nI mg), .int (nI pa), .ref pt, .int (nI ma), .ref rr, .ref vl, .ref bo, .int (nI an), .ref kp, .int (nI lv)])), (pe, .inl (K 0, 60, .inl Pe))] ∧ ((¬ (0 ≤ y.toInt ∧ y.toInt < 6 ∧ 0 ≤ x.toInt ∧ x.toInt < n) ∧ v = some (.int (-1))) ∨ ((0 ≤ y.toInt ∧ y.toInt < 6 ∧ 0 ≤ x.toInt ∧ x.toInt < n) ∧ ∃ i, i < n ∧ v = some (.int (nI (p i))) ∧ xc_n (fun jj => decide (xk_kw (xi y) (p jj) < xk_kw (xi y) (p i))) n = xi x) ∨ ((0 ≤ y.toInt ∧ y.toInt < 6 ∧ 0 ≤ x.toInt ∧ x.toInt < n) ∧ v = some (.int (-1)) ∧ ∀ i, i < n → xc_n (fun jj => decide (xk_kw (xi y) (p jj) < xk_kw (xi y) (p i))) n ≠ xi x))) := by
  refine xz_enter (by decide +kernel) (Nat.le_of_ble_eq_true rfl) ?_
  intro Γ hC
  refine xz_lcs (lc' := [(0, .ref mo), (1, .int y), (2, .int x)]) [0, 1, 2] rfl ?_
  refine xz_iload_n hC 1 rfl rfl dMo_triple_0 ?_
  refine xz_if_lt hC (tgt := 21) rfl (by decide) dMo_triple_1 (fun h1 => ?_) (fun h1 => ?_)
  · skip
    refine xz_iconst hC (v := (-1)) (by decide +kernel) dMo_triple_21 ?_
    exact xz_ireturn hC (by decide) (by decide) (⟨rfl, Or.inl ⟨by omega, rfl⟩⟩) dMo_triple_22
  · skip
    refine xz_iload_n hC 1 rfl rfl dMo_triple_4 ?_
    refine xz_iconst hC (v := nI 5) (by decide +kernel) dMo_triple_5 ?_
    refine xz_icmp_gt hC (tgt := 21) rfl (nI_toInt (by omega)) (by decide) dMo_triple_6 (fun h2 => ?_) (fun h2 => ?_)
    · skip
      refine xz_iconst hC (v := (-1)) (by decide +kernel) dMo_triple_21 ?_
      exact xz_ireturn hC (by decide) (by decide) (⟨rfl, Or.inl ⟨by omega, rfl⟩⟩) dMo_triple_22
    · skip
      refine xz_iload_n hC 2 rfl rfl dMo_triple_9 ?_
      refine xz_if_lt hC (tgt := 21) rfl (by decide) dMo_triple_10 (fun h3 => ?_) (fun h3 => ?_)
      · skip
        refine xz_iconst hC (v := (-1)) (by decide +kernel) dMo_triple_21 ?_
        exact xz_ireturn hC (by decide) (by decide) (⟨rfl, Or.inl ⟨by omega, rfl⟩⟩) dMo_triple_22
      · skip
        refine xz_iload_n hC 2 rfl rfl dMo_triple_13 ?_
        refine xz_aload_n hC 0 rfl rfl dMo_triple_14 ?_
        refine xz_get hC 0 rfl rfl 5 (by decide) inMo tq434 rfl rfl dMo_triple_15 ?_
        refine xz_icmp_lt hC (tgt := 23) rfl (nI_toInt (by omega)) (by decide) dMo_triple_18 (fun h4 => ?_) (fun h4 => ?_)
        · skip
          obtain ⟨wy, hwy, rfl⟩ := xn_of (x := y) (n := 6) (by omega) (by omega)
          obtain ⟨k, hk, rfl⟩ := xn_of (x := x) (n := n) (by omega) (by omega)
          have hyt : (nI wy).toInt = (wy : Int) := nI_toInt (by omega)
          have hyi : xi (nI wy) = wy := xi_nI (by omega)
          have hxt : (nI k).toInt = (k : Int) := nI_toInt (by omega)
          have hxi : xi (nI k) = k := xi_nI (by omega)
          refine xz_iconst hC (v := nI 0) (by decide +kernel) dMo_triple_23 ?_
          refine xz_istore_n hC (lc' := [(3, .int (nI 0)), (0, .ref mo), (1, .int (nI wy)), (2, .int (nI k))]) rfl (by decide) rfl dMo_triple_24 ?_
          have lp5 : ∀ (NNlp5 : Nat) (i : Nat), i ≤ n → (∀ j, j < i → xc_n (fun jj => decide (xk_kw wy (p jj) < xk_kw wy (p j))) n ≠ k) → n - i = NNlp5 → xz_X Γ 0 0 [(mo, .inr (6, [.int (nI mb), .ref wo, .int (nI mw), .ref le, .ref lt, .int (nI n), .ref pe, .int (nI o), .ref st, .int (nI mg), .int (nI pa), .ref pt, .int (nI ma), .ref rr, .ref vl, .ref bo, .int (nI an), .ref kp, .int (nI lv)])), (pe, .inl (K 0, 60, .inl Pe))] 25 [(3, .int (nI i)), (0, .ref mo), (1, .int (nI wy)), (2, .int (nI k))] [] := by
            intro NNlp5
            induction NNlp5 using Nat.strongRecOn with
            | _ NNlp5 ihlp5 =>
              intro i  hi hne hNNlp5
              refine xz_iload_n hC 0 rfl rfl dMo_triple_25 ?_
              refine xz_aload_n hC 1 rfl rfl dMo_triple_26 ?_
              refine xz_get hC 0 rfl rfl 5 (by decide) inMo tq434 rfl rfl dMo_triple_27 ?_
              refine xz_icmp_ge hC (tgt := 107) (nI_toInt (by omega)) (nI_toInt (by omega)) (by decide) dMo_triple_30 (fun h6 => ?_) (fun h6 => ?_)
              · skip
                refine xz_iconst hC (v := (-1)) (by decide +kernel) dMo_triple_107 ?_
                exact xz_ireturn hC (by decide) (by decide) (⟨rfl, Or.inr (Or.inr ⟨by omega, rfl, fun j hj => by rw [hyi, hxi]; exact hne j (by omega)⟩)⟩) dMo_triple_108
              · skip
                have hpi := (hp i (by omega)).2
                refine xz_iconst hC (v := nI 0) (by decide +kernel) dMo_triple_33 ?_
                refine xz_istore hC (lc' := [(4, .int (nI 0)), (3, .int (nI i)), (0, .ref mo), (1, .int (nI wy)), (2, .int (nI k))]) (by decide) rfl dMo_triple_34 ?_
                refine xz_iconst hC (v := nI 0) (by decide +kernel) dMo_triple_36 ?_
                refine xz_istore hC (lc' := [(5, .int (nI 0)), (4, .int (nI 0)), (3, .int (nI i)), (0, .ref mo), (1, .int (nI wy)), (2, .int (nI k))]) (by decide) rfl dMo_triple_37 ?_
                have lp7 : ∀ (NNlp7 : Nat) (j : Nat), j ≤ n → n - j = NNlp7 → xz_X Γ 0 0 [(mo, .inr (6, [.int (nI mb), .ref wo, .int (nI mw), .ref le, .ref lt, .int (nI n), .ref pe, .int (nI o), .ref st, .int (nI mg), .int (nI pa), .ref pt, .int (nI ma), .ref rr, .ref vl, .ref bo, .int (nI an), .ref kp, .int (nI lv)])), (pe, .inl (K 0, 60, .inl Pe))] 39 [(5, .int (nI j)), (4, .int (nI (xc_n (fun j => decide (xk_kw wy (p j) < xk_kw wy (p i))) j))), (3, .int (nI i)), (0, .ref mo), (1, .int (nI wy)), (2, .int (nI k))] [] := by
                  intro NNlp7
                  induction NNlp7 using Nat.strongRecOn with
                  | _ NNlp7 ihlp7 =>
                    intro j  hj hNNlp7
                    refine xz_iload hC 0 rfl dMo_triple_39 ?_
                    refine xz_aload_n hC 3 rfl rfl dMo_triple_41 ?_
                    refine xz_get hC 0 rfl rfl 5 (by decide) inMo tq434 rfl rfl dMo_triple_42 ?_
                    refine xz_icmp_ge hC (tgt := 88) (nI_toInt (by omega)) (nI_toInt (by omega)) (by decide) dMo_triple_45 (fun h8 => ?_) (fun h8 => ?_)
                    · skip
                      have hjn : j = n := by omega
                      have hcl := xc_le (fun j => decide (xk_kw wy (p j) < xk_kw wy (p i))) j
                      refine xz_iload hC 1 rfl dMo_triple_88 ?_
                      refine xz_iload_n hC 5 rfl rfl dMo_triple_90 ?_
                      refine xz_icmp_ne hC (tgt := 101) (nI_toInt (by omega)) (nI_toInt (by omega)) (by decide) dMo_triple_91 (fun h9 => ?_) (fun h9 => ?_)
                      · skip
                        refine xz_iinc hC 2 (lc' := [(3, .int (nI (i + 1))), (5, .int (nI j)), (4, .int (nI (xc_n (fun j => decide (xk_kw wy (p j) < xk_kw wy (p i))) j))), (0, .ref mo), (1, .int (nI wy)), (2, .int (nI k))]) rfl (xn_inc _) (by decide) rfl dMo_triple_101 ?_
                        refine xz_goto hC (tgt := 25) (by decide) dMo_triple_104 ?_
                        refine xz_lcs (lc' := [(3, .int (nI (i + 1))), (0, .ref mo), (1, .int (nI wy)), (2, .int (nI k))]) [0, 3, 4, 5] rfl ?_
                        exact ihlp5 _ (by omega) (i + 1) (by omega) (lt_s hne (by rw [← hjn]; omega)) rfl
                      · skip
                        refine xz_aload_n hC 3 rfl rfl dMo_triple_94 ?_
                        refine xz_get hC 0 rfl rfl 6 (by decide) inMo tq435 rfl rfl dMo_triple_95 ?_
                        refine xz_iload_n hC 2 rfl rfl dMo_triple_98 ?_
                        refine xz_iaload hC 1 0 (v := nI (p i)) rfl rfl (by omega) (by decide) (hp i (by omega)).1 dMo_triple_99 ?_
                        exact xz_ireturn hC (by decide) (by decide) (⟨rfl, Or.inr (Or.inl ⟨by omega, i, by omega, rfl, by rw [hyi, hxi, ← hjn]; omega⟩)⟩) dMo_triple_100
                    · skip
                      have hpj := (hp j (by omega)).2
                      have hkj : xk_kw wy (p j) < 32768 := xk_kw_lt _ _
                      have hki : xk_kw wy (p i) < 32768 := xk_kw_lt _ _
                      refine xz_iload hC 1 rfl dMo_triple_48 ?_
                      refine xz_aload_n hC 3 rfl rfl dMo_triple_50 ?_
                      refine xz_get hC 0 rfl rfl 6 (by decide) inMo tq435 rfl rfl dMo_triple_51 ?_
                      refine xz_iload hC 0 rfl dMo_triple_54 ?_
                      refine xz_iaload hC 1 0 (v := nI (p j)) rfl rfl (by omega) (by decide) (hp j (by omega)).1 dMo_triple_56 ?_
                      refine xz_iload_n hC 4 rfl rfl dMo_triple_57 ?_
                      refine xz_callS hC (mMo_turned l D K (p j) wy hpj hwy) kMo_turned tq7 tq558 tq559 (host := "") (b := 0) hMo_turned (by decide) [] [0, 1] (by decide) rfl (wr := [(mo, .inr (6, [.int (nI mb), .ref wo, .int (nI mw), .ref le, .ref lt, .int (nI n), .ref pe, .int (nI o), .ref st, .int (nI mg), .int (nI pa), .ref pt, .int (nI ma), .ref rr, .ref vl, .ref bo, .int (nI an), .ref kp, .int (nI lv)])), (pe, .inl (K 0, 60, .inl Pe))]) rfl (by decide) (by decide) (As := [.int (nI (p j)), .int (nI wy)]) (rest := [.int (nI (xc_n (fun j => decide (xk_kw wy (p j) < xk_kw wy (p i))) j))]) rfl rfl (Nat.le_of_ble_eq_true rfl) (by decide) dMo_triple_58 (fun v w hq => ?_)
                      obtain ⟨rfl, rfl⟩ := hq
                      refine xz_ste (st' := [.int (nI (xk_kw wy (p j))), .int (nI (xc_n (fun j => decide (xk_kw wy (p j) < xk_kw wy (p i))) j))]) rfl ?_
                      refine xz_wss (ws' := [(mo, .inr (6, [.int (nI mb), .ref wo, .int (nI mw), .ref le, .ref lt, .int (nI n), .ref pe, .int (nI o), .ref st, .int (nI mg), .int (nI pa), .ref pt, .int (nI ma), .ref rr, .ref vl, .ref bo, .int (nI an), .ref kp, .int (nI lv)])), (pe, .inl (K 0, 60, .inl Pe))]) [0, 1] (by decide) rfl rfl ?_
                      refine xz_aload_n hC 3 rfl rfl dMo_triple_61 ?_
                      refine xz_get hC 0 rfl rfl 6 (by decide) inMo tq435 rfl rfl dMo_triple_62 ?_
                      refine xz_iload_n hC 2 rfl rfl dMo_triple_65 ?_
                      refine xz_iaload hC 1 0 (v := nI (p i)) rfl rfl (by omega) (by decide) (hp i (by omega)).1 dMo_triple_66 ?_
                      refine xz_iload_n hC 4 rfl rfl dMo_triple_67 ?_
                      refine xz_callS hC (mMo_turned l D K (p i) wy hpi hwy) kMo_turned tq7 tq558 tq559 (host := "") (b := 0) hMo_turned (by decide) [] [0, 1] (by decide) rfl (wr := [(mo, .inr (6, [.int (nI mb), .ref wo, .int (nI mw), .ref le, .ref lt, .int (nI n), .ref pe, .int (nI o), .ref st, .int (nI mg), .int (nI pa), .ref pt, .int (nI ma), .ref rr, .ref vl, .ref bo, .int (nI an), .ref kp, .int (nI lv)])), (pe, .inl (K 0, 60, .inl Pe))]) rfl (by decide) (by decide) (As := [.int (nI (p i)), .int (nI wy)]) (rest := [.int (nI (xk_kw wy (p j))), .int (nI (xc_n (fun j => decide (xk_kw wy (p j) < xk_kw wy (p i))) j))]) rfl rfl (Nat.le_of_ble_eq_true rfl) (by decide) dMo_triple_68 (fun v w hq => ?_)
                      obtain ⟨rfl, rfl⟩ := hq
                      refine xz_ste (st' := [.int (nI (xk_kw wy (p i))), .int (nI (xk_kw wy (p j))), .int (nI (xc_n (fun j => decide (xk_kw wy (p j) < xk_kw wy (p i))) j))]) rfl ?_
                      refine xz_wss (ws' := [(mo, .inr (6, [.int (nI mb), .ref wo, .int (nI mw), .ref le, .ref lt, .int (nI n), .ref pe, .int (nI o), .ref st, .int (nI mg), .int (nI pa), .ref pt, .int (nI ma), .ref rr, .ref vl, .ref bo, .int (nI an), .ref kp, .int (nI lv)])), (pe, .inl (K 0, 60, .inl Pe))]) [0, 1] (by decide) rfl rfl ?_
                      refine xz_icmp_ge hC (tgt := 78) (nI_toInt (by omega)) (nI_toInt (by omega)) (by decide) dMo_triple_71 (fun h10 => ?_) (fun h10 => ?_)
                      · skip
                        have hq0 : (fun j => decide (xk_kw wy (p j) < xk_kw wy (p i))) j = false := decide_eq_false (by omega)
                        refine xz_iconst hC (v := nI 0) (by decide +kernel) dMo_triple_78 ?_
                        refine xz_iadd hC (z := nI (xc_n (fun j => decide (xk_kw wy (p j) < xk_kw wy (p i))) j + 0)) (nI_add _ _) dMo_triple_79 ?_
                        refine xz_istore hC (lc' := [(4, .int (nI (xc_n (fun j => decide (xk_kw wy (p j) < xk_kw wy (p i))) j + 0))), (5, .int (nI j)), (3, .int (nI i)), (0, .ref mo), (1, .int (nI wy)), (2, .int (nI k))]) (by decide) rfl dMo_triple_80 ?_
                        refine xz_lce (lc' := [(4, .int (nI (xc_n (fun j => decide (xk_kw wy (p j) < xk_kw wy (p i))) (j + 1)))), (5, .int (nI j)), (3, .int (nI i)), (0, .ref mo), (1, .int (nI wy)), (2, .int (nI k))]) (by rw [xc_no (p := fun j => decide (xk_kw wy (p j) < xk_kw wy (p i))) hq0]) ?_
                        refine xz_iinc hC 1 (lc' := [(5, .int (nI (j + 1))), (4, .int (nI (xc_n (fun j => decide (xk_kw wy (p j) < xk_kw wy (p i))) (j + 1)))), (3, .int (nI i)), (0, .ref mo), (1, .int (nI wy)), (2, .int (nI k))]) rfl (xn_inc _) (by decide) rfl dMo_triple_82 ?_
                        refine xz_goto hC (tgt := 39) (by decide) dMo_triple_85 ?_
                        exact ihlp7 _ (by omega) (j + 1) (by omega) rfl
                      · skip
                        have hq0 : (fun j => decide (xk_kw wy (p j) < xk_kw wy (p i))) j = true := decide_eq_true (by omega)
                        refine xz_iconst hC (v := nI 1) (by decide +kernel) dMo_triple_74 ?_
                        refine xz_goto hC (tgt := 79) (by decide) dMo_triple_75 ?_
                        refine xz_iadd hC (z := nI (xc_n (fun j => decide (xk_kw wy (p j) < xk_kw wy (p i))) j + 1)) (nI_add _ _) dMo_triple_79 ?_
                        refine xz_istore hC (lc' := [(4, .int (nI (xc_n (fun j => decide (xk_kw wy (p j) < xk_kw wy (p i))) j + 1))), (5, .int (nI j)), (3, .int (nI i)), (0, .ref mo), (1, .int (nI wy)), (2, .int (nI k))]) (by decide) rfl dMo_triple_80 ?_
                        refine xz_lce (lc' := [(4, .int (nI (xc_n (fun j => decide (xk_kw wy (p j) < xk_kw wy (p i))) (j + 1)))), (5, .int (nI j)), (3, .int (nI i)), (0, .ref mo), (1, .int (nI wy)), (2, .int (nI k))]) (by rw [xc_yes (p := fun j => decide (xk_kw wy (p j) < xk_kw wy (p i))) hq0]) ?_
                        refine xz_iinc hC 1 (lc' := [(5, .int (nI (j + 1))), (4, .int (nI (xc_n (fun j => decide (xk_kw wy (p j) < xk_kw wy (p i))) (j + 1)))), (3, .int (nI i)), (0, .ref mo), (1, .int (nI wy)), (2, .int (nI k))]) rfl (xn_inc _) (by decide) rfl dMo_triple_82 ?_
                        refine xz_goto hC (tgt := 39) (by decide) dMo_triple_85 ?_
                        exact ihlp7 _ (by omega) (j + 1) (by omega) rfl
                exact lp7 _ 0 (by omega) rfl
          exact lp5 _ 0 (by omega) (fun j hj => absurd hj (by omega)) rfl
        · skip
          refine xz_iconst hC (v := (-1)) (by decide +kernel) dMo_triple_21 ?_
          exact xz_ireturn hC (by decide) (by decide) (⟨rfl, Or.inl ⟨by omega, rfl⟩⟩) dMo_triple_22
