set_option maxHeartbeats 1000000 in
set_option maxRecDepth 100000 in
theorem mDi_has (l : Launch) (D : va_G) (K : Nat → ClassId) (d pw ln n a b : Nat) (x : Int32) (hn : n ≤ 24) : xz_Met l D (tz K) yDi_has cDi_has 2 (some .boolean) { frames := 0, cells := 0, slots := 0, locals := 0 } [.ref d, .int x] [(d, .inr (0, [.ref pw, .ref ln, .int (nI n), .long (lN a), .int (nI b)]))] (fun v w => ∃ q : Bool, v = some (.int (bI q)) ∧ w = [(d, .inr (0, [.ref pw, .ref ln, .int (nI n), .long (lN a), .int (nI b)]))] ∧ (q = true ↔ (0 ≤ x.toInt ∧ x.toInt < n))) := by
  refine xz_enter (by decide +kernel) (Nat.le_of_ble_eq_true rfl) ?_
  intro Γ hC
  refine xz_lcs (lc' := [(0, .ref d), (1, .int x)]) [0, 1] rfl ?_
  refine xz_iload_n hC 1 rfl rfl dDi_has_0 ?_
  refine xz_if_lt hC (tgt := 16) rfl (by decide) dDi_has_1 (fun h1 => ?_) (fun h1 => ?_)
  · skip
    refine xz_iconst hC (v := bI false) (by decide +kernel) dDi_has_16 ?_
    exact xz_zreturn hC (by decide) (by decide) (⟨_, rfl, rfl, by first | exact xt_t (by omega) | exact xt_f (by omega)⟩) dDi_has_17
  · skip
    refine xz_iload_n hC 1 rfl rfl dDi_has_4 ?_
    refine xz_aload_n hC 0 rfl rfl dDi_has_5 ?_
    refine xz_get hC 0 rfl rfl 2 (by decide) inDi tq25 rfl rfl dDi_has_6 ?_
    refine xz_icmp_ge hC (tgt := 16) rfl (nI_toInt (by omega)) (by decide) dDi_has_9 (fun h2 => ?_) (fun h2 => ?_)
    · skip
      refine xz_iconst hC (v := bI false) (by decide +kernel) dDi_has_16 ?_
      exact xz_zreturn hC (by decide) (by decide) (⟨_, rfl, rfl, by first | exact xt_t (by omega) | exact xt_f (by omega)⟩) dDi_has_17
    · skip
      refine xz_iconst hC (v := bI true) (by decide +kernel) dDi_has_12 ?_
      refine xz_goto hC (tgt := 17) (by decide) dDi_has_13 ?_
      exact xz_zreturn hC (by decide) (by decide) (⟨_, rfl, rfl, by first | exact xt_t (by omega) | exact xt_f (by omega)⟩) dDi_has_17
set_option maxHeartbeats 1000000 in
set_option maxRecDepth 100000 in
theorem mDi_addLetter (l : Launch) (D : va_G) (K : Nat → ClassId) (d pw ln n a b : Nat) (c : Nat) (hn : n ≤ 24) (ha : b < 6 → a < 2 ^ 40) (hb : b ≤ 6) (hc : c < 65536) : xz_Met l D (tz K) yDi_addLetter cDi_addLetter 2 (some .boolean) { frames := 0, cells := 0, slots := 0, locals := 0 } [.ref d, .int (nI c)] [(d, .inr (0, [.ref pw, .ref ln, .int (nI n), .long (lN a), .int (nI b)]))] (fun v w => ((33 ≤ c ∧ c ≤ 126 ∧ b < 6) ∧ v = some (.int (bI true)) ∧ w = [(d, .inr (0, [.ref pw, .ref ln, .int (nI n), .long (lN (a * 128 + c)), .int (nI (b + 1))]))]) ∨ (¬ (33 ≤ c ∧ c ≤ 126 ∧ b < 6) ∧ v = some (.int (bI false)) ∧ w = [(d, .inr (0, [.ref pw, .ref ln, .int (nI n), .long (lN a), .int (nI b)]))])) := by
  refine xz_enter (by decide +kernel) (Nat.le_of_ble_eq_true rfl) ?_
  intro Γ hC
  refine xz_lcs (lc' := [(0, .ref d), (1, .int (nI c))]) [0, 1] rfl ?_
  refine xz_iload_n hC 1 rfl rfl dDi_addLetter_0 ?_
  refine xz_bipush hC (v := nI 33) (by decide +kernel) dDi_addLetter_1 ?_
  refine xz_icmp_lt hC (tgt := 21) (nI_toInt (by omega)) (nI_toInt (by omega)) (by decide) dDi_addLetter_3 (fun h1 => ?_) (fun h1 => ?_)
  · skip
    refine xz_iconst hC (v := bI false) (by decide +kernel) dDi_addLetter_21 ?_
    exact xz_zreturn hC (by decide) (by decide) (Or.inr ⟨by omega, rfl, rfl⟩) dDi_addLetter_22
  · skip
    refine xz_iload_n hC 1 rfl rfl dDi_addLetter_6 ?_
    refine xz_bipush hC (v := nI 126) (by decide +kernel) dDi_addLetter_7 ?_
    refine xz_icmp_gt hC (tgt := 21) (nI_toInt (by omega)) (nI_toInt (by omega)) (by decide) dDi_addLetter_9 (fun h2 => ?_) (fun h2 => ?_)
    · skip
      refine xz_iconst hC (v := bI false) (by decide +kernel) dDi_addLetter_21 ?_
      exact xz_zreturn hC (by decide) (by decide) (Or.inr ⟨by omega, rfl, rfl⟩) dDi_addLetter_22
    · skip
      refine xz_aload_n hC 0 rfl rfl dDi_addLetter_12 ?_
      refine xz_get hC 0 rfl rfl 4 (by decide) inDi tq28 rfl rfl dDi_addLetter_13 ?_
      refine xz_bipush hC (v := nI 6) (by decide +kernel) dDi_addLetter_16 ?_
      refine xz_icmp_lt hC (tgt := 23) (nI_toInt (by omega)) (nI_toInt (by omega)) (by decide) dDi_addLetter_18 (fun h3 => ?_) (fun h3 => ?_)
      · skip
        refine xz_aload_n hC 0 rfl rfl dDi_addLetter_23 ?_
        refine xz_aload_n hC 0 rfl rfl dDi_addLetter_24 ?_
        refine xz_get hC 0 rfl rfl 3 (by decide) inDi tq27 rfl rfl dDi_addLetter_25 ?_
        refine xz_bipush hC (v := nI 7) (by decide +kernel) dDi_addLetter_28 ?_
        refine xz_lshl hC (z := lN a <<< ((nI 7).toInt64 &&& 63)) rfl dDi_addLetter_30 ?_
        refine xz_iload_n hC 1 rfl rfl dDi_addLetter_31 ?_
        refine xz_i2l hC (z := (nI c).toInt64) rfl dDi_addLetter_32 ?_
        refine xz_lor hC (z := lN (a * 128 + c)) (xw_step (ha (by omega)) (by omega)) dDi_addLetter_33 ?_
        refine xz_put hC 0 rfl rfl 3 (by decide) inDi tq27 rfl tyDi tyDi_ok nmDi rfl rfl rfl (Nat.le_of_ble_eq_true rfl) (ws' := [(d, .inr (0, [.ref pw, .ref ln, .int (nI n), .long (lN (a * 128 + c)), .int (nI b)]))]) rfl dDi_addLetter_34 ?_
        refine xz_aload_n hC 0 rfl rfl dDi_addLetter_37 ?_
        refine xz_dup hC rfl dDi_addLetter_38 ?_
        refine xz_get hC 0 rfl rfl 4 (by decide) inDi tq28 rfl rfl dDi_addLetter_39 ?_
        refine xz_iconst hC (v := nI 1) (by decide +kernel) dDi_addLetter_42 ?_
        refine xz_iadd hC (z := nI (b + 1)) (nI_add _ _) dDi_addLetter_43 ?_
        refine xz_put hC 0 rfl rfl 4 (by decide) inDi tq28 rfl tyDi tyDi_ok nmDi rfl rfl rfl (Nat.le_of_ble_eq_true rfl) (ws' := [(d, .inr (0, [.ref pw, .ref ln, .int (nI n), .long (lN (a * 128 + c)), .int (nI (b + 1))]))]) rfl dDi_addLetter_44 ?_
        refine xz_iconst hC (v := bI true) (by decide +kernel) dDi_addLetter_47 ?_
        exact xz_zreturn hC (by decide) (by decide) (Or.inl ⟨by omega, rfl, rfl⟩) dDi_addLetter_48
      · skip
        refine xz_iconst hC (v := bI false) (by decide +kernel) dDi_addLetter_21 ?_
        exact xz_zreturn hC (by decide) (by decide) (Or.inr ⟨by omega, rfl, rfl⟩) dDi_addLetter_22
set_option maxHeartbeats 1000000 in
set_option maxRecDepth 100000 in
theorem mDi_numberOfBegun (l : Launch) (D : va_G) (K : Nat → ClassId) (d pw ln n a b : Nat) (P : Nat → Int64) (Q : Nat → Int32) (hn : n ≤ 24) : xz_Met l D (tz K) yDi_numberOfBegun cDi_numberOfBegun 2 (some .int) { frames := 0, cells := 0, slots := 0, locals := 0 } [.ref d] [(d, .inr (0, [.ref pw, .ref ln, .int (nI n), .long (lN a), .int (nI b)])), (pw, .inl (K 1, 24, .inr (.inl P))), (ln, .inl (K 0, 24, .inl Q))] (fun v w => (∃ i, i < n ∧ v = some (.int (nI i)) ∧ w = [(d, .inr (0, [.ref pw, .ref ln, .int (nI n), .long (lN a), .int (nI b)])), (pw, .inl (K 1, 24, .inr (.inl P))), (ln, .inl (K 0, 24, .inl Q))] ∧ P i = lN a ∧ ∀ j, j < i → P j ≠ lN a) ∨ (v = some (.int (-1)) ∧ w = [(d, .inr (0, [.ref pw, .ref ln, .int (nI n), .long (lN a), .int (nI b)])), (pw, .inl (K 1, 24, .inr (.inl P))), (ln, .inl (K 0, 24, .inl Q))] ∧ ∀ j, j < n → P j ≠ lN a)) := by
  refine xz_enter (by decide +kernel) (Nat.le_of_ble_eq_true rfl) ?_
  intro Γ hC
  refine xz_lcs (lc' := [(0, .ref d)]) [0] rfl ?_
  refine xz_iconst hC (v := nI 0) (by decide +kernel) dDi_numberOfBegun_0 ?_
  refine xz_istore_n hC (lc' := [(1, .int (nI 0)), (0, .ref d)]) rfl (by decide) rfl dDi_numberOfBegun_1 ?_
  have lp1 : ∀ (NNlp1 : Nat) (i : Nat), i ≤ n → (∀ j, j < i → P j ≠ lN a) → n - i = NNlp1 → xz_X Γ 0 0 [(d, .inr (0, [.ref pw, .ref ln, .int (nI n), .long (lN a), .int (nI b)])), (pw, .inl (K 1, 24, .inr (.inl P))), (ln, .inl (K 0, 24, .inl Q))] 2 [(1, .int (nI i)), (0, .ref d)] [] := by
    intro NNlp1
    induction NNlp1 using Nat.strongRecOn with
    | _ NNlp1 ihlp1 =>
      intro i  hi hlt hNNlp1
      refine xz_iload_n hC 0 rfl rfl dDi_numberOfBegun_2 ?_
      refine xz_aload_n hC 1 rfl rfl dDi_numberOfBegun_3 ?_
      refine xz_get hC 0 rfl rfl 2 (by decide) inDi tq25 rfl rfl dDi_numberOfBegun_4 ?_
      refine xz_icmp_ge hC (tgt := 32) (nI_toInt (by omega)) (nI_toInt (by omega)) (by decide) dDi_numberOfBegun_7 (fun h2 => ?_) (fun h2 => ?_)
      · skip
        refine xz_iconst hC (v := (-1)) (by decide +kernel) dDi_numberOfBegun_32 ?_
        exact xz_ireturn hC (by decide) (by decide) (Or.inr ⟨rfl, rfl, fun j hj => hlt j (by omega)⟩) dDi_numberOfBegun_33
      · skip
        refine xz_aload_n hC 1 rfl rfl dDi_numberOfBegun_10 ?_
        refine xz_get hC 0 rfl rfl 0 (by decide) inDi tq23 rfl rfl dDi_numberOfBegun_11 ?_
        refine xz_iload_n hC 0 rfl rfl dDi_numberOfBegun_14 ?_
        refine xz_laload hC 1 1 (v := P i) rfl rfl (by omega) (by decide) rfl dDi_numberOfBegun_15 ?_
        refine xz_aload_n hC 1 rfl rfl dDi_numberOfBegun_16 ?_
        refine xz_get hC 0 rfl rfl 3 (by decide) inDi tq27 rfl rfl dDi_numberOfBegun_17 ?_
        refine xz_lcmp hC (z := lg_cmp (P i) (lN a)) rfl dDi_numberOfBegun_20 ?_
        refine xz_if_ne hC (tgt := 26) rfl (by decide) dDi_numberOfBegun_21 (fun h3 => ?_) (fun h3 => ?_)
        · skip
          have hne := h3
          refine xz_iinc hC 0 (lc' := [(1, .int (nI (i + 1))), (0, .ref d)]) rfl (xn_inc _) (by decide) rfl dDi_numberOfBegun_26 ?_
          refine xz_goto hC (tgt := 2) (by decide) dDi_numberOfBegun_29 ?_
          exact ihlp1 _ (by omega) (i + 1) (by omega) (lt_s hlt (fun z => hne (xb_cmp.mpr z))) rfl
        · skip
          have heq := h3
          refine xz_iload_n hC 0 rfl rfl dDi_numberOfBegun_24 ?_
          exact xz_ireturn hC (by decide) (by decide) (Or.inl ⟨i, by omega, rfl, rfl, xb_cmp.mp heq, hlt⟩) dDi_numberOfBegun_25
  exact lp1 _ 0 (by omega) (fun j hj => absurd hj (by omega)) rfl
set_option maxHeartbeats 1000000 in
set_option maxRecDepth 100000 in
theorem mDi_takeIn (l : Launch) (D : va_G) (K : Nat → ClassId) (d pw ln n a b : Nat) (P : Nat → Int64) (Q : Nat → Int32) (hn : n ≤ 24) (hb : b ≤ 6) : xz_Met l D (tz K) yDi_takeIn cDi_takeIn 2 (some .int) { frames := 1, cells := 0, slots := 0, locals := 21 } [.ref d] [(d, .inr (0, [.ref pw, .ref ln, .int (nI n), .long (lN a), .int (nI b)])), (pw, .inl (K 1, 24, .inr (.inl P))), (ln, .inl (K 0, 24, .inl Q))] (fun v w => (b = 0 ∧ v = some (.int (-1)) ∧ w = [(d, .inr (0, [.ref pw, .ref ln, .int (nI n), .long (lN a), .int (nI b)])), (pw, .inl (K 1, 24, .inr (.inl P))), (ln, .inl (K 0, 24, .inl Q))]) ∨ (0 < b ∧ ∃ i, i < n ∧ v = some (.int (nI i)) ∧ w = [(d, .inr (0, [.ref pw, .ref ln, .int (nI n), .long 0, .int (nI 0)])), (pw, .inl (K 1, 24, .inr (.inl P))), (ln, .inl (K 0, 24, .inl Q))] ∧ P i = lN a ∧ ∀ j, j < i → P j ≠ lN a) ∨ (0 < b ∧ n = 24 ∧ v = some (.int (-2)) ∧ w = [(d, .inr (0, [.ref pw, .ref ln, .int (nI n), .long (lN a), .int (nI b)])), (pw, .inl (K 1, 24, .inr (.inl P))), (ln, .inl (K 0, 24, .inl Q))] ∧ ∀ j, j < n → P j ≠ lN a) ∨ (0 < b ∧ n < 24 ∧ v = some (.int (nI n)) ∧ w = [(d, .inr (0, [.ref pw, .ref ln, .int (nI (n + 1)), .long 0, .int (nI 0)])), (pw, .inl (K 1, 24, .inr (.inl (vp_updL P n (lN a))))), (ln, .inl (K 0, 24, .inl (upd Q n (nI b))))] ∧ ∀ j, j < n → P j ≠ lN a)) := by
  refine xz_enter (by decide +kernel) (Nat.le_of_ble_eq_true rfl) ?_
  intro Γ hC
  refine xz_lcs (lc' := [(0, .ref d)]) [0] rfl ?_
  refine xz_aload_n hC 0 rfl rfl dDi_takeIn_0 ?_
  refine xz_get hC 0 rfl rfl 4 (by decide) inDi tq28 rfl rfl dDi_takeIn_1 ?_
  refine xz_if_ne hC (tgt := 9) (nI_toInt (by omega)) (by decide) dDi_takeIn_4 (fun h1 => ?_) (fun h1 => ?_)
  · skip
    refine xz_aload_n hC 0 rfl rfl dDi_takeIn_9 ?_
    refine xz_callV hC (mDi_numberOfBegun l D K d pw ln n a b P Q hn) kDi_numberOfBegun tq2 tq178 tq180 tp0 0 0 rfl rfl rfl (host := "") hDi_numberOfBegun (by decide) [0, 1, 2] [] (by decide) rfl (wr := []) rfl (by decide) (by decide) (As := []) (rest := []) rfl rfl (Nat.le_of_ble_eq_true rfl) (by decide) dDi_takeIn_10 (fun v w hq => ?_)
    rcases hq with ⟨i, hi, rfl, rfl, hPi, hPj⟩ | ⟨rfl, rfl, hPj⟩
    · skip
      refine xz_ste (st' := [.int (nI i)]) rfl ?_
      refine xz_wss (ws' := [(d, .inr (0, [.ref pw, .ref ln, .int (nI n), .long (lN a), .int (nI b)])), (pw, .inl (K 1, 24, .inr (.inl P))), (ln, .inl (K 0, 24, .inl Q))]) [0, 1, 2] (by decide) rfl rfl ?_
      refine xz_istore_n hC (lc' := [(1, .int (nI i)), (0, .ref d)]) rfl (by decide) rfl dDi_takeIn_13 ?_
      refine xz_iload_n hC 0 rfl rfl dDi_takeIn_14 ?_
      refine xz_iconst hC (v := (-1)) (by decide +kernel) dDi_takeIn_15 ?_
      refine xz_icmp_ne hC (tgt := 66) (nI_toInt (by omega)) (show (-1 : Int32).toInt = -1 from by decide +kernel) (by decide) dDi_takeIn_16 (fun h2 => ?_) (fun h2 => ?_)
      · skip
        refine xz_aload_n hC 1 rfl rfl dDi_takeIn_66 ?_
        refine xz_lconst hC (v := 0) (by decide +kernel) dDi_takeIn_67 ?_
        refine xz_put hC 0 rfl rfl 3 (by decide) inDi tq27 rfl tyDi tyDi_ok nmDi rfl rfl rfl (Nat.le_of_ble_eq_true rfl) (ws' := [(d, .inr (0, [.ref pw, .ref ln, .int (nI n), .long 0, .int (nI b)])), (pw, .inl (K 1, 24, .inr (.inl P))), (ln, .inl (K 0, 24, .inl Q))]) rfl dDi_takeIn_68 ?_
        refine xz_aload_n hC 1 rfl rfl dDi_takeIn_71 ?_
        refine xz_iconst hC (v := nI 0) (by decide +kernel) dDi_takeIn_72 ?_
        refine xz_put hC 0 rfl rfl 4 (by decide) inDi tq28 rfl tyDi tyDi_ok nmDi rfl rfl rfl (Nat.le_of_ble_eq_true rfl) (ws' := [(d, .inr (0, [.ref pw, .ref ln, .int (nI n), .long 0, .int (nI 0)])), (pw, .inl (K 1, 24, .inr (.inl P))), (ln, .inl (K 0, 24, .inl Q))]) rfl dDi_takeIn_73 ?_
        refine xz_iload_n hC 0 rfl rfl dDi_takeIn_76 ?_
        exact xz_ireturn hC (by decide) (by decide) (by first | exact Or.inr (Or.inl ⟨by omega, i, hi, rfl, rfl, hPi, hPj⟩) | exact Or.inr (Or.inr (Or.inr ⟨by omega, by omega, rfl, rfl, hPj⟩))) dDi_takeIn_77
      · skip
        exfalso; omega
    · skip
      refine xz_ste (st' := [.int (-1)]) rfl ?_
      refine xz_wss (ws' := [(d, .inr (0, [.ref pw, .ref ln, .int (nI n), .long (lN a), .int (nI b)])), (pw, .inl (K 1, 24, .inr (.inl P))), (ln, .inl (K 0, 24, .inl Q))]) [0, 1, 2] (by decide) rfl rfl ?_
      refine xz_istore_n hC (lc' := [(1, .int (-1)), (0, .ref d)]) rfl (by decide) rfl dDi_takeIn_13 ?_
      refine xz_iload_n hC 0 rfl rfl dDi_takeIn_14 ?_
      refine xz_iconst hC (v := (-1)) (by decide +kernel) dDi_takeIn_15 ?_
      refine xz_icmp_ne hC (tgt := 66) (show (-1 : Int32).toInt = -1 from by decide +kernel) (show (-1 : Int32).toInt = -1 from by decide +kernel) (by decide) dDi_takeIn_16 (fun h3 => ?_) (fun h3 => ?_)
      · skip
        exfalso; omega
      · skip
        refine xz_aload_n hC 1 rfl rfl dDi_takeIn_19 ?_
        refine xz_get hC 0 rfl rfl 2 (by decide) inDi tq25 rfl rfl dDi_takeIn_20 ?_
        refine xz_bipush hC (v := nI 24) (by decide +kernel) dDi_takeIn_23 ?_
        refine xz_icmp_lt hC (tgt := 31) (nI_toInt (by omega)) (nI_toInt (by omega)) (by decide) dDi_takeIn_25 (fun h4 => ?_) (fun h4 => ?_)
        · skip
          refine xz_aload_n hC 1 rfl rfl dDi_takeIn_31 ?_
          refine xz_get hC 0 rfl rfl 2 (by decide) inDi tq25 rfl rfl dDi_takeIn_32 ?_
          refine xz_istore_n hC (lc' := [(1, .int (nI n)), (0, .ref d)]) rfl (by decide) rfl dDi_takeIn_35 ?_
          refine xz_aload_n hC 1 rfl rfl dDi_takeIn_36 ?_
          refine xz_get hC 0 rfl rfl 0 (by decide) inDi tq23 rfl rfl dDi_takeIn_37 ?_
          refine xz_iload_n hC 0 rfl rfl dDi_takeIn_40 ?_
          refine xz_aload_n hC 1 rfl rfl dDi_takeIn_41 ?_
          refine xz_get hC 0 rfl rfl 3 (by decide) inDi tq27 rfl rfl dDi_takeIn_42 ?_
          refine xz_lastore hC 1 1 (ws' := [(d, .inr (0, [.ref pw, .ref ln, .int (nI n), .long (lN a), .int (nI b)])), (pw, .inl (K 1, 24, .inr (.inl (vp_updL P n (lN a))))), (ln, .inl (K 0, 24, .inl Q))]) rfl rfl (by omega) (by decide) rfl dDi_takeIn_45 ?_
          refine xz_aload_n hC 1 rfl rfl dDi_takeIn_46 ?_
          refine xz_get hC 0 rfl rfl 1 (by decide) inDi tq24 rfl rfl dDi_takeIn_47 ?_
          refine xz_iload_n hC 0 rfl rfl dDi_takeIn_50 ?_
          refine xz_aload_n hC 1 rfl rfl dDi_takeIn_51 ?_
          refine xz_get hC 0 rfl rfl 4 (by decide) inDi tq28 rfl rfl dDi_takeIn_52 ?_
          refine xz_iastore hC 2 0 (ws' := [(d, .inr (0, [.ref pw, .ref ln, .int (nI n), .long (lN a), .int (nI b)])), (pw, .inl (K 1, 24, .inr (.inl (vp_updL P n (lN a))))), (ln, .inl (K 0, 24, .inl (upd Q n (nI b))))]) rfl rfl (by omega) (by decide) rfl dDi_takeIn_55 ?_
          refine xz_aload_n hC 1 rfl rfl dDi_takeIn_56 ?_
          refine xz_dup hC rfl dDi_takeIn_57 ?_
          refine xz_get hC 0 rfl rfl 2 (by decide) inDi tq25 rfl rfl dDi_takeIn_58 ?_
          refine xz_iconst hC (v := nI 1) (by decide +kernel) dDi_takeIn_61 ?_
          refine xz_iadd hC (z := nI (n + 1)) (nI_add _ _) dDi_takeIn_62 ?_
          refine xz_put hC 0 rfl rfl 2 (by decide) inDi tq25 rfl tyDi tyDi_ok nmDi rfl rfl rfl (Nat.le_of_ble_eq_true rfl) (ws' := [(d, .inr (0, [.ref pw, .ref ln, .int (nI (n + 1)), .long (lN a), .int (nI b)])), (pw, .inl (K 1, 24, .inr (.inl (vp_updL P n (lN a))))), (ln, .inl (K 0, 24, .inl (upd Q n (nI b))))]) rfl dDi_takeIn_63 ?_
          refine xz_aload_n hC 1 rfl rfl dDi_takeIn_66 ?_
          refine xz_lconst hC (v := 0) (by decide +kernel) dDi_takeIn_67 ?_
          refine xz_put hC 0 rfl rfl 3 (by decide) inDi tq27 rfl tyDi tyDi_ok nmDi rfl rfl rfl (Nat.le_of_ble_eq_true rfl) (ws' := [(d, .inr (0, [.ref pw, .ref ln, .int (nI (n + 1)), .long 0, .int (nI b)])), (pw, .inl (K 1, 24, .inr (.inl (vp_updL P n (lN a))))), (ln, .inl (K 0, 24, .inl (upd Q n (nI b))))]) rfl dDi_takeIn_68 ?_
          refine xz_aload_n hC 1 rfl rfl dDi_takeIn_71 ?_
          refine xz_iconst hC (v := nI 0) (by decide +kernel) dDi_takeIn_72 ?_
          refine xz_put hC 0 rfl rfl 4 (by decide) inDi tq28 rfl tyDi tyDi_ok nmDi rfl rfl rfl (Nat.le_of_ble_eq_true rfl) (ws' := [(d, .inr (0, [.ref pw, .ref ln, .int (nI (n + 1)), .long 0, .int (nI 0)])), (pw, .inl (K 1, 24, .inr (.inl (vp_updL P n (lN a))))), (ln, .inl (K 0, 24, .inl (upd Q n (nI b))))]) rfl dDi_takeIn_73 ?_
          refine xz_iload_n hC 0 rfl rfl dDi_takeIn_76 ?_
          exact xz_ireturn hC (by decide) (by decide) (by first | exact Or.inr (Or.inl ⟨by omega, i, hi, rfl, rfl, hPi, hPj⟩) | exact Or.inr (Or.inr (Or.inr ⟨by omega, by omega, rfl, rfl, hPj⟩))) dDi_takeIn_77
        · skip
          refine xz_bipush hC (v := (-2)) (by decide +kernel) dDi_takeIn_28 ?_
          exact xz_ireturn hC (by decide) (by decide) (Or.inr (Or.inr (Or.inl ⟨by omega, by omega, rfl, rfl, hPj⟩))) dDi_takeIn_30
  · skip
    refine xz_iconst hC (v := (-1)) (by decide +kernel) dDi_takeIn_7 ?_
    exact xz_ireturn hC (by decide) (by decide) (Or.inl ⟨by omega, rfl, rfl⟩) dDi_takeIn_8
set_option maxHeartbeats 1000000 in
set_option maxRecDepth 100000 in
theorem mDi_letterAt (l : Launch) (D : va_G) (K : Nat → ClassId) (d pw ln n a b : Nat) (P : Nat → Int64) (Q : Nat → Int32) (x y : Int32) (pk lt : Nat → Nat) (hn : n ≤ 24) (hP : ∀ t, t < n → P t = lN (pk t) ∧ pk t < 2 ^ 62 ∧ Q t = nI (lt t) ∧ lt t ≤ 6) : xz_Met l D (tz K) yDi_letterAt cDi_letterAt 4 (some .int) { frames := 1, cells := 0, slots := 0, locals := 21 } [.ref d, .int x, .int y] [(d, .inr (0, [.ref pw, .ref ln, .int (nI n), .long (lN a), .int (nI b)])), (pw, .inl (K 1, 24, .inr (.inl P))), (ln, .inl (K 0, 24, .inl Q))] (fun v w => w = [(d, .inr (0, [.ref pw, .ref ln, .int (nI n), .long (lN a), .int (nI b)])), (pw, .inl (K 1, 24, .inr (.inl P))), (ln, .inl (K 0, 24, .inl Q))] ∧ (((0 ≤ x.toInt ∧ x.toInt < n ∧ 0 ≤ y.toInt ∧ y.toInt < lt (xi x)) ∧ v = some (.int (nI (pk (xi x) / 2 ^ (7 * (lt (xi x) - 1 - xi y)) % 128)))) ∨ (¬ (0 ≤ x.toInt ∧ x.toInt < n ∧ 0 ≤ y.toInt ∧ y.toInt < lt (xi x)) ∧ v = some (.int (-1))))) := by
  refine xz_enter (by decide +kernel) (Nat.le_of_ble_eq_true rfl) ?_
  intro Γ hC
  refine xz_lcs (lc' := [(0, .ref d), (1, .int x), (2, .int y)]) [0, 1, 2] rfl ?_
  refine xz_aload_n hC 0 rfl rfl dDi_letterAt_0 ?_
  refine xz_iload_n hC 1 rfl rfl dDi_letterAt_1 ?_
  refine xz_callV hC (mDi_has l D K d pw ln n a b x hn) kDi_has tq2 tq194 tq195 tq196 0 0 rfl rfl rfl (host := "") hDi_has (by decide) [0] [1, 2] (by decide) rfl (wr := [(pw, .inl (K 1, 24, .inr (.inl P))), (ln, .inl (K 0, 24, .inl Q))]) rfl (by decide) (by decide) (As := [.int x]) (rest := []) rfl rfl (Nat.le_of_ble_eq_true rfl) (by decide) dDi_letterAt_2 (fun v w hq => ?_)
  obtain ⟨q, rfl, rfl, hq⟩ := hq
  refine xz_ste (st' := [.int (bI q)]) rfl ?_
  refine xz_wss (ws' := [(d, .inr (0, [.ref pw, .ref ln, .int (nI n), .long (lN a), .int (nI b)])), (pw, .inl (K 1, 24, .inr (.inl P))), (ln, .inl (K 0, 24, .inl Q))]) [2, 0, 1] (by decide) rfl rfl ?_
  refine xz_ifb_eq hC (tgt := 22) (by decide) dDi_letterAt_5 (fun h1 => ?_) (fun h1 => ?_)
  · skip
    refine xz_iconst hC (v := (-1)) (by decide +kernel) dDi_letterAt_22 ?_
    exact xz_ireturn hC (by decide) (by decide) (⟨rfl, Or.inr ⟨by first | (intro hz; exact absurd (hq.mpr ⟨hz.1, hz.2.1⟩) (by rw [h1]; decide)) | (rw [hxi]; omega), rfl⟩⟩) dDi_letterAt_23
  · skip
    obtain ⟨hx0, hx1⟩ := hq.mp h1
    obtain ⟨t, ht, rfl⟩ := xn_of hx0 hx1
    obtain ⟨hp1, hp2, hp3, hp4⟩ := hP t ht
    have hxt : (nI t).toInt = (t : Int) := nI_toInt (by omega)
    have hxi : xi (nI t) = t := xi_nI (by omega)
    refine xz_iload_n hC 2 rfl rfl dDi_letterAt_8 ?_
    refine xz_if_lt hC (tgt := 22) rfl (by decide) dDi_letterAt_9 (fun h2 => ?_) (fun h2 => ?_)
    · skip
      refine xz_iconst hC (v := (-1)) (by decide +kernel) dDi_letterAt_22 ?_
      exact xz_ireturn hC (by decide) (by decide) (⟨rfl, Or.inr ⟨by first | (intro hz; exact absurd (hq.mpr ⟨hz.1, hz.2.1⟩) (by rw [h1]; decide)) | (rw [hxi]; omega), rfl⟩⟩) dDi_letterAt_23
    · skip
      refine xz_iload_n hC 2 rfl rfl dDi_letterAt_12 ?_
      refine xz_aload_n hC 0 rfl rfl dDi_letterAt_13 ?_
      refine xz_get hC 0 rfl rfl 1 (by decide) inDi tq24 rfl rfl dDi_letterAt_14 ?_
      refine xz_iload_n hC 1 rfl rfl dDi_letterAt_17 ?_
      refine xz_iaload hC 2 0 (v := nI (lt t)) rfl rfl (by omega) (by decide) hp3 dDi_letterAt_18 ?_
      refine xz_icmp_lt hC (tgt := 24) rfl (nI_toInt (by omega)) (by decide) dDi_letterAt_19 (fun h3 => ?_) (fun h3 => ?_)
      · skip
        obtain ⟨i, hi, rfl⟩ := xn_of (x := y) (n := lt t) (by omega) (by omega)
        have hyt : (nI i).toInt = (i : Int) := nI_toInt (by omega)
        have hyi : xi (nI i) = i := xi_nI (by omega)
        refine xz_bipush hC (v := nI 7) (by decide +kernel) dDi_letterAt_24 ?_
        refine xz_aload_n hC 0 rfl rfl dDi_letterAt_26 ?_
        refine xz_get hC 0 rfl rfl 1 (by decide) inDi tq24 rfl rfl dDi_letterAt_27 ?_
        refine xz_iload_n hC 1 rfl rfl dDi_letterAt_30 ?_
        refine xz_iaload hC 2 0 (v := nI (lt t)) rfl rfl (by omega) (by decide) hp3 dDi_letterAt_31 ?_
        refine xz_iconst hC (v := nI 1) (by decide +kernel) dDi_letterAt_32 ?_
        refine xz_isub hC (z := nI ((lt t) - 1)) (pk_sub (by omega)) dDi_letterAt_33 ?_
        refine xz_iload_n hC 2 rfl rfl dDi_letterAt_34 ?_
        refine xz_isub hC (z := nI (((lt t) - 1) - i)) (pk_sub (by omega)) dDi_letterAt_35 ?_
        refine xz_imul hC (z := nI (7 * (((lt t) - 1) - i))) (pk_mul _ _) dDi_letterAt_36 ?_
        refine xz_istore_n hC (lc' := [(3, .int (nI (7 * (((lt t) - 1) - i)))), (0, .ref d), (1, .int (nI t)), (2, .int (nI i))]) rfl (by decide) rfl dDi_letterAt_37 ?_
        refine xz_aload_n hC 1 rfl rfl dDi_letterAt_38 ?_
        refine xz_get hC 0 rfl rfl 0 (by decide) inDi tq23 rfl rfl dDi_letterAt_39 ?_
        refine xz_iload_n hC 2 rfl rfl dDi_letterAt_42 ?_
        refine xz_laload hC 1 1 (v := lN (pk t)) rfl rfl (by omega) (by decide) hp1 dDi_letterAt_43 ?_
        refine xz_iload_n hC 0 rfl rfl dDi_letterAt_44 ?_
        refine xz_lshr hC (z := lN (pk t) >>> ((nI (7 * (lt t - 1 - i))).toInt64 &&& 63)) rfl dDi_letterAt_45 ?_
        refine xz_l2i hC (z := (lN (pk t) >>> ((nI (7 * (lt t - 1 - i))).toInt64 &&& 63)).toInt32) rfl dDi_letterAt_46 ?_
        refine xz_bipush hC (v := nI 127) (by decide +kernel) dDi_letterAt_47 ?_
        refine xz_iand hC (z := nI (pk t / 2 ^ (7 * (lt t - 1 - i)) % 128)) (xw_take hp2 (by omega)) dDi_letterAt_49 ?_
        exact xz_ireturn hC (by decide) (by decide) (⟨rfl, Or.inl ⟨by rw [hxi]; omega, by rw [hxi, hyi]⟩⟩) dDi_letterAt_50
      · skip
        refine xz_iconst hC (v := (-1)) (by decide +kernel) dDi_letterAt_22 ?_
        exact xz_ireturn hC (by decide) (by decide) (⟨rfl, Or.inr ⟨by first | (intro hz; exact absurd (hq.mpr ⟨hz.1, hz.2.1⟩) (by rw [h1]; decide)) | (rw [hxi]; omega), rfl⟩⟩) dDi_letterAt_23
