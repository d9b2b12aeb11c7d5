set_option maxHeartbeats 1000000 in
set_option maxRecDepth 100000 in
theorem mQu_isFull (l : Launch) (D : va_G) (K : Nat → ClassId) (qu nu n : Nat) (hn : n ≤ 4) : xz_Met l D (tz K) yQu_isFull cQu_isFull 1 (some .boolean) { frames := 0, cells := 0, slots := 0, locals := 0 } [.ref qu] [(qu, .inr (2, [.ref nu, .int (nI n)]))] (fun v w => ∃ b : Bool, v = some (.int (bI b)) ∧ w = [(qu, .inr (2, [.ref nu, .int (nI n)]))] ∧ (b = true ↔ n = 4)) := by
  refine xz_enter (by decide +kernel) (Nat.le_of_ble_eq_true rfl) ?_
  intro Γ hC
  refine xz_lcs (lc' := [(0, .ref qu)]) [0] rfl ?_
  refine xz_aload_n hC 0 rfl rfl dQu_isFull_0 ?_
  refine xz_get hC 0 rfl rfl 1 (by decide) inQu tq99 rfl rfl dQu_isFull_1 ?_
  refine xz_iconst hC (v := nI 4) (by decide +kernel) dQu_isFull_4 ?_
  refine xz_icmp_lt hC (tgt := 12) (nI_toInt (by omega)) (nI_toInt (by omega)) (by decide) dQu_isFull_5 (fun h1 => ?_) (fun h1 => ?_)
  · skip
    refine xz_iconst hC (v := bI false) (by decide +kernel) dQu_isFull_12 ?_
    exact xz_zreturn hC (by decide) (by decide) (⟨_, rfl, rfl, by first | exact xt_t (by omega) | exact xt_f (by omega)⟩) dQu_isFull_13
  · skip
    refine xz_iconst hC (v := bI true) (by decide +kernel) dQu_isFull_8 ?_
    refine xz_goto hC (tgt := 13) (by decide) dQu_isFull_9 ?_
    exact xz_zreturn hC (by decide) (by decide) (⟨_, rfl, rfl, by first | exact xt_t (by omega) | exact xt_f (by omega)⟩) dQu_isFull_13
set_option maxHeartbeats 1000000 in
set_option maxRecDepth 100000 in
theorem mQu_add (l : Launch) (D : va_G) (K : Nat → ClassId) (qu nu n : Nat) (F : Nat → Int32) (x y z : Int32) (hn : n < 4) : xz_Met l D (tz K) yQu_add cQu_add 5 none { frames := 0, cells := 0, slots := 0, locals := 0 } [.ref qu, .int x, .int y, .int z] [(qu, .inr (2, [.ref nu, .int (nI n)])), (nu, .inl (K 0, 12, .inl F))] (fun v w => v = none ∧ w = [(qu, .inr (2, [.ref nu, .int (nI (n + 1))])), (nu, .inl (K 0, 12, .inl (upd (upd (upd F (n * 3) x) (n * 3 + 1) y) (n * 3 + 2) z)))]) := by
  refine xz_enter (by decide +kernel) (Nat.le_of_ble_eq_true rfl) ?_
  intro Γ hC
  refine xz_lcs (lc' := [(0, .ref qu), (1, .int x), (2, .int y), (3, .int z)]) [0, 1, 2, 3] rfl ?_
  refine xz_aload_n hC 0 rfl rfl dQu_add_0 ?_
  refine xz_get hC 0 rfl rfl 1 (by decide) inQu tq99 rfl rfl dQu_add_1 ?_
  refine xz_iconst hC (v := nI 3) (by decide +kernel) dQu_add_4 ?_
  refine xz_imul hC (z := nI (n * 3)) (pk_mul _ _) dQu_add_5 ?_
  refine xz_istore hC (lc' := [(4, .int (nI (n * 3))), (0, .ref qu), (1, .int x), (2, .int y), (3, .int z)]) (by decide) rfl dQu_add_6 ?_
  refine xz_aload_n hC 1 rfl rfl dQu_add_8 ?_
  refine xz_get hC 0 rfl rfl 0 (by decide) inQu tq98 rfl rfl dQu_add_9 ?_
  refine xz_iload hC 0 rfl dQu_add_12 ?_
  refine xz_iload_n hC 2 rfl rfl dQu_add_14 ?_
  refine xz_iastore hC 1 0 (ws' := [(qu, .inr (2, [.ref nu, .int (nI n)])), (nu, .inl (K 0, 12, .inl (upd F (n * 3) x)))]) rfl rfl (by omega) (by decide) rfl dQu_add_15 ?_
  refine xz_aload_n hC 1 rfl rfl dQu_add_16 ?_
  refine xz_get hC 0 rfl rfl 0 (by decide) inQu tq98 rfl rfl dQu_add_17 ?_
  refine xz_iload hC 0 rfl dQu_add_20 ?_
  refine xz_iconst hC (v := nI 1) (by decide +kernel) dQu_add_22 ?_
  refine xz_iadd hC (z := nI (n * 3 + 1)) (nI_add _ _) dQu_add_23 ?_
  refine xz_iload_n hC 3 rfl rfl dQu_add_24 ?_
  refine xz_iastore hC 1 0 (ws' := [(qu, .inr (2, [.ref nu, .int (nI n)])), (nu, .inl (K 0, 12, .inl (upd (upd F (n * 3) x) (n * 3 + 1) y)))]) rfl rfl (by omega) (by decide) rfl dQu_add_25 ?_
  refine xz_aload_n hC 1 rfl rfl dQu_add_26 ?_
  refine xz_get hC 0 rfl rfl 0 (by decide) inQu tq98 rfl rfl dQu_add_27 ?_
  refine xz_iload hC 0 rfl dQu_add_30 ?_
  refine xz_iconst hC (v := nI 2) (by decide +kernel) dQu_add_32 ?_
  refine xz_iadd hC (z := nI (n * 3 + 2)) (nI_add _ _) dQu_add_33 ?_
  refine xz_iload_n hC 4 rfl rfl dQu_add_34 ?_
  refine xz_iastore hC 1 0 (ws' := [(qu, .inr (2, [.ref nu, .int (nI n)])), (nu, .inl (K 0, 12, .inl (upd (upd (upd F (n * 3) x) (n * 3 + 1) y) (n * 3 + 2) z)))]) rfl rfl (by omega) (by decide) rfl dQu_add_35 ?_
  refine xz_aload_n hC 1 rfl rfl dQu_add_36 ?_
  refine xz_dup hC rfl dQu_add_37 ?_
  refine xz_get hC 0 rfl rfl 1 (by decide) inQu tq99 rfl rfl dQu_add_38 ?_
  refine xz_iconst hC (v := nI 1) (by decide +kernel) dQu_add_41 ?_
  refine xz_iadd hC (z := nI (n + 1)) (nI_add _ _) dQu_add_42 ?_
  refine xz_put hC 0 rfl rfl 1 (by decide) inQu tq99 rfl tyQu tyQu_ok nmQu rfl rfl rfl (Nat.le_of_ble_eq_true rfl) (ws' := [(qu, .inr (2, [.ref nu, .int (nI (n + 1))])), (nu, .inl (K 0, 12, .inl (upd (upd (upd F (n * 3) x) (n * 3 + 1) y) (n * 3 + 2) z)))]) rfl dQu_add_43 ?_
  exact xz_return hC (by decide) (by decide) (⟨rfl, rfl⟩) dQu_add_46
set_option maxHeartbeats 1000000 in
set_option maxRecDepth 100000 in
theorem mQu_placeOf (l : Launch) (D : va_G) (K : Nat → ClassId) (qu nu n : Nat) (F : Nat → Int32) (q : Nat → Nat) (p x : Nat) (hn : n ≤ 4) (hq : xq_nu F q (3 * n)) (hp : p < n) (hx : x < 35) : xz_Met l D (tz K) yQu_placeOf cQu_placeOf 4 (some .int) { frames := 0, cells := 0, slots := 0, locals := 0 } [.ref qu, .int (nI p), .int (nI x)] [(qu, .inr (2, [.ref nu, .int (nI n)])), (nu, .inl (K 0, 12, .inl F))] (fun v w => v = some (.int (xq_pl (xq_fp q p x))) ∧ w = [(qu, .inr (2, [.ref nu, .int (nI n)])), (nu, .inl (K 0, 12, .inl F))]) := by
  refine xz_enter (by decide +kernel) (Nat.le_of_ble_eq_true rfl) ?_
  intro Γ hC
  refine xz_lcs (lc' := [(0, .ref qu), (1, .int (nI p)), (2, .int (nI x))]) [0, 1, 2] rfl ?_
  have hq0 := (hq (3 * p) (by omega)).2
  have hq1 := (hq (3 * p + 1) (by omega)).2
  have hq2 := (hq (3 * p + 2) (by omega)).2
  refine xz_iconst hC (v := nI 0) (by decide +kernel) dQu_placeOf_0 ?_
  refine xz_istore_n hC (lc' := [(3, .int (nI 0)), (0, .ref qu), (1, .int (nI p)), (2, .int (nI x))]) rfl (by decide) rfl dQu_placeOf_1 ?_
  refine xz_iload_n hC 0 rfl rfl dQu_placeOf_2 ?_
  refine xz_iconst hC (v := nI 3) (by decide +kernel) dQu_placeOf_3 ?_
  refine xz_icmp_ge hC (tgt := 29) (nI_toInt (by omega)) (nI_toInt (by omega)) (by decide) dQu_placeOf_4 (fun h1 => ?_) (fun h1 => ?_)
  · skip
    exfalso; omega
  · skip
    refine xz_aload_n hC 1 rfl rfl dQu_placeOf_7 ?_
    refine xz_get hC 0 rfl rfl 0 (by decide) inQu tq98 rfl rfl dQu_placeOf_8 ?_
    refine xz_iload_n hC 2 rfl rfl dQu_placeOf_11 ?_
    refine xz_iconst hC (v := nI 3) (by decide +kernel) dQu_placeOf_12 ?_
    refine xz_imul hC (z := nI (p * 3)) (pk_mul _ _) dQu_placeOf_13 ?_
    refine xz_iload_n hC 0 rfl rfl dQu_placeOf_14 ?_
    refine xz_iadd hC (z := nI (p * 3 + 0)) (nI_add _ _) dQu_placeOf_15 ?_
    refine xz_iaload hC 1 0 (v := nI (q (3 * p))) rfl rfl (by omega) (by decide) ((congrArg F (show p * 3 + 0 = 3 * p by omega)).trans (hq (3 * p) (by omega)).1) dQu_placeOf_16 ?_
    refine xz_iload_n hC 3 rfl rfl dQu_placeOf_17 ?_
    refine xz_icmp_ne hC (tgt := 23) (nI_toInt (by omega)) (nI_toInt (by omega)) (by decide) dQu_placeOf_18 (fun h2 => ?_) (fun h2 => ?_)
    · skip
      refine xz_iinc hC 0 (lc' := [(3, .int (nI 1)), (0, .ref qu), (1, .int (nI p)), (2, .int (nI x))]) rfl (xn_inc _) (by decide) rfl dQu_placeOf_23 ?_
      refine xz_goto hC (tgt := 2) (by decide) dQu_placeOf_26 ?_
      refine xz_iload_n hC 0 rfl rfl dQu_placeOf_2 ?_
      refine xz_iconst hC (v := nI 3) (by decide +kernel) dQu_placeOf_3 ?_
      refine xz_icmp_ge hC (tgt := 29) (nI_toInt (by omega)) (nI_toInt (by omega)) (by decide) dQu_placeOf_4 (fun h3 => ?_) (fun h3 => ?_)
      · skip
        exfalso; omega
      · skip
        refine xz_aload_n hC 1 rfl rfl dQu_placeOf_7 ?_
        refine xz_get hC 0 rfl rfl 0 (by decide) inQu tq98 rfl rfl dQu_placeOf_8 ?_
        refine xz_iload_n hC 2 rfl rfl dQu_placeOf_11 ?_
        refine xz_iconst hC (v := nI 3) (by decide +kernel) dQu_placeOf_12 ?_
        refine xz_imul hC (z := nI (p * 3)) (pk_mul _ _) dQu_placeOf_13 ?_
        refine xz_iload_n hC 0 rfl rfl dQu_placeOf_14 ?_
        refine xz_iadd hC (z := nI (p * 3 + 1)) (nI_add _ _) dQu_placeOf_15 ?_
        refine xz_iaload hC 1 0 (v := nI (q (3 * p + 1))) rfl rfl (by omega) (by decide) ((congrArg F (show p * 3 + 1 = 3 * p + 1 by omega)).trans (hq (3 * p + 1) (by omega)).1) dQu_placeOf_16 ?_
        refine xz_iload_n hC 3 rfl rfl dQu_placeOf_17 ?_
        refine xz_icmp_ne hC (tgt := 23) (nI_toInt (by omega)) (nI_toInt (by omega)) (by decide) dQu_placeOf_18 (fun h4 => ?_) (fun h4 => ?_)
        · skip
          refine xz_iinc hC 0 (lc' := [(3, .int (nI 2)), (0, .ref qu), (1, .int (nI p)), (2, .int (nI x))]) rfl (xn_inc _) (by decide) rfl dQu_placeOf_23 ?_
          refine xz_goto hC (tgt := 2) (by decide) dQu_placeOf_26 ?_
          refine xz_iload_n hC 0 rfl rfl dQu_placeOf_2 ?_
          refine xz_iconst hC (v := nI 3) (by decide +kernel) dQu_placeOf_3 ?_
          refine xz_icmp_ge hC (tgt := 29) (nI_toInt (by omega)) (nI_toInt (by omega)) (by decide) dQu_placeOf_4 (fun h5 => ?_) (fun h5 => ?_)
          · skip
            exfalso; omega
          · skip
            refine xz_aload_n hC 1 rfl rfl dQu_placeOf_7 ?_
            refine xz_get hC 0 rfl rfl 0 (by decide) inQu tq98 rfl rfl dQu_placeOf_8 ?_
            refine xz_iload_n hC 2 rfl rfl dQu_placeOf_11 ?_
            refine xz_iconst hC (v := nI 3) (by decide +kernel) dQu_placeOf_12 ?_
            refine xz_imul hC (z := nI (p * 3)) (pk_mul _ _) dQu_placeOf_13 ?_
            refine xz_iload_n hC 0 rfl rfl dQu_placeOf_14 ?_
            refine xz_iadd hC (z := nI (p * 3 + 2)) (nI_add _ _) dQu_placeOf_15 ?_
            refine xz_iaload hC 1 0 (v := nI (q (3 * p + 2))) rfl rfl (by omega) (by decide) ((congrArg F (show p * 3 + 2 = 3 * p + 2 by omega)).trans (hq (3 * p + 2) (by omega)).1) dQu_placeOf_16 ?_
            refine xz_iload_n hC 3 rfl rfl dQu_placeOf_17 ?_
            refine xz_icmp_ne hC (tgt := 23) (nI_toInt (by omega)) (nI_toInt (by omega)) (by decide) dQu_placeOf_18 (fun h6 => ?_) (fun h6 => ?_)
            · skip
              refine xz_iinc hC 0 (lc' := [(3, .int (nI 3)), (0, .ref qu), (1, .int (nI p)), (2, .int (nI x))]) rfl (xn_inc _) (by decide) rfl dQu_placeOf_23 ?_
              refine xz_goto hC (tgt := 2) (by decide) dQu_placeOf_26 ?_
              refine xz_iload_n hC 0 rfl rfl dQu_placeOf_2 ?_
              refine xz_iconst hC (v := nI 3) (by decide +kernel) dQu_placeOf_3 ?_
              refine xz_icmp_ge hC (tgt := 29) (nI_toInt (by omega)) (nI_toInt (by omega)) (by decide) dQu_placeOf_4 (fun h7 => ?_) (fun h7 => ?_)
              · skip
                refine xz_iconst hC (v := (-1)) (by decide +kernel) dQu_placeOf_29 ?_
                exact xz_ireturn hC (by decide) (by decide) (⟨by rw [xq_f3 (by omega) (by omega) (by omega)]; rfl, rfl⟩) dQu_placeOf_30
              · skip
                exfalso; omega
            · skip
              refine xz_iload_n hC 0 rfl rfl dQu_placeOf_21 ?_
              exact xz_ireturn hC (by decide) (by decide) (by first | exact ⟨by rw [xq_f0 (by omega)]; rfl, rfl⟩ | exact ⟨by rw [xq_f1 (by omega) (by omega)]; rfl, rfl⟩ | exact ⟨by rw [xq_f2 (by omega) (by omega) (by omega)]; rfl, rfl⟩) dQu_placeOf_22
        · skip
          refine xz_iload_n hC 0 rfl rfl dQu_placeOf_21 ?_
          exact xz_ireturn hC (by decide) (by decide) (by first | exact ⟨by rw [xq_f0 (by omega)]; rfl, rfl⟩ | exact ⟨by rw [xq_f1 (by omega) (by omega)]; rfl, rfl⟩ | exact ⟨by rw [xq_f2 (by omega) (by omega) (by omega)]; rfl, rfl⟩) dQu_placeOf_22
    · skip
      refine xz_iload_n hC 0 rfl rfl dQu_placeOf_21 ?_
      exact xz_ireturn hC (by decide) (by decide) (by first | exact ⟨by rw [xq_f0 (by omega)]; rfl, rfl⟩ | exact ⟨by rw [xq_f1 (by omega) (by omega)]; rfl, rfl⟩ | exact ⟨by rw [xq_f2 (by omega) (by omega) (by omega)]; rfl, rfl⟩) dQu_placeOf_22
set_option maxHeartbeats 1000000 in
set_option maxRecDepth 100000 in
theorem mQu_placeIn (l : Launch) (D : va_G) (K : Nat → ClassId) (qu nu n : Nat) (F : Nat → Int32) (q : Nat → Nat) (p x : Nat) (hn : n ≤ 4) (hq : xq_nu F q (3 * n)) (hp : p < n) (hx : x < 35) (hi : xq_fp q p x < 3) : xz_Met l D (tz K) yQu_placeOf cQu_placeOf 4 (some .int) { frames := 0, cells := 0, slots := 0, locals := 0 } [.ref qu, .int (nI p), .int (nI x)] [(qu, .inr (2, [.ref nu, .int (nI n)])), (nu, .inl (K 0, 12, .inl F))] (fun v w => v = some (.int (nI (xq_fp q p x))) ∧ w = [(qu, .inr (2, [.ref nu, .int (nI n)])), (nu, .inl (K 0, 12, .inl F))]) := by
  refine xz_enter (by decide +kernel) (Nat.le_of_ble_eq_true rfl) ?_
  intro Γ hC
  refine xz_lcs (lc' := [(0, .ref qu), (1, .int (nI p)), (2, .int (nI x))]) [0, 1, 2] rfl ?_
  have hq0 := (hq (3 * p) (by omega)).2
  have hq1 := (hq (3 * p + 1) (by omega)).2
  have hq2 := (hq (3 * p + 2) (by omega)).2
  refine xz_iconst hC (v := nI 0) (by decide +kernel) dQu_placeOf_0 ?_
  refine xz_istore_n hC (lc' := [(3, .int (nI 0)), (0, .ref qu), (1, .int (nI p)), (2, .int (nI x))]) rfl (by decide) rfl dQu_placeOf_1 ?_
  refine xz_iload_n hC 0 rfl rfl dQu_placeOf_2 ?_
  refine xz_iconst hC (v := nI 3) (by decide +kernel) dQu_placeOf_3 ?_
  refine xz_icmp_ge hC (tgt := 29) (nI_toInt (by omega)) (nI_toInt (by omega)) (by decide) dQu_placeOf_4 (fun h1 => ?_) (fun h1 => ?_)
  · skip
    exfalso; omega
  · skip
    refine xz_aload_n hC 1 rfl rfl dQu_placeOf_7 ?_
    refine xz_get hC 0 rfl rfl 0 (by decide) inQu tq98 rfl rfl dQu_placeOf_8 ?_
    refine xz_iload_n hC 2 rfl rfl dQu_placeOf_11 ?_
    refine xz_iconst hC (v := nI 3) (by decide +kernel) dQu_placeOf_12 ?_
    refine xz_imul hC (z := nI (p * 3)) (pk_mul _ _) dQu_placeOf_13 ?_
    refine xz_iload_n hC 0 rfl rfl dQu_placeOf_14 ?_
    refine xz_iadd hC (z := nI (p * 3 + 0)) (nI_add _ _) dQu_placeOf_15 ?_
    refine xz_iaload hC 1 0 (v := nI (q (3 * p))) rfl rfl (by omega) (by decide) ((congrArg F (show p * 3 + 0 = 3 * p by omega)).trans (hq (3 * p) (by omega)).1) dQu_placeOf_16 ?_
    refine xz_iload_n hC 3 rfl rfl dQu_placeOf_17 ?_
    refine xz_icmp_ne hC (tgt := 23) (nI_toInt (by omega)) (nI_toInt (by omega)) (by decide) dQu_placeOf_18 (fun h2 => ?_) (fun h2 => ?_)
    · skip
      refine xz_iinc hC 0 (lc' := [(3, .int (nI 1)), (0, .ref qu), (1, .int (nI p)), (2, .int (nI x))]) rfl (xn_inc _) (by decide) rfl dQu_placeOf_23 ?_
      refine xz_goto hC (tgt := 2) (by decide) dQu_placeOf_26 ?_
      refine xz_iload_n hC 0 rfl rfl dQu_placeOf_2 ?_
      refine xz_iconst hC (v := nI 3) (by decide +kernel) dQu_placeOf_3 ?_
      refine xz_icmp_ge hC (tgt := 29) (nI_toInt (by omega)) (nI_toInt (by omega)) (by decide) dQu_placeOf_4 (fun h3 => ?_) (fun h3 => ?_)
      · skip
        exfalso; omega
      · skip
        refine xz_aload_n hC 1 rfl rfl dQu_placeOf_7 ?_
        refine xz_get hC 0 rfl rfl 0 (by decide) inQu tq98 rfl rfl dQu_placeOf_8 ?_
        refine xz_iload_n hC 2 rfl rfl dQu_placeOf_11 ?_
        refine xz_iconst hC (v := nI 3) (by decide +kernel) dQu_placeOf_12 ?_
        refine xz_imul hC (z := nI (p * 3)) (pk_mul _ _) dQu_placeOf_13 ?_
        refine xz_iload_n hC 0 rfl rfl dQu_placeOf_14 ?_
        refine xz_iadd hC (z := nI (p * 3 + 1)) (nI_add _ _) dQu_placeOf_15 ?_
        refine xz_iaload hC 1 0 (v := nI (q (3 * p + 1))) rfl rfl (by omega) (by decide) ((congrArg F (show p * 3 + 1 = 3 * p + 1 by omega)).trans (hq (3 * p + 1) (by omega)).1) dQu_placeOf_16 ?_
        refine xz_iload_n hC 3 rfl rfl dQu_placeOf_17 ?_
        refine xz_icmp_ne hC (tgt := 23) (nI_toInt (by omega)) (nI_toInt (by omega)) (by decide) dQu_placeOf_18 (fun h4 => ?_) (fun h4 => ?_)
        · skip
          refine xz_iinc hC 0 (lc' := [(3, .int (nI 2)), (0, .ref qu), (1, .int (nI p)), (2, .int (nI x))]) rfl (xn_inc _) (by decide) rfl dQu_placeOf_23 ?_
          refine xz_goto hC (tgt := 2) (by decide) dQu_placeOf_26 ?_
          refine xz_iload_n hC 0 rfl rfl dQu_placeOf_2 ?_
          refine xz_iconst hC (v := nI 3) (by decide +kernel) dQu_placeOf_3 ?_
          refine xz_icmp_ge hC (tgt := 29) (nI_toInt (by omega)) (nI_toInt (by omega)) (by decide) dQu_placeOf_4 (fun h5 => ?_) (fun h5 => ?_)
          · skip
            exfalso; omega
          · skip
            refine xz_aload_n hC 1 rfl rfl dQu_placeOf_7 ?_
            refine xz_get hC 0 rfl rfl 0 (by decide) inQu tq98 rfl rfl dQu_placeOf_8 ?_
            refine xz_iload_n hC 2 rfl rfl dQu_placeOf_11 ?_
            refine xz_iconst hC (v := nI 3) (by decide +kernel) dQu_placeOf_12 ?_
            refine xz_imul hC (z := nI (p * 3)) (pk_mul _ _) dQu_placeOf_13 ?_
            refine xz_iload_n hC 0 rfl rfl dQu_placeOf_14 ?_
            refine xz_iadd hC (z := nI (p * 3 + 2)) (nI_add _ _) dQu_placeOf_15 ?_
            refine xz_iaload hC 1 0 (v := nI (q (3 * p + 2))) rfl rfl (by omega) (by decide) ((congrArg F (show p * 3 + 2 = 3 * p + 2 by omega)).trans (hq (3 * p + 2) (by omega)).1) dQu_placeOf_16 ?_
            refine xz_iload_n hC 3 rfl rfl dQu_placeOf_17 ?_
            refine xz_icmp_ne hC (tgt := 23) (nI_toInt (by omega)) (nI_toInt (by omega)) (by decide) dQu_placeOf_18 (fun h6 => ?_) (fun h6 => ?_)
            · skip
              refine xz_iinc hC 0 (lc' := [(3, .int (nI 3)), (0, .ref qu), (1, .int (nI p)), (2, .int (nI x))]) rfl (xn_inc _) (by decide) rfl dQu_placeOf_23 ?_
              refine xz_goto hC (tgt := 2) (by decide) dQu_placeOf_26 ?_
              refine xz_iload_n hC 0 rfl rfl dQu_placeOf_2 ?_
              refine xz_iconst hC (v := nI 3) (by decide +kernel) dQu_placeOf_3 ?_
              refine xz_icmp_ge hC (tgt := 29) (nI_toInt (by omega)) (nI_toInt (by omega)) (by decide) dQu_placeOf_4 (fun h7 => ?_) (fun h7 => ?_)
              · skip
                refine xz_iconst hC (v := (-1)) (by decide +kernel) dQu_placeOf_29 ?_
                exact xz_ireturn hC (by decide) (by decide) (absurd hi (by rw [xq_f3 (by omega) (by omega) (by omega)]; decide)) dQu_placeOf_30
              · skip
                exfalso; omega
            · skip
              refine xz_iload_n hC 0 rfl rfl dQu_placeOf_21 ?_
              exact xz_ireturn hC (by decide) (by decide) (by first | exact ⟨by rw [xq_f0 (by omega)], rfl⟩ | exact ⟨by rw [xq_f1 (by omega) (by omega)], rfl⟩ | exact ⟨by rw [xq_f2 (by omega) (by omega) (by omega)], rfl⟩) dQu_placeOf_22
        · skip
          refine xz_iload_n hC 0 rfl rfl dQu_placeOf_21 ?_
          exact xz_ireturn hC (by decide) (by decide) (by first | exact ⟨by rw [xq_f0 (by omega)], rfl⟩ | exact ⟨by rw [xq_f1 (by omega) (by omega)], rfl⟩ | exact ⟨by rw [xq_f2 (by omega) (by omega) (by omega)], rfl⟩) dQu_placeOf_22
    · skip
      refine xz_iload_n hC 0 rfl rfl dQu_placeOf_21 ?_
      exact xz_ireturn hC (by decide) (by decide) (by first | exact ⟨by rw [xq_f0 (by omega)], rfl⟩ | exact ⟨by rw [xq_f1 (by omega) (by omega)], rfl⟩ | exact ⟨by rw [xq_f2 (by omega) (by omega) (by omega)], rfl⟩) dQu_placeOf_22
set_option maxHeartbeats 1000000 in
set_option maxRecDepth 100000 in
theorem mQu_agrees (l : Launch) (D : va_G) (K : Nat → ClassId) (qu nu n : Nat) (F : Nat → Int32) (q : Nat → Nat) (p c : Nat) (hn : n ≤ 4) (hq : xq_nu F q (3 * n)) (hp : p < n) (hc : c < 32768) : xz_Met l D (tz K) yQu_agrees cQu_agrees 6 (some .boolean) { frames := 2, cells := 0, slots := 0, locals := 41 } [.ref qu, .int (nI p), .int (nI c)] [(qu, .inr (2, [.ref nu, .int (nI n)])), (nu, .inl (K 0, 12, .inl F))] (fun v w => ∃ b : Bool, v = some (.int (bI b)) ∧ w = [(qu, .inr (2, [.ref nu, .int (nI n)])), (nu, .inl (K 0, 12, .inl F))] ∧ (b = true ↔ xq_ag q p c)) := by
  refine xz_enter (by decide +kernel) (Nat.le_of_ble_eq_true rfl) ?_
  intro Γ hC
  refine xz_lcs (lc' := [(0, .ref qu), (1, .int (nI p)), (2, .int (nI c))]) [0, 1, 2] rfl ?_
  refine xz_iconst hC (v := nI 0) (by decide +kernel) dQu_agrees_0 ?_
  refine xz_istore_n hC (lc' := [(3, .int (nI 0)), (0, .ref qu), (1, .int (nI p)), (2, .int (nI c))]) rfl (by decide) rfl dQu_agrees_1 ?_
  have lp1 : ∀ (NNlp1 : Nat) (i : Nat), i ≤ 3 → (∀ j, j < i → xk_pt c j = (if 32 ≤ q (3 * p + j) then xk_pt c (xq_fp q p (q (3 * p + j))) else q (3 * p + j))) → 3 - i = NNlp1 → xz_X Γ 0 0 [(qu, .inr (2, [.ref nu, .int (nI n)])), (nu, .inl (K 0, 12, .inl F))] 2 [(3, .int (nI i)), (0, .ref qu), (1, .int (nI p)), (2, .int (nI c))] [] := by
    intro NNlp1
    induction NNlp1 using Nat.strongRecOn with
    | _ NNlp1 ihlp1 =>
      intro i  hi hag hNNlp1
      refine xz_iload_n hC 0 rfl rfl dQu_agrees_2 ?_
      refine xz_iconst hC (v := nI 3) (by decide +kernel) dQu_agrees_3 ?_
      refine xz_icmp_ge hC (tgt := 63) (nI_toInt (by omega)) (nI_toInt (by omega)) (by decide) dQu_agrees_4 (fun h2 => ?_) (fun h2 => ?_)
      · skip
        refine xz_iconst hC (v := bI true) (by decide +kernel) dQu_agrees_63 ?_
        exact xz_zreturn hC (by decide) (by decide) (⟨_, rfl, rfl, xt_t (fun j hj => hag j (by omega))⟩) dQu_agrees_64
      · skip
        have hqi := (hq (3 * p + i) (by omega)).2
        have hti : (nI (q (3 * p + i))).toInt = (q (3 * p + i) : Int) := nI_toInt (by omega)
        have hci := xk_pt_lt c i
        refine xz_aload_n hC 1 rfl rfl dQu_agrees_7 ?_
        refine xz_get hC 0 rfl rfl 0 (by decide) inQu tq98 rfl rfl dQu_agrees_8 ?_
        refine xz_iload_n hC 2 rfl rfl dQu_agrees_11 ?_
        refine xz_iconst hC (v := nI 3) (by decide +kernel) dQu_agrees_12 ?_
        refine xz_imul hC (z := nI (p * 3)) (pk_mul _ _) dQu_agrees_13 ?_
        refine xz_iload_n hC 0 rfl rfl dQu_agrees_14 ?_
        refine xz_iadd hC (z := nI (p * 3 + i)) (nI_add _ _) dQu_agrees_15 ?_
        refine xz_iaload hC 1 0 (v := nI (q (3 * p + i))) rfl rfl (by omega) (by decide) ((congrArg F (show p * 3 + i = 3 * p + i by omega)).trans (hq (3 * p + i) (by omega)).1) dQu_agrees_16 ?_
        refine xz_istore hC (lc' := [(4, .int (nI (q (3 * p + i)))), (3, .int (nI i)), (0, .ref qu), (1, .int (nI p)), (2, .int (nI c))]) (by decide) rfl dQu_agrees_17 ?_
        refine xz_iload hC 0 rfl dQu_agrees_19 ?_
        refine xz_callSN hC (mSx_isVariable l D K (nI (q (3 * p + i)))) kSx_isVariable tq1 tq341 tq315 (b := 0) hSx_isVariable (by decide) [] [0, 1] (by decide) rfl (wr := [(qu, .inr (2, [.ref nu, .int (nI n)])), (nu, .inl (K 0, 12, .inl F))]) rfl (by decide) (by decide) (As := [.int (nI (q (3 * p + i)))]) (rest := []) rfl rfl (Nat.le_of_ble_eq_true rfl) (by decide) dQu_agrees_21 (fun v w hq => ?_)
        obtain ⟨b, rfl, rfl, hb⟩ := hq
        refine xz_ste (st' := [.int (bI b)]) rfl ?_
        refine xz_wss (ws' := [(qu, .inr (2, [.ref nu, .int (nI n)])), (nu, .inl (K 0, 12, .inl F))]) [0, 1] (by decide) rfl rfl ?_
        rw [hti] at hb
        refine xz_ifb_eq hC (tgt := 41) (by decide) dQu_agrees_24 (fun h3 => ?_) (fun h3 => ?_)
        · skip
          have hnv : ¬ 32 ≤ q (3 * p + i) := fun z => absurd (hb.mpr (by omega)) (by rw [h3]; decide)
          have hif : (if 32 ≤ q (3 * p + i) then xk_pt c (xq_fp q p (q (3 * p + i))) else q (3 * p + i)) = q (3 * p + i) := if_neg hnv
          refine xz_iload hC 0 rfl dQu_agrees_41 ?_
          refine xz_istore hC (lc' := [(5, .int (nI (q (3 * p + i)))), (4, .int (nI (q (3 * p + i)))), (3, .int (nI i)), (0, .ref qu), (1, .int (nI p)), (2, .int (nI c))]) (by decide) rfl dQu_agrees_43 ?_
          refine xz_iload_n hC 5 rfl rfl dQu_agrees_45 ?_
          refine xz_iload_n hC 2 rfl rfl dQu_agrees_46 ?_
          refine xz_callSN hC (mSx_partOf l D K c i hc (by omega)) kSx_partOf tq1 tq381 tq223 (b := 0) hSx_partOf (by decide) [] [0, 1] (by decide) rfl (wr := [(qu, .inr (2, [.ref nu, .int (nI n)])), (nu, .inl (K 0, 12, .inl F))]) rfl (by decide) (by decide) (As := [.int (nI c), .int (nI i)]) (rest := []) rfl rfl (Nat.le_of_ble_eq_true rfl) (by decide) dQu_agrees_47 (fun v w hq => ?_)
          obtain ⟨rfl, rfl⟩ := hq
          refine xz_ste (st' := [.int (nI (xk_pt c i))]) rfl ?_
          refine xz_wss (ws' := [(qu, .inr (2, [.ref nu, .int (nI n)])), (nu, .inl (K 0, 12, .inl F))]) [0, 1] (by decide) rfl rfl ?_
          refine xz_iload hC 0 rfl dQu_agrees_50 ?_
          refine xz_icmp_eq hC (tgt := 57) (nI_toInt (by omega)) (nI_toInt (by omega)) (by decide) dQu_agrees_52 (fun h4 => ?_) (fun h4 => ?_)
          · skip
            refine xz_iinc hC 2 (lc' := [(3, .int (nI (i + 1))), (5, .int (nI (q (3 * p + i)))), (4, .int (nI (q (3 * p + i)))), (0, .ref qu), (1, .int (nI p)), (2, .int (nI c))]) rfl (xn_inc _) (by decide) rfl dQu_agrees_57 ?_
            refine xz_goto hC (tgt := 2) (by decide) dQu_agrees_60 ?_
            refine xz_lcs (lc' := [(3, .int (nI (i + 1))), (0, .ref qu), (1, .int (nI p)), (2, .int (nI c))]) [0, 3, 4, 5] rfl ?_
            exact ihlp1 _ (by omega) (i + 1) (by omega) (lt_s hag (by rw [hif]; omega)) rfl
          · skip
            refine xz_iconst hC (v := bI false) (by decide +kernel) dQu_agrees_55 ?_
            exact xz_zreturn hC (by decide) (by decide) (⟨_, rfl, rfl, xt_f (fun z => by have := z i (by omega); rw [hif] at this; omega)⟩) dQu_agrees_56
        · skip
          have hv : 32 ≤ q (3 * p + i) := by have := hb.mp h3; omega
          have hif : (if 32 ≤ q (3 * p + i) then xk_pt c (xq_fp q p (q (3 * p + i))) else q (3 * p + i)) = xk_pt c (xq_fp q p (q (3 * p + i))) := if_pos hv
          have hfl : xq_fp q p (q (3 * p + i)) ≤ i := xq_fp_min (by omega) rfl
          have hcf := xk_pt_lt c (xq_fp q p (q (3 * p + i)))
          refine xz_iload_n hC 4 rfl rfl dQu_agrees_27 ?_
          refine xz_aload_n hC 2 rfl rfl dQu_agrees_28 ?_
          refine xz_iload_n hC 3 rfl rfl dQu_agrees_29 ?_
          refine xz_iload hC 0 rfl dQu_agrees_30 ?_
          refine xz_callV hC (mQu_placeIn l D K qu nu n F q p (q (3 * p + i)) hn hq hp hqi (by omega)) kQu_placeOf tq5 tq380 tq363 tq364 0 2 rfl rfl rfl (host := "") hQu_placeOf (by decide) [0, 1] [] (by decide) rfl (wr := []) rfl (by decide) (by decide) (As := [.int (nI p), .int (nI (q (3 * p + i)))]) (rest := [.int (nI c)]) rfl rfl (Nat.le_of_ble_eq_true rfl) (by decide) dQu_agrees_32 (fun v w hq => ?_)
          obtain ⟨rfl, rfl⟩ := hq
          refine xz_ste (st' := [.int (nI (xq_fp q p (q (3 * p + i)))), .int (nI c)]) rfl ?_
          refine xz_wss (ws' := [(qu, .inr (2, [.ref nu, .int (nI n)])), (nu, .inl (K 0, 12, .inl F))]) [0, 1] (by decide) rfl rfl ?_
          refine xz_callSN hC (mSx_partOf l D K c (xq_fp q p (q (3 * p + i))) hc (by omega)) kSx_partOf tq1 tq381 tq223 (b := 0) hSx_partOf (by decide) [] [0, 1] (by decide) rfl (wr := [(qu, .inr (2, [.ref nu, .int (nI n)])), (nu, .inl (K 0, 12, .inl F))]) rfl (by decide) (by decide) (As := [.int (nI c), .int (nI (xq_fp q p (q (3 * p + i))))]) (rest := []) rfl rfl (Nat.le_of_ble_eq_true rfl) (by decide) dQu_agrees_35 (fun v w hq => ?_)
          obtain ⟨rfl, rfl⟩ := hq
          refine xz_ste (st' := [.int (nI (xk_pt c (xq_fp q p (q (3 * p + i)))))]) rfl ?_
          refine xz_wss (ws' := [(qu, .inr (2, [.ref nu, .int (nI n)])), (nu, .inl (K 0, 12, .inl F))]) [0, 1] (by decide) rfl rfl ?_
          refine xz_goto hC (tgt := 43) (by decide) dQu_agrees_38 ?_
          refine xz_istore hC (lc' := [(5, .int (nI (xk_pt c (xq_fp q p (q (3 * p + i)))))), (4, .int (nI (q (3 * p + i)))), (3, .int (nI i)), (0, .ref qu), (1, .int (nI p)), (2, .int (nI c))]) (by decide) rfl dQu_agrees_43 ?_
          refine xz_iload_n hC 5 rfl rfl dQu_agrees_45 ?_
          refine xz_iload_n hC 2 rfl rfl dQu_agrees_46 ?_
          refine xz_callSN hC (mSx_partOf l D K c i hc (by omega)) kSx_partOf tq1 tq381 tq223 (b := 0) hSx_partOf (by decide) [] [0, 1] (by decide) rfl (wr := [(qu, .inr (2, [.ref nu, .int (nI n)])), (nu, .inl (K 0, 12, .inl F))]) rfl (by decide) (by decide) (As := [.int (nI c), .int (nI i)]) (rest := []) rfl rfl (Nat.le_of_ble_eq_true rfl) (by decide) dQu_agrees_47 (fun v w hq => ?_)
          obtain ⟨rfl, rfl⟩ := hq
          refine xz_ste (st' := [.int (nI (xk_pt c i))]) rfl ?_
          refine xz_wss (ws' := [(qu, .inr (2, [.ref nu, .int (nI n)])), (nu, .inl (K 0, 12, .inl F))]) [0, 1] (by decide) rfl rfl ?_
          refine xz_iload hC 0 rfl dQu_agrees_50 ?_
          refine xz_icmp_eq hC (tgt := 57) (nI_toInt (by omega)) (nI_toInt (by omega)) (by decide) dQu_agrees_52 (fun h5 => ?_) (fun h5 => ?_)
          · skip
            refine xz_iinc hC 2 (lc' := [(3, .int (nI (i + 1))), (5, .int (nI (xk_pt c (xq_fp q p (q (3 * p + i)))))), (4, .int (nI (q (3 * p + i)))), (0, .ref qu), (1, .int (nI p)), (2, .int (nI c))]) rfl (xn_inc _) (by decide) rfl dQu_agrees_57 ?_
            refine xz_goto hC (tgt := 2) (by decide) dQu_agrees_60 ?_
            refine xz_lcs (lc' := [(3, .int (nI (i + 1))), (0, .ref qu), (1, .int (nI p)), (2, .int (nI c))]) [0, 3, 4, 5] rfl ?_
            exact ihlp1 _ (by omega) (i + 1) (by omega) (lt_s hag (by rw [hif]; omega)) rfl
          · skip
            refine xz_iconst hC (v := bI false) (by decide +kernel) dQu_agrees_55 ?_
            exact xz_zreturn hC (by decide) (by decide) (⟨_, rfl, rfl, xt_f (fun z => by have := z i (by omega); rw [hif] at this; omega)⟩) dQu_agrees_56
  exact lp1 _ 0 (by omega) (fun j hj => absurd hj (by omega)) rfl
set_option maxHeartbeats 1000000 in
set_option maxRecDepth 100000 in
theorem mQu_variableBits (l : Launch) (D : va_G) (K : Nat → ClassId) (qu nu n : Nat) (F : Nat → Int32) (q : Nat → Nat) (hn : n ≤ 4) (hq : xq_nu F q (3 * n)) : xz_Met l D (tz K) yQu_variableBits cQu_variableBits 3 (some .int) { frames := 1, cells := 0, slots := 0, locals := 20 } [.ref qu] [(qu, .inr (2, [.ref nu, .int (nI n)])), (nu, .inl (K 0, 12, .inl F))] (fun v w => v = some (.int (nI (xq_vb q (3 * n)))) ∧ w = [(qu, .inr (2, [.ref nu, .int (nI n)])), (nu, .inl (K 0, 12, .inl F))]) := by
  refine xz_enter (by decide +kernel) (Nat.le_of_ble_eq_true rfl) ?_
  intro Γ hC
  refine xz_lcs (lc' := [(0, .ref qu)]) [0] rfl ?_
  refine xz_iconst hC (v := nI 0) (by decide +kernel) dQu_variableBits_0 ?_
  refine xz_istore_n hC (lc' := [(1, .int (nI 0)), (0, .ref qu)]) rfl (by decide) rfl dQu_variableBits_1 ?_
  refine xz_iconst hC (v := nI 0) (by decide +kernel) dQu_variableBits_2 ?_
  refine xz_istore_n hC (lc' := [(2, .int (nI 0)), (1, .int (nI 0)), (0, .ref qu)]) rfl (by decide) rfl dQu_variableBits_3 ?_
  have lp1 : ∀ (NNlp1 : Nat) (i : Nat), i ≤ 3 * n → 3 * n - i = NNlp1 → xz_X Γ 0 0 [(qu, .inr (2, [.ref nu, .int (nI n)])), (nu, .inl (K 0, 12, .inl F))] 4 [(2, .int (nI i)), (1, .int (nI (xq_vb q i))), (0, .ref qu)] [] := by
    intro NNlp1
    induction NNlp1 using Nat.strongRecOn with
    | _ NNlp1 ihlp1 =>
      intro i  hi hNNlp1
      refine xz_iload_n hC 0 rfl rfl dQu_variableBits_4 ?_
      refine xz_aload_n hC 2 rfl rfl dQu_variableBits_5 ?_
      refine xz_get hC 0 rfl rfl 1 (by decide) inQu tq99 rfl rfl dQu_variableBits_6 ?_
      refine xz_iconst hC (v := nI 3) (by decide +kernel) dQu_variableBits_9 ?_
      refine xz_imul hC (z := nI (n * 3)) (pk_mul _ _) dQu_variableBits_10 ?_
      refine xz_icmp_ge hC (tgt := 46) (nI_toInt (by omega)) (nI_toInt (by omega)) (by decide) dQu_variableBits_11 (fun h2 => ?_) (fun h2 => ?_)
      · skip
        refine xz_iload_n hC 1 rfl rfl dQu_variableBits_46 ?_
        exact xz_ireturn hC (by decide) (by decide) (⟨by rw [show i = 3 * n by omega], rfl⟩) dQu_variableBits_47
      · skip
        have hqi := (hq i (by omega)).2
        have hti : (nI (q i)).toInt = (q i : Int) := nI_toInt (by omega)
        refine xz_aload_n hC 2 rfl rfl dQu_variableBits_14 ?_
        refine xz_get hC 0 rfl rfl 0 (by decide) inQu tq98 rfl rfl dQu_variableBits_15 ?_
        refine xz_iload_n hC 0 rfl rfl dQu_variableBits_18 ?_
        refine xz_iaload hC 1 0 (v := nI (q i)) rfl rfl (by omega) (by decide) (hq i (by omega)).1 dQu_variableBits_19 ?_
        refine xz_callSN hC (mSx_isVariable l D K (nI (q i))) kSx_isVariable tq1 tq341 tq315 (b := 0) hSx_isVariable (by decide) [] [0, 1] (by decide) rfl (wr := [(qu, .inr (2, [.ref nu, .int (nI n)])), (nu, .inl (K 0, 12, .inl F))]) rfl (by decide) (by decide) (As := [.int (nI (q i))]) (rest := []) rfl rfl (Nat.le_of_ble_eq_true rfl) (by decide) dQu_variableBits_20 (fun v w hq => ?_)
        obtain ⟨b, rfl, rfl, hb⟩ := hq
        refine xz_ste (st' := [.int (bI b)]) rfl ?_
        refine xz_wss (ws' := [(qu, .inr (2, [.ref nu, .int (nI n)])), (nu, .inl (K 0, 12, .inl F))]) [0, 1] (by decide) rfl rfl ?_
        rw [hti] at hb
        refine xz_ifb_eq hC (tgt := 40) (by decide) dQu_variableBits_23 (fun h3 => ?_) (fun h3 => ?_)
        · skip
          have hnv : ¬ 32 ≤ q i := fun z => absurd (hb.mpr (by omega)) (by rw [h3]; decide)
          refine xz_lce (lc' := [(2, .int (nI i)), (1, .int (nI (xq_vb q (i + 1)))), (0, .ref qu)]) (by rw [show xq_vb q (i + 1) = xq_vb q i from if_neg hnv]) ?_
          refine xz_iinc hC 0 (lc' := [(2, .int (nI (i + 1))), (1, .int (nI (xq_vb q (i + 1)))), (0, .ref qu)]) rfl (xn_inc _) (by decide) rfl dQu_variableBits_40 ?_
          refine xz_goto hC (tgt := 4) (by decide) dQu_variableBits_43 ?_
          exact ihlp1 _ (by omega) (i + 1) (by omega) rfl
        · skip
          have hv : 32 ≤ q i := by have := hb.mp h3; omega
          have hpw : 1 * 2 ^ (q i - 32) < 2 ^ 32 := by
            have : 2 ^ (q i - 32) ≤ 2 ^ 3 := Nat.pow_le_pow_right (by decide) (by omega)
            omega
          refine xz_iload_n hC 1 rfl rfl dQu_variableBits_26 ?_
          refine xz_iconst hC (v := nI 1) (by decide +kernel) dQu_variableBits_27 ?_
          refine xz_aload_n hC 2 rfl rfl dQu_variableBits_28 ?_
          refine xz_get hC 0 rfl rfl 0 (by decide) inQu tq98 rfl rfl dQu_variableBits_29 ?_
          refine xz_iload_n hC 0 rfl rfl dQu_variableBits_32 ?_
          refine xz_iaload hC 1 0 (v := nI (q i)) rfl rfl (by omega) (by decide) (hq i (by omega)).1 dQu_variableBits_33 ?_
          refine xz_bipush hC (v := nI 32) (by decide +kernel) dQu_variableBits_34 ?_
          refine xz_isub hC (z := nI ((q i) - 32)) (pk_sub (by omega)) dQu_variableBits_36 ?_
          refine xz_ishl hC (z := nI (2 ^ (q i - 32))) ((xn_shl (by omega) hpw).trans (by rw [Nat.one_mul])) dQu_variableBits_37 ?_
          refine xz_ior hC (z := nI (xq_vb q i ||| 2 ^ (q i - 32))) (xn_or _ _) dQu_variableBits_38 ?_
          refine xz_istore_n hC (lc' := [(1, .int (nI (xq_vb q i ||| 2 ^ (q i - 32)))), (2, .int (nI i)), (0, .ref qu)]) rfl (by decide) rfl dQu_variableBits_39 ?_
          refine xz_lce (lc' := [(1, .int (nI (xq_vb q (i + 1)))), (2, .int (nI i)), (0, .ref qu)]) (by rw [show xq_vb q (i + 1) = xq_vb q i ||| 2 ^ (q i - 32) from if_pos hv]) ?_
          refine xz_iinc hC 1 (lc' := [(2, .int (nI (i + 1))), (1, .int (nI (xq_vb q (i + 1)))), (0, .ref qu)]) rfl (xn_inc _) (by decide) rfl dQu_variableBits_40 ?_
          refine xz_goto hC (tgt := 4) (by decide) dQu_variableBits_43 ?_
          exact ihlp1 _ (by omega) (i + 1) (by omega) rfl
  exact lp1 _ 0 (by omega) rfl
set_option maxHeartbeats 1000000 in
set_option maxRecDepth 100000 in
theorem mQu_awaitedAfter (l : Launch) (D : va_G) (K : Nat → ClassId) (a : Nat) (x : Int32)  : xz_Met l D (tz K) yQu_awaitedAfter cQu_awaitedAfter 3 (some .int) { frames := 1, cells := 0, slots := 0, locals := 20 } [.int (xq_aI a), .int x] [] (fun v w => v = some (.int (xq_aI (xq_aw a (xq_ev x)))) ∧ w = []) := by
  refine xz_enter (by decide +kernel) (Nat.le_of_ble_eq_true rfl) ?_
  intro Γ hC
  refine xz_lcs (lc' := [(0, .int (xq_aI a)), (1, .int x)]) [0, 1] rfl ?_
  by_cases ha : a < 8
  · skip
    refine xz_lce (lc' := [(0, .int (nI a)), (1, .int x)]) (by rw [xq_aI_lt ha]) ?_
    refine xz_iload_n hC 0 rfl rfl dQu_awaitedAfter_0 ?_
    refine xz_iconst hC (v := (-1)) (by decide +kernel) dQu_awaitedAfter_1 ?_
    refine xz_icmp_ne hC (tgt := 7) (nI_toInt (by omega)) (show (-1 : Int32).toInt = -1 from by decide +kernel) (by decide) dQu_awaitedAfter_2 (fun h1 => ?_) (fun h1 => ?_)
    · skip
      refine xz_iload_n hC 1 rfl rfl dQu_awaitedAfter_7 ?_
      refine xz_iconst hC (v := (-1)) (by decide +kernel) dQu_awaitedAfter_8 ?_
      refine xz_icmp_ne hC (tgt := 22) rfl (show (-1 : Int32).toInt = -1 from by decide +kernel) (by decide) dQu_awaitedAfter_9 (fun h2 => ?_) (fun h2 => ?_)
      · skip
        have hxm := h2
        refine xz_iload_n hC 1 rfl rfl dQu_awaitedAfter_22 ?_
        refine xz_callSN hC (mSx_isVariable l D K x) kSx_isVariable tq1 tq341 tq315 (b := 0) hSx_isVariable (by decide) [] [] (by decide) rfl (wr := []) rfl (by decide) (by decide) (As := [.int x]) (rest := []) rfl rfl (Nat.le_of_ble_eq_true rfl) (by decide) dQu_awaitedAfter_23 (fun v w hq => ?_)
        obtain ⟨b, rfl, rfl, hb⟩ := hq
        refine xz_ste (st' := [.int (bI b)]) rfl ?_
        refine xz_wss (ws' := []) [] (by decide) rfl rfl ?_
        refine xz_ifb_ne hC (tgt := 31) (by decide) dQu_awaitedAfter_26 (fun h3 => ?_) (fun h3 => ?_)
        · skip
          have hvv := hb.mp h3
          obtain ⟨j, hj, hxj⟩ : ∃ j : Nat, j < 3 ∧ x = nI (32 + j) := by
            obtain ⟨t, ht, rfl⟩ := xn_of (x := x) (n := 35) (by omega) (by omega)
            have hz : (nI t).toInt = (t : Int) := nI_toInt (by omega)
            exact ⟨t - 32, by omega, by rw [show 32 + (t - 32) = t by omega]⟩
          subst hxj
          have hev : xq_ev (nI (32 + j)) = j := xq_ev_v hj
          clear hvv hb hxm
          rcases (show j = 0 ∨ j = 1 ∨ j = 2 by omega) with rfl | rfl | rfl
          · skip
            rcases (show a = 0 ∨ a = 1 ∨ a = 2 ∨ a = 3 ∨ a = 4 ∨ a = 5 ∨ a = 6 ∨ a = 7 by omega) with rfl | rfl | rfl | rfl | rfl | rfl | rfl | rfl
            · skip
              refine xz_iconst hC (v := nI 1) (by decide +kernel) dQu_awaitedAfter_31 ?_
              refine xz_iload_n hC 1 rfl rfl dQu_awaitedAfter_32 ?_
              refine xz_bipush hC (v := nI 32) (by decide +kernel) dQu_awaitedAfter_33 ?_
              refine xz_isub hC (z := nI 0) (by decide +kernel) dQu_awaitedAfter_35 ?_
              refine xz_ishl hC (z := nI 1) (by decide +kernel) dQu_awaitedAfter_36 ?_
              refine xz_istore_n hC (lc' := [(2, .int (nI 1)), (0, .int (nI 0)), (1, .int (nI 32))]) rfl (by decide) rfl dQu_awaitedAfter_37 ?_
              refine xz_iload_n hC 1 rfl rfl dQu_awaitedAfter_38 ?_
              refine xz_iload_n hC 0 rfl rfl dQu_awaitedAfter_39 ?_
              refine xz_iand hC (z := nI 0) (by decide +kernel) dQu_awaitedAfter_40 ?_
              refine xz_if_eq hC (tgt := 50) (nI_toInt (by omega)) (by decide) dQu_awaitedAfter_41 (fun h4 => ?_) (fun h4 => ?_)
              · skip
                refine xz_iconst hC (v := (-1)) (by decide +kernel) dQu_awaitedAfter_50 ?_
                exact xz_ireturn hC (by decide) (by decide) (⟨by rw [hev]; decide +kernel, rfl⟩) dQu_awaitedAfter_51
              · skip
                exfalso; omega
            · skip
              refine xz_iconst hC (v := nI 1) (by decide +kernel) dQu_awaitedAfter_31 ?_
              refine xz_iload_n hC 1 rfl rfl dQu_awaitedAfter_32 ?_
              refine xz_bipush hC (v := nI 32) (by decide +kernel) dQu_awaitedAfter_33 ?_
              refine xz_isub hC (z := nI 0) (by decide +kernel) dQu_awaitedAfter_35 ?_
              refine xz_ishl hC (z := nI 1) (by decide +kernel) dQu_awaitedAfter_36 ?_
              refine xz_istore_n hC (lc' := [(2, .int (nI 1)), (0, .int (nI 1)), (1, .int (nI 32))]) rfl (by decide) rfl dQu_awaitedAfter_37 ?_
              refine xz_iload_n hC 1 rfl rfl dQu_awaitedAfter_38 ?_
              refine xz_iload_n hC 0 rfl rfl dQu_awaitedAfter_39 ?_
              refine xz_iand hC (z := nI 1) (by decide +kernel) dQu_awaitedAfter_40 ?_
              refine xz_if_eq hC (tgt := 50) (nI_toInt (by omega)) (by decide) dQu_awaitedAfter_41 (fun h5 => ?_) (fun h5 => ?_)
              · skip
                exfalso; omega
              · skip
                refine xz_iload_n hC 1 rfl rfl dQu_awaitedAfter_44 ?_
                refine xz_iload_n hC 0 rfl rfl dQu_awaitedAfter_45 ?_
                refine xz_isub hC (z := nI 0) (by decide +kernel) dQu_awaitedAfter_46 ?_
                refine xz_goto hC (tgt := 51) (by decide) dQu_awaitedAfter_47 ?_
                exact xz_ireturn hC (by decide) (by decide) (⟨by rw [hev]; decide +kernel, rfl⟩) dQu_awaitedAfter_51
            · skip
              refine xz_iconst hC (v := nI 1) (by decide +kernel) dQu_awaitedAfter_31 ?_
              refine xz_iload_n hC 1 rfl rfl dQu_awaitedAfter_32 ?_
              refine xz_bipush hC (v := nI 32) (by decide +kernel) dQu_awaitedAfter_33 ?_
              refine xz_isub hC (z := nI 0) (by decide +kernel) dQu_awaitedAfter_35 ?_
              refine xz_ishl hC (z := nI 1) (by decide +kernel) dQu_awaitedAfter_36 ?_
              refine xz_istore_n hC (lc' := [(2, .int (nI 1)), (0, .int (nI 2)), (1, .int (nI 32))]) rfl (by decide) rfl dQu_awaitedAfter_37 ?_
              refine xz_iload_n hC 1 rfl rfl dQu_awaitedAfter_38 ?_
              refine xz_iload_n hC 0 rfl rfl dQu_awaitedAfter_39 ?_
              refine xz_iand hC (z := nI 0) (by decide +kernel) dQu_awaitedAfter_40 ?_
              refine xz_if_eq hC (tgt := 50) (nI_toInt (by omega)) (by decide) dQu_awaitedAfter_41 (fun h6 => ?_) (fun h6 => ?_)
              · skip
                refine xz_iconst hC (v := (-1)) (by decide +kernel) dQu_awaitedAfter_50 ?_
                exact xz_ireturn hC (by decide) (by decide) (⟨by rw [hev]; decide +kernel, rfl⟩) dQu_awaitedAfter_51
              · skip
                exfalso; omega
            · skip
              refine xz_iconst hC (v := nI 1) (by decide +kernel) dQu_awaitedAfter_31 ?_
              refine xz_iload_n hC 1 rfl rfl dQu_awaitedAfter_32 ?_
              refine xz_bipush hC (v := nI 32) (by decide +kernel) dQu_awaitedAfter_33 ?_
              refine xz_isub hC (z := nI 0) (by decide +kernel) dQu_awaitedAfter_35 ?_
              refine xz_ishl hC (z := nI 1) (by decide +kernel) dQu_awaitedAfter_36 ?_
              refine xz_istore_n hC (lc' := [(2, .int (nI 1)), (0, .int (nI 3)), (1, .int (nI 32))]) rfl (by decide) rfl dQu_awaitedAfter_37 ?_
              refine xz_iload_n hC 1 rfl rfl dQu_awaitedAfter_38 ?_
              refine xz_iload_n hC 0 rfl rfl dQu_awaitedAfter_39 ?_
              refine xz_iand hC (z := nI 1) (by decide +kernel) dQu_awaitedAfter_40 ?_
              refine xz_if_eq hC (tgt := 50) (nI_toInt (by omega)) (by decide) dQu_awaitedAfter_41 (fun h7 => ?_) (fun h7 => ?_)
              · skip
                exfalso; omega
              · skip
                refine xz_iload_n hC 1 rfl rfl dQu_awaitedAfter_44 ?_
                refine xz_iload_n hC 0 rfl rfl dQu_awaitedAfter_45 ?_
                refine xz_isub hC (z := nI 2) (by decide +kernel) dQu_awaitedAfter_46 ?_
                refine xz_goto hC (tgt := 51) (by decide) dQu_awaitedAfter_47 ?_
                exact xz_ireturn hC (by decide) (by decide) (⟨by rw [hev]; decide +kernel, rfl⟩) dQu_awaitedAfter_51
            · skip
              refine xz_iconst hC (v := nI 1) (by decide +kernel) dQu_awaitedAfter_31 ?_
              refine xz_iload_n hC 1 rfl rfl dQu_awaitedAfter_32 ?_
              refine xz_bipush hC (v := nI 32) (by decide +kernel) dQu_awaitedAfter_33 ?_
              refine xz_isub hC (z := nI 0) (by decide +kernel) dQu_awaitedAfter_35 ?_
              refine xz_ishl hC (z := nI 1) (by decide +kernel) dQu_awaitedAfter_36 ?_
              refine xz_istore_n hC (lc' := [(2, .int (nI 1)), (0, .int (nI 4)), (1, .int (nI 32))]) rfl (by decide) rfl dQu_awaitedAfter_37 ?_
              refine xz_iload_n hC 1 rfl rfl dQu_awaitedAfter_38 ?_
              refine xz_iload_n hC 0 rfl rfl dQu_awaitedAfter_39 ?_
              refine xz_iand hC (z := nI 0) (by decide +kernel) dQu_awaitedAfter_40 ?_
              refine xz_if_eq hC (tgt := 50) (nI_toInt (by omega)) (by decide) dQu_awaitedAfter_41 (fun h8 => ?_) (fun h8 => ?_)
              · skip
                refine xz_iconst hC (v := (-1)) (by decide +kernel) dQu_awaitedAfter_50 ?_
                exact xz_ireturn hC (by decide) (by decide) (⟨by rw [hev]; decide +kernel, rfl⟩) dQu_awaitedAfter_51
              · skip
                exfalso; omega
            · skip
              refine xz_iconst hC (v := nI 1) (by decide +kernel) dQu_awaitedAfter_31 ?_
              refine xz_iload_n hC 1 rfl rfl dQu_awaitedAfter_32 ?_
              refine xz_bipush hC (v := nI 32) (by decide +kernel) dQu_awaitedAfter_33 ?_
              refine xz_isub hC (z := nI 0) (by decide +kernel) dQu_awaitedAfter_35 ?_
              refine xz_ishl hC (z := nI 1) (by decide +kernel) dQu_awaitedAfter_36 ?_
              refine xz_istore_n hC (lc' := [(2, .int (nI 1)), (0, .int (nI 5)), (1, .int (nI 32))]) rfl (by decide) rfl dQu_awaitedAfter_37 ?_
              refine xz_iload_n hC 1 rfl rfl dQu_awaitedAfter_38 ?_
              refine xz_iload_n hC 0 rfl rfl dQu_awaitedAfter_39 ?_
              refine xz_iand hC (z := nI 1) (by decide +kernel) dQu_awaitedAfter_40 ?_
              refine xz_if_eq hC (tgt := 50) (nI_toInt (by omega)) (by decide) dQu_awaitedAfter_41 (fun h9 => ?_) (fun h9 => ?_)
              · skip
                exfalso; omega
              · skip
                refine xz_iload_n hC 1 rfl rfl dQu_awaitedAfter_44 ?_
                refine xz_iload_n hC 0 rfl rfl dQu_awaitedAfter_45 ?_
                refine xz_isub hC (z := nI 4) (by decide +kernel) dQu_awaitedAfter_46 ?_
                refine xz_goto hC (tgt := 51) (by decide) dQu_awaitedAfter_47 ?_
                exact xz_ireturn hC (by decide) (by decide) (⟨by rw [hev]; decide +kernel, rfl⟩) dQu_awaitedAfter_51
            · skip
              refine xz_iconst hC (v := nI 1) (by decide +kernel) dQu_awaitedAfter_31 ?_
              refine xz_iload_n hC 1 rfl rfl dQu_awaitedAfter_32 ?_
              refine xz_bipush hC (v := nI 32) (by decide +kernel) dQu_awaitedAfter_33 ?_
              refine xz_isub hC (z := nI 0) (by decide +kernel) dQu_awaitedAfter_35 ?_
              refine xz_ishl hC (z := nI 1) (by decide +kernel) dQu_awaitedAfter_36 ?_
              refine xz_istore_n hC (lc' := [(2, .int (nI 1)), (0, .int (nI 6)), (1, .int (nI 32))]) rfl (by decide) rfl dQu_awaitedAfter_37 ?_
              refine xz_iload_n hC 1 rfl rfl dQu_awaitedAfter_38 ?_
              refine xz_iload_n hC 0 rfl rfl dQu_awaitedAfter_39 ?_
              refine xz_iand hC (z := nI 0) (by decide +kernel) dQu_awaitedAfter_40 ?_
              refine xz_if_eq hC (tgt := 50) (nI_toInt (by omega)) (by decide) dQu_awaitedAfter_41 (fun h10 => ?_) (fun h10 => ?_)
              · skip
                refine xz_iconst hC (v := (-1)) (by decide +kernel) dQu_awaitedAfter_50 ?_
                exact xz_ireturn hC (by decide) (by decide) (⟨by rw [hev]; decide +kernel, rfl⟩) dQu_awaitedAfter_51
              · skip
                exfalso; omega
            · skip
              refine xz_iconst hC (v := nI 1) (by decide +kernel) dQu_awaitedAfter_31 ?_
              refine xz_iload_n hC 1 rfl rfl dQu_awaitedAfter_32 ?_
              refine xz_bipush hC (v := nI 32) (by decide +kernel) dQu_awaitedAfter_33 ?_
              refine xz_isub hC (z := nI 0) (by decide +kernel) dQu_awaitedAfter_35 ?_
              refine xz_ishl hC (z := nI 1) (by decide +kernel) dQu_awaitedAfter_36 ?_
              refine xz_istore_n hC (lc' := [(2, .int (nI 1)), (0, .int (nI 7)), (1, .int (nI 32))]) rfl (by decide) rfl dQu_awaitedAfter_37 ?_
              refine xz_iload_n hC 1 rfl rfl dQu_awaitedAfter_38 ?_
              refine xz_iload_n hC 0 rfl rfl dQu_awaitedAfter_39 ?_
              refine xz_iand hC (z := nI 1) (by decide +kernel) dQu_awaitedAfter_40 ?_
              refine xz_if_eq hC (tgt := 50) (nI_toInt (by omega)) (by decide) dQu_awaitedAfter_41 (fun h11 => ?_) (fun h11 => ?_)
              · skip
                exfalso; omega
              · skip
                refine xz_iload_n hC 1 rfl rfl dQu_awaitedAfter_44 ?_
                refine xz_iload_n hC 0 rfl rfl dQu_awaitedAfter_45 ?_
                refine xz_isub hC (z := nI 6) (by decide +kernel) dQu_awaitedAfter_46 ?_
                refine xz_goto hC (tgt := 51) (by decide) dQu_awaitedAfter_47 ?_
                exact xz_ireturn hC (by decide) (by decide) (⟨by rw [hev]; decide +kernel, rfl⟩) dQu_awaitedAfter_51
          · skip
            rcases (show a = 0 ∨ a = 1 ∨ a = 2 ∨ a = 3 ∨ a = 4 ∨ a = 5 ∨ a = 6 ∨ a = 7 by omega) with rfl | rfl | rfl | rfl | rfl | rfl | rfl | rfl
            · skip
              refine xz_iconst hC (v := nI 1) (by decide +kernel) dQu_awaitedAfter_31 ?_
              refine xz_iload_n hC 1 rfl rfl dQu_awaitedAfter_32 ?_
              refine xz_bipush hC (v := nI 32) (by decide +kernel) dQu_awaitedAfter_33 ?_
              refine xz_isub hC (z := nI 1) (by decide +kernel) dQu_awaitedAfter_35 ?_
              refine xz_ishl hC (z := nI 2) (by decide +kernel) dQu_awaitedAfter_36 ?_
              refine xz_istore_n hC (lc' := [(2, .int (nI 2)), (0, .int (nI 0)), (1, .int (nI 33))]) rfl (by decide) rfl dQu_awaitedAfter_37 ?_
              refine xz_iload_n hC 1 rfl rfl dQu_awaitedAfter_38 ?_
              refine xz_iload_n hC 0 rfl rfl dQu_awaitedAfter_39 ?_
              refine xz_iand hC (z := nI 0) (by decide +kernel) dQu_awaitedAfter_40 ?_
              refine xz_if_eq hC (tgt := 50) (nI_toInt (by omega)) (by decide) dQu_awaitedAfter_41 (fun h12 => ?_) (fun h12 => ?_)
              · skip
                refine xz_iconst hC (v := (-1)) (by decide +kernel) dQu_awaitedAfter_50 ?_
                exact xz_ireturn hC (by decide) (by decide) (⟨by rw [hev]; decide +kernel, rfl⟩) dQu_awaitedAfter_51
              · skip
                exfalso; omega
            · skip
              refine xz_iconst hC (v := nI 1) (by decide +kernel) dQu_awaitedAfter_31 ?_
              refine xz_iload_n hC 1 rfl rfl dQu_awaitedAfter_32 ?_
              refine xz_bipush hC (v := nI 32) (by decide +kernel) dQu_awaitedAfter_33 ?_
              refine xz_isub hC (z := nI 1) (by decide +kernel) dQu_awaitedAfter_35 ?_
              refine xz_ishl hC (z := nI 2) (by decide +kernel) dQu_awaitedAfter_36 ?_
              refine xz_istore_n hC (lc' := [(2, .int (nI 2)), (0, .int (nI 1)), (1, .int (nI 33))]) rfl (by decide) rfl dQu_awaitedAfter_37 ?_
              refine xz_iload_n hC 1 rfl rfl dQu_awaitedAfter_38 ?_
              refine xz_iload_n hC 0 rfl rfl dQu_awaitedAfter_39 ?_
              refine xz_iand hC (z := nI 0) (by decide +kernel) dQu_awaitedAfter_40 ?_
              refine xz_if_eq hC (tgt := 50) (nI_toInt (by omega)) (by decide) dQu_awaitedAfter_41 (fun h13 => ?_) (fun h13 => ?_)
              · skip
                refine xz_iconst hC (v := (-1)) (by decide +kernel) dQu_awaitedAfter_50 ?_
                exact xz_ireturn hC (by decide) (by decide) (⟨by rw [hev]; decide +kernel, rfl⟩) dQu_awaitedAfter_51
              · skip
                exfalso; omega
            · skip
              refine xz_iconst hC (v := nI 1) (by decide +kernel) dQu_awaitedAfter_31 ?_
              refine xz_iload_n hC 1 rfl rfl dQu_awaitedAfter_32 ?_
              refine xz_bipush hC (v := nI 32) (by decide +kernel) dQu_awaitedAfter_33 ?_
              refine xz_isub hC (z := nI 1) (by decide +kernel) dQu_awaitedAfter_35 ?_
              refine xz_ishl hC (z := nI 2) (by decide +kernel) dQu_awaitedAfter_36 ?_
              refine xz_istore_n hC (lc' := [(2, .int (nI 2)), (0, .int (nI 2)), (1, .int (nI 33))]) rfl (by decide) rfl dQu_awaitedAfter_37 ?_
              refine xz_iload_n hC 1 rfl rfl dQu_awaitedAfter_38 ?_
              refine xz_iload_n hC 0 rfl rfl dQu_awaitedAfter_39 ?_
              refine xz_iand hC (z := nI 2) (by decide +kernel) dQu_awaitedAfter_40 ?_
              refine xz_if_eq hC (tgt := 50) (nI_toInt (by omega)) (by decide) dQu_awaitedAfter_41 (fun h14 => ?_) (fun h14 => ?_)
              · skip
                exfalso; omega
              · skip
                refine xz_iload_n hC 1 rfl rfl dQu_awaitedAfter_44 ?_
                refine xz_iload_n hC 0 rfl rfl dQu_awaitedAfter_45 ?_
                refine xz_isub hC (z := nI 0) (by decide +kernel) dQu_awaitedAfter_46 ?_
                refine xz_goto hC (tgt := 51) (by decide) dQu_awaitedAfter_47 ?_
                exact xz_ireturn hC (by decide) (by decide) (⟨by rw [hev]; decide +kernel, rfl⟩) dQu_awaitedAfter_51
            · skip
              refine xz_iconst hC (v := nI 1) (by decide +kernel) dQu_awaitedAfter_31 ?_
              refine xz_iload_n hC 1 rfl rfl dQu_awaitedAfter_32 ?_
              refine xz_bipush hC (v := nI 32) (by decide +kernel) dQu_awaitedAfter_33 ?_
              refine xz_isub hC (z := nI 1) (by decide +kernel) dQu_awaitedAfter_35 ?_
              refine xz_ishl hC (z := nI 2) (by decide +kernel) dQu_awaitedAfter_36 ?_
              refine xz_istore_n hC (lc' := [(2, .int (nI 2)), (0, .int (nI 3)), (1, .int (nI 33))]) rfl (by decide) rfl dQu_awaitedAfter_37 ?_
              refine xz_iload_n hC 1 rfl rfl dQu_awaitedAfter_38 ?_
              refine xz_iload_n hC 0 rfl rfl dQu_awaitedAfter_39 ?_
              refine xz_iand hC (z := nI 2) (by decide +kernel) dQu_awaitedAfter_40 ?_
              refine xz_if_eq hC (tgt := 50) (nI_toInt (by omega)) (by decide) dQu_awaitedAfter_41 (fun h15 => ?_) (fun h15 => ?_)
              · skip
                exfalso; omega
              · skip
                refine xz_iload_n hC 1 rfl rfl dQu_awaitedAfter_44 ?_
                refine xz_iload_n hC 0 rfl rfl dQu_awaitedAfter_45 ?_
                refine xz_isub hC (z := nI 1) (by decide +kernel) dQu_awaitedAfter_46 ?_
                refine xz_goto hC (tgt := 51) (by decide) dQu_awaitedAfter_47 ?_
                exact xz_ireturn hC (by decide) (by decide) (⟨by rw [hev]; decide +kernel, rfl⟩) dQu_awaitedAfter_51
            · skip
              refine xz_iconst hC (v := nI 1) (by decide +kernel) dQu_awaitedAfter_31 ?_
              refine xz_iload_n hC 1 rfl rfl dQu_awaitedAfter_32 ?_
              refine xz_bipush hC (v := nI 32) (by decide +kernel) dQu_awaitedAfter_33 ?_
              refine xz_isub hC (z := nI 1) (by decide +kernel) dQu_awaitedAfter_35 ?_
              refine xz_ishl hC (z := nI 2) (by decide +kernel) dQu_awaitedAfter_36 ?_
              refine xz_istore_n hC (lc' := [(2, .int (nI 2)), (0, .int (nI 4)), (1, .int (nI 33))]) rfl (by decide) rfl dQu_awaitedAfter_37 ?_
              refine xz_iload_n hC 1 rfl rfl dQu_awaitedAfter_38 ?_
              refine xz_iload_n hC 0 rfl rfl dQu_awaitedAfter_39 ?_
              refine xz_iand hC (z := nI 0) (by decide +kernel) dQu_awaitedAfter_40 ?_
              refine xz_if_eq hC (tgt := 50) (nI_toInt (by omega)) (by decide) dQu_awaitedAfter_41 (fun h16 => ?_) (fun h16 => ?_)
              · skip
                refine xz_iconst hC (v := (-1)) (by decide +kernel) dQu_awaitedAfter_50 ?_
                exact xz_ireturn hC (by decide) (by decide) (⟨by rw [hev]; decide +kernel, rfl⟩) dQu_awaitedAfter_51
              · skip
                exfalso; omega
            · skip
              refine xz_iconst hC (v := nI 1) (by decide +kernel) dQu_awaitedAfter_31 ?_
              refine xz_iload_n hC 1 rfl rfl dQu_awaitedAfter_32 ?_
              refine xz_bipush hC (v := nI 32) (by decide +kernel) dQu_awaitedAfter_33 ?_
              refine xz_isub hC (z := nI 1) (by decide +kernel) dQu_awaitedAfter_35 ?_
              refine xz_ishl hC (z := nI 2) (by decide +kernel) dQu_awaitedAfter_36 ?_
              refine xz_istore_n hC (lc' := [(2, .int (nI 2)), (0, .int (nI 5)), (1, .int (nI 33))]) rfl (by decide) rfl dQu_awaitedAfter_37 ?_
              refine xz_iload_n hC 1 rfl rfl dQu_awaitedAfter_38 ?_
              refine xz_iload_n hC 0 rfl rfl dQu_awaitedAfter_39 ?_
              refine xz_iand hC (z := nI 0) (by decide +kernel) dQu_awaitedAfter_40 ?_
              refine xz_if_eq hC (tgt := 50) (nI_toInt (by omega)) (by decide) dQu_awaitedAfter_41 (fun h17 => ?_) (fun h17 => ?_)
              · skip
                refine xz_iconst hC (v := (-1)) (by decide +kernel) dQu_awaitedAfter_50 ?_
                exact xz_ireturn hC (by decide) (by decide) (⟨by rw [hev]; decide +kernel, rfl⟩) dQu_awaitedAfter_51
              · skip
                exfalso; omega
            · skip
              refine xz_iconst hC (v := nI 1) (by decide +kernel) dQu_awaitedAfter_31 ?_
              refine xz_iload_n hC 1 rfl rfl dQu_awaitedAfter_32 ?_
              refine xz_bipush hC (v := nI 32) (by decide +kernel) dQu_awaitedAfter_33 ?_
              refine xz_isub hC (z := nI 1) (by decide +kernel) dQu_awaitedAfter_35 ?_
              refine xz_ishl hC (z := nI 2) (by decide +kernel) dQu_awaitedAfter_36 ?_
              refine xz_istore_n hC (lc' := [(2, .int (nI 2)), (0, .int (nI 6)), (1, .int (nI 33))]) rfl (by decide) rfl dQu_awaitedAfter_37 ?_
              refine xz_iload_n hC 1 rfl rfl dQu_awaitedAfter_38 ?_
              refine xz_iload_n hC 0 rfl rfl dQu_awaitedAfter_39 ?_
              refine xz_iand hC (z := nI 2) (by decide +kernel) dQu_awaitedAfter_40 ?_
              refine xz_if_eq hC (tgt := 50) (nI_toInt (by omega)) (by decide) dQu_awaitedAfter_41 (fun h18 => ?_) (fun h18 => ?_)
              · skip
                exfalso; omega
              · skip
                refine xz_iload_n hC 1 rfl rfl dQu_awaitedAfter_44 ?_
                refine xz_iload_n hC 0 rfl rfl dQu_awaitedAfter_45 ?_
                refine xz_isub hC (z := nI 4) (by decide +kernel) dQu_awaitedAfter_46 ?_
                refine xz_goto hC (tgt := 51) (by decide) dQu_awaitedAfter_47 ?_
                exact xz_ireturn hC (by decide) (by decide) (⟨by rw [hev]; decide +kernel, rfl⟩) dQu_awaitedAfter_51
            · skip
              refine xz_iconst hC (v := nI 1) (by decide +kernel) dQu_awaitedAfter_31 ?_
              refine xz_iload_n hC 1 rfl rfl dQu_awaitedAfter_32 ?_
              refine xz_bipush hC (v := nI 32) (by decide +kernel) dQu_awaitedAfter_33 ?_
              refine xz_isub hC (z := nI 1) (by decide +kernel) dQu_awaitedAfter_35 ?_
              refine xz_ishl hC (z := nI 2) (by decide +kernel) dQu_awaitedAfter_36 ?_
              refine xz_istore_n hC (lc' := [(2, .int (nI 2)), (0, .int (nI 7)), (1, .int (nI 33))]) rfl (by decide) rfl dQu_awaitedAfter_37 ?_
              refine xz_iload_n hC 1 rfl rfl dQu_awaitedAfter_38 ?_
              refine xz_iload_n hC 0 rfl rfl dQu_awaitedAfter_39 ?_
              refine xz_iand hC (z := nI 2) (by decide +kernel) dQu_awaitedAfter_40 ?_
              refine xz_if_eq hC (tgt := 50) (nI_toInt (by omega)) (by decide) dQu_awaitedAfter_41 (fun h19 => ?_) (fun h19 => ?_)
              · skip
                exfalso; omega
              · skip
                refine xz_iload_n hC 1 rfl rfl dQu_awaitedAfter_44 ?_
                refine xz_iload_n hC 0 rfl rfl dQu_awaitedAfter_45 ?_
                refine xz_isub hC (z := nI 5) (by decide +kernel) dQu_awaitedAfter_46 ?_
                refine xz_goto hC (tgt := 51) (by decide) dQu_awaitedAfter_47 ?_
                exact xz_ireturn hC (by decide) (by decide) (⟨by rw [hev]; decide +kernel, rfl⟩) dQu_awaitedAfter_51
          · skip
            rcases (show a = 0 ∨ a = 1 ∨ a = 2 ∨ a = 3 ∨ a = 4 ∨ a = 5 ∨ a = 6 ∨ a = 7 by omega) with rfl | rfl | rfl | rfl | rfl | rfl | rfl | rfl
            · skip
              refine xz_iconst hC (v := nI 1) (by decide +kernel) dQu_awaitedAfter_31 ?_
              refine xz_iload_n hC 1 rfl rfl dQu_awaitedAfter_32 ?_
              refine xz_bipush hC (v := nI 32) (by decide +kernel) dQu_awaitedAfter_33 ?_
              refine xz_isub hC (z := nI 2) (by decide +kernel) dQu_awaitedAfter_35 ?_
              refine xz_ishl hC (z := nI 4) (by decide +kernel) dQu_awaitedAfter_36 ?_
              refine xz_istore_n hC (lc' := [(2, .int (nI 4)), (0, .int (nI 0)), (1, .int (nI 34))]) rfl (by decide) rfl dQu_awaitedAfter_37 ?_
              refine xz_iload_n hC 1 rfl rfl dQu_awaitedAfter_38 ?_
              refine xz_iload_n hC 0 rfl rfl dQu_awaitedAfter_39 ?_
              refine xz_iand hC (z := nI 0) (by decide +kernel) dQu_awaitedAfter_40 ?_
              refine xz_if_eq hC (tgt := 50) (nI_toInt (by omega)) (by decide) dQu_awaitedAfter_41 (fun h20 => ?_) (fun h20 => ?_)
              · skip
                refine xz_iconst hC (v := (-1)) (by decide +kernel) dQu_awaitedAfter_50 ?_
                exact xz_ireturn hC (by decide) (by decide) (⟨by rw [hev]; decide +kernel, rfl⟩) dQu_awaitedAfter_51
              · skip
                exfalso; omega
            · skip
              refine xz_iconst hC (v := nI 1) (by decide +kernel) dQu_awaitedAfter_31 ?_
              refine xz_iload_n hC 1 rfl rfl dQu_awaitedAfter_32 ?_
              refine xz_bipush hC (v := nI 32) (by decide +kernel) dQu_awaitedAfter_33 ?_
              refine xz_isub hC (z := nI 2) (by decide +kernel) dQu_awaitedAfter_35 ?_
              refine xz_ishl hC (z := nI 4) (by decide +kernel) dQu_awaitedAfter_36 ?_
              refine xz_istore_n hC (lc' := [(2, .int (nI 4)), (0, .int (nI 1)), (1, .int (nI 34))]) rfl (by decide) rfl dQu_awaitedAfter_37 ?_
              refine xz_iload_n hC 1 rfl rfl dQu_awaitedAfter_38 ?_
              refine xz_iload_n hC 0 rfl rfl dQu_awaitedAfter_39 ?_
              refine xz_iand hC (z := nI 0) (by decide +kernel) dQu_awaitedAfter_40 ?_
              refine xz_if_eq hC (tgt := 50) (nI_toInt (by omega)) (by decide) dQu_awaitedAfter_41 (fun h21 => ?_) (fun h21 => ?_)
              · skip
                refine xz_iconst hC (v := (-1)) (by decide +kernel) dQu_awaitedAfter_50 ?_
                exact xz_ireturn hC (by decide) (by decide) (⟨by rw [hev]; decide +kernel, rfl⟩) dQu_awaitedAfter_51
              · skip
                exfalso; omega
            · skip
              refine xz_iconst hC (v := nI 1) (by decide +kernel) dQu_awaitedAfter_31 ?_
              refine xz_iload_n hC 1 rfl rfl dQu_awaitedAfter_32 ?_
              refine xz_bipush hC (v := nI 32) (by decide +kernel) dQu_awaitedAfter_33 ?_
              refine xz_isub hC (z := nI 2) (by decide +kernel) dQu_awaitedAfter_35 ?_
              refine xz_ishl hC (z := nI 4) (by decide +kernel) dQu_awaitedAfter_36 ?_
              refine xz_istore_n hC (lc' := [(2, .int (nI 4)), (0, .int (nI 2)), (1, .int (nI 34))]) rfl (by decide) rfl dQu_awaitedAfter_37 ?_
              refine xz_iload_n hC 1 rfl rfl dQu_awaitedAfter_38 ?_
              refine xz_iload_n hC 0 rfl rfl dQu_awaitedAfter_39 ?_
              refine xz_iand hC (z := nI 0) (by decide +kernel) dQu_awaitedAfter_40 ?_
              refine xz_if_eq hC (tgt := 50) (nI_toInt (by omega)) (by decide) dQu_awaitedAfter_41 (fun h22 => ?_) (fun h22 => ?_)
              · skip
                refine xz_iconst hC (v := (-1)) (by decide +kernel) dQu_awaitedAfter_50 ?_
                exact xz_ireturn hC (by decide) (by decide) (⟨by rw [hev]; decide +kernel, rfl⟩) dQu_awaitedAfter_51
              · skip
                exfalso; omega
            · skip
              refine xz_iconst hC (v := nI 1) (by decide +kernel) dQu_awaitedAfter_31 ?_
              refine xz_iload_n hC 1 rfl rfl dQu_awaitedAfter_32 ?_
              refine xz_bipush hC (v := nI 32) (by decide +kernel) dQu_awaitedAfter_33 ?_
              refine xz_isub hC (z := nI 2) (by decide +kernel) dQu_awaitedAfter_35 ?_
              refine xz_ishl hC (z := nI 4) (by decide +kernel) dQu_awaitedAfter_36 ?_
              refine xz_istore_n hC (lc' := [(2, .int (nI 4)), (0, .int (nI 3)), (1, .int (nI 34))]) rfl (by decide) rfl dQu_awaitedAfter_37 ?_
              refine xz_iload_n hC 1 rfl rfl dQu_awaitedAfter_38 ?_
              refine xz_iload_n hC 0 rfl rfl dQu_awaitedAfter_39 ?_
              refine xz_iand hC (z := nI 0) (by decide +kernel) dQu_awaitedAfter_40 ?_
              refine xz_if_eq hC (tgt := 50) (nI_toInt (by omega)) (by decide) dQu_awaitedAfter_41 (fun h23 => ?_) (fun h23 => ?_)
              · skip
                refine xz_iconst hC (v := (-1)) (by decide +kernel) dQu_awaitedAfter_50 ?_
                exact xz_ireturn hC (by decide) (by decide) (⟨by rw [hev]; decide +kernel, rfl⟩) dQu_awaitedAfter_51
              · skip
                exfalso; omega
            · skip
              refine xz_iconst hC (v := nI 1) (by decide +kernel) dQu_awaitedAfter_31 ?_
              refine xz_iload_n hC 1 rfl rfl dQu_awaitedAfter_32 ?_
              refine xz_bipush hC (v := nI 32) (by decide +kernel) dQu_awaitedAfter_33 ?_
              refine xz_isub hC (z := nI 2) (by decide +kernel) dQu_awaitedAfter_35 ?_
              refine xz_ishl hC (z := nI 4) (by decide +kernel) dQu_awaitedAfter_36 ?_
              refine xz_istore_n hC (lc' := [(2, .int (nI 4)), (0, .int (nI 4)), (1, .int (nI 34))]) rfl (by decide) rfl dQu_awaitedAfter_37 ?_
              refine xz_iload_n hC 1 rfl rfl dQu_awaitedAfter_38 ?_
              refine xz_iload_n hC 0 rfl rfl dQu_awaitedAfter_39 ?_
              refine xz_iand hC (z := nI 4) (by decide +kernel) dQu_awaitedAfter_40 ?_
              refine xz_if_eq hC (tgt := 50) (nI_toInt (by omega)) (by decide) dQu_awaitedAfter_41 (fun h24 => ?_) (fun h24 => ?_)
              · skip
                exfalso; omega
              · skip
                refine xz_iload_n hC 1 rfl rfl dQu_awaitedAfter_44 ?_
                refine xz_iload_n hC 0 rfl rfl dQu_awaitedAfter_45 ?_
                refine xz_isub hC (z := nI 0) (by decide +kernel) dQu_awaitedAfter_46 ?_
                refine xz_goto hC (tgt := 51) (by decide) dQu_awaitedAfter_47 ?_
                exact xz_ireturn hC (by decide) (by decide) (⟨by rw [hev]; decide +kernel, rfl⟩) dQu_awaitedAfter_51
            · skip
              refine xz_iconst hC (v := nI 1) (by decide +kernel) dQu_awaitedAfter_31 ?_
              refine xz_iload_n hC 1 rfl rfl dQu_awaitedAfter_32 ?_
              refine xz_bipush hC (v := nI 32) (by decide +kernel) dQu_awaitedAfter_33 ?_
              refine xz_isub hC (z := nI 2) (by decide +kernel) dQu_awaitedAfter_35 ?_
              refine xz_ishl hC (z := nI 4) (by decide +kernel) dQu_awaitedAfter_36 ?_
              refine xz_istore_n hC (lc' := [(2, .int (nI 4)), (0, .int (nI 5)), (1, .int (nI 34))]) rfl (by decide) rfl dQu_awaitedAfter_37 ?_
              refine xz_iload_n hC 1 rfl rfl dQu_awaitedAfter_38 ?_
              refine xz_iload_n hC 0 rfl rfl dQu_awaitedAfter_39 ?_
              refine xz_iand hC (z := nI 4) (by decide +kernel) dQu_awaitedAfter_40 ?_
              refine xz_if_eq hC (tgt := 50) (nI_toInt (by omega)) (by decide) dQu_awaitedAfter_41 (fun h25 => ?_) (fun h25 => ?_)
              · skip
                exfalso; omega
              · skip
                refine xz_iload_n hC 1 rfl rfl dQu_awaitedAfter_44 ?_
                refine xz_iload_n hC 0 rfl rfl dQu_awaitedAfter_45 ?_
                refine xz_isub hC (z := nI 1) (by decide +kernel) dQu_awaitedAfter_46 ?_
                refine xz_goto hC (tgt := 51) (by decide) dQu_awaitedAfter_47 ?_
                exact xz_ireturn hC (by decide) (by decide) (⟨by rw [hev]; decide +kernel, rfl⟩) dQu_awaitedAfter_51
            · skip
              refine xz_iconst hC (v := nI 1) (by decide +kernel) dQu_awaitedAfter_31 ?_
              refine xz_iload_n hC 1 rfl rfl dQu_awaitedAfter_32 ?_
              refine xz_bipush hC (v := nI 32) (by decide +kernel) dQu_awaitedAfter_33 ?_
              refine xz_isub hC (z := nI 2) (by decide +kernel) dQu_awaitedAfter_35 ?_
              refine xz_ishl hC (z := nI 4) (by decide +kernel) dQu_awaitedAfter_36 ?_
              refine xz_istore_n hC (lc' := [(2, .int (nI 4)), (0, .int (nI 6)), (1, .int (nI 34))]) rfl (by decide) rfl dQu_awaitedAfter_37 ?_
              refine xz_iload_n hC 1 rfl rfl dQu_awaitedAfter_38 ?_
              refine xz_iload_n hC 0 rfl rfl dQu_awaitedAfter_39 ?_
              refine xz_iand hC (z := nI 4) (by decide +kernel) dQu_awaitedAfter_40 ?_
              refine xz_if_eq hC (tgt := 50) (nI_toInt (by omega)) (by decide) dQu_awaitedAfter_41 (fun h26 => ?_) (fun h26 => ?_)
              · skip
                exfalso; omega
              · skip
                refine xz_iload_n hC 1 rfl rfl dQu_awaitedAfter_44 ?_
                refine xz_iload_n hC 0 rfl rfl dQu_awaitedAfter_45 ?_
                refine xz_isub hC (z := nI 2) (by decide +kernel) dQu_awaitedAfter_46 ?_
                refine xz_goto hC (tgt := 51) (by decide) dQu_awaitedAfter_47 ?_
                exact xz_ireturn hC (by decide) (by decide) (⟨by rw [hev]; decide +kernel, rfl⟩) dQu_awaitedAfter_51
            · skip
              refine xz_iconst hC (v := nI 1) (by decide +kernel) dQu_awaitedAfter_31 ?_
              refine xz_iload_n hC 1 rfl rfl dQu_awaitedAfter_32 ?_
              refine xz_bipush hC (v := nI 32) (by decide +kernel) dQu_awaitedAfter_33 ?_
              refine xz_isub hC (z := nI 2) (by decide +kernel) dQu_awaitedAfter_35 ?_
              refine xz_ishl hC (z := nI 4) (by decide +kernel) dQu_awaitedAfter_36 ?_
              refine xz_istore_n hC (lc' := [(2, .int (nI 4)), (0, .int (nI 7)), (1, .int (nI 34))]) rfl (by decide) rfl dQu_awaitedAfter_37 ?_
              refine xz_iload_n hC 1 rfl rfl dQu_awaitedAfter_38 ?_
              refine xz_iload_n hC 0 rfl rfl dQu_awaitedAfter_39 ?_
              refine xz_iand hC (z := nI 4) (by decide +kernel) dQu_awaitedAfter_40 ?_
              refine xz_if_eq hC (tgt := 50) (nI_toInt (by omega)) (by decide) dQu_awaitedAfter_41 (fun h27 => ?_) (fun h27 => ?_)
              · skip
                exfalso; omega
              · skip
                refine xz_iload_n hC 1 rfl rfl dQu_awaitedAfter_44 ?_
                refine xz_iload_n hC 0 rfl rfl dQu_awaitedAfter_45 ?_
                refine xz_isub hC (z := nI 3) (by decide +kernel) dQu_awaitedAfter_46 ?_
                refine xz_goto hC (tgt := 51) (by decide) dQu_awaitedAfter_47 ?_
                exact xz_ireturn hC (by decide) (by decide) (⟨by rw [hev]; decide +kernel, rfl⟩) dQu_awaitedAfter_51
        · skip
          have hnv : ¬ (32 ≤ x.toInt ∧ x.toInt < 35) := fun z => absurd (hb.mpr z) (by rw [h3]; decide)
          refine xz_iconst hC (v := (-1)) (by decide +kernel) dQu_awaitedAfter_29 ?_
          exact xz_ireturn hC (by decide) (by decide) (⟨by rw [xq_ev_o hxm hnv]; unfold xq_aw; rw [if_neg (by omega), if_neg (by decide), if_pos rfl]; rfl, rfl⟩) dQu_awaitedAfter_30
      · skip
        have hxm := h2
        refine xz_iload_n hC 0 rfl rfl dQu_awaitedAfter_12 ?_
        refine xz_if_ne hC (tgt := 20) (nI_toInt (by omega)) (by decide) dQu_awaitedAfter_13 (fun h28 => ?_) (fun h28 => ?_)
        · skip
          refine xz_iconst hC (v := (-1)) (by decide +kernel) dQu_awaitedAfter_20 ?_
          exact xz_ireturn hC (by decide) (by decide) (by first | exact ⟨by rw [xq_ev_m hxm, show a = 0 by omega]; rfl, rfl⟩ | exact ⟨by rw [xq_ev_m hxm]; unfold xq_aw; rw [if_neg (by omega), if_pos rfl, if_neg (by omega)]; rfl, rfl⟩) dQu_awaitedAfter_21
        · skip
          refine xz_iconst hC (v := nI 0) (by decide +kernel) dQu_awaitedAfter_16 ?_
          refine xz_goto hC (tgt := 21) (by decide) dQu_awaitedAfter_17 ?_
          exact xz_ireturn hC (by decide) (by decide) (by first | exact ⟨by rw [xq_ev_m hxm, show a = 0 by omega]; rfl, rfl⟩ | exact ⟨by rw [xq_ev_m hxm]; unfold xq_aw; rw [if_neg (by omega), if_pos rfl, if_neg (by omega)]; rfl, rfl⟩) dQu_awaitedAfter_21
    · skip
      exfalso; omega
  · skip
    refine xz_lce (lc' := [(0, .int (-1)), (1, .int x)]) (by rw [xq_aI_ge ha]) ?_
    refine xz_iload_n hC 0 rfl rfl dQu_awaitedAfter_0 ?_
    refine xz_iconst hC (v := (-1)) (by decide +kernel) dQu_awaitedAfter_1 ?_
    refine xz_icmp_ne hC (tgt := 7) (show (-1 : Int32).toInt = -1 from by decide +kernel) (show (-1 : Int32).toInt = -1 from by decide +kernel) (by decide) dQu_awaitedAfter_2 (fun h29 => ?_) (fun h29 => ?_)
    · skip
      exfalso; omega
    · skip
      refine xz_iconst hC (v := (-1)) (by decide +kernel) dQu_awaitedAfter_5 ?_
      exact xz_ireturn hC (by decide) (by decide) (⟨by rw [xq_aw8 ha]; rfl, rfl⟩) dQu_awaitedAfter_6
set_option maxHeartbeats 1000000 in
set_option maxRecDepth 100000 in
theorem mQu_hasRow (l : Launch) (D : va_G) (K : Nat → ClassId) (qu nu n : Nat) (F : Nat → Int32) (q : Nat → Nat) (x y z : Int32) (hn : n ≤ 4) (hq : xq_nu F q (3 * n)) : xz_Met l D (tz K) yQu_hasRow cQu_hasRow 5 (some .boolean) { frames := 2, cells := 0, slots := 0, locals := 42 } [.ref qu, .int x, .int y, .int z] [(qu, .inr (2, [.ref nu, .int (nI n)])), (nu, .inl (K 0, 12, .inl F))] (fun v w => ∃ b : Bool, v = some (.int (bI b)) ∧ w = [(qu, .inr (2, [.ref nu, .int (nI n)])), (nu, .inl (K 0, 12, .inl F))] ∧ (b = true ↔ xq_aw (xq_aw (xq_aw (xq_vb q (3 * n)) (xq_ev x)) (xq_ev y)) (xq_ev z) = 0)) := by
  refine xz_enter (by decide +kernel) (Nat.le_of_ble_eq_true rfl) ?_
  intro Γ hC
  refine xz_lcs (lc' := [(0, .ref qu), (1, .int x), (2, .int y), (3, .int z)]) [0, 1, 2, 3] rfl ?_
  refine xz_aload_n hC 0 rfl rfl dQu_hasRow_0 ?_
  refine xz_callV hC (mQu_variableBits l D K qu nu n F q hn hq) kQu_variableBits tq5 tq337 tq339 tp6 0 2 rfl rfl rfl (host := "") hQu_variableBits (by decide) [0, 1] [] (by decide) rfl (wr := []) rfl (by decide) (by decide) (As := []) (rest := []) rfl rfl (Nat.le_of_ble_eq_true rfl) (by decide) dQu_hasRow_1 (fun v w hq => ?_)
  obtain ⟨rfl, rfl⟩ := hq
  refine xz_ste (st' := [.int (nI (xq_vb q (3 * n)))]) rfl ?_
  refine xz_wss (ws' := [(qu, .inr (2, [.ref nu, .int (nI n)])), (nu, .inl (K 0, 12, .inl F))]) [0, 1] (by decide) rfl rfl ?_
  refine xz_iload_n hC 1 rfl rfl dQu_hasRow_4 ?_
  refine xz_ste (st' := [.int x, .int (xq_aI (xq_vb q (3 * n)))]) (by rw [xq_aI_lt (xq_vb_lt (fun i hi => (hq i hi).2))]) ?_
  refine xz_callS hC (mQu_awaitedAfter l D K (xq_vb q (3 * n)) x) kQu_awaitedAfter tq5 tq342 tq343 (host := "") (b := 0) hQu_awaitedAfter (by decide) [] [0, 1] (by decide) rfl (wr := [(qu, .inr (2, [.ref nu, .int (nI n)])), (nu, .inl (K 0, 12, .inl F))]) rfl (by decide) (by decide) (As := [.int (xq_aI (xq_vb q (3 * n))), .int x]) (rest := []) rfl rfl (Nat.le_of_ble_eq_true rfl) (by decide) dQu_hasRow_5 (fun v w hq => ?_)
  obtain ⟨rfl, rfl⟩ := hq
  refine xz_ste (st' := [.int (xq_aI (xq_aw (xq_vb q (3 * n)) (xq_ev x)))]) rfl ?_
  refine xz_wss (ws' := [(qu, .inr (2, [.ref nu, .int (nI n)])), (nu, .inl (K 0, 12, .inl F))]) [0, 1] (by decide) rfl rfl ?_
  refine xz_istore hC (lc' := [(4, .int (xq_aI (xq_aw (xq_vb q (3 * n)) (xq_ev x)))), (0, .ref qu), (1, .int x), (2, .int y), (3, .int z)]) (by decide) rfl dQu_hasRow_8 ?_
  refine xz_iload hC 0 rfl dQu_hasRow_10 ?_
  refine xz_iload_n hC 3 rfl rfl dQu_hasRow_12 ?_
  refine xz_callS hC (mQu_awaitedAfter l D K (xq_aw (xq_vb q (3 * n)) (xq_ev x)) y) kQu_awaitedAfter tq5 tq342 tq343 (host := "") (b := 0) hQu_awaitedAfter (by decide) [] [0, 1] (by decide) rfl (wr := [(qu, .inr (2, [.ref nu, .int (nI n)])), (nu, .inl (K 0, 12, .inl F))]) rfl (by decide) (by decide) (As := [.int (xq_aI (xq_aw (xq_vb q (3 * n)) (xq_ev x))), .int y]) (rest := []) rfl rfl (Nat.le_of_ble_eq_true rfl) (by decide) dQu_hasRow_13 (fun v w hq => ?_)
  obtain ⟨rfl, rfl⟩ := hq
  refine xz_ste (st' := [.int (xq_aI (xq_aw (xq_aw (xq_vb q (3 * n)) (xq_ev x)) (xq_ev y)))]) rfl ?_
  refine xz_wss (ws' := [(qu, .inr (2, [.ref nu, .int (nI n)])), (nu, .inl (K 0, 12, .inl F))]) [0, 1] (by decide) rfl rfl ?_
  refine xz_istore hC (lc' := [(4, .int (xq_aI (xq_aw (xq_aw (xq_vb q (3 * n)) (xq_ev x)) (xq_ev y)))), (0, .ref qu), (1, .int x), (2, .int y), (3, .int z)]) (by decide) rfl dQu_hasRow_16 ?_
  refine xz_iload hC 0 rfl dQu_hasRow_18 ?_
  refine xz_iload_n hC 4 rfl rfl dQu_hasRow_20 ?_
  refine xz_callS hC (mQu_awaitedAfter l D K (xq_aw (xq_aw (xq_vb q (3 * n)) (xq_ev x)) (xq_ev y)) z) kQu_awaitedAfter tq5 tq342 tq343 (host := "") (b := 0) hQu_awaitedAfter (by decide) [] [0, 1] (by decide) rfl (wr := [(qu, .inr (2, [.ref nu, .int (nI n)])), (nu, .inl (K 0, 12, .inl F))]) rfl (by decide) (by decide) (As := [.int (xq_aI (xq_aw (xq_aw (xq_vb q (3 * n)) (xq_ev x)) (xq_ev y))), .int z]) (rest := []) rfl rfl (Nat.le_of_ble_eq_true rfl) (by decide) dQu_hasRow_21 (fun v w hq => ?_)
  obtain ⟨rfl, rfl⟩ := hq
  refine xz_ste (st' := [.int (xq_aI (xq_aw (xq_aw (xq_aw (xq_vb q (3 * n)) (xq_ev x)) (xq_ev y)) (xq_ev z)))]) rfl ?_
  refine xz_wss (ws' := [(qu, .inr (2, [.ref nu, .int (nI n)])), (nu, .inl (K 0, 12, .inl F))]) [0, 1] (by decide) rfl rfl ?_
  refine xz_istore hC (lc' := [(4, .int (xq_aI (xq_aw (xq_aw (xq_aw (xq_vb q (3 * n)) (xq_ev x)) (xq_ev y)) (xq_ev z)))), (0, .ref qu), (1, .int x), (2, .int y), (3, .int z)]) (by decide) rfl dQu_hasRow_24 ?_
  refine xz_iload hC 0 rfl dQu_hasRow_26 ?_
  refine xz_if_ne hC (tgt := 35) rfl (by decide) dQu_hasRow_28 (fun h1 => ?_) (fun h1 => ?_)
  · skip
    have hne := h1
    refine xz_iconst hC (v := bI false) (by decide +kernel) dQu_hasRow_35 ?_
    exact xz_zreturn hC (by decide) (by decide) (by first | exact ⟨_, rfl, rfl, xt_t (xq_aI_0.mp heq)⟩ | exact ⟨_, rfl, rfl, xt_f (fun z => hne (xq_aI_0.mpr z))⟩) dQu_hasRow_36
  · skip
    have heq := h1
    refine xz_iconst hC (v := bI true) (by decide +kernel) dQu_hasRow_31 ?_
    refine xz_goto hC (tgt := 36) (by decide) dQu_hasRow_32 ?_
    exact xz_zreturn hC (by decide) (by decide) (by first | exact ⟨_, rfl, rfl, xt_t (xq_aI_0.mp heq)⟩ | exact ⟨_, rfl, rfl, xt_f (fun z => hne (xq_aI_0.mpr z))⟩) dQu_hasRow_36
