set_option maxHeartbeats 1000000 in
set_option maxRecDepth 100000 in
theorem mOr_keyOf (l : Launch) (D : va_G) (K : Nat → ClassId) (o k p1 p2 p3 n c : Nat) (hp : p1 < 3 ∧ p2 < 3 ∧ p3 < 3) (hc : c < 32768) : xz_Met l D (tz K) yOr_keyOf cOr_keyOf 2 (some .int) { frames := 2, cells := 0, slots := 0, locals := 41 } [.ref o, .int (nI c)] [(o, .inr (1, [.int (nI p1), .int (nI p2), .int (nI p3), .ref k, .int (nI n)]))] (fun v w => v = some (.int (nI (xk_ky p1 p2 p3 c))) ∧ w = [(o, .inr (1, [.int (nI p1), .int (nI p2), .int (nI p3), .ref k, .int (nI n)]))]) := by
  refine xz_enter (by decide +kernel) (Nat.le_of_ble_eq_true rfl) ?_
  intro Γ hC
  refine xz_lcs (lc' := [(0, .ref o), (1, .int (nI c))]) [0, 1] rfl ?_
  refine xz_iload_n hC 1 rfl rfl dOr_keyOf_0 ?_
  refine xz_aload_n hC 0 rfl rfl dOr_keyOf_1 ?_
  refine xz_get hC 0 rfl rfl 0 (by decide) inOr tq60 rfl rfl dOr_keyOf_2 ?_
  refine xz_callSN hC (mSx_partOf l D K c p1 hc hp.1) kSx_partOf tq1 tq222 tq223 (b := 0) hSx_partOf (by decide) [] [0] (by decide) rfl (wr := [(o, .inr (1, [.int (nI p1), .int (nI p2), .int (nI p3), .ref k, .int (nI n)]))]) rfl (by decide) (by decide) (As := [.int (nI c), .int (nI p1)]) (rest := []) rfl rfl (Nat.le_of_ble_eq_true rfl) (by decide) dOr_keyOf_5 (fun v w hq => ?_)
  obtain ⟨rfl, rfl⟩ := hq
  refine xz_ste (st' := [.int (nI (xk_pt c p1))]) rfl ?_
  refine xz_wss (ws' := [(o, .inr (1, [.int (nI p1), .int (nI p2), .int (nI p3), .ref k, .int (nI n)]))]) [0] (by decide) rfl rfl ?_
  refine xz_iload_n hC 1 rfl rfl dOr_keyOf_8 ?_
  refine xz_aload_n hC 0 rfl rfl dOr_keyOf_9 ?_
  refine xz_get hC 0 rfl rfl 1 (by decide) inOr tq61 rfl rfl dOr_keyOf_10 ?_
  refine xz_callSN hC (mSx_partOf l D K c p2 hc hp.2.1) kSx_partOf tq1 tq222 tq223 (b := 0) hSx_partOf (by decide) [] [0] (by decide) rfl (wr := [(o, .inr (1, [.int (nI p1), .int (nI p2), .int (nI p3), .ref k, .int (nI n)]))]) rfl (by decide) (by decide) (As := [.int (nI c), .int (nI p2)]) (rest := [.int (nI (xk_pt c p1))]) rfl rfl (Nat.le_of_ble_eq_true rfl) (by decide) dOr_keyOf_13 (fun v w hq => ?_)
  obtain ⟨rfl, rfl⟩ := hq
  refine xz_ste (st' := [.int (nI (xk_pt c p2)), .int (nI (xk_pt c p1))]) rfl ?_
  refine xz_wss (ws' := [(o, .inr (1, [.int (nI p1), .int (nI p2), .int (nI p3), .ref k, .int (nI n)]))]) [0] (by decide) rfl rfl ?_
  refine xz_iload_n hC 1 rfl rfl dOr_keyOf_16 ?_
  refine xz_aload_n hC 0 rfl rfl dOr_keyOf_17 ?_
  refine xz_get hC 0 rfl rfl 2 (by decide) inOr tq62 rfl rfl dOr_keyOf_18 ?_
  refine xz_callSN hC (mSx_partOf l D K c p3 hc hp.2.2) kSx_partOf tq1 tq222 tq223 (b := 0) hSx_partOf (by decide) [] [0] (by decide) rfl (wr := [(o, .inr (1, [.int (nI p1), .int (nI p2), .int (nI p3), .ref k, .int (nI n)]))]) rfl (by decide) (by decide) (As := [.int (nI c), .int (nI p3)]) (rest := [.int (nI (xk_pt c p2)), .int (nI (xk_pt c p1))]) rfl rfl (Nat.le_of_ble_eq_true rfl) (by decide) dOr_keyOf_21 (fun v w hq => ?_)
  obtain ⟨rfl, rfl⟩ := hq
  refine xz_ste (st' := [.int (nI (xk_pt c p3)), .int (nI (xk_pt c p2)), .int (nI (xk_pt c p1))]) rfl ?_
  refine xz_wss (ws' := [(o, .inr (1, [.int (nI p1), .int (nI p2), .int (nI p3), .ref k, .int (nI n)]))]) [0] (by decide) rfl rfl ?_
  refine xz_callSN hC (mSx_codeOf l D K _ _ _ (xk_pt_lt _ _) (xk_pt_lt _ _) (xk_pt_lt _ _)) kSx_codeOf tq1 tq228 tq208 (b := 0) hSx_codeOf (by decide) [] [0] (by decide) rfl (wr := [(o, .inr (1, [.int (nI p1), .int (nI p2), .int (nI p3), .ref k, .int (nI n)]))]) rfl (by decide) (by decide) (As := [.int (nI (xk_pt c p1)), .int (nI (xk_pt c p2)), .int (nI (xk_pt c p3))]) (rest := []) rfl rfl (Nat.le_of_ble_eq_true rfl) (by decide) dOr_keyOf_24 (fun v w hq => ?_)
  obtain ⟨rfl, rfl⟩ := hq
  refine xz_ste (st' := [.int (nI (xk_ky p1 p2 p3 c))]) rfl ?_
  refine xz_wss (ws' := [(o, .inr (1, [.int (nI p1), .int (nI p2), .int (nI p3), .ref k, .int (nI n)]))]) [0] (by decide) rfl rfl ?_
  exact xz_ireturn hC (by decide) (by decide) (⟨rfl, rfl⟩) dOr_keyOf_27
set_option maxHeartbeats 1000000 in
set_option maxRecDepth 100000 in
theorem mOr_rankOf (l : Launch) (D : va_G) (K : Nat → ClassId) (o k p1 p2 p3 n : Nat) (f : Nat → Int32) (g : Nat → Nat) (x : Nat) (hn : n ≤ 60) (hg : xo_og f g n) (hx : x < 32768) : xz_Met l D (tz K) yOr_rankOf cOr_rankOf 3 (some .int) { frames := 0, cells := 0, slots := 0, locals := 0 } [.ref o, .int (nI x)] [(o, .inr (1, [.int (nI p1), .int (nI p2), .int (nI p3), .ref k, .int (nI n)])), (k, .inl (K 0, 60, .inl f))] (fun v w => ∃ r, v = some (.int (nI r)) ∧ w = [(o, .inr (1, [.int (nI p1), .int (nI p2), .int (nI p3), .ref k, .int (nI n)])), (k, .inl (K 0, 60, .inl f))] ∧ xo_rk g n x r) := by
  refine xz_enter (by decide +kernel) (Nat.le_of_ble_eq_true rfl) ?_
  intro Γ hC
  refine xz_lcs (lc' := [(0, .ref o), (1, .int (nI x))]) [0, 1] rfl ?_
  refine xz_iconst hC (v := nI 0) (by decide +kernel) dOr_rankOf_0 ?_
  refine xz_istore_n hC (lc' := [(2, .int (nI 0)), (0, .ref o), (1, .int (nI x))]) rfl (by decide) rfl dOr_rankOf_1 ?_
  have lp1 : ∀ (NNlp1 : Nat) (i : Nat), i ≤ n → (∀ j, j < i → g j < x) → n - i = NNlp1 → xz_X Γ 0 0 [(o, .inr (1, [.int (nI p1), .int (nI p2), .int (nI p3), .ref k, .int (nI n)])), (k, .inl (K 0, 60, .inl f))] 2 [(2, .int (nI i)), (0, .ref o), (1, .int (nI x))] [] := by
    intro NNlp1
    induction NNlp1 using Nat.strongRecOn with
    | _ NNlp1 ihlp1 =>
      intro i  hi hlt hNNlp1
      refine xz_iload_n hC 0 rfl rfl dOr_rankOf_2 ?_
      refine xz_aload_n hC 1 rfl rfl dOr_rankOf_3 ?_
      refine xz_get hC 0 rfl rfl 4 (by decide) inOr tq64 rfl rfl dOr_rankOf_4 ?_
      refine xz_icmp_ge hC (tgt := 26) (nI_toInt (by omega)) (nI_toInt (by omega)) (by decide) dOr_rankOf_7 (fun h2 => ?_) (fun h2 => ?_)
      · skip
        refine xz_iload_n hC 0 rfl rfl dOr_rankOf_26 ?_
        exact xz_ireturn hC (by decide) (by decide) (⟨i, rfl, rfl, by omega, hlt, fun hz => by omega⟩) dOr_rankOf_27
      · skip
        have hgi := (hg i (by omega)).2
        refine xz_aload_n hC 1 rfl rfl dOr_rankOf_10 ?_
        refine xz_get hC 0 rfl rfl 3 (by decide) inOr tq63 rfl rfl dOr_rankOf_11 ?_
        refine xz_iload_n hC 0 rfl rfl dOr_rankOf_14 ?_
        refine xz_iaload hC 1 0 (v := nI (g i)) rfl rfl (by omega) (by decide) (hg i (by omega)).1 dOr_rankOf_15 ?_
        refine xz_iload_n hC 2 rfl rfl dOr_rankOf_16 ?_
        refine xz_icmp_ge hC (tgt := 26) (nI_toInt (by omega)) (nI_toInt (by omega)) (by decide) dOr_rankOf_17 (fun h3 => ?_) (fun h3 => ?_)
        · skip
          refine xz_iload_n hC 0 rfl rfl dOr_rankOf_26 ?_
          exact xz_ireturn hC (by decide) (by decide) (⟨i, rfl, rfl, by omega, hlt, fun hz => by omega⟩) dOr_rankOf_27
        · skip
          refine xz_iinc hC 0 (lc' := [(2, .int (nI (i + 1))), (0, .ref o), (1, .int (nI x))]) rfl (xn_inc _) (by decide) rfl dOr_rankOf_20 ?_
          refine xz_goto hC (tgt := 2) (by decide) dOr_rankOf_23 ?_
          exact ihlp1 _ (by omega) (i + 1) (by omega) (lt_s hlt (by omega)) rfl
  exact lp1 _ 0 (by omega) (fun j hj => absurd hj (by omega)) rfl
set_option maxHeartbeats 1000000 in
set_option maxRecDepth 100000 in
theorem mOr_holds (l : Launch) (D : va_G) (K : Nat → ClassId) (o k p1 p2 p3 n : Nat) (f : Nat → Int32) (g : Nat → Nat) (c : Nat) (hp : p1 < 3 ∧ p2 < 3 ∧ p3 < 3) (hn : n ≤ 60) (hg : xo_og f g n) (hs : xo_srt g n) (hc : c < 32768) : xz_Met l D (tz K) yOr_holds cOr_holds 4 (some .boolean) { frames := 3, cells := 0, slots := 0, locals := 62 } [.ref o, .int (nI c)] [(o, .inr (1, [.int (nI p1), .int (nI p2), .int (nI p3), .ref k, .int (nI n)])), (k, .inl (K 0, 60, .inl f))] (fun v w => ∃ b : Bool, v = some (.int (bI b)) ∧ w = [(o, .inr (1, [.int (nI p1), .int (nI p2), .int (nI p3), .ref k, .int (nI n)])), (k, .inl (K 0, 60, .inl f))] ∧ (b = true ↔ xo_mem g n (xk_ky p1 p2 p3 c))) := by
  refine xz_enter (by decide +kernel) (Nat.le_of_ble_eq_true rfl) ?_
  intro Γ hC
  refine xz_lcs (lc' := [(0, .ref o), (1, .int (nI c))]) [0, 1] rfl ?_
  refine xz_aload_n hC 0 rfl rfl dOr_holds_0 ?_
  refine xz_iload_n hC 1 rfl rfl dOr_holds_1 ?_
  refine xz_callV hC (mOr_keyOf l D K o k p1 p2 p3 n c hp hc) kOr_keyOf tq4 tq218 tq220 tp2 0 1 rfl rfl rfl (host := "") hOr_keyOf (by decide) [0] [1] (by decide) rfl (wr := [(k, .inl (K 0, 60, .inl f))]) rfl (by decide) (by decide) (As := [.int (nI c)]) (rest := []) rfl rfl (Nat.le_of_ble_eq_true rfl) (by decide) dOr_holds_2 (fun v w hq => ?_)
  obtain ⟨rfl, rfl⟩ := hq
  refine xz_ste (st' := [.int (nI (xk_ky p1 p2 p3 c))]) rfl ?_
  refine xz_wss (ws' := [(o, .inr (1, [.int (nI p1), .int (nI p2), .int (nI p3), .ref k, .int (nI n)])), (k, .inl (K 0, 60, .inl f))]) [1, 0] (by decide) rfl rfl ?_
  have hk := xk_ky_lt p1 p2 p3 c
  refine xz_istore_n hC (lc' := [(2, .int (nI (xk_ky p1 p2 p3 c))), (0, .ref o), (1, .int (nI c))]) rfl (by decide) rfl dOr_holds_5 ?_
  refine xz_aload_n hC 1 rfl rfl dOr_holds_6 ?_
  refine xz_iload_n hC 0 rfl rfl dOr_holds_7 ?_
  refine xz_callV hC (mOr_rankOf l D K o k p1 p2 p3 n f g _ (by omega) hg hk) kOr_rankOf tq4 tq229 tq231 tp3 0 1 rfl rfl rfl (host := "") hOr_rankOf (by decide) [0, 1] [] (by decide) rfl (wr := []) rfl (by decide) (by decide) (As := [.int (nI (xk_ky p1 p2 p3 c))]) (rest := []) rfl rfl (Nat.le_of_ble_eq_true rfl) (by decide) dOr_holds_8 (fun v w hq => ?_)
  obtain ⟨r, rfl, rfl, hr⟩ := hq
  refine xz_ste (st' := [.int (nI r)]) rfl ?_
  refine xz_wss (ws' := [(o, .inr (1, [.int (nI p1), .int (nI p2), .int (nI p3), .ref k, .int (nI n)])), (k, .inl (K 0, 60, .inl f))]) [0, 1] (by decide) rfl rfl ?_
  obtain ⟨hr0, -, -⟩ := id hr
  refine xz_istore_n hC (lc' := [(3, .int (nI r)), (2, .int (nI (xk_ky p1 p2 p3 c))), (0, .ref o), (1, .int (nI c))]) rfl (by decide) rfl dOr_holds_11 ?_
  refine xz_iload_n hC 0 rfl rfl dOr_holds_12 ?_
  refine xz_aload_n hC 2 rfl rfl dOr_holds_13 ?_
  refine xz_get hC 0 rfl rfl 4 (by decide) inOr tq64 rfl rfl dOr_holds_14 ?_
  refine xz_icmp_ge hC (tgt := 34) (nI_toInt (by omega)) (nI_toInt (by omega)) (by decide) dOr_holds_17 (fun h1 => ?_) (fun h1 => ?_)
  · skip
    refine xz_iconst hC (v := bI false) (by decide +kernel) dOr_holds_34 ?_
    exact xz_zreturn hC (by decide) (by decide) (⟨_, rfl, rfl, by rw [xo_rk_mem hs hr]; first | exact xt_t (by omega) | exact xt_f (by omega)⟩) dOr_holds_35
  · skip
    have hgr := (hg r (by omega)).2
    refine xz_aload_n hC 2 rfl rfl dOr_holds_20 ?_
    refine xz_get hC 0 rfl rfl 3 (by decide) inOr tq63 rfl rfl dOr_holds_21 ?_
    refine xz_iload_n hC 0 rfl rfl dOr_holds_24 ?_
    refine xz_iaload hC 1 0 (v := nI (g r)) rfl rfl (by omega) (by decide) (hg r (by omega)).1 dOr_holds_25 ?_
    refine xz_iload_n hC 1 rfl rfl dOr_holds_26 ?_
    refine xz_icmp_ne hC (tgt := 34) (nI_toInt (by omega)) (nI_toInt (by omega)) (by decide) dOr_holds_27 (fun h2 => ?_) (fun h2 => ?_)
    · skip
      refine xz_iconst hC (v := bI false) (by decide +kernel) dOr_holds_34 ?_
      exact xz_zreturn hC (by decide) (by decide) (⟨_, rfl, rfl, by rw [xo_rk_mem hs hr]; first | exact xt_t (by omega) | exact xt_f (by omega)⟩) dOr_holds_35
    · skip
      refine xz_iconst hC (v := bI true) (by decide +kernel) dOr_holds_30 ?_
      refine xz_goto hC (tgt := 35) (by decide) dOr_holds_31 ?_
      exact xz_zreturn hC (by decide) (by decide) (⟨_, rfl, rfl, by rw [xo_rk_mem hs hr]; first | exact xt_t (by omega) | exact xt_f (by omega)⟩) dOr_holds_35
set_option maxHeartbeats 1000000 in
set_option maxRecDepth 100000 in
theorem mOr_codeAt (l : Launch) (D : va_G) (K : Nat → ClassId) (o k p1 p2 p3 n : Nat) (f : Nat → Int32) (g : Nat → Nat) (x : Int32) (hp : p1 < 3 ∧ p2 < 3 ∧ p3 < 3) (hpm : xk_pm p1 p2 p3) (hn : n ≤ 60) (hg : xo_og f g n) : xz_Met l D (tz K) yOr_codeAt cOr_codeAt 3 (some .int) { frames := 2, cells := 0, slots := 0, locals := 41 } [.ref o, .int x] [(o, .inr (1, [.int (nI p1), .int (nI p2), .int (nI p3), .ref k, .int (nI n)])), (k, .inl (K 0, 60, .inl f))] (fun v w => (0 ≤ x.toInt ∧ x.toInt < n ∧ ∃ c, v = some (.int (nI c)) ∧ w = [(o, .inr (1, [.int (nI p1), .int (nI p2), .int (nI p3), .ref k, .int (nI n)])), (k, .inl (K 0, 60, .inl f))] ∧ c < 32768 ∧ xk_ky p1 p2 p3 c = g (xi x)) ∨ (¬ (0 ≤ x.toInt ∧ x.toInt < n) ∧ v = some (.int (-1)) ∧ w = [(o, .inr (1, [.int (nI p1), .int (nI p2), .int (nI p3), .ref k, .int (nI n)])), (k, .inl (K 0, 60, .inl f))])) := by
  refine xz_enter (by decide +kernel) (Nat.le_of_ble_eq_true rfl) ?_
  intro Γ hC
  refine xz_lcs (lc' := [(0, .ref o), (1, .int x)]) [0, 1] rfl ?_
  refine xz_iload_n hC 1 rfl rfl dOr_codeAt_0 ?_
  refine xz_if_lt hC (tgt := 12) rfl (by decide) dOr_codeAt_1 (fun h1 => ?_) (fun h1 => ?_)
  · skip
    refine xz_iconst hC (v := (-1)) (by decide +kernel) dOr_codeAt_12 ?_
    exact xz_ireturn hC (by decide) (by decide) (Or.inr ⟨by omega, rfl, rfl⟩) dOr_codeAt_13
  · skip
    refine xz_iload_n hC 1 rfl rfl dOr_codeAt_4 ?_
    refine xz_aload_n hC 0 rfl rfl dOr_codeAt_5 ?_
    refine xz_get hC 0 rfl rfl 4 (by decide) inOr tq64 rfl rfl dOr_codeAt_6 ?_
    refine xz_icmp_lt hC (tgt := 14) rfl (nI_toInt (by omega)) (by decide) dOr_codeAt_9 (fun h2 => ?_) (fun h2 => ?_)
    · skip
      obtain ⟨j, hj, rfl⟩ := xn_of (x := x) (n := n) (by omega) (by omega)
      have hgj := (hg j hj).2
      have hxj : (nI j).toInt = (j : Int) := nI_toInt (by omega)
      refine xz_aload_n hC 0 rfl rfl dOr_codeAt_14 ?_
      refine xz_get hC 0 rfl rfl 3 (by decide) inOr tq63 rfl rfl dOr_codeAt_15 ?_
      refine xz_iload_n hC 1 rfl rfl dOr_codeAt_18 ?_
      refine xz_iaload hC 1 0 (v := nI (g j)) rfl rfl (by omega) (by decide) (hg j (by omega)).1 dOr_codeAt_19 ?_
      refine xz_istore_n hC (lc' := [(2, .int (nI (g j))), (0, .ref o), (1, .int (nI j))]) rfl (by decide) rfl dOr_codeAt_20 ?_
      refine xz_iload_n hC 0 rfl rfl dOr_codeAt_21 ?_
      refine xz_iconst hC (v := nI 0) (by decide +kernel) dOr_codeAt_22 ?_
      refine xz_callSN hC (mSx_partOf l D K (g j) 0 hgj (by omega)) kSx_partOf tq1 tq222 tq223 (b := 0) hSx_partOf (by decide) [] [0, 1] (by decide) rfl (wr := [(o, .inr (1, [.int (nI p1), .int (nI p2), .int (nI p3), .ref k, .int (nI n)])), (k, .inl (K 0, 60, .inl f))]) rfl (by decide) (by decide) (As := [.int (nI (g j)), .int (nI 0)]) (rest := []) rfl rfl (Nat.le_of_ble_eq_true rfl) (by decide) dOr_codeAt_23 (fun v w hq => ?_)
      obtain ⟨rfl, rfl⟩ := hq
      refine xz_ste (st' := [.int (nI (xk_pt (g j) 0))]) rfl ?_
      refine xz_wss (ws' := [(o, .inr (1, [.int (nI p1), .int (nI p2), .int (nI p3), .ref k, .int (nI n)])), (k, .inl (K 0, 60, .inl f))]) [0, 1] (by decide) rfl rfl ?_
      refine xz_aload_n hC 1 rfl rfl dOr_codeAt_26 ?_
      refine xz_get hC 0 rfl rfl 0 (by decide) inOr tq60 rfl rfl dOr_codeAt_27 ?_
      refine xz_callSN hC (mSx_shiftOf l D K p1 hp.1) kSx_shiftOf tq1 tq305 tq226 (b := 0) hSx_shiftOf (by decide) [] [0, 1] (by decide) rfl (wr := [(o, .inr (1, [.int (nI p1), .int (nI p2), .int (nI p3), .ref k, .int (nI n)])), (k, .inl (K 0, 60, .inl f))]) rfl (by decide) (by decide) (As := [.int (nI p1)]) (rest := [.int (nI (xk_pt (g j) 0))]) rfl rfl (Nat.le_of_ble_eq_true rfl) (by decide) dOr_codeAt_30 (fun v w hq => ?_)
      obtain ⟨rfl, rfl⟩ := hq
      refine xz_ste (st' := [.int (nI (5 * (2 - p1))), .int (nI (xk_pt (g j) 0))]) rfl ?_
      refine xz_wss (ws' := [(o, .inr (1, [.int (nI p1), .int (nI p2), .int (nI p3), .ref k, .int (nI n)])), (k, .inl (K 0, 60, .inl f))]) [0, 1] (by decide) rfl rfl ?_
      refine xz_ishl hC (z := nI (xk_pt (g j) 0 * 2 ^ (5 * (2 - p1)))) (xn_shl (by omega) (xk_sh (xk_pt_lt _ _))) dOr_codeAt_33 ?_
      refine xz_iload_n hC 0 rfl rfl dOr_codeAt_34 ?_
      refine xz_iconst hC (v := nI 1) (by decide +kernel) dOr_codeAt_35 ?_
      refine xz_callSN hC (mSx_partOf l D K (g j) 1 hgj (by omega)) kSx_partOf tq1 tq222 tq223 (b := 0) hSx_partOf (by decide) [] [0, 1] (by decide) rfl (wr := [(o, .inr (1, [.int (nI p1), .int (nI p2), .int (nI p3), .ref k, .int (nI n)])), (k, .inl (K 0, 60, .inl f))]) rfl (by decide) (by decide) (As := [.int (nI (g j)), .int (nI 1)]) (rest := [.int (nI (xk_pt (g j) 0 * 2 ^ (5 * (2 - p1))))]) rfl rfl (Nat.le_of_ble_eq_true rfl) (by decide) dOr_codeAt_36 (fun v w hq => ?_)
      obtain ⟨rfl, rfl⟩ := hq
      refine xz_ste (st' := [.int (nI (xk_pt (g j) 1)), .int (nI (xk_pt (g j) 0 * 2 ^ (5 * (2 - p1))))]) rfl ?_
      refine xz_wss (ws' := [(o, .inr (1, [.int (nI p1), .int (nI p2), .int (nI p3), .ref k, .int (nI n)])), (k, .inl (K 0, 60, .inl f))]) [0, 1] (by decide) rfl rfl ?_
      refine xz_aload_n hC 1 rfl rfl dOr_codeAt_39 ?_
      refine xz_get hC 0 rfl rfl 1 (by decide) inOr tq61 rfl rfl dOr_codeAt_40 ?_
      refine xz_callSN hC (mSx_shiftOf l D K p2 hp.2.1) kSx_shiftOf tq1 tq305 tq226 (b := 0) hSx_shiftOf (by decide) [] [0, 1] (by decide) rfl (wr := [(o, .inr (1, [.int (nI p1), .int (nI p2), .int (nI p3), .ref k, .int (nI n)])), (k, .inl (K 0, 60, .inl f))]) rfl (by decide) (by decide) (As := [.int (nI p2)]) (rest := [.int (nI (xk_pt (g j) 1)), .int (nI (xk_pt (g j) 0 * 2 ^ (5 * (2 - p1))))]) rfl rfl (Nat.le_of_ble_eq_true rfl) (by decide) dOr_codeAt_43 (fun v w hq => ?_)
      obtain ⟨rfl, rfl⟩ := hq
      refine xz_ste (st' := [.int (nI (5 * (2 - p2))), .int (nI (xk_pt (g j) 1)), .int (nI (xk_pt (g j) 0 * 2 ^ (5 * (2 - p1))))]) rfl ?_
      refine xz_wss (ws' := [(o, .inr (1, [.int (nI p1), .int (nI p2), .int (nI p3), .ref k, .int (nI n)])), (k, .inl (K 0, 60, .inl f))]) [0, 1] (by decide) rfl rfl ?_
      refine xz_ishl hC (z := nI (xk_pt (g j) 1 * 2 ^ (5 * (2 - p2)))) (xn_shl (by omega) (xk_sh (xk_pt_lt _ _))) dOr_codeAt_46 ?_
      refine xz_ior hC (z := nI (xk_pt (g j) 0 * 2 ^ (5 * (2 - p1)) ||| xk_pt (g j) 1 * 2 ^ (5 * (2 - p2)))) (xn_or _ _) dOr_codeAt_47 ?_
      refine xz_iload_n hC 0 rfl rfl dOr_codeAt_48 ?_
      refine xz_iconst hC (v := nI 2) (by decide +kernel) dOr_codeAt_49 ?_
      refine xz_callSN hC (mSx_partOf l D K (g j) 2 hgj (by omega)) kSx_partOf tq1 tq222 tq223 (b := 0) hSx_partOf (by decide) [] [0, 1] (by decide) rfl (wr := [(o, .inr (1, [.int (nI p1), .int (nI p2), .int (nI p3), .ref k, .int (nI n)])), (k, .inl (K 0, 60, .inl f))]) rfl (by decide) (by decide) (As := [.int (nI (g j)), .int (nI 2)]) (rest := [.int (nI (xk_pt (g j) 0 * 2 ^ (5 * (2 - p1)) ||| xk_pt (g j) 1 * 2 ^ (5 * (2 - p2))))]) rfl rfl (Nat.le_of_ble_eq_true rfl) (by decide) dOr_codeAt_50 (fun v w hq => ?_)
      obtain ⟨rfl, rfl⟩ := hq
      refine xz_ste (st' := [.int (nI (xk_pt (g j) 2)), .int (nI (xk_pt (g j) 0 * 2 ^ (5 * (2 - p1)) ||| xk_pt (g j) 1 * 2 ^ (5 * (2 - p2))))]) rfl ?_
      refine xz_wss (ws' := [(o, .inr (1, [.int (nI p1), .int (nI p2), .int (nI p3), .ref k, .int (nI n)])), (k, .inl (K 0, 60, .inl f))]) [0, 1] (by decide) rfl rfl ?_
      refine xz_aload_n hC 1 rfl rfl dOr_codeAt_53 ?_
      refine xz_get hC 0 rfl rfl 2 (by decide) inOr tq62 rfl rfl dOr_codeAt_54 ?_
      refine xz_callSN hC (mSx_shiftOf l D K p3 hp.2.2) kSx_shiftOf tq1 tq305 tq226 (b := 0) hSx_shiftOf (by decide) [] [0, 1] (by decide) rfl (wr := [(o, .inr (1, [.int (nI p1), .int (nI p2), .int (nI p3), .ref k, .int (nI n)])), (k, .inl (K 0, 60, .inl f))]) rfl (by decide) (by decide) (As := [.int (nI p3)]) (rest := [.int (nI (xk_pt (g j) 2)), .int (nI (xk_pt (g j) 0 * 2 ^ (5 * (2 - p1)) ||| xk_pt (g j) 1 * 2 ^ (5 * (2 - p2))))]) rfl rfl (Nat.le_of_ble_eq_true rfl) (by decide) dOr_codeAt_57 (fun v w hq => ?_)
      obtain ⟨rfl, rfl⟩ := hq
      refine xz_ste (st' := [.int (nI (5 * (2 - p3))), .int (nI (xk_pt (g j) 2)), .int (nI (xk_pt (g j) 0 * 2 ^ (5 * (2 - p1)) ||| xk_pt (g j) 1 * 2 ^ (5 * (2 - p2))))]) rfl ?_
      refine xz_wss (ws' := [(o, .inr (1, [.int (nI p1), .int (nI p2), .int (nI p3), .ref k, .int (nI n)])), (k, .inl (K 0, 60, .inl f))]) [0, 1] (by decide) rfl rfl ?_
      refine xz_ishl hC (z := nI (xk_pt (g j) 2 * 2 ^ (5 * (2 - p3)))) (xn_shl (by omega) (xk_sh (xk_pt_lt _ _))) dOr_codeAt_60 ?_
      refine xz_ior hC (z := nI (xk_un p1 p2 p3 (g j))) ((xn_or _ _).trans (congrArg nI (xk_orun hpm (xk_pt_lt _ _) (xk_pt_lt _ _) (xk_pt_lt _ _)))) dOr_codeAt_61 ?_
      exact xz_ireturn hC (by decide) (by decide) (Or.inl ⟨by omega, by omega, _, rfl, rfl, (xk_un_ky hpm hgj).1, by rw [(xk_un_ky hpm hgj).2, xi_nI (by omega)]⟩) dOr_codeAt_62
    · skip
      refine xz_iconst hC (v := (-1)) (by decide +kernel) dOr_codeAt_12 ?_
      exact xz_ireturn hC (by decide) (by decide) (Or.inr ⟨by omega, rfl, rfl⟩) dOr_codeAt_13
set_option maxHeartbeats 1000000 in
set_option maxRecDepth 100000 in
theorem mOr_put (l : Launch) (D : va_G) (K : Nat → ClassId) (o k p1 p2 p3 n : Nat) (f : Nat → Int32) (g : Nat → Nat) (c : Nat) (hp : p1 < 3 ∧ p2 < 3 ∧ p3 < 3) (hn : n < 60) (hg : xo_og f g n) (hs : xo_srt g n) (hc : c < 32768) (hm : ¬ xo_mem g n (xk_ky p1 p2 p3 c)) : xz_Met l D (tz K) yOr_put cOr_put 4 none { frames := 3, cells := 0, slots := 0, locals := 62 } [.ref o, .int (nI c)] [(o, .inr (1, [.int (nI p1), .int (nI p2), .int (nI p3), .ref k, .int (nI n)])), (k, .inl (K 0, 60, .inl f))] (fun v w => ∃ (f' : Nat → Int32) (g' : Nat → Nat), v = none ∧ w = [(o, .inr (1, [.int (nI p1), .int (nI p2), .int (nI p3), .ref k, .int (nI (n + 1))])), (k, .inl (K 0, 60, .inl f'))] ∧ xo_og f' g' (n + 1) ∧ xo_srt g' (n + 1) ∧ ∀ y, xo_mem g' (n + 1) y ↔ (y = xk_ky p1 p2 p3 c ∨ xo_mem g n y)) := by
  refine xz_enter (by decide +kernel) (Nat.le_of_ble_eq_true rfl) ?_
  intro Γ hC
  refine xz_lcs (lc' := [(0, .ref o), (1, .int (nI c))]) [0, 1] rfl ?_
  refine xz_aload_n hC 0 rfl rfl dOr_put_0 ?_
  refine xz_get hC 0 rfl rfl 4 (by decide) inOr tq64 rfl rfl dOr_put_1 ?_
  refine xz_bipush hC (v := nI 60) (by decide +kernel) dOr_put_4 ?_
  refine xz_icmp_lt hC (tgt := 10) (nI_toInt (by omega)) (nI_toInt (by omega)) (by decide) dOr_put_6 (fun h1 => ?_) (fun h1 => ?_)
  · skip
    refine xz_aload_n hC 0 rfl rfl dOr_put_10 ?_
    refine xz_iload_n hC 1 rfl rfl dOr_put_11 ?_
    refine xz_callV hC (mOr_keyOf l D K o k p1 p2 p3 n c hp hc) kOr_keyOf tq4 tq218 tq220 tp2 0 1 rfl rfl rfl (host := "") hOr_keyOf (by decide) [0] [1] (by decide) rfl (wr := [(k, .inl (K 0, 60, .inl f))]) rfl (by decide) (by decide) (As := [.int (nI c)]) (rest := []) rfl rfl (Nat.le_of_ble_eq_true rfl) (by decide) dOr_put_12 (fun v w hq => ?_)
    obtain ⟨rfl, rfl⟩ := hq
    refine xz_ste (st' := [.int (nI (xk_ky p1 p2 p3 c))]) rfl ?_
    refine xz_wss (ws' := [(o, .inr (1, [.int (nI p1), .int (nI p2), .int (nI p3), .ref k, .int (nI n)])), (k, .inl (K 0, 60, .inl f))]) [1, 0] (by decide) rfl rfl ?_
    have hk := xk_ky_lt p1 p2 p3 c
    refine xz_istore_n hC (lc' := [(2, .int (nI (xk_ky p1 p2 p3 c))), (0, .ref o), (1, .int (nI c))]) rfl (by decide) rfl dOr_put_15 ?_
    refine xz_aload_n hC 1 rfl rfl dOr_put_16 ?_
    refine xz_iload_n hC 0 rfl rfl dOr_put_17 ?_
    refine xz_callV hC (mOr_rankOf l D K o k p1 p2 p3 n f g _ (by omega) hg hk) kOr_rankOf tq4 tq229 tq231 tp3 0 1 rfl rfl rfl (host := "") hOr_rankOf (by decide) [0, 1] [] (by decide) rfl (wr := []) rfl (by decide) (by decide) (As := [.int (nI (xk_ky p1 p2 p3 c))]) (rest := []) rfl rfl (Nat.le_of_ble_eq_true rfl) (by decide) dOr_put_18 (fun v w hq => ?_)
    obtain ⟨r, rfl, rfl, hr⟩ := hq
    refine xz_ste (st' := [.int (nI r)]) rfl ?_
    refine xz_wss (ws' := [(o, .inr (1, [.int (nI p1), .int (nI p2), .int (nI p3), .ref k, .int (nI n)])), (k, .inl (K 0, 60, .inl f))]) [0, 1] (by decide) rfl rfl ?_
    obtain ⟨hr0, -, -⟩ := id hr
    refine xz_istore_n hC (lc' := [(3, .int (nI r)), (2, .int (nI (xk_ky p1 p2 p3 c))), (0, .ref o), (1, .int (nI c))]) rfl (by decide) rfl dOr_put_21 ?_
    refine xz_aload_n hC 2 rfl rfl dOr_put_22 ?_
    refine xz_get hC 0 rfl rfl 3 (by decide) inOr tq63 rfl rfl dOr_put_23 ?_
    refine xz_iload_n hC 0 rfl rfl dOr_put_26 ?_
    refine xz_aload_n hC 2 rfl rfl dOr_put_27 ?_
    refine xz_get hC 0 rfl rfl 3 (by decide) inOr tq63 rfl rfl dOr_put_28 ?_
    refine xz_iload_n hC 0 rfl rfl dOr_put_31 ?_
    refine xz_iconst hC (v := nI 1) (by decide +kernel) dOr_put_32 ?_
    refine xz_iadd hC (z := nI (r + 1)) (nI_add _ _) dOr_put_33 ?_
    refine xz_aload_n hC 2 rfl rfl dOr_put_34 ?_
    refine xz_get hC 0 rfl rfl 4 (by decide) inOr tq64 rfl rfl dOr_put_35 ?_
    refine xz_iload_n hC 0 rfl rfl dOr_put_38 ?_
    refine xz_isub hC (z := nI (n - r)) (pk_sub (by omega)) dOr_put_39 ?_
    refine xz_copy hC tq253 tq255 tq254 tq8 1 1 0 (ws' := [(o, .inr (1, [.int (nI p1), .int (nI p2), .int (nI p3), .ref k, .int (nI n)])), (k, .inl (K 0, 60, .inl (va_cpy f f r (r + 1) (n - r))))]) rfl rfl rfl (by omega) (by omega) (by decide) (by decide) (by decide) (Nat.le_of_ble_eq_true rfl) rfl dOr_put_40 ?_
    refine xz_aload_n hC 2 rfl rfl dOr_put_43 ?_
    refine xz_get hC 0 rfl rfl 3 (by decide) inOr tq63 rfl rfl dOr_put_44 ?_
    refine xz_iload_n hC 0 rfl rfl dOr_put_47 ?_
    refine xz_iload_n hC 1 rfl rfl dOr_put_48 ?_
    refine xz_iastore hC 1 0 (ws' := [(o, .inr (1, [.int (nI p1), .int (nI p2), .int (nI p3), .ref k, .int (nI n)])), (k, .inl (K 0, 60, .inl (upd (va_cpy f f r (r + 1) (n - r)) r (nI (xk_ky p1 p2 p3 c)))))]) rfl rfl (by omega) (by decide) rfl dOr_put_49 ?_
    refine xz_aload_n hC 2 rfl rfl dOr_put_50 ?_
    refine xz_dup hC rfl dOr_put_51 ?_
    refine xz_get hC 0 rfl rfl 4 (by decide) inOr tq64 rfl rfl dOr_put_52 ?_
    refine xz_iconst hC (v := nI 1) (by decide +kernel) dOr_put_55 ?_
    refine xz_iadd hC (z := nI (n + 1)) (nI_add _ _) dOr_put_56 ?_
    refine xz_put hC 0 rfl rfl 4 (by decide) inOr tq64 rfl tyOr tyOr_ok nmOr rfl rfl rfl (Nat.le_of_ble_eq_true rfl) (ws' := [(o, .inr (1, [.int (nI p1), .int (nI p2), .int (nI p3), .ref k, .int (nI (n + 1))])), (k, .inl (K 0, 60, .inl (upd (va_cpy f f r (r + 1) (n - r)) r (nI (xk_ky p1 p2 p3 c)))))]) rfl dOr_put_57 ?_
    exact xz_return hC (by decide) (by decide) (⟨_, xo_ins g r (xk_ky p1 p2 p3 c), rfl, rfl, xo_put_og hg hk hr0, xo_ins_srt hs hr hm, xo_ins_mem hr0⟩) dOr_put_60
  · skip
    exfalso; omega
set_option maxHeartbeats 1000000 in
set_option maxRecDepth 100000 in
theorem mOr_take (l : Launch) (D : va_G) (K : Nat → ClassId) (o k p1 p2 p3 n : Nat) (f : Nat → Int32) (g : Nat → Nat) (c : Nat) (hp : p1 < 3 ∧ p2 < 3 ∧ p3 < 3) (hn : n ≤ 60) (hg : xo_og f g n) (hs : xo_srt g n) (hc : c < 32768) (hm : xo_mem g n (xk_ky p1 p2 p3 c)) : xz_Met l D (tz K) yOr_take cOr_take 4 none { frames := 3, cells := 0, slots := 0, locals := 62 } [.ref o, .int (nI c)] [(o, .inr (1, [.int (nI p1), .int (nI p2), .int (nI p3), .ref k, .int (nI n)])), (k, .inl (K 0, 60, .inl f))] (fun v w => ∃ (f' : Nat → Int32) (g' : Nat → Nat), v = none ∧ w = [(o, .inr (1, [.int (nI p1), .int (nI p2), .int (nI p3), .ref k, .int (nI (n - 1))])), (k, .inl (K 0, 60, .inl f'))] ∧ xo_og f' g' (n - 1) ∧ xo_srt g' (n - 1) ∧ ∀ y, xo_mem g' (n - 1) y ↔ (xo_mem g n y ∧ y ≠ xk_ky p1 p2 p3 c)) := by
  refine xz_enter (by decide +kernel) (Nat.le_of_ble_eq_true rfl) ?_
  intro Γ hC
  refine xz_lcs (lc' := [(0, .ref o), (1, .int (nI c))]) [0, 1] rfl ?_
  refine xz_aload_n hC 0 rfl rfl dOr_take_0 ?_
  refine xz_iload_n hC 1 rfl rfl dOr_take_1 ?_
  refine xz_callV hC (mOr_keyOf l D K o k p1 p2 p3 n c hp hc) kOr_keyOf tq4 tq218 tq220 tp2 0 1 rfl rfl rfl (host := "") hOr_keyOf (by decide) [0] [1] (by decide) rfl (wr := [(k, .inl (K 0, 60, .inl f))]) rfl (by decide) (by decide) (As := [.int (nI c)]) (rest := []) rfl rfl (Nat.le_of_ble_eq_true rfl) (by decide) dOr_take_2 (fun v w hq => ?_)
  obtain ⟨rfl, rfl⟩ := hq
  refine xz_ste (st' := [.int (nI (xk_ky p1 p2 p3 c))]) rfl ?_
  refine xz_wss (ws' := [(o, .inr (1, [.int (nI p1), .int (nI p2), .int (nI p3), .ref k, .int (nI n)])), (k, .inl (K 0, 60, .inl f))]) [1, 0] (by decide) rfl rfl ?_
  have hk := xk_ky_lt p1 p2 p3 c
  refine xz_istore_n hC (lc' := [(2, .int (nI (xk_ky p1 p2 p3 c))), (0, .ref o), (1, .int (nI c))]) rfl (by decide) rfl dOr_take_5 ?_
  refine xz_aload_n hC 1 rfl rfl dOr_take_6 ?_
  refine xz_iload_n hC 0 rfl rfl dOr_take_7 ?_
  refine xz_callV hC (mOr_rankOf l D K o k p1 p2 p3 n f g _ (by omega) hg hk) kOr_rankOf tq4 tq229 tq231 tp3 0 1 rfl rfl rfl (host := "") hOr_rankOf (by decide) [0, 1] [] (by decide) rfl (wr := []) rfl (by decide) (by decide) (As := [.int (nI (xk_ky p1 p2 p3 c))]) (rest := []) rfl rfl (Nat.le_of_ble_eq_true rfl) (by decide) dOr_take_8 (fun v w hq => ?_)
  obtain ⟨r, rfl, rfl, hr⟩ := hq
  refine xz_ste (st' := [.int (nI r)]) rfl ?_
  refine xz_wss (ws' := [(o, .inr (1, [.int (nI p1), .int (nI p2), .int (nI p3), .ref k, .int (nI n)])), (k, .inl (K 0, 60, .inl f))]) [0, 1] (by decide) rfl rfl ?_
  obtain ⟨hr0, -, -⟩ := id hr
  obtain ⟨hr1, hr2⟩ := (xo_rk_mem hs hr).mp hm
  have hgr := (hg r hr1).2
  refine xz_istore_n hC (lc' := [(3, .int (nI r)), (2, .int (nI (xk_ky p1 p2 p3 c))), (0, .ref o), (1, .int (nI c))]) rfl (by decide) rfl dOr_take_11 ?_
  refine xz_iload_n hC 0 rfl rfl dOr_take_12 ?_
  refine xz_aload_n hC 2 rfl rfl dOr_take_13 ?_
  refine xz_get hC 0 rfl rfl 4 (by decide) inOr tq64 rfl rfl dOr_take_14 ?_
  refine xz_icmp_ge hC (tgt := 30) (nI_toInt (by omega)) (nI_toInt (by omega)) (by decide) dOr_take_17 (fun h1 => ?_) (fun h1 => ?_)
  · skip
    exfalso; omega
  · skip
    refine xz_aload_n hC 2 rfl rfl dOr_take_20 ?_
    refine xz_get hC 0 rfl rfl 3 (by decide) inOr tq63 rfl rfl dOr_take_21 ?_
    refine xz_iload_n hC 0 rfl rfl dOr_take_24 ?_
    refine xz_iaload hC 1 0 (v := nI (g r)) rfl rfl (by omega) (by decide) (hg r (by omega)).1 dOr_take_25 ?_
    refine xz_iload_n hC 1 rfl rfl dOr_take_26 ?_
    refine xz_icmp_eq hC (tgt := 31) (nI_toInt (by omega)) (nI_toInt (by omega)) (by decide) dOr_take_27 (fun h2 => ?_) (fun h2 => ?_)
    · skip
      refine xz_aload_n hC 2 rfl rfl dOr_take_31 ?_
      refine xz_get hC 0 rfl rfl 3 (by decide) inOr tq63 rfl rfl dOr_take_32 ?_
      refine xz_iload_n hC 0 rfl rfl dOr_take_35 ?_
      refine xz_iconst hC (v := nI 1) (by decide +kernel) dOr_take_36 ?_
      refine xz_iadd hC (z := nI (r + 1)) (nI_add _ _) dOr_take_37 ?_
      refine xz_aload_n hC 2 rfl rfl dOr_take_38 ?_
      refine xz_get hC 0 rfl rfl 3 (by decide) inOr tq63 rfl rfl dOr_take_39 ?_
      refine xz_iload_n hC 0 rfl rfl dOr_take_42 ?_
      refine xz_aload_n hC 2 rfl rfl dOr_take_43 ?_
      refine xz_get hC 0 rfl rfl 4 (by decide) inOr tq64 rfl rfl dOr_take_44 ?_
      refine xz_iload_n hC 0 rfl rfl dOr_take_47 ?_
      refine xz_isub hC (z := nI (n - r)) (pk_sub (by omega)) dOr_take_48 ?_
      refine xz_iconst hC (v := nI 1) (by decide +kernel) dOr_take_49 ?_
      refine xz_isub hC (z := nI ((n - r) - 1)) (pk_sub (by omega)) dOr_take_50 ?_
      refine xz_copy hC tq253 tq255 tq254 tq8 1 1 0 (ws' := [(o, .inr (1, [.int (nI p1), .int (nI p2), .int (nI p3), .ref k, .int (nI n)])), (k, .inl (K 0, 60, .inl (va_cpy f f (r + 1) r ((n - r) - 1))))]) rfl rfl rfl (by omega) (by omega) (by decide) (by decide) (by decide) (Nat.le_of_ble_eq_true rfl) rfl dOr_take_51 ?_
      refine xz_aload_n hC 2 rfl rfl dOr_take_54 ?_
      refine xz_dup hC rfl dOr_take_55 ?_
      refine xz_get hC 0 rfl rfl 4 (by decide) inOr tq64 rfl rfl dOr_take_56 ?_
      refine xz_iconst hC (v := nI 1) (by decide +kernel) dOr_take_59 ?_
      refine xz_isub hC (z := nI (n - 1)) (pk_sub (by omega)) dOr_take_60 ?_
      refine xz_put hC 0 rfl rfl 4 (by decide) inOr tq64 rfl tyOr tyOr_ok nmOr rfl rfl rfl (Nat.le_of_ble_eq_true rfl) (ws' := [(o, .inr (1, [.int (nI p1), .int (nI p2), .int (nI p3), .ref k, .int (nI (n - 1))])), (k, .inl (K 0, 60, .inl (va_cpy f f (r + 1) r ((n - r) - 1))))]) rfl dOr_take_61 ?_
      exact xz_return hC (by decide) (by decide) (⟨_, xo_del g r, rfl, rfl, xo_take_og hg hr1, xo_del_srt hs hr1, fun y => by rw [xo_del_mem hs hr1, hr2]⟩) dOr_take_64
    · skip
      exfalso; omega
set_option maxHeartbeats 1000000 in
set_option maxRecDepth 100000 in
theorem mOr_copyFrom (l : Launch) (D : va_G) (K : Nat → ClassId) (o k p1 p2 p3 n : Nat) (f : Nat → Int32) (g : Nat → Nat) (o2 k2 q1 q2 q3 m : Nat) (e : Nat → Int32) (h : Nat → Nat) (hm : m ≤ 60) (hh : xo_og e h m) : xz_Met l D (tz K) yOr_copyFrom cOr_copyFrom 2 none { frames := 1, cells := 0, slots := 0, locals := 60 } [.ref o, .ref o2] [(o, .inr (1, [.int (nI p1), .int (nI p2), .int (nI p3), .ref k, .int (nI n)])), (k, .inl (K 0, 60, .inl f)), (o2, .inr (1, [.int (nI q1), .int (nI q2), .int (nI q3), .ref k2, .int (nI m)])), (k2, .inl (K 0, 60, .inl e))] (fun v w => ∃ (f' : Nat → Int32), v = none ∧ w = [(o, .inr (1, [.int (nI p1), .int (nI p2), .int (nI p3), .ref k, .int (nI m)])), (k, .inl (K 0, 60, .inl f')), (o2, .inr (1, [.int (nI q1), .int (nI q2), .int (nI q3), .ref k2, .int (nI m)])), (k2, .inl (K 0, 60, .inl e))] ∧ xo_og f' h m) := by
  refine xz_enter (by decide +kernel) (Nat.le_of_ble_eq_true rfl) ?_
  intro Γ hC
  refine xz_lcs (lc' := [(0, .ref o), (1, .ref o2)]) [0, 1] rfl ?_
  refine xz_aload_n hC 1 rfl rfl dOr_copyFrom_0 ?_
  refine xz_get hC 2 rfl rfl 3 (by decide) inOr tq63 rfl rfl dOr_copyFrom_1 ?_
  refine xz_iconst hC (v := nI 0) (by decide +kernel) dOr_copyFrom_4 ?_
  refine xz_aload_n hC 0 rfl rfl dOr_copyFrom_5 ?_
  refine xz_get hC 0 rfl rfl 3 (by decide) inOr tq63 rfl rfl dOr_copyFrom_6 ?_
  refine xz_iconst hC (v := nI 0) (by decide +kernel) dOr_copyFrom_9 ?_
  refine xz_aload_n hC 1 rfl rfl dOr_copyFrom_10 ?_
  refine xz_get hC 2 rfl rfl 4 (by decide) inOr tq64 rfl rfl dOr_copyFrom_11 ?_
  refine xz_copy hC tq253 tq255 tq254 tq8 3 1 0 (ws' := [(o, .inr (1, [.int (nI p1), .int (nI p2), .int (nI p3), .ref k, .int (nI n)])), (k, .inl (K 0, 60, .inl (va_cpy e f 0 0 m))), (o2, .inr (1, [.int (nI q1), .int (nI q2), .int (nI q3), .ref k2, .int (nI m)])), (k2, .inl (K 0, 60, .inl e))]) rfl rfl rfl (by omega) (by omega) (by decide) (by decide) (by decide) (Nat.le_of_ble_eq_true rfl) rfl dOr_copyFrom_14 ?_
  refine xz_aload_n hC 0 rfl rfl dOr_copyFrom_17 ?_
  refine xz_aload_n hC 1 rfl rfl dOr_copyFrom_18 ?_
  refine xz_get hC 2 rfl rfl 4 (by decide) inOr tq64 rfl rfl dOr_copyFrom_19 ?_
  refine xz_put hC 0 rfl rfl 4 (by decide) inOr tq64 rfl tyOr tyOr_ok nmOr rfl rfl rfl (Nat.le_of_ble_eq_true rfl) (ws' := [(o, .inr (1, [.int (nI p1), .int (nI p2), .int (nI p3), .ref k, .int (nI m)])), (k, .inl (K 0, 60, .inl (va_cpy e f 0 0 m))), (o2, .inr (1, [.int (nI q1), .int (nI q2), .int (nI q3), .ref k2, .int (nI m)])), (k2, .inl (K 0, 60, .inl e))]) rfl dOr_copyFrom_22 ?_
  exact xz_return hC (by decide) (by decide) (⟨_, rfl, rfl, xo_copy_og hh⟩) dOr_copyFrom_25
