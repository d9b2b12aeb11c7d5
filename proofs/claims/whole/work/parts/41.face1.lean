set_option maxHeartbeats 1000000 in
set_option maxRecDepth 100000 in
theorem mSx_areTerms (l : Launch) (D : va_G) (K : Nat → ClassId) (xo di ts qu se pw ln dn ba bb : Nat) (x y z : Int32) (hdn : dn ≤ 24) : xz_Met l D (tz K) ySx_areTerms cSx_areTerms 4 (some .boolean) { frames := 1, cells := 0, slots := 0, locals := 21 } [.ref xo, .int x, .int y, .int z] [(xo, .inr (5, [.ref di, .ref ts, .ref qu, .ref se])), (di, .inr (0, [.ref pw, .ref ln, .int (nI dn), .long (lN ba), .int (nI bb)]))] (fun v w => ∃ b : Bool, v = some (.int (bI b)) ∧ w = [(xo, .inr (5, [.ref di, .ref ts, .ref qu, .ref se])), (di, .inr (0, [.ref pw, .ref ln, .int (nI dn), .long (lN ba), .int (nI bb)]))] ∧ (b = true ↔ ((0 ≤ x.toInt ∧ x.toInt < dn) ∧ (0 ≤ y.toInt ∧ y.toInt < dn) ∧ (0 ≤ z.toInt ∧ z.toInt < dn)))) := by
  refine xz_enter (by decide +kernel) (Nat.le_of_ble_eq_true rfl) ?_
  intro Γ hC
  refine xz_lcs (lc' := [(0, .ref xo), (1, .int x), (2, .int y), (3, .int z)]) [0, 1, 2, 3] rfl ?_
  refine xz_aload_n hC 0 rfl rfl dSx_areTerms_0 ?_
  refine xz_get hC 0 rfl rfl 0 (by decide) inSx tq149 rfl rfl dSx_areTerms_1 ?_
  refine xz_iload_n hC 1 rfl rfl dSx_areTerms_4 ?_
  refine xz_callV hC (mDi_has l D K di pw ln dn ba bb x hdn) kDi_has tq2 tq206 tq195 tq196 1 0 rfl rfl rfl (host := "") hDi_has (by decide) [1] [0] (by decide) rfl (wr := [(xo, .inr (5, [.ref di, .ref ts, .ref qu, .ref se]))]) rfl (by decide) (by decide) (As := [.int x]) (rest := []) rfl rfl (Nat.le_of_ble_eq_true rfl) (by decide) dSx_areTerms_5 (fun v w hq => ?_)
  obtain ⟨qx, rfl, rfl, hbx⟩ := hq
  refine xz_ste (st' := [.int (bI qx)]) rfl ?_
  refine xz_wss (ws' := [(xo, .inr (5, [.ref di, .ref ts, .ref qu, .ref se])), (di, .inr (0, [.ref pw, .ref ln, .int (nI dn), .long (lN ba), .int (nI bb)]))]) [0, 1] (by decide) rfl rfl ?_
  refine xz_ifb_eq hC (tgt := 37) (by decide) dSx_areTerms_8 (fun h1 => ?_) (fun h1 => ?_)
  · skip
    have hnx : ¬ (0 ≤ x.toInt ∧ x.toInt < dn) := fun k => absurd (hbx.mpr k) (by rw [h1]; decide)
    refine xz_iconst hC (v := bI false) (by decide +kernel) dSx_areTerms_37 ?_
    exact xz_zreturn hC (by decide) (by decide) (⟨_, rfl, rfl, by first | exact xt_t ⟨hyx, hyy, hyz⟩ | exact xt_f (fun k => hnx k.1) | exact xt_f (fun k => hny k.2.1) | exact xt_f (fun k => hnz k.2.2)⟩) dSx_areTerms_38
  · skip
    have hyx := hbx.mp h1
    refine xz_aload_n hC 0 rfl rfl dSx_areTerms_11 ?_
    refine xz_get hC 0 rfl rfl 0 (by decide) inSx tq149 rfl rfl dSx_areTerms_12 ?_
    refine xz_iload_n hC 2 rfl rfl dSx_areTerms_15 ?_
    refine xz_callV hC (mDi_has l D K di pw ln dn ba bb y hdn) kDi_has tq2 tq206 tq195 tq196 1 0 rfl rfl rfl (host := "") hDi_has (by decide) [1] [0] (by decide) rfl (wr := [(xo, .inr (5, [.ref di, .ref ts, .ref qu, .ref se]))]) rfl (by decide) (by decide) (As := [.int y]) (rest := []) rfl rfl (Nat.le_of_ble_eq_true rfl) (by decide) dSx_areTerms_16 (fun v w hq => ?_)
    obtain ⟨qy, rfl, rfl, hby⟩ := hq
    refine xz_ste (st' := [.int (bI qy)]) rfl ?_
    refine xz_wss (ws' := [(xo, .inr (5, [.ref di, .ref ts, .ref qu, .ref se])), (di, .inr (0, [.ref pw, .ref ln, .int (nI dn), .long (lN ba), .int (nI bb)]))]) [0, 1] (by decide) rfl rfl ?_
    refine xz_ifb_eq hC (tgt := 37) (by decide) dSx_areTerms_19 (fun h2 => ?_) (fun h2 => ?_)
    · skip
      have hny : ¬ (0 ≤ y.toInt ∧ y.toInt < dn) := fun k => absurd (hby.mpr k) (by rw [h2]; decide)
      refine xz_iconst hC (v := bI false) (by decide +kernel) dSx_areTerms_37 ?_
      exact xz_zreturn hC (by decide) (by decide) (⟨_, rfl, rfl, by first | exact xt_t ⟨hyx, hyy, hyz⟩ | exact xt_f (fun k => hnx k.1) | exact xt_f (fun k => hny k.2.1) | exact xt_f (fun k => hnz k.2.2)⟩) dSx_areTerms_38
    · skip
      have hyy := hby.mp h2
      refine xz_aload_n hC 0 rfl rfl dSx_areTerms_22 ?_
      refine xz_get hC 0 rfl rfl 0 (by decide) inSx tq149 rfl rfl dSx_areTerms_23 ?_
      refine xz_iload_n hC 3 rfl rfl dSx_areTerms_26 ?_
      refine xz_callV hC (mDi_has l D K di pw ln dn ba bb z hdn) kDi_has tq2 tq206 tq195 tq196 1 0 rfl rfl rfl (host := "") hDi_has (by decide) [1] [0] (by decide) rfl (wr := [(xo, .inr (5, [.ref di, .ref ts, .ref qu, .ref se]))]) rfl (by decide) (by decide) (As := [.int z]) (rest := []) rfl rfl (Nat.le_of_ble_eq_true rfl) (by decide) dSx_areTerms_27 (fun v w hq => ?_)
      obtain ⟨qz, rfl, rfl, hbz⟩ := hq
      refine xz_ste (st' := [.int (bI qz)]) rfl ?_
      refine xz_wss (ws' := [(xo, .inr (5, [.ref di, .ref ts, .ref qu, .ref se])), (di, .inr (0, [.ref pw, .ref ln, .int (nI dn), .long (lN ba), .int (nI bb)]))]) [0, 1] (by decide) rfl rfl ?_
      refine xz_ifb_eq hC (tgt := 37) (by decide) dSx_areTerms_30 (fun h3 => ?_) (fun h3 => ?_)
      · skip
        have hnz : ¬ (0 ≤ z.toInt ∧ z.toInt < dn) := fun k => absurd (hbz.mpr k) (by rw [h3]; decide)
        refine xz_iconst hC (v := bI false) (by decide +kernel) dSx_areTerms_37 ?_
        exact xz_zreturn hC (by decide) (by decide) (⟨_, rfl, rfl, by first | exact xt_t ⟨hyx, hyy, hyz⟩ | exact xt_f (fun k => hnx k.1) | exact xt_f (fun k => hny k.2.1) | exact xt_f (fun k => hnz k.2.2)⟩) dSx_areTerms_38
      · skip
        have hyz := hbz.mp h3
        refine xz_iconst hC (v := bI true) (by decide +kernel) dSx_areTerms_33 ?_
        refine xz_goto hC (tgt := 38) (by decide) dSx_areTerms_34 ?_
        exact xz_zreturn hC (by decide) (by decide) (⟨_, rfl, rfl, by first | exact xt_t ⟨hyx, hyy, hyz⟩ | exact xt_f (fun k => hnx k.1) | exact xt_f (fun k => hny k.2.1) | exact xt_f (fun k => hnz k.2.2)⟩) dSx_areTerms_38
set_option maxHeartbeats 1000000 in
set_option maxRecDepth 100000 in
theorem mSx_fitsPattern (l : Launch) (D : va_G) (K : Nat → ClassId) (xo di ts qu se pw ln dn ba bb : Nat) (x : Int32) (hdn : dn ≤ 24) : xz_Met l D (tz K) ySx_fitsPattern cSx_fitsPattern 2 (some .boolean) { frames := 1, cells := 0, slots := 0, locals := 21 } [.ref xo, .int x] [(xo, .inr (5, [.ref di, .ref ts, .ref qu, .ref se])), (di, .inr (0, [.ref pw, .ref ln, .int (nI dn), .long (lN ba), .int (nI bb)]))] (fun v w => ∃ b : Bool, v = some (.int (bI b)) ∧ w = [(xo, .inr (5, [.ref di, .ref ts, .ref qu, .ref se])), (di, .inr (0, [.ref pw, .ref ln, .int (nI dn), .long (lN ba), .int (nI bb)]))] ∧ (b = true ↔ ((32 ≤ x.toInt ∧ x.toInt < 35) ∨ (0 ≤ x.toInt ∧ x.toInt < dn)))) := by
  refine xz_enter (by decide +kernel) (Nat.le_of_ble_eq_true rfl) ?_
  intro Γ hC
  refine xz_lcs (lc' := [(0, .ref xo), (1, .int x)]) [0, 1] rfl ?_
  refine xz_iload_n hC 1 rfl rfl dSx_fitsPattern_0 ?_
  refine xz_callS hC (mSx_isVariable l D K x) kSx_isVariable tq1 tq314 tq315 (host := "") (b := 0) hSx_isVariable (by decide) [] [0, 1] (by decide) rfl (wr := [(xo, .inr (5, [.ref di, .ref ts, .ref qu, .ref se])), (di, .inr (0, [.ref pw, .ref ln, .int (nI dn), .long (lN ba), .int (nI bb)]))]) rfl (by decide) (by decide) (As := [.int x]) (rest := []) rfl rfl (Nat.le_of_ble_eq_true rfl) (by decide) dSx_fitsPattern_1 (fun v w hq => ?_)
  obtain ⟨b, rfl, rfl, hb⟩ := hq
  refine xz_ste (st' := [.int (bI b)]) rfl ?_
  refine xz_wss (ws' := [(xo, .inr (5, [.ref di, .ref ts, .ref qu, .ref se])), (di, .inr (0, [.ref pw, .ref ln, .int (nI dn), .long (lN ba), .int (nI bb)]))]) [0, 1] (by decide) rfl rfl ?_
  refine xz_ifb_ne hC (tgt := 18) (by decide) dSx_fitsPattern_4 (fun h1 => ?_) (fun h1 => ?_)
  · skip
    have hv := hb.mp h1
    refine xz_iconst hC (v := bI true) (by decide +kernel) dSx_fitsPattern_18 ?_
    refine xz_goto hC (tgt := 23) (by decide) dSx_fitsPattern_19 ?_
    exact xz_zreturn hC (by decide) (by decide) (⟨_, rfl, rfl, by first | exact xt_t (Or.inl hv) | exact xt_t (Or.inr hy2) | exact xt_f (fun k => k.elim hnv hn2)⟩) dSx_fitsPattern_23
  · skip
    have hnv : ¬ (32 ≤ x.toInt ∧ x.toInt < 35) := fun k => absurd (hb.mpr k) (by rw [h1]; decide)
    refine xz_aload_n hC 0 rfl rfl dSx_fitsPattern_7 ?_
    refine xz_get hC 0 rfl rfl 0 (by decide) inSx tq149 rfl rfl dSx_fitsPattern_8 ?_
    refine xz_iload_n hC 1 rfl rfl dSx_fitsPattern_11 ?_
    refine xz_callV hC (mDi_has l D K di pw ln dn ba bb x hdn) kDi_has tq2 tq206 tq195 tq196 1 0 rfl rfl rfl (host := "") hDi_has (by decide) [1] [0] (by decide) rfl (wr := [(xo, .inr (5, [.ref di, .ref ts, .ref qu, .ref se]))]) rfl (by decide) (by decide) (As := [.int x]) (rest := []) rfl rfl (Nat.le_of_ble_eq_true rfl) (by decide) dSx_fitsPattern_12 (fun v w hq => ?_)
    obtain ⟨b2, rfl, rfl, hb2⟩ := hq
    refine xz_ste (st' := [.int (bI b2)]) rfl ?_
    refine xz_wss (ws' := [(xo, .inr (5, [.ref di, .ref ts, .ref qu, .ref se])), (di, .inr (0, [.ref pw, .ref ln, .int (nI dn), .long (lN ba), .int (nI bb)]))]) [0, 1] (by decide) rfl rfl ?_
    refine xz_ifb_eq hC (tgt := 22) (by decide) dSx_fitsPattern_15 (fun h2 => ?_) (fun h2 => ?_)
    · skip
      have hn2 : ¬ (0 ≤ x.toInt ∧ x.toInt < dn) := fun k => absurd (hb2.mpr k) (by rw [h2]; decide)
      refine xz_iconst hC (v := bI false) (by decide +kernel) dSx_fitsPattern_22 ?_
      exact xz_zreturn hC (by decide) (by decide) (⟨_, rfl, rfl, by first | exact xt_t (Or.inl hv) | exact xt_t (Or.inr hy2) | exact xt_f (fun k => k.elim hnv hn2)⟩) dSx_fitsPattern_23
    · skip
      have hy2 := hb2.mp h2
      refine xz_iconst hC (v := bI true) (by decide +kernel) dSx_fitsPattern_18 ?_
      refine xz_goto hC (tgt := 23) (by decide) dSx_fitsPattern_19 ?_
      exact xz_zreturn hC (by decide) (by decide) (⟨_, rfl, rfl, by first | exact xt_t (Or.inl hv) | exact xt_t (Or.inr hy2) | exact xt_f (fun k => k.elim hnv hn2)⟩) dSx_fitsPattern_23
set_option maxHeartbeats 1000000 in
set_option maxRecDepth 100000 in
theorem mSx_letter (l : Launch) (D : va_G) (K : Nat → ClassId) (xo di ts qu se pw ln dn ba bb : Nat) (c : Nat) (hdn : dn ≤ 24) (ha : bb < 6 → ba < 2 ^ 40) (hb : bb ≤ 6) (hc : c < 65536) : xz_Met l D (tz K) ySx_letter cSx_letter 2 (some .boolean) { frames := 1, cells := 0, slots := 0, locals := 21 } [.ref xo, .int (nI c)] [(xo, .inr (5, [.ref di, .ref ts, .ref qu, .ref se])), (di, .inr (0, [.ref pw, .ref ln, .int (nI dn), .long (lN ba), .int (nI bb)]))] (fun v w => ((33 ≤ c ∧ c ≤ 126 ∧ bb < 6) ∧ v = some (.int (bI true)) ∧ w = [(xo, .inr (5, [.ref di, .ref ts, .ref qu, .ref se])), (di, .inr (0, [.ref pw, .ref ln, .int (nI dn), .long (lN (ba * 128 + c)), .int (nI (bb + 1))]))]) ∨ (¬ (33 ≤ c ∧ c ≤ 126 ∧ bb < 6) ∧ v = some (.int (bI false)) ∧ w = [(xo, .inr (5, [.ref di, .ref ts, .ref qu, .ref se])), (di, .inr (0, [.ref pw, .ref ln, .int (nI dn), .long (lN ba), .int (nI bb)]))])) := by
  refine xz_enter (by decide +kernel) (Nat.le_of_ble_eq_true rfl) ?_
  intro Γ hC
  refine xz_lcs (lc' := [(0, .ref xo), (1, .int (nI c))]) [0, 1] rfl ?_
  refine xz_aload_n hC 0 rfl rfl dSx_letter_0 ?_
  refine xz_get hC 0 rfl rfl 0 (by decide) inSx tq149 rfl rfl dSx_letter_1 ?_
  refine xz_iload_n hC 1 rfl rfl dSx_letter_4 ?_
  refine xz_callV hC (mDi_addLetter l D K di pw ln dn ba bb c hdn ha hb hc) kDi_addLetter tq2 tq166 tq167 tq168 1 0 rfl rfl rfl (host := "") hDi_addLetter (by decide) [1] [0] (by decide) rfl (wr := [(xo, .inr (5, [.ref di, .ref ts, .ref qu, .ref se]))]) rfl (by decide) (by decide) (As := [.int (nI c)]) (rest := []) rfl rfl (Nat.le_of_ble_eq_true rfl) (by decide) dSx_letter_5 (fun v w hq => ?_)
  rcases hq with ⟨hq, rfl, rfl⟩ | ⟨hq, rfl, rfl⟩
  · skip
    refine xz_ste (st' := [.int (bI true)]) rfl ?_
    refine xz_wss (ws' := [(xo, .inr (5, [.ref di, .ref ts, .ref qu, .ref se])), (di, .inr (0, [.ref pw, .ref ln, .int (nI dn), .long (lN (ba * 128 + c)), .int (nI (bb + 1))]))]) [0, 1] (by decide) rfl rfl ?_
    exact xz_zreturn hC (by decide) (by decide) (by first | exact Or.inl ⟨hq, rfl, rfl⟩ | exact Or.inr ⟨hq, rfl, rfl⟩) dSx_letter_8
  · skip
    refine xz_ste (st' := [.int (bI false)]) rfl ?_
    refine xz_wss (ws' := [(xo, .inr (5, [.ref di, .ref ts, .ref qu, .ref se])), (di, .inr (0, [.ref pw, .ref ln, .int (nI dn), .long (lN ba), .int (nI bb)]))]) [0, 1] (by decide) rfl rfl ?_
    exact xz_zreturn hC (by decide) (by decide) (by first | exact Or.inl ⟨hq, rfl, rfl⟩ | exact Or.inr ⟨hq, rfl, rfl⟩) dSx_letter_8
set_option maxHeartbeats 1000000 in
set_option maxRecDepth 100000 in
theorem mSx_intern (l : Launch) (D : va_G) (K : Nat → ClassId) (xo di ts qu se pw ln dn ba bb : Nat) (Pw : Nat → Int64) (Lw : Nat → Int32) (hdn : dn ≤ 24) (hb : bb ≤ 6) : xz_Met l D (tz K) ySx_intern cSx_intern 1 (some .int) { frames := 2, cells := 0, slots := 0, locals := 42 } [.ref xo] [(xo, .inr (5, [.ref di, .ref ts, .ref qu, .ref se])), (di, .inr (0, [.ref pw, .ref ln, .int (nI dn), .long (lN ba), .int (nI bb)])), (pw, .inl (K 1, 24, .inr (.inl Pw))), (ln, .inl (K 0, 24, .inl Lw))] (fun v w => (bb = 0 ∧ v = some (.int (-1)) ∧ w = [(xo, .inr (5, [.ref di, .ref ts, .ref qu, .ref se])), (di, .inr (0, [.ref pw, .ref ln, .int (nI dn), .long (lN ba), .int (nI bb)])), (pw, .inl (K 1, 24, .inr (.inl Pw))), (ln, .inl (K 0, 24, .inl Lw))]) ∨ (0 < bb ∧ ∃ i, i < dn ∧ v = some (.int (nI i)) ∧ w = [(xo, .inr (5, [.ref di, .ref ts, .ref qu, .ref se])), (di, .inr (0, [.ref pw, .ref ln, .int (nI dn), .long 0, .int (nI 0)])), (pw, .inl (K 1, 24, .inr (.inl Pw))), (ln, .inl (K 0, 24, .inl Lw))] ∧ Pw i = lN ba ∧ ∀ j, j < i → Pw j ≠ lN ba) ∨ (0 < bb ∧ dn = 24 ∧ v = some (.int (-2)) ∧ w = [(xo, .inr (5, [.ref di, .ref ts, .ref qu, .ref se])), (di, .inr (0, [.ref pw, .ref ln, .int (nI dn), .long (lN ba), .int (nI bb)])), (pw, .inl (K 1, 24, .inr (.inl Pw))), (ln, .inl (K 0, 24, .inl Lw))] ∧ ∀ j, j < dn → Pw j ≠ lN ba) ∨ (0 < bb ∧ dn < 24 ∧ v = some (.int (nI dn)) ∧ w = [(xo, .inr (5, [.ref di, .ref ts, .ref qu, .ref se])), (di, .inr (0, [.ref pw, .ref ln, .int (nI (dn + 1)), .long 0, .int (nI 0)])), (pw, .inl (K 1, 24, .inr (.inl (vp_updL Pw dn (lN ba))))), (ln, .inl (K 0, 24, .inl (upd Lw dn (nI bb))))] ∧ ∀ j, j < dn → Pw j ≠ lN ba)) := by
  refine xz_enter (by decide +kernel) (Nat.le_of_ble_eq_true rfl) ?_
  intro Γ hC
  refine xz_lcs (lc' := [(0, .ref xo)]) [0] rfl ?_
  refine xz_aload_n hC 0 rfl rfl dSx_intern_0 ?_
  refine xz_get hC 0 rfl rfl 0 (by decide) inSx tq149 rfl rfl dSx_intern_1 ?_
  refine xz_callV hC (mDi_takeIn l D K di pw ln dn ba bb Pw Lw hdn hb) kDi_takeIn tq2 tq174 tq175 tq176 1 0 rfl rfl rfl (host := "") hDi_takeIn (by decide) [1, 2, 3] [0] (by decide) rfl (wr := [(xo, .inr (5, [.ref di, .ref ts, .ref qu, .ref se]))]) rfl (by decide) (by decide) (As := []) (rest := []) rfl rfl (Nat.le_of_ble_eq_true rfl) (by decide) dSx_intern_4 (fun v w hq => ?_)
  rcases hq with ⟨h0, rfl, rfl⟩ | ⟨h0, i, hi, rfl, rfl, hp, hj⟩ | ⟨h0, h24, rfl, rfl, hj⟩ | ⟨h0, h24, rfl, rfl, hj⟩
  · skip
    refine xz_ste (st' := [.int (-1)]) rfl ?_
    refine xz_wss (ws' := [(xo, .inr (5, [.ref di, .ref ts, .ref qu, .ref se])), (di, .inr (0, [.ref pw, .ref ln, .int (nI dn), .long (lN ba), .int (nI bb)])), (pw, .inl (K 1, 24, .inr (.inl Pw))), (ln, .inl (K 0, 24, .inl Lw))]) [0, 1, 2, 3] (by decide) rfl rfl ?_
    exact xz_ireturn hC (by decide) (by decide) (by first | exact Or.inl ⟨h0, rfl, rfl⟩ | exact Or.inr (Or.inl ⟨h0, i, hi, rfl, rfl, hp, hj⟩) | exact Or.inr (Or.inr (Or.inl ⟨h0, h24, rfl, rfl, hj⟩)) | exact Or.inr (Or.inr (Or.inr ⟨h0, h24, rfl, rfl, hj⟩))) dSx_intern_7
  · skip
    refine xz_ste (st' := [.int (nI i)]) rfl ?_
    refine xz_wss (ws' := [(xo, .inr (5, [.ref di, .ref ts, .ref qu, .ref se])), (di, .inr (0, [.ref pw, .ref ln, .int (nI dn), .long 0, .int (nI 0)])), (pw, .inl (K 1, 24, .inr (.inl Pw))), (ln, .inl (K 0, 24, .inl Lw))]) [0, 1, 2, 3] (by decide) rfl rfl ?_
    exact xz_ireturn hC (by decide) (by decide) (by first | exact Or.inl ⟨h0, rfl, rfl⟩ | exact Or.inr (Or.inl ⟨h0, i, hi, rfl, rfl, hp, hj⟩) | exact Or.inr (Or.inr (Or.inl ⟨h0, h24, rfl, rfl, hj⟩)) | exact Or.inr (Or.inr (Or.inr ⟨h0, h24, rfl, rfl, hj⟩))) dSx_intern_7
  · skip
    refine xz_ste (st' := [.int (-2)]) rfl ?_
    refine xz_wss (ws' := [(xo, .inr (5, [.ref di, .ref ts, .ref qu, .ref se])), (di, .inr (0, [.ref pw, .ref ln, .int (nI dn), .long (lN ba), .int (nI bb)])), (pw, .inl (K 1, 24, .inr (.inl Pw))), (ln, .inl (K 0, 24, .inl Lw))]) [0, 1, 2, 3] (by decide) rfl rfl ?_
    exact xz_ireturn hC (by decide) (by decide) (by first | exact Or.inl ⟨h0, rfl, rfl⟩ | exact Or.inr (Or.inl ⟨h0, i, hi, rfl, rfl, hp, hj⟩) | exact Or.inr (Or.inr (Or.inl ⟨h0, h24, rfl, rfl, hj⟩)) | exact Or.inr (Or.inr (Or.inr ⟨h0, h24, rfl, rfl, hj⟩))) dSx_intern_7
  · skip
    refine xz_ste (st' := [.int (nI dn)]) rfl ?_
    refine xz_wss (ws' := [(xo, .inr (5, [.ref di, .ref ts, .ref qu, .ref se])), (di, .inr (0, [.ref pw, .ref ln, .int (nI (dn + 1)), .long 0, .int (nI 0)])), (pw, .inl (K 1, 24, .inr (.inl (vp_updL Pw dn (lN ba))))), (ln, .inl (K 0, 24, .inl (upd Lw dn (nI bb))))]) [0, 1, 2, 3] (by decide) rfl rfl ?_
    exact xz_ireturn hC (by decide) (by decide) (by first | exact Or.inl ⟨h0, rfl, rfl⟩ | exact Or.inr (Or.inl ⟨h0, i, hi, rfl, rfl, hp, hj⟩) | exact Or.inr (Or.inr (Or.inl ⟨h0, h24, rfl, rfl, hj⟩)) | exact Or.inr (Or.inr (Or.inr ⟨h0, h24, rfl, rfl, hj⟩))) dSx_intern_7
set_option maxHeartbeats 1000000 in
set_option maxRecDepth 100000 in
theorem mSx_words (l : Launch) (D : va_G) (K : Nat → ClassId) (xo di ts qu se pw ln dn ba bb : Nat)  : xz_Met l D (tz K) ySx_words cSx_words 1 (some .int) { frames := 0, cells := 0, slots := 0, locals := 0 } [.ref xo] [(xo, .inr (5, [.ref di, .ref ts, .ref qu, .ref se])), (di, .inr (0, [.ref pw, .ref ln, .int (nI dn), .long (lN ba), .int (nI bb)]))] (fun v w => v = some (.int (nI dn)) ∧ w = [(xo, .inr (5, [.ref di, .ref ts, .ref qu, .ref se])), (di, .inr (0, [.ref pw, .ref ln, .int (nI dn), .long (lN ba), .int (nI bb)]))]) := by
  refine xz_enter (by decide +kernel) (Nat.le_of_ble_eq_true rfl) ?_
  intro Γ hC
  refine xz_lcs (lc' := [(0, .ref xo)]) [0] rfl ?_
  refine xz_aload_n hC 0 rfl rfl dSx_words_0 ?_
  refine xz_get hC 0 rfl rfl 0 (by decide) inSx tq149 rfl rfl dSx_words_1 ?_
  refine xz_getN hC 1 rfl rfl 2 (by decide) inDi tq26 rfl rfl dSx_words_4 ?_
  exact xz_ireturn hC (by decide) (by decide) (⟨rfl, rfl⟩) dSx_words_7
set_option maxHeartbeats 1000000 in
set_option maxRecDepth 100000 in
theorem mSx_spell (l : Launch) (D : va_G) (K : Nat → ClassId) (xo di ts qu se pw ln dn ba bb : Nat) (Pw : Nat → Int64) (Lw : Nat → Int32) (x y : Int32) (pk lt : Nat → Nat) (hdn : dn ≤ 24) (hP : ∀ t, t < dn → Pw t = lN (pk t) ∧ pk t < 2 ^ 62 ∧ Lw t = nI (lt t) ∧ lt t ≤ 6) : xz_Met l D (tz K) ySx_spell cSx_spell 3 (some .int) { frames := 2, cells := 0, slots := 0, locals := 44 } [.ref xo, .int x, .int y] [(xo, .inr (5, [.ref di, .ref ts, .ref qu, .ref se])), (di, .inr (0, [.ref pw, .ref ln, .int (nI dn), .long (lN ba), .int (nI bb)])), (pw, .inl (K 1, 24, .inr (.inl Pw))), (ln, .inl (K 0, 24, .inl Lw))] (fun v w => w = [(xo, .inr (5, [.ref di, .ref ts, .ref qu, .ref se])), (di, .inr (0, [.ref pw, .ref ln, .int (nI dn), .long (lN ba), .int (nI bb)])), (pw, .inl (K 1, 24, .inr (.inl Pw))), (ln, .inl (K 0, 24, .inl Lw))] ∧ (((0 ≤ x.toInt ∧ x.toInt < dn ∧ 0 ≤ y.toInt ∧ y.toInt < lt (xi x)) ∧ v = some (.int (nI (pk (xi x) / 2 ^ (7 * (lt (xi x) - 1 - xi y)) % 128)))) ∨ (¬ (0 ≤ x.toInt ∧ x.toInt < dn ∧ 0 ≤ y.toInt ∧ y.toInt < lt (xi x)) ∧ v = some (.int (-1))))) := by
  refine xz_enter (by decide +kernel) (Nat.le_of_ble_eq_true rfl) ?_
  intro Γ hC
  refine xz_lcs (lc' := [(0, .ref xo), (1, .int x), (2, .int y)]) [0, 1, 2] rfl ?_
  refine xz_aload_n hC 0 rfl rfl dSx_spell_0 ?_
  refine xz_get hC 0 rfl rfl 0 (by decide) inSx tq149 rfl rfl dSx_spell_1 ?_
  refine xz_iload_n hC 1 rfl rfl dSx_spell_4 ?_
  refine xz_iload_n hC 2 rfl rfl dSx_spell_5 ?_
  refine xz_callV hC (mDi_letterAt l D K di pw ln dn ba bb Pw Lw x y pk lt hdn hP) kDi_letterAt tq2 tq190 tq191 tq192 1 0 rfl rfl rfl (host := "") hDi_letterAt (by decide) [1, 2, 3] [0] (by decide) rfl (wr := [(xo, .inr (5, [.ref di, .ref ts, .ref qu, .ref se]))]) rfl (by decide) (by decide) (As := [.int x, .int y]) (rest := []) rfl rfl (Nat.le_of_ble_eq_true rfl) (by decide) dSx_spell_6 (fun v w hq => ?_)
  rcases hq with ⟨rfl, ⟨hc, rfl⟩ | ⟨hc, rfl⟩⟩
  · skip
    refine xz_ste (st' := [.int (nI (pk (xi x) / 2 ^ (7 * (lt (xi x) - 1 - xi y)) % 128))]) rfl ?_
    refine xz_wss (ws' := [(xo, .inr (5, [.ref di, .ref ts, .ref qu, .ref se])), (di, .inr (0, [.ref pw, .ref ln, .int (nI dn), .long (lN ba), .int (nI bb)])), (pw, .inl (K 1, 24, .inr (.inl Pw))), (ln, .inl (K 0, 24, .inl Lw))]) [0, 1, 2, 3] (by decide) rfl rfl ?_
    exact xz_ireturn hC (by decide) (by decide) (by first | exact ⟨rfl, Or.inl ⟨hc, rfl⟩⟩ | exact ⟨rfl, Or.inr ⟨hc, rfl⟩⟩) dSx_spell_9
  · skip
    refine xz_ste (st' := [.int (-1)]) rfl ?_
    refine xz_wss (ws' := [(xo, .inr (5, [.ref di, .ref ts, .ref qu, .ref se])), (di, .inr (0, [.ref pw, .ref ln, .int (nI dn), .long (lN ba), .int (nI bb)])), (pw, .inl (K 1, 24, .inr (.inl Pw))), (ln, .inl (K 0, 24, .inl Lw))]) [0, 1, 2, 3] (by decide) rfl rfl ?_
    exact xz_ireturn hC (by decide) (by decide) (by first | exact ⟨rfl, Or.inl ⟨hc, rfl⟩⟩ | exact ⟨rfl, Or.inr ⟨hc, rfl⟩⟩) dSx_spell_9
