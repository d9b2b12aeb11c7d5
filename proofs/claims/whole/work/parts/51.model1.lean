set_option maxHeartbeats 1000000 in
set_option maxRecDepth 100000 in
theorem mMo_letter (l : Launch) (D : va_G) (K : Nat → ClassId) (mo wo le lt pe st pt rr vl bo kp mb mw n o mg pa ma an lv : Nat) (Wo : Nat → Int32) (c : Nat) (hmb : mb ≤ 6) (hc : c < 65536) : xz_Met l D (tz K) yMo_letter cMo_letter 2 (some .boolean) { frames := 0, cells := 0, slots := 0, locals := 0 } [.ref mo, .int (nI c)] [(mo, .inr (6, [.int (nI mb), .ref wo, .int (nI mw), .ref le, .ref lt, .int (nI n), .ref pe, .int (nI o), .ref st, .int (nI mg), .int (nI pa), .ref pt, .int (nI ma), .ref rr, .ref vl, .ref bo, .int (nI an), .ref kp, .int (nI lv)])), (wo, .inl (K 2, 6, .inl Wo))] (fun v w => ((33 ≤ c ∧ c ≤ 126 ∧ mb < 6) ∧ v = some (.int (bI true)) ∧ w = [(mo, .inr (6, [.int (nI (mb + 1)), .ref wo, .int (nI mw), .ref le, .ref lt, .int (nI n), .ref pe, .int (nI o), .ref st, .int (nI mg), .int (nI pa), .ref pt, .int (nI ma), .ref rr, .ref vl, .ref bo, .int (nI an), .ref kp, .int (nI lv)])), (wo, .inl (K 2, 6, .inl (upd Wo mb (nI c))))]) ∨ (¬ (33 ≤ c ∧ c ≤ 126 ∧ mb < 6) ∧ v = some (.int (bI false)) ∧ w = [(mo, .inr (6, [.int (nI mb), .ref wo, .int (nI mw), .ref le, .ref lt, .int (nI n), .ref pe, .int (nI o), .ref st, .int (nI mg), .int (nI pa), .ref pt, .int (nI ma), .ref rr, .ref vl, .ref bo, .int (nI an), .ref kp, .int (nI lv)])), (wo, .inl (K 2, 6, .inl Wo))])) := by
  refine xz_enter (by decide +kernel) (Nat.le_of_ble_eq_true rfl) ?_
  intro Γ hC
  refine xz_lcs (lc' := [(0, .ref mo), (1, .int (nI c))]) [0, 1] rfl ?_
  refine xz_iload_n hC 1 rfl rfl dMo_letter_0 ?_
  refine xz_bipush hC (v := nI 33) (by decide +kernel) dMo_letter_1 ?_
  refine xz_icmp_lt hC (tgt := 21) (nI_toInt (by omega)) (nI_toInt (by omega)) (by decide) dMo_letter_3 (fun h1 => ?_) (fun h1 => ?_)
  · skip
    refine xz_iconst hC (v := bI false) (by decide +kernel) dMo_letter_21 ?_
    exact xz_zreturn hC (by decide) (by decide) (Or.inr ⟨by omega, rfl, rfl⟩) dMo_letter_22
  · skip
    refine xz_iload_n hC 1 rfl rfl dMo_letter_6 ?_
    refine xz_bipush hC (v := nI 126) (by decide +kernel) dMo_letter_7 ?_
    refine xz_icmp_gt hC (tgt := 21) (nI_toInt (by omega)) (nI_toInt (by omega)) (by decide) dMo_letter_9 (fun h2 => ?_) (fun h2 => ?_)
    · skip
      refine xz_iconst hC (v := bI false) (by decide +kernel) dMo_letter_21 ?_
      exact xz_zreturn hC (by decide) (by decide) (Or.inr ⟨by omega, rfl, rfl⟩) dMo_letter_22
    · skip
      refine xz_aload_n hC 0 rfl rfl dMo_letter_12 ?_
      refine xz_get hC 0 rfl rfl 0 (by decide) inMo tq429 rfl rfl dMo_letter_13 ?_
      refine xz_bipush hC (v := nI 6) (by decide +kernel) dMo_letter_16 ?_
      refine xz_icmp_ne hC (tgt := 23) (nI_toInt (by omega)) (nI_toInt (by omega)) (by decide) dMo_letter_18 (fun h3 => ?_) (fun h3 => ?_)
      · skip
        refine xz_aload_n hC 0 rfl rfl dMo_letter_23 ?_
        refine xz_get hC 0 rfl rfl 1 (by decide) inMo tq430 rfl rfl dMo_letter_24 ?_
        refine xz_aload_n hC 0 rfl rfl dMo_letter_27 ?_
        refine xz_get hC 0 rfl rfl 0 (by decide) inMo tq429 rfl rfl dMo_letter_28 ?_
        refine xz_iload_n hC 1 rfl rfl dMo_letter_31 ?_
        refine xz_castore hC 1 2 (ws' := [(mo, .inr (6, [.int (nI mb), .ref wo, .int (nI mw), .ref le, .ref lt, .int (nI n), .ref pe, .int (nI o), .ref st, .int (nI mg), .int (nI pa), .ref pt, .int (nI ma), .ref rr, .ref vl, .ref bo, .int (nI an), .ref kp, .int (nI lv)])), (wo, .inl (K 2, 6, .inl (upd Wo mb (nI c))))]) rfl rfl (by omega) (by decide) (xn_char hc) rfl dMo_letter_32 ?_
        refine xz_aload_n hC 0 rfl rfl dMo_letter_33 ?_
        refine xz_dup hC rfl dMo_letter_34 ?_
        refine xz_get hC 0 rfl rfl 0 (by decide) inMo tq429 rfl rfl dMo_letter_35 ?_
        refine xz_iconst hC (v := nI 1) (by decide +kernel) dMo_letter_38 ?_
        refine xz_iadd hC (z := nI (mb + 1)) (nI_add _ _) dMo_letter_39 ?_
        refine xz_put hC 0 rfl rfl 0 (by decide) inMo tq429 rfl tyMo tyMo_ok nmMo rfl rfl rfl (Nat.le_of_ble_eq_true rfl) (ws' := [(mo, .inr (6, [.int (nI (mb + 1)), .ref wo, .int (nI mw), .ref le, .ref lt, .int (nI n), .ref pe, .int (nI o), .ref st, .int (nI mg), .int (nI pa), .ref pt, .int (nI ma), .ref rr, .ref vl, .ref bo, .int (nI an), .ref kp, .int (nI lv)])), (wo, .inl (K 2, 6, .inl (upd Wo mb (nI c))))]) rfl dMo_letter_40 ?_
        refine xz_iconst hC (v := bI true) (by decide +kernel) dMo_letter_43 ?_
        exact xz_zreturn hC (by decide) (by decide) (Or.inl ⟨by omega, rfl, rfl⟩) dMo_letter_44
      · skip
        refine xz_iconst hC (v := bI false) (by decide +kernel) dMo_letter_21 ?_
        exact xz_zreturn hC (by decide) (by decide) (Or.inr ⟨by omega, rfl, rfl⟩) dMo_letter_22
set_option maxHeartbeats 1000000 in
set_option maxRecDepth 100000 in
theorem mMo_isWord (l : Launch) (D : va_G) (K : Nat → ClassId) (mo wo le lt pe st pt rr vl bo kp mb mw n o mg pa ma an lv : Nat) (Wo Le Lt : Nat → Int32) (ln : Nat → Nat) (Lw : Nat → Nat → Nat) (bw : Nat → Nat) (t : Nat) (hmw : mw ≤ 24) (hmb : mb ≤ 6) (hW : xm_W Le Lt ln Lw mw) (hB : xm_B Wo bw mb) (ht : t < mw) : xz_Met l D (tz K) yMo_isWord cMo_isWord 4 (some .boolean) { frames := 0, cells := 0, slots := 0, locals := 0 } [.ref mo, .int (nI t)] [(mo, .inr (6, [.int (nI mb), .ref wo, .int (nI mw), .ref le, .ref lt, .int (nI n), .ref pe, .int (nI o), .ref st, .int (nI mg), .int (nI pa), .ref pt, .int (nI ma), .ref rr, .ref vl, .ref bo, .int (nI an), .ref kp, .int (nI lv)])), (wo, .inl (K 2, 6, .inl Wo)), (le, .inl (K 0, 24, .inl Le)), (lt, .inl (K 2, 144, .inl Lt))] (fun v w => ∃ b : Bool, v = some (.int (bI b)) ∧ w = [(mo, .inr (6, [.int (nI mb), .ref wo, .int (nI mw), .ref le, .ref lt, .int (nI n), .ref pe, .int (nI o), .ref st, .int (nI mg), .int (nI pa), .ref pt, .int (nI ma), .ref rr, .ref vl, .ref bo, .int (nI an), .ref kp, .int (nI lv)])), (wo, .inl (K 2, 6, .inl Wo)), (le, .inl (K 0, 24, .inl Le)), (lt, .inl (K 2, 144, .inl Lt))] ∧ (b = true ↔ xm_eq ln Lw bw mb t)) := by
  refine xz_enter (by decide +kernel) (Nat.le_of_ble_eq_true rfl) ?_
  intro Γ hC
  refine xz_lcs (lc' := [(0, .ref mo), (1, .int (nI t))]) [0, 1] rfl ?_
  obtain ⟨ht1, ht2, ht3⟩ := hW t ht
  refine xz_aload_n hC 0 rfl rfl dMo_isWord_0 ?_
  refine xz_get hC 0 rfl rfl 3 (by decide) inMo tq432 rfl rfl dMo_isWord_1 ?_
  refine xz_iload_n hC 1 rfl rfl dMo_isWord_4 ?_
  refine xz_iaload hC 2 0 (v := nI (ln t)) rfl rfl (by omega) (by decide) ht1 dMo_isWord_5 ?_
  refine xz_aload_n hC 0 rfl rfl dMo_isWord_6 ?_
  refine xz_get hC 0 rfl rfl 0 (by decide) inMo tq429 rfl rfl dMo_isWord_7 ?_
  refine xz_icmp_ne hC (tgt := 17) (nI_toInt (by omega)) (nI_toInt (by omega)) (by decide) dMo_isWord_10 (fun h1 => ?_) (fun h1 => ?_)
  · skip
    refine xz_iconst hC (v := bI false) (by decide +kernel) dMo_isWord_17 ?_
    refine xz_istore_n hC (lc' := [(2, .int (bI false)), (0, .ref mo), (1, .int (nI t))]) rfl (by decide) rfl dMo_isWord_18 ?_
    refine xz_iconst hC (v := nI 0) (by decide +kernel) dMo_isWord_19 ?_
    refine xz_istore_n hC (lc' := [(3, .int (nI 0)), (2, .int (bI false)), (0, .ref mo), (1, .int (nI t))]) rfl (by decide) rfl dMo_isWord_20 ?_
    have lp2 : ∀ (NNlp2 : Nat) (i : Nat) (s : Bool), i ≤ mb → (s = true ↔ (ln t = mb ∧ ∀ j, j < i → Lw t j = bw j)) → mb - i = NNlp2 → xz_X Γ 0 0 [(mo, .inr (6, [.int (nI mb), .ref wo, .int (nI mw), .ref le, .ref lt, .int (nI n), .ref pe, .int (nI o), .ref st, .int (nI mg), .int (nI pa), .ref pt, .int (nI ma), .ref rr, .ref vl, .ref bo, .int (nI an), .ref kp, .int (nI lv)])), (wo, .inl (K 2, 6, .inl Wo)), (le, .inl (K 0, 24, .inl Le)), (lt, .inl (K 2, 144, .inl Lt))] 21 [(3, .int (nI i)), (2, .int (bI s)), (0, .ref mo), (1, .int (nI t))] [] := by
      intro NNlp2
      induction NNlp2 using Nat.strongRecOn with
      | _ NNlp2 ihlp2 =>
        intro i  s  hi hs hNNlp2
        refine xz_iload_n hC 0 rfl rfl dMo_isWord_21 ?_
        refine xz_aload_n hC 2 rfl rfl dMo_isWord_22 ?_
        refine xz_get hC 0 rfl rfl 0 (by decide) inMo tq429 rfl rfl dMo_isWord_23 ?_
        refine xz_icmp_ge hC (tgt := 65) (nI_toInt (by omega)) (nI_toInt (by omega)) (by decide) dMo_isWord_26 (fun h3 => ?_) (fun h3 => ?_)
        · skip
          refine xz_iload_n hC 1 rfl rfl dMo_isWord_65 ?_
          exact xz_zreturn hC (by decide) (by decide) (by first | exact ⟨s, rfl, rfl, by rw [hs]; unfold xm_eq; rw [show i = mb by omega]⟩ | exact ⟨s, rfl, rfl, ⟨fun k => absurd k (by rw [h3]; decide), fun k => hs.mpr ⟨k.1, fun j hj => k.2 j (by omega)⟩⟩⟩ | exact ⟨s, rfl, rfl, ⟨fun k => absurd k (by simp_all), fun k => hs.mpr ⟨k.1, fun j hj => k.2 j (by omega)⟩⟩⟩) dMo_isWord_66
        · skip
          refine xz_iload_n hC 1 rfl rfl dMo_isWord_29 ?_
          refine xz_ifb_eq hC (tgt := 65) (by decide) dMo_isWord_30 (fun h4 => ?_) (fun h4 => ?_)
          · skip
            refine xz_iload_n hC 1 rfl rfl dMo_isWord_65 ?_
            exact xz_zreturn hC (by decide) (by decide) (by first | exact ⟨s, rfl, rfl, by rw [hs]; unfold xm_eq; rw [show i = mb by omega]⟩ | exact ⟨s, rfl, rfl, ⟨fun k => absurd k (by rw [h3]; decide), fun k => hs.mpr ⟨k.1, fun j hj => k.2 j (by omega)⟩⟩⟩ | exact ⟨s, rfl, rfl, ⟨fun k => absurd k (by simp_all), fun k => hs.mpr ⟨k.1, fun j hj => k.2 j (by omega)⟩⟩⟩) dMo_isWord_66
          · skip
            have hst := hs.mp h4
            have hl1 := ht3 i (by omega)
            have hb1 := hB i (by omega)
            refine xz_aload_n hC 2 rfl rfl dMo_isWord_33 ?_
            refine xz_get hC 0 rfl rfl 4 (by decide) inMo tq433 rfl rfl dMo_isWord_34 ?_
            refine xz_bipush hC (v := nI 6) (by decide +kernel) dMo_isWord_37 ?_
            refine xz_iload_n hC 3 rfl rfl dMo_isWord_39 ?_
            refine xz_imul hC (z := nI (6 * t)) (pk_mul _ _) dMo_isWord_40 ?_
            refine xz_iload_n hC 0 rfl rfl dMo_isWord_41 ?_
            refine xz_iadd hC (z := nI (6 * t + i)) (nI_add _ _) dMo_isWord_42 ?_
            refine xz_caload hC 3 2 (v := nI (Lw t i)) rfl rfl (by omega) (by decide) hl1.1 dMo_isWord_43 ?_
            refine xz_aload_n hC 2 rfl rfl dMo_isWord_44 ?_
            refine xz_get hC 0 rfl rfl 1 (by decide) inMo tq430 rfl rfl dMo_isWord_45 ?_
            refine xz_iload_n hC 0 rfl rfl dMo_isWord_48 ?_
            refine xz_caload hC 1 2 (v := nI (bw i)) rfl rfl (by omega) (by decide) hb1.1 dMo_isWord_49 ?_
            refine xz_icmp_ne hC (tgt := 57) (nI_toInt (by omega)) (nI_toInt (by omega)) (by decide) dMo_isWord_50 (fun h5 => ?_) (fun h5 => ?_)
            · skip
              refine xz_iconst hC (v := bI false) (by decide +kernel) dMo_isWord_57 ?_
              refine xz_istore_n hC (lc' := [(2, .int (bI false)), (3, .int (nI i)), (0, .ref mo), (1, .int (nI t))]) rfl (by decide) rfl dMo_isWord_58 ?_
              refine xz_iinc hC 1 (lc' := [(3, .int (nI (i + 1))), (2, .int (bI false)), (0, .ref mo), (1, .int (nI t))]) rfl (xn_inc _) (by decide) rfl dMo_isWord_59 ?_
              refine xz_goto hC (tgt := 21) (by decide) dMo_isWord_62 ?_
              exact ihlp2 _ (by omega) (i + 1) false (by omega) (xt_f (fun k => by have := k.2 i (by omega); omega)) rfl
            · skip
              refine xz_iconst hC (v := bI true) (by decide +kernel) dMo_isWord_53 ?_
              refine xz_goto hC (tgt := 58) (by decide) dMo_isWord_54 ?_
              refine xz_istore_n hC (lc' := [(2, .int (bI true)), (3, .int (nI i)), (0, .ref mo), (1, .int (nI t))]) rfl (by decide) rfl dMo_isWord_58 ?_
              refine xz_iinc hC 1 (lc' := [(3, .int (nI (i + 1))), (2, .int (bI true)), (0, .ref mo), (1, .int (nI t))]) rfl (xn_inc _) (by decide) rfl dMo_isWord_59 ?_
              refine xz_goto hC (tgt := 21) (by decide) dMo_isWord_62 ?_
              exact ihlp2 _ (by omega) (i + 1) true (by omega) (xt_t ⟨hst.1, lt_s hst.2 (by omega)⟩) rfl
    exact lp2 _ 0 false (by omega) (xt_f (fun k => absurd k.1 (by omega))) rfl
  · skip
    refine xz_iconst hC (v := bI true) (by decide +kernel) dMo_isWord_13 ?_
    refine xz_goto hC (tgt := 18) (by decide) dMo_isWord_14 ?_
    refine xz_istore_n hC (lc' := [(2, .int (bI true)), (0, .ref mo), (1, .int (nI t))]) rfl (by decide) rfl dMo_isWord_18 ?_
    refine xz_iconst hC (v := nI 0) (by decide +kernel) dMo_isWord_19 ?_
    refine xz_istore_n hC (lc' := [(3, .int (nI 0)), (2, .int (bI true)), (0, .ref mo), (1, .int (nI t))]) rfl (by decide) rfl dMo_isWord_20 ?_
    have lp6 : ∀ (NNlp6 : Nat) (i : Nat) (s : Bool), i ≤ mb → (s = true ↔ (ln t = mb ∧ ∀ j, j < i → Lw t j = bw j)) → mb - i = NNlp6 → xz_X Γ 0 0 [(mo, .inr (6, [.int (nI mb), .ref wo, .int (nI mw), .ref le, .ref lt, .int (nI n), .ref pe, .int (nI o), .ref st, .int (nI mg), .int (nI pa), .ref pt, .int (nI ma), .ref rr, .ref vl, .ref bo, .int (nI an), .ref kp, .int (nI lv)])), (wo, .inl (K 2, 6, .inl Wo)), (le, .inl (K 0, 24, .inl Le)), (lt, .inl (K 2, 144, .inl Lt))] 21 [(3, .int (nI i)), (2, .int (bI s)), (0, .ref mo), (1, .int (nI t))] [] := by
      intro NNlp6
      induction NNlp6 using Nat.strongRecOn with
      | _ NNlp6 ihlp6 =>
        intro i  s  hi hs hNNlp6
        refine xz_iload_n hC 0 rfl rfl dMo_isWord_21 ?_
        refine xz_aload_n hC 2 rfl rfl dMo_isWord_22 ?_
        refine xz_get hC 0 rfl rfl 0 (by decide) inMo tq429 rfl rfl dMo_isWord_23 ?_
        refine xz_icmp_ge hC (tgt := 65) (nI_toInt (by omega)) (nI_toInt (by omega)) (by decide) dMo_isWord_26 (fun h7 => ?_) (fun h7 => ?_)
        · skip
          refine xz_iload_n hC 1 rfl rfl dMo_isWord_65 ?_
          exact xz_zreturn hC (by decide) (by decide) (by first | exact ⟨s, rfl, rfl, by rw [hs]; unfold xm_eq; rw [show i = mb by omega]⟩ | exact ⟨s, rfl, rfl, ⟨fun k => absurd k (by rw [h3]; decide), fun k => hs.mpr ⟨k.1, fun j hj => k.2 j (by omega)⟩⟩⟩ | exact ⟨s, rfl, rfl, ⟨fun k => absurd k (by simp_all), fun k => hs.mpr ⟨k.1, fun j hj => k.2 j (by omega)⟩⟩⟩) dMo_isWord_66
        · skip
          refine xz_iload_n hC 1 rfl rfl dMo_isWord_29 ?_
          refine xz_ifb_eq hC (tgt := 65) (by decide) dMo_isWord_30 (fun h8 => ?_) (fun h8 => ?_)
          · skip
            refine xz_iload_n hC 1 rfl rfl dMo_isWord_65 ?_
            exact xz_zreturn hC (by decide) (by decide) (by first | exact ⟨s, rfl, rfl, by rw [hs]; unfold xm_eq; rw [show i = mb by omega]⟩ | exact ⟨s, rfl, rfl, ⟨fun k => absurd k (by rw [h3]; decide), fun k => hs.mpr ⟨k.1, fun j hj => k.2 j (by omega)⟩⟩⟩ | exact ⟨s, rfl, rfl, ⟨fun k => absurd k (by simp_all), fun k => hs.mpr ⟨k.1, fun j hj => k.2 j (by omega)⟩⟩⟩) dMo_isWord_66
          · skip
            have hst := hs.mp h8
            have hl1 := ht3 i (by omega)
            have hb1 := hB i (by omega)
            refine xz_aload_n hC 2 rfl rfl dMo_isWord_33 ?_
            refine xz_get hC 0 rfl rfl 4 (by decide) inMo tq433 rfl rfl dMo_isWord_34 ?_
            refine xz_bipush hC (v := nI 6) (by decide +kernel) dMo_isWord_37 ?_
            refine xz_iload_n hC 3 rfl rfl dMo_isWord_39 ?_
            refine xz_imul hC (z := nI (6 * t)) (pk_mul _ _) dMo_isWord_40 ?_
            refine xz_iload_n hC 0 rfl rfl dMo_isWord_41 ?_
            refine xz_iadd hC (z := nI (6 * t + i)) (nI_add _ _) dMo_isWord_42 ?_
            refine xz_caload hC 3 2 (v := nI (Lw t i)) rfl rfl (by omega) (by decide) hl1.1 dMo_isWord_43 ?_
            refine xz_aload_n hC 2 rfl rfl dMo_isWord_44 ?_
            refine xz_get hC 0 rfl rfl 1 (by decide) inMo tq430 rfl rfl dMo_isWord_45 ?_
            refine xz_iload_n hC 0 rfl rfl dMo_isWord_48 ?_
            refine xz_caload hC 1 2 (v := nI (bw i)) rfl rfl (by omega) (by decide) hb1.1 dMo_isWord_49 ?_
            refine xz_icmp_ne hC (tgt := 57) (nI_toInt (by omega)) (nI_toInt (by omega)) (by decide) dMo_isWord_50 (fun h9 => ?_) (fun h9 => ?_)
            · skip
              refine xz_iconst hC (v := bI false) (by decide +kernel) dMo_isWord_57 ?_
              refine xz_istore_n hC (lc' := [(2, .int (bI false)), (3, .int (nI i)), (0, .ref mo), (1, .int (nI t))]) rfl (by decide) rfl dMo_isWord_58 ?_
              refine xz_iinc hC 1 (lc' := [(3, .int (nI (i + 1))), (2, .int (bI false)), (0, .ref mo), (1, .int (nI t))]) rfl (xn_inc _) (by decide) rfl dMo_isWord_59 ?_
              refine xz_goto hC (tgt := 21) (by decide) dMo_isWord_62 ?_
              exact ihlp6 _ (by omega) (i + 1) false (by omega) (xt_f (fun k => by have := k.2 i (by omega); omega)) rfl
            · skip
              refine xz_iconst hC (v := bI true) (by decide +kernel) dMo_isWord_53 ?_
              refine xz_goto hC (tgt := 58) (by decide) dMo_isWord_54 ?_
              refine xz_istore_n hC (lc' := [(2, .int (bI true)), (3, .int (nI i)), (0, .ref mo), (1, .int (nI t))]) rfl (by decide) rfl dMo_isWord_58 ?_
              refine xz_iinc hC 1 (lc' := [(3, .int (nI (i + 1))), (2, .int (bI true)), (0, .ref mo), (1, .int (nI t))]) rfl (xn_inc _) (by decide) rfl dMo_isWord_59 ?_
              refine xz_goto hC (tgt := 21) (by decide) dMo_isWord_62 ?_
              exact ihlp6 _ (by omega) (i + 1) true (by omega) (xt_t ⟨hst.1, lt_s hst.2 (by omega)⟩) rfl
    exact lp6 _ 0 true (by omega) (xt_t ⟨by omega, fun j hj => absurd hj (by omega)⟩) rfl
set_option maxHeartbeats 1000000 in
set_option maxRecDepth 100000 in
theorem mMo_intern (l : Launch) (D : va_G) (K : Nat → ClassId) (mo wo le lt pe st pt rr vl bo kp mb mw n o mg pa ma an lv : Nat) (Wo Le Lt : Nat → Int32) (ln : Nat → Nat) (Lw : Nat → Nat → Nat) (bw : Nat → Nat) (hmw : mw ≤ 24) (hmb : mb ≤ 6) (hW : xm_W Le Lt ln Lw mw) (hB : xm_B Wo bw mb) : xz_Met l D (tz K) yMo_intern cMo_intern 2 (some .int) { frames := 1, cells := 0, slots := 0, locals := 23 } [.ref mo] [(mo, .inr (6, [.int (nI mb), .ref wo, .int (nI mw), .ref le, .ref lt, .int (nI n), .ref pe, .int (nI o), .ref st, .int (nI mg), .int (nI pa), .ref pt, .int (nI ma), .ref rr, .ref vl, .ref bo, .int (nI an), .ref kp, .int (nI lv)])), (wo, .inl (K 2, 6, .inl Wo)), (le, .inl (K 0, 24, .inl Le)), (lt, .inl (K 2, 144, .inl Lt))] (fun v w => (mb = 0 ∧ v = some (.int (-1)) ∧ w = [(mo, .inr (6, [.int (nI mb), .ref wo, .int (nI mw), .ref le, .ref lt, .int (nI n), .ref pe, .int (nI o), .ref st, .int (nI mg), .int (nI pa), .ref pt, .int (nI ma), .ref rr, .ref vl, .ref bo, .int (nI an), .ref kp, .int (nI lv)])), (wo, .inl (K 2, 6, .inl Wo)), (le, .inl (K 0, 24, .inl Le)), (lt, .inl (K 2, 144, .inl Lt))]) ∨ (0 < mb ∧ ∃ i, i < mw ∧ v = some (.int (nI i)) ∧ w = [(mo, .inr (6, [.int (nI 0), .ref wo, .int (nI mw), .ref le, .ref lt, .int (nI n), .ref pe, .int (nI o), .ref st, .int (nI mg), .int (nI pa), .ref pt, .int (nI ma), .ref rr, .ref vl, .ref bo, .int (nI an), .ref kp, .int (nI lv)])), (wo, .inl (K 2, 6, .inl Wo)), (le, .inl (K 0, 24, .inl Le)), (lt, .inl (K 2, 144, .inl Lt))] ∧ xm_eq ln Lw bw mb i ∧ ∀ j, j < i → ¬ xm_eq ln Lw bw mb j) ∨ (0 < mb ∧ mw = 24 ∧ v = some (.int (-2)) ∧ w = [(mo, .inr (6, [.int (nI mb), .ref wo, .int (nI mw), .ref le, .ref lt, .int (nI n), .ref pe, .int (nI o), .ref st, .int (nI mg), .int (nI pa), .ref pt, .int (nI ma), .ref rr, .ref vl, .ref bo, .int (nI an), .ref kp, .int (nI lv)])), (wo, .inl (K 2, 6, .inl Wo)), (le, .inl (K 0, 24, .inl Le)), (lt, .inl (K 2, 144, .inl Lt))] ∧ ∀ j, j < mw → ¬ xm_eq ln Lw bw mb j) ∨ (0 < mb ∧ mw < 24 ∧ v = some (.int (nI mw)) ∧ (∃ Lt' : Nat → Int32, w = [(mo, .inr (6, [.int (nI 0), .ref wo, .int (nI (mw + 1)), .ref le, .ref lt, .int (nI n), .ref pe, .int (nI o), .ref st, .int (nI mg), .int (nI pa), .ref pt, .int (nI ma), .ref rr, .ref vl, .ref bo, .int (nI an), .ref kp, .int (nI lv)])), (wo, .inl (K 2, 6, .inl Wo)), (le, .inl (K 0, 24, .inl (upd Le mw (nI mb)))), (lt, .inl (K 2, 144, .inl Lt'))] ∧ (∀ j, j < mb → Lt' (6 * mw + j) = nI (bw j)) ∧ ∀ j, j < 6 * mw → Lt' j = Lt j) ∧ ∀ j, j < mw → ¬ xm_eq ln Lw bw mb j)) := by
  refine xz_enter (by decide +kernel) (Nat.le_of_ble_eq_true rfl) ?_
  intro Γ hC
  refine xz_lcs (lc' := [(0, .ref mo)]) [0] rfl ?_
  refine xz_aload_n hC 0 rfl rfl dMo_intern_0 ?_
  refine xz_get hC 0 rfl rfl 0 (by decide) inMo tq429 rfl rfl dMo_intern_1 ?_
  refine xz_if_ne hC (tgt := 9) (nI_toInt (by omega)) (by decide) dMo_intern_4 (fun h1 => ?_) (fun h1 => ?_)
  · skip
    refine xz_iconst hC (v := nI 0) (by decide +kernel) dMo_intern_9 ?_
    refine xz_istore_n hC (lc' := [(1, .int (nI 0)), (0, .ref mo)]) rfl (by decide) rfl dMo_intern_10 ?_
    have lp2 : ∀ (NNlp2 : Nat) (i : Nat), i ≤ mw → (∀ j, j < i → ¬ xm_eq ln Lw bw mb j) → mw - i = NNlp2 → xz_X Γ 0 0 [(mo, .inr (6, [.int (nI mb), .ref wo, .int (nI mw), .ref le, .ref lt, .int (nI n), .ref pe, .int (nI o), .ref st, .int (nI mg), .int (nI pa), .ref pt, .int (nI ma), .ref rr, .ref vl, .ref bo, .int (nI an), .ref kp, .int (nI lv)])), (wo, .inl (K 2, 6, .inl Wo)), (le, .inl (K 0, 24, .inl Le)), (lt, .inl (K 2, 144, .inl Lt))] 11 [(1, .int (nI i)), (0, .ref mo)] [] := by
      intro NNlp2
      induction NNlp2 using Nat.strongRecOn with
      | _ NNlp2 ihlp2 =>
        intro i  hi hne hNNlp2
        refine xz_iload_n hC 0 rfl rfl dMo_intern_11 ?_
        refine xz_aload_n hC 1 rfl rfl dMo_intern_12 ?_
        refine xz_get hC 0 rfl rfl 2 (by decide) inMo tq431 rfl rfl dMo_intern_13 ?_
        refine xz_icmp_ge hC (tgt := 40) (nI_toInt (by omega)) (nI_toInt (by omega)) (by decide) dMo_intern_16 (fun h3 => ?_) (fun h3 => ?_)
        · skip
          refine xz_aload_n hC 1 rfl rfl dMo_intern_40 ?_
          refine xz_get hC 0 rfl rfl 2 (by decide) inMo tq431 rfl rfl dMo_intern_41 ?_
          refine xz_bipush hC (v := nI 24) (by decide +kernel) dMo_intern_44 ?_
          refine xz_icmp_ne hC (tgt := 52) (nI_toInt (by omega)) (nI_toInt (by omega)) (by decide) dMo_intern_46 (fun h4 => ?_) (fun h4 => ?_)
          · skip
            refine xz_iconst hC (v := nI 0) (by decide +kernel) dMo_intern_52 ?_
            refine xz_istore_n hC (lc' := [(1, .int (nI 0)), (0, .ref mo)]) rfl (by decide) rfl dMo_intern_53 ?_
            have lp5 : ∀ (NNlp5 : Nat) (k : Nat) (Lt' : Nat → Int32), k ≤ mb → (∀ j, j < k → Lt' (6 * mw + j) = nI (bw j)) → (∀ j, j < 6 * mw → Lt' j = Lt j) → mb - k = NNlp5 → xz_X Γ 0 0 [(mo, .inr (6, [.int (nI mb), .ref wo, .int (nI mw), .ref le, .ref lt, .int (nI n), .ref pe, .int (nI o), .ref st, .int (nI mg), .int (nI pa), .ref pt, .int (nI ma), .ref rr, .ref vl, .ref bo, .int (nI an), .ref kp, .int (nI lv)])), (wo, .inl (K 2, 6, .inl Wo)), (le, .inl (K 0, 24, .inl Le)), (lt, .inl (K 2, 144, .inl Lt'))] 54 [(1, .int (nI k)), (0, .ref mo)] [] := by
              intro NNlp5
              induction NNlp5 using Nat.strongRecOn with
              | _ NNlp5 ihlp5 =>
                intro k  Lt'  hk hnew hold hNNlp5
                refine xz_iload_n hC 0 rfl rfl dMo_intern_54 ?_
                refine xz_aload_n hC 1 rfl rfl dMo_intern_55 ?_
                refine xz_get hC 0 rfl rfl 0 (by decide) inMo tq429 rfl rfl dMo_intern_56 ?_
                refine xz_icmp_ge hC (tgt := 88) (nI_toInt (by omega)) (nI_toInt (by omega)) (by decide) dMo_intern_59 (fun h6 => ?_) (fun h6 => ?_)
                · skip
                  refine xz_aload_n hC 1 rfl rfl dMo_intern_88 ?_
                  refine xz_get hC 0 rfl rfl 3 (by decide) inMo tq432 rfl rfl dMo_intern_89 ?_
                  refine xz_aload_n hC 1 rfl rfl dMo_intern_92 ?_
                  refine xz_get hC 0 rfl rfl 2 (by decide) inMo tq431 rfl rfl dMo_intern_93 ?_
                  refine xz_aload_n hC 1 rfl rfl dMo_intern_96 ?_
                  refine xz_get hC 0 rfl rfl 0 (by decide) inMo tq429 rfl rfl dMo_intern_97 ?_
                  refine xz_iastore hC 2 0 (ws' := [(mo, .inr (6, [.int (nI mb), .ref wo, .int (nI mw), .ref le, .ref lt, .int (nI n), .ref pe, .int (nI o), .ref st, .int (nI mg), .int (nI pa), .ref pt, .int (nI ma), .ref rr, .ref vl, .ref bo, .int (nI an), .ref kp, .int (nI lv)])), (wo, .inl (K 2, 6, .inl Wo)), (le, .inl (K 0, 24, .inl (upd Le mw (nI mb)))), (lt, .inl (K 2, 144, .inl Lt'))]) rfl rfl (by omega) (by decide) rfl dMo_intern_100 ?_
                  refine xz_aload_n hC 1 rfl rfl dMo_intern_101 ?_
                  refine xz_iconst hC (v := nI 0) (by decide +kernel) dMo_intern_102 ?_
                  refine xz_put hC 0 rfl rfl 0 (by decide) inMo tq429 rfl tyMo tyMo_ok nmMo rfl rfl rfl (Nat.le_of_ble_eq_true rfl) (ws' := [(mo, .inr (6, [.int (nI 0), .ref wo, .int (nI mw), .ref le, .ref lt, .int (nI n), .ref pe, .int (nI o), .ref st, .int (nI mg), .int (nI pa), .ref pt, .int (nI ma), .ref rr, .ref vl, .ref bo, .int (nI an), .ref kp, .int (nI lv)])), (wo, .inl (K 2, 6, .inl Wo)), (le, .inl (K 0, 24, .inl (upd Le mw (nI mb)))), (lt, .inl (K 2, 144, .inl Lt'))]) rfl dMo_intern_103 ?_
                  refine xz_aload_n hC 1 rfl rfl dMo_intern_106 ?_
                  refine xz_dup hC rfl dMo_intern_107 ?_
                  refine xz_get hC 0 rfl rfl 2 (by decide) inMo tq431 rfl rfl dMo_intern_108 ?_
                  refine xz_iconst hC (v := nI 1) (by decide +kernel) dMo_intern_111 ?_
                  refine xz_iadd hC (z := nI (mw + 1)) (nI_add _ _) dMo_intern_112 ?_
                  refine xz_put hC 0 rfl rfl 2 (by decide) inMo tq431 rfl tyMo tyMo_ok nmMo rfl rfl rfl (Nat.le_of_ble_eq_true rfl) (ws' := [(mo, .inr (6, [.int (nI 0), .ref wo, .int (nI (mw + 1)), .ref le, .ref lt, .int (nI n), .ref pe, .int (nI o), .ref st, .int (nI mg), .int (nI pa), .ref pt, .int (nI ma), .ref rr, .ref vl, .ref bo, .int (nI an), .ref kp, .int (nI lv)])), (wo, .inl (K 2, 6, .inl Wo)), (le, .inl (K 0, 24, .inl (upd Le mw (nI mb)))), (lt, .inl (K 2, 144, .inl Lt'))]) rfl dMo_intern_113 ?_
                  refine xz_aload_n hC 1 rfl rfl dMo_intern_116 ?_
                  refine xz_get hC 0 rfl rfl 2 (by decide) inMo tq431 rfl rfl dMo_intern_117 ?_
                  refine xz_iconst hC (v := nI 1) (by decide +kernel) dMo_intern_120 ?_
                  refine xz_isub hC (z := nI mw) ((pk_sub (by omega)).trans (congrArg nI (by omega))) dMo_intern_121 ?_
                  exact xz_ireturn hC (by decide) (by decide) (Or.inr (Or.inr (Or.inr ⟨by omega, by omega, rfl, ⟨Lt', rfl, fun j hj => hnew j (by omega), hold⟩, fun j hj => hne j (by omega)⟩))) dMo_intern_122
                · skip
                  have hb1 := hB k (by omega)
                  refine xz_aload_n hC 1 rfl rfl dMo_intern_62 ?_
                  refine xz_get hC 0 rfl rfl 4 (by decide) inMo tq433 rfl rfl dMo_intern_63 ?_
                  refine xz_bipush hC (v := nI 6) (by decide +kernel) dMo_intern_66 ?_
                  refine xz_aload_n hC 1 rfl rfl dMo_intern_68 ?_
                  refine xz_get hC 0 rfl rfl 2 (by decide) inMo tq431 rfl rfl dMo_intern_69 ?_
                  refine xz_imul hC (z := nI (6 * mw)) (pk_mul _ _) dMo_intern_72 ?_
                  refine xz_iload_n hC 0 rfl rfl dMo_intern_73 ?_
                  refine xz_iadd hC (z := nI (6 * mw + k)) (nI_add _ _) dMo_intern_74 ?_
                  refine xz_aload_n hC 1 rfl rfl dMo_intern_75 ?_
                  refine xz_get hC 0 rfl rfl 1 (by decide) inMo tq430 rfl rfl dMo_intern_76 ?_
                  refine xz_iload_n hC 0 rfl rfl dMo_intern_79 ?_
                  refine xz_caload hC 1 2 (v := nI (bw k)) rfl rfl (by omega) (by decide) hb1.1 dMo_intern_80 ?_
                  refine xz_castore hC 3 2 (ws' := [(mo, .inr (6, [.int (nI mb), .ref wo, .int (nI mw), .ref le, .ref lt, .int (nI n), .ref pe, .int (nI o), .ref st, .int (nI mg), .int (nI pa), .ref pt, .int (nI ma), .ref rr, .ref vl, .ref bo, .int (nI an), .ref kp, .int (nI lv)])), (wo, .inl (K 2, 6, .inl Wo)), (le, .inl (K 0, 24, .inl Le)), (lt, .inl (K 2, 144, .inl (upd Lt' (6 * mw + k) (nI (bw k)))))]) rfl rfl (by omega) (by decide) (xn_char (by omega)) rfl dMo_intern_81 ?_
                  refine xz_iinc hC 0 (lc' := [(1, .int (nI (k + 1))), (0, .ref mo)]) rfl (xn_inc _) (by decide) rfl dMo_intern_82 ?_
                  refine xz_goto hC (tgt := 54) (by decide) dMo_intern_85 ?_
                  exact ihlp5 _ (by omega) (k + 1) (upd Lt' (6 * mw + k) (nI (bw k))) (by omega) (fun j hj => by by_cases z : j = k; (rw [z, pk_us]); (rw [pk_un (by omega)]; exact hnew j (by omega))) (fun j hj => by rw [pk_un (by omega)]; exact hold j hj) rfl
            exact lp5 _ 0 Lt (by omega) (fun j hj => absurd hj (by omega)) (fun j _ => rfl) rfl
          · skip
            refine xz_bipush hC (v := (-2)) (by decide +kernel) dMo_intern_49 ?_
            exact xz_ireturn hC (by decide) (by decide) (Or.inr (Or.inr (Or.inl ⟨by omega, by omega, rfl, rfl, fun j hj => hne j (by omega)⟩))) dMo_intern_51
        · skip
          refine xz_aload_n hC 1 rfl rfl dMo_intern_19 ?_
          refine xz_iload_n hC 0 rfl rfl dMo_intern_20 ?_
          refine xz_callV hC (mMo_isWord l D K mo wo le lt pe st pt rr vl bo kp mb mw n o mg pa ma an lv Wo Le Lt ln Lw bw i hmw hmb hW hB (by omega)) kMo_isWord tq7 tq497 tq499 tp16 0 6 rfl rfl rfl (host := "") hMo_isWord (by decide) [0, 1, 2, 3] [] (by decide) rfl (wr := []) rfl (by decide) (by decide) (As := [.int (nI i)]) (rest := []) rfl rfl (Nat.le_of_ble_eq_true rfl) (by decide) dMo_intern_21 (fun v w hq => ?_)
          obtain ⟨b, rfl, rfl, hb⟩ := hq
          refine xz_ste (st' := [.int (bI b)]) rfl ?_
          refine xz_wss (ws' := [(mo, .inr (6, [.int (nI mb), .ref wo, .int (nI mw), .ref le, .ref lt, .int (nI n), .ref pe, .int (nI o), .ref st, .int (nI mg), .int (nI pa), .ref pt, .int (nI ma), .ref rr, .ref vl, .ref bo, .int (nI an), .ref kp, .int (nI lv)])), (wo, .inl (K 2, 6, .inl Wo)), (le, .inl (K 0, 24, .inl Le)), (lt, .inl (K 2, 144, .inl Lt))]) [0, 1, 2, 3] (by decide) rfl rfl ?_
          refine xz_ifb_eq hC (tgt := 34) (by decide) dMo_intern_24 (fun h7 => ?_) (fun h7 => ?_)
          · skip
            have hnow : ¬ xm_eq ln Lw bw mb i := fun k => absurd (hb.mpr k) (by rw [h7]; decide)
            refine xz_iinc hC 0 (lc' := [(1, .int (nI (i + 1))), (0, .ref mo)]) rfl (xn_inc _) (by decide) rfl dMo_intern_34 ?_
            refine xz_goto hC (tgt := 11) (by decide) dMo_intern_37 ?_
            exact ihlp2 _ (by omega) (i + 1) (by omega) (lt_s hne hnow) rfl
          · skip
            have hyes := hb.mp h7
            refine xz_aload_n hC 1 rfl rfl dMo_intern_27 ?_
            refine xz_iconst hC (v := nI 0) (by decide +kernel) dMo_intern_28 ?_
            refine xz_put hC 0 rfl rfl 0 (by decide) inMo tq429 rfl tyMo tyMo_ok nmMo rfl rfl rfl (Nat.le_of_ble_eq_true rfl) (ws' := [(mo, .inr (6, [.int (nI 0), .ref wo, .int (nI mw), .ref le, .ref lt, .int (nI n), .ref pe, .int (nI o), .ref st, .int (nI mg), .int (nI pa), .ref pt, .int (nI ma), .ref rr, .ref vl, .ref bo, .int (nI an), .ref kp, .int (nI lv)])), (wo, .inl (K 2, 6, .inl Wo)), (le, .inl (K 0, 24, .inl Le)), (lt, .inl (K 2, 144, .inl Lt))]) rfl dMo_intern_29 ?_
            refine xz_iload_n hC 0 rfl rfl dMo_intern_32 ?_
            exact xz_ireturn hC (by decide) (by decide) (Or.inr (Or.inl ⟨by omega, i, by omega, rfl, rfl, hyes, hne⟩)) dMo_intern_33
    exact lp2 _ 0 (by omega) (fun j hj => absurd hj (by omega)) rfl
  · skip
    refine xz_iconst hC (v := (-1)) (by decide +kernel) dMo_intern_7 ?_
    exact xz_ireturn hC (by decide) (by decide) (Or.inl ⟨by omega, rfl, rfl⟩) dMo_intern_8
set_option maxHeartbeats 1000000 in
set_option maxRecDepth 100000 in
theorem mMo_words (l : Launch) (D : va_G) (K : Nat → ClassId) (mo wo le lt pe st pt rr vl bo kp mb mw n o mg pa ma an lv : Nat)  : xz_Met l D (tz K) yMo_words cMo_words 1 (some .int) { frames := 0, cells := 0, slots := 0, locals := 0 } [.ref mo] [(mo, .inr (6, [.int (nI mb), .ref wo, .int (nI mw), .ref le, .ref lt, .int (nI n), .ref pe, .int (nI o), .ref st, .int (nI mg), .int (nI pa), .ref pt, .int (nI ma), .ref rr, .ref vl, .ref bo, .int (nI an), .ref kp, .int (nI lv)]))] (fun v w => v = some (.int (nI mw)) ∧ w = [(mo, .inr (6, [.int (nI mb), .ref wo, .int (nI mw), .ref le, .ref lt, .int (nI n), .ref pe, .int (nI o), .ref st, .int (nI mg), .int (nI pa), .ref pt, .int (nI ma), .ref rr, .ref vl, .ref bo, .int (nI an), .ref kp, .int (nI lv)]))]) := by
  refine xz_enter (by decide +kernel) (Nat.le_of_ble_eq_true rfl) ?_
  intro Γ hC
  refine xz_lcs (lc' := [(0, .ref mo)]) [0] rfl ?_
  refine xz_aload_n hC 0 rfl rfl dMo_words_0 ?_
  refine xz_get hC 0 rfl rfl 2 (by decide) inMo tq431 rfl rfl dMo_words_1 ?_
  exact xz_ireturn hC (by decide) (by decide) (⟨rfl, rfl⟩) dMo_words_4
set_option maxHeartbeats 1000000 in
set_option maxRecDepth 100000 in
theorem mMo_spell (l : Launch) (D : va_G) (K : Nat → ClassId) (mo wo le lt pe st pt rr vl bo kp mb mw n o mg pa ma an lv : Nat) (Le Lt : Nat → Int32) (ln : Nat → Nat) (Lw : Nat → Nat → Nat) (x y : Int32) (hmw : mw ≤ 24) (hW : xm_W Le Lt ln Lw mw) : xz_Met l D (tz K) yMo_spell cMo_spell 3 (some .int) { frames := 0, cells := 0, slots := 0, locals := 0 } [.ref mo, .int x, .int y] [(mo, .inr (6, [.int (nI mb), .ref wo, .int (nI mw), .ref le, .ref lt, .int (nI n), .ref pe, .int (nI o), .ref st, .int (nI mg), .int (nI pa), .ref pt, .int (nI ma), .ref rr, .ref vl, .ref bo, .int (nI an), .ref kp, .int (nI lv)])), (le, .inl (K 0, 24, .inl Le)), (lt, .inl (K 2, 144, .inl Lt))] (fun v w => w = [(mo, .inr (6, [.int (nI mb), .ref wo, .int (nI mw), .ref le, .ref lt, .int (nI n), .ref pe, .int (nI o), .ref st, .int (nI mg), .int (nI pa), .ref pt, .int (nI ma), .ref rr, .ref vl, .ref bo, .int (nI an), .ref kp, .int (nI lv)])), (le, .inl (K 0, 24, .inl Le)), (lt, .inl (K 2, 144, .inl Lt))] ∧ (((0 ≤ x.toInt ∧ x.toInt < mw ∧ 0 ≤ y.toInt ∧ y.toInt < ln (xi x)) ∧ v = some (.int (nI (Lw (xi x) (xi y))))) ∨ (¬ (0 ≤ x.toInt ∧ x.toInt < mw ∧ 0 ≤ y.toInt ∧ y.toInt < ln (xi x)) ∧ v = some (.int (-1))))) := by
  refine xz_enter (by decide +kernel) (Nat.le_of_ble_eq_true rfl) ?_
  intro Γ hC
  refine xz_lcs (lc' := [(0, .ref mo), (1, .int x), (2, .int y)]) [0, 1, 2] rfl ?_
  refine xz_iload_n hC 1 rfl rfl dMo_spell_0 ?_
  refine xz_if_lt hC (tgt := 26) rfl (by decide) dMo_spell_1 (fun h1 => ?_) (fun h1 => ?_)
  · skip
    refine xz_iconst hC (v := (-1)) (by decide +kernel) dMo_spell_26 ?_
    refine xz_goto hC (tgt := 41) (by decide) dMo_spell_27 ?_
    exact xz_ireturn hC (by decide) (by decide) (by first | exact ⟨rfl, Or.inl ⟨by rw [hxi]; omega, by rw [hxi, hyi]⟩⟩ | exact ⟨rfl, Or.inr ⟨by rw [hxi]; omega, rfl⟩⟩ | exact ⟨rfl, Or.inr ⟨by omega, rfl⟩⟩) dMo_spell_41
  · skip
    refine xz_iload_n hC 1 rfl rfl dMo_spell_4 ?_
    refine xz_aload_n hC 0 rfl rfl dMo_spell_5 ?_
    refine xz_get hC 0 rfl rfl 2 (by decide) inMo tq431 rfl rfl dMo_spell_6 ?_
    refine xz_icmp_ge hC (tgt := 26) rfl (nI_toInt (by omega)) (by decide) dMo_spell_9 (fun h2 => ?_) (fun h2 => ?_)
    · skip
      refine xz_iconst hC (v := (-1)) (by decide +kernel) dMo_spell_26 ?_
      refine xz_goto hC (tgt := 41) (by decide) dMo_spell_27 ?_
      exact xz_ireturn hC (by decide) (by decide) (by first | exact ⟨rfl, Or.inl ⟨by rw [hxi]; omega, by rw [hxi, hyi]⟩⟩ | exact ⟨rfl, Or.inr ⟨by rw [hxi]; omega, rfl⟩⟩ | exact ⟨rfl, Or.inr ⟨by omega, rfl⟩⟩) dMo_spell_41
    · skip
      obtain ⟨t, ht, rfl⟩ := xn_of (x := x) (n := mw) (by omega) (by omega)
      obtain ⟨ht1, ht2, ht3⟩ := hW t ht
      have hxt : (nI t).toInt = (t : Int) := nI_toInt (by omega)
      have hxi : xi (nI t) = t := xi_nI (by omega)
      refine xz_iload_n hC 2 rfl rfl dMo_spell_12 ?_
      refine xz_if_lt hC (tgt := 26) rfl (by decide) dMo_spell_13 (fun h3 => ?_) (fun h3 => ?_)
      · skip
        refine xz_iconst hC (v := (-1)) (by decide +kernel) dMo_spell_26 ?_
        refine xz_goto hC (tgt := 41) (by decide) dMo_spell_27 ?_
        exact xz_ireturn hC (by decide) (by decide) (by first | exact ⟨rfl, Or.inl ⟨by rw [hxi]; omega, by rw [hxi, hyi]⟩⟩ | exact ⟨rfl, Or.inr ⟨by rw [hxi]; omega, rfl⟩⟩ | exact ⟨rfl, Or.inr ⟨by omega, rfl⟩⟩) dMo_spell_41
      · skip
        refine xz_iload_n hC 2 rfl rfl dMo_spell_16 ?_
        refine xz_aload_n hC 0 rfl rfl dMo_spell_17 ?_
        refine xz_get hC 0 rfl rfl 3 (by decide) inMo tq432 rfl rfl dMo_spell_18 ?_
        refine xz_iload_n hC 1 rfl rfl dMo_spell_21 ?_
        refine xz_iaload hC 1 0 (v := nI (ln t)) rfl rfl (by omega) (by decide) ht1 dMo_spell_22 ?_
        refine xz_icmp_lt hC (tgt := 30) rfl (nI_toInt (by omega)) (by decide) dMo_spell_23 (fun h4 => ?_) (fun h4 => ?_)
        · skip
          obtain ⟨i, hi, rfl⟩ := xn_of (x := y) (n := ln t) (by omega) (by omega)
          have hyt : (nI i).toInt = (i : Int) := nI_toInt (by omega)
          have hyi : xi (nI i) = i := xi_nI (by omega)
          have hl1 := ht3 i hi
          refine xz_aload_n hC 0 rfl rfl dMo_spell_30 ?_
          refine xz_get hC 0 rfl rfl 4 (by decide) inMo tq433 rfl rfl dMo_spell_31 ?_
          refine xz_bipush hC (v := nI 6) (by decide +kernel) dMo_spell_34 ?_
          refine xz_iload_n hC 1 rfl rfl dMo_spell_36 ?_
          refine xz_imul hC (z := nI (6 * t)) (pk_mul _ _) dMo_spell_37 ?_
          refine xz_iload_n hC 2 rfl rfl dMo_spell_38 ?_
          refine xz_iadd hC (z := nI (6 * t + i)) (nI_add _ _) dMo_spell_39 ?_
          refine xz_caload hC 2 2 (v := nI (Lw t i)) rfl rfl (by omega) (by decide) hl1.1 dMo_spell_40 ?_
          exact xz_ireturn hC (by decide) (by decide) (by first | exact ⟨rfl, Or.inl ⟨by rw [hxi]; omega, by rw [hxi, hyi]⟩⟩ | exact ⟨rfl, Or.inr ⟨by rw [hxi]; omega, rfl⟩⟩ | exact ⟨rfl, Or.inr ⟨by omega, rfl⟩⟩) dMo_spell_41
        · skip
          refine xz_iconst hC (v := (-1)) (by decide +kernel) dMo_spell_26 ?_
          refine xz_goto hC (tgt := 41) (by decide) dMo_spell_27 ?_
          exact xz_ireturn hC (by decide) (by decide) (by first | exact ⟨rfl, Or.inl ⟨by rw [hxi]; omega, by rw [hxi, hyi]⟩⟩ | exact ⟨rfl, Or.inr ⟨by rw [hxi]; omega, rfl⟩⟩ | exact ⟨rfl, Or.inr ⟨by omega, rfl⟩⟩) dMo_spell_41
set_option maxHeartbeats 1000000 in
set_option maxRecDepth 100000 in
theorem mMo_term (l : Launch) (D : va_G) (K : Nat → ClassId) (mo wo le lt pe st pt rr vl bo kp mb mw n o mg pa ma an lv : Nat) (x : Int32) (hmw : mw ≤ 24) : xz_Met l D (tz K) yMo_term cMo_term 2 (some .boolean) { frames := 0, cells := 0, slots := 0, locals := 0 } [.ref mo, .int x] [(mo, .inr (6, [.int (nI mb), .ref wo, .int (nI mw), .ref le, .ref lt, .int (nI n), .ref pe, .int (nI o), .ref st, .int (nI mg), .int (nI pa), .ref pt, .int (nI ma), .ref rr, .ref vl, .ref bo, .int (nI an), .ref kp, .int (nI lv)]))] (fun v w => ∃ b : Bool, v = some (.int (bI b)) ∧ w = [(mo, .inr (6, [.int (nI mb), .ref wo, .int (nI mw), .ref le, .ref lt, .int (nI n), .ref pe, .int (nI o), .ref st, .int (nI mg), .int (nI pa), .ref pt, .int (nI ma), .ref rr, .ref vl, .ref bo, .int (nI an), .ref kp, .int (nI lv)]))] ∧ (b = true ↔ (0 ≤ x.toInt ∧ x.toInt < mw))) := by
  refine xz_enter (by decide +kernel) (Nat.le_of_ble_eq_true rfl) ?_
  intro Γ hC
  refine xz_lcs (lc' := [(0, .ref mo), (1, .int x)]) [0, 1] rfl ?_
  refine xz_iload_n hC 1 rfl rfl dMo_term_0 ?_
  refine xz_if_lt hC (tgt := 16) rfl (by decide) dMo_term_1 (fun h1 => ?_) (fun h1 => ?_)
  · skip
    refine xz_iconst hC (v := bI false) (by decide +kernel) dMo_term_16 ?_
    exact xz_zreturn hC (by decide) (by decide) (⟨_, rfl, rfl, by first | exact xt_t (by omega) | exact xt_f (by omega)⟩) dMo_term_17
  · skip
    refine xz_iload_n hC 1 rfl rfl dMo_term_4 ?_
    refine xz_aload_n hC 0 rfl rfl dMo_term_5 ?_
    refine xz_get hC 0 rfl rfl 2 (by decide) inMo tq431 rfl rfl dMo_term_6 ?_
    refine xz_icmp_ge hC (tgt := 16) rfl (nI_toInt (by omega)) (by decide) dMo_term_9 (fun h2 => ?_) (fun h2 => ?_)
    · skip
      refine xz_iconst hC (v := bI false) (by decide +kernel) dMo_term_16 ?_
      exact xz_zreturn hC (by decide) (by decide) (⟨_, rfl, rfl, by first | exact xt_t (by omega) | exact xt_f (by omega)⟩) dMo_term_17
    · skip
      refine xz_iconst hC (v := bI true) (by decide +kernel) dMo_term_12 ?_
      refine xz_goto hC (tgt := 17) (by decide) dMo_term_13 ?_
      exact xz_zreturn hC (by decide) (by decide) (⟨_, rfl, rfl, by first | exact xt_t (by omega) | exact xt_f (by omega)⟩) dMo_term_17
set_option maxHeartbeats 1000000 in
set_option maxRecDepth 100000 in
theorem mMo_code (l : Launch) (D : va_G) (K : Nat → ClassId) (a b c : Nat)  : xz_Met l D (tz K) yMo_code cMo_code 3 (some .int) { frames := 0, cells := 0, slots := 0, locals := 0 } [.int (nI a), .int (nI b), .int (nI c)] [] (fun v w => v = some (.int (nI (xk_cd a b c))) ∧ w = []) := by
  refine xz_enter (by decide +kernel) (Nat.le_of_ble_eq_true rfl) ?_
  intro Γ hC
  refine xz_lcs (lc' := [(0, .int (nI a)), (1, .int (nI b)), (2, .int (nI c))]) [0, 1, 2] rfl ?_
  refine xz_iload_n hC 0 rfl rfl dMo_code_0 ?_
  refine xz_bipush hC (v := nI 32) (by decide +kernel) dMo_code_1 ?_
  refine xz_imul hC (z := nI (a * 32)) (pk_mul _ _) dMo_code_3 ?_
  refine xz_iload_n hC 1 rfl rfl dMo_code_4 ?_
  refine xz_iadd hC (z := nI (a * 32 + b)) (nI_add _ _) dMo_code_5 ?_
  refine xz_bipush hC (v := nI 32) (by decide +kernel) dMo_code_6 ?_
  refine xz_imul hC (z := nI ((a * 32 + b) * 32)) (pk_mul _ _) dMo_code_8 ?_
  refine xz_iload_n hC 2 rfl rfl dMo_code_9 ?_
  refine xz_iadd hC (z := nI ((a * 32 + b) * 32 + c)) (nI_add _ _) dMo_code_10 ?_
  exact xz_ireturn hC (by decide) (by decide) (⟨by rw [xk_cd_m], rfl⟩) dMo_code_11
set_option maxHeartbeats 1000000 in
set_option maxRecDepth 100000 in
theorem mMo_place (l : Launch) (D : va_G) (K : Nat → ClassId) (mo wo le lt pe st pt rr vl bo kp mb mw n o mg pa ma an lv : Nat) (Pe : Nat → Int32) (p : Nat → Nat) (c : Nat) (hn : n ≤ 60) (hp : xo_og Pe p n) (hc : c < 32768) : xz_Met l D (tz K) yMo_place cMo_place 3 (some .int) { frames := 0, cells := 0, slots := 0, locals := 0 } [.ref mo, .int (nI c)] [(mo, .inr (6, [.int (nI mb), .ref wo, .int (nI mw), .ref le, .ref lt, .int (nI n), .ref pe, .int (nI o), .ref st, .int (nI mg), .int (nI pa), .ref pt, .int (nI ma), .ref rr, .ref vl, .ref bo, .int (nI an), .ref kp, .int (nI lv)])), (pe, .inl (K 0, 60, .inl Pe))] (fun v w => (∃ k, k < n ∧ v = some (.int (nI k)) ∧ w = [(mo, .inr (6, [.int (nI mb), .ref wo, .int (nI mw), .ref le, .ref lt, .int (nI n), .ref pe, .int (nI o), .ref st, .int (nI mg), .int (nI pa), .ref pt, .int (nI ma), .ref rr, .ref vl, .ref bo, .int (nI an), .ref kp, .int (nI lv)])), (pe, .inl (K 0, 60, .inl Pe))] ∧ p k = c) ∨ (v = some (.int (-1)) ∧ w = [(mo, .inr (6, [.int (nI mb), .ref wo, .int (nI mw), .ref le, .ref lt, .int (nI n), .ref pe, .int (nI o), .ref st, .int (nI mg), .int (nI pa), .ref pt, .int (nI ma), .ref rr, .ref vl, .ref bo, .int (nI an), .ref kp, .int (nI lv)])), (pe, .inl (K 0, 60, .inl Pe))] ∧ ¬ xo_mem p n c)) := by
  refine xz_enter (by decide +kernel) (Nat.le_of_ble_eq_true rfl) ?_
  intro Γ hC
  refine xz_lcs (lc' := [(0, .ref mo), (1, .int (nI c))]) [0, 1] rfl ?_
  refine xz_iconst hC (v := nI 0) (by decide +kernel) dMo_place_0 ?_
  refine xz_istore_n hC (lc' := [(2, .int (nI 0)), (0, .ref mo), (1, .int (nI c))]) rfl (by decide) rfl dMo_place_1 ?_
  have lp1 : ∀ (NNlp1 : Nat) (i : Nat), i ≤ n → (∀ j, j < i → p j ≠ c) → n - i = NNlp1 → xz_X Γ 0 0 [(mo, .inr (6, [.int (nI mb), .ref wo, .int (nI mw), .ref le, .ref lt, .int (nI n), .ref pe, .int (nI o), .ref st, .int (nI mg), .int (nI pa), .ref pt, .int (nI ma), .ref rr, .ref vl, .ref bo, .int (nI an), .ref kp, .int (nI lv)])), (pe, .inl (K 0, 60, .inl Pe))] 2 [(2, .int (nI i)), (0, .ref mo), (1, .int (nI c))] [] := by
    intro NNlp1
    induction NNlp1 using Nat.strongRecOn with
    | _ NNlp1 ihlp1 =>
      intro i  hi hne hNNlp1
      refine xz_iload_n hC 0 rfl rfl dMo_place_2 ?_
      refine xz_aload_n hC 1 rfl rfl dMo_place_3 ?_
      refine xz_get hC 0 rfl rfl 5 (by decide) inMo tq434 rfl rfl dMo_place_4 ?_
      refine xz_icmp_ge hC (tgt := 28) (nI_toInt (by omega)) (nI_toInt (by omega)) (by decide) dMo_place_7 (fun h2 => ?_) (fun h2 => ?_)
      · skip
        refine xz_iconst hC (v := (-1)) (by decide +kernel) dMo_place_28 ?_
        exact xz_ireturn hC (by decide) (by decide) (Or.inr ⟨rfl, rfl, fun ⟨j, hj, e⟩ => hne j (by omega) e⟩) dMo_place_29
      · skip
        have hpi := (hp i (by omega)).2
        refine xz_aload_n hC 1 rfl rfl dMo_place_10 ?_
        refine xz_get hC 0 rfl rfl 6 (by decide) inMo tq435 rfl rfl dMo_place_11 ?_
        refine xz_iload_n hC 0 rfl rfl dMo_place_14 ?_
        refine xz_iaload hC 1 0 (v := nI (p i)) rfl rfl (by omega) (by decide) (hp i (by omega)).1 dMo_place_15 ?_
        refine xz_iload_n hC 2 rfl rfl dMo_place_16 ?_
        refine xz_icmp_ne hC (tgt := 22) (nI_toInt (by omega)) (nI_toInt (by omega)) (by decide) dMo_place_17 (fun h3 => ?_) (fun h3 => ?_)
        · skip
          refine xz_iinc hC 0 (lc' := [(2, .int (nI (i + 1))), (0, .ref mo), (1, .int (nI c))]) rfl (xn_inc _) (by decide) rfl dMo_place_22 ?_
          refine xz_goto hC (tgt := 2) (by decide) dMo_place_25 ?_
          exact ihlp1 _ (by omega) (i + 1) (by omega) (lt_s hne (by omega)) rfl
        · skip
          refine xz_iload_n hC 0 rfl rfl dMo_place_20 ?_
          exact xz_ireturn hC (by decide) (by decide) (Or.inl ⟨i, by omega, rfl, rfl, by omega⟩) dMo_place_21
  exact lp1 _ 0 (by omega) (fun j hj => absurd hj (by omega)) rfl
set_option maxHeartbeats 1000000 in
set_option maxRecDepth 100000 in
theorem mMo_wasSettled (l : Launch) (D : va_G) (K : Nat → ClassId) (mo wo le lt pe st pt rr vl bo kp mb mw n o mg pa ma an lv : Nat) (St : Nat → Int32) (s0 : Nat → Nat) (c : Nat) (ho : o ≤ 60) (hs : xo_og St s0 o) (hc : c < 32768) : xz_Met l D (tz K) yMo_wasSettled cMo_wasSettled 4 (some .boolean) { frames := 0, cells := 0, slots := 0, locals := 0 } [.ref mo, .int (nI c)] [(mo, .inr (6, [.int (nI mb), .ref wo, .int (nI mw), .ref le, .ref lt, .int (nI n), .ref pe, .int (nI o), .ref st, .int (nI mg), .int (nI pa), .ref pt, .int (nI ma), .ref rr, .ref vl, .ref bo, .int (nI an), .ref kp, .int (nI lv)])), (st, .inl (K 0, 60, .inl St))] (fun v w => ∃ b : Bool, v = some (.int (bI b)) ∧ w = [(mo, .inr (6, [.int (nI mb), .ref wo, .int (nI mw), .ref le, .ref lt, .int (nI n), .ref pe, .int (nI o), .ref st, .int (nI mg), .int (nI pa), .ref pt, .int (nI ma), .ref rr, .ref vl, .ref bo, .int (nI an), .ref kp, .int (nI lv)])), (st, .inl (K 0, 60, .inl St))] ∧ (b = true ↔ xo_mem s0 o c)) := by
  refine xz_enter (by decide +kernel) (Nat.le_of_ble_eq_true rfl) ?_
  intro Γ hC
  refine xz_lcs (lc' := [(0, .ref mo), (1, .int (nI c))]) [0, 1] rfl ?_
  refine xz_iconst hC (v := bI false) (by decide +kernel) dMo_wasSettled_0 ?_
  refine xz_istore_n hC (lc' := [(2, .int (bI false)), (0, .ref mo), (1, .int (nI c))]) rfl (by decide) rfl dMo_wasSettled_1 ?_
  refine xz_iconst hC (v := nI 0) (by decide +kernel) dMo_wasSettled_2 ?_
  refine xz_istore_n hC (lc' := [(3, .int (nI 0)), (2, .int (bI false)), (0, .ref mo), (1, .int (nI c))]) rfl (by decide) rfl dMo_wasSettled_3 ?_
  have lp1 : ∀ (NNlp1 : Nat) (i : Nat) (b : Bool), i ≤ o → (b = true ↔ xo_mem s0 i c) → o - i = NNlp1 → xz_X Γ 0 0 [(mo, .inr (6, [.int (nI mb), .ref wo, .int (nI mw), .ref le, .ref lt, .int (nI n), .ref pe, .int (nI o), .ref st, .int (nI mg), .int (nI pa), .ref pt, .int (nI ma), .ref rr, .ref vl, .ref bo, .int (nI an), .ref kp, .int (nI lv)])), (st, .inl (K 0, 60, .inl St))] 4 [(3, .int (nI i)), (2, .int (bI b)), (0, .ref mo), (1, .int (nI c))] [] := by
    intro NNlp1
    induction NNlp1 using Nat.strongRecOn with
    | _ NNlp1 ihlp1 =>
      intro i  b  hi hb hNNlp1
      refine xz_iload_n hC 0 rfl rfl dMo_wasSettled_4 ?_
      refine xz_aload_n hC 2 rfl rfl dMo_wasSettled_5 ?_
      refine xz_get hC 0 rfl rfl 7 (by decide) inMo tq436 rfl rfl dMo_wasSettled_6 ?_
      refine xz_icmp_ge hC (tgt := 38) (nI_toInt (by omega)) (nI_toInt (by omega)) (by decide) dMo_wasSettled_9 (fun h2 => ?_) (fun h2 => ?_)
      · skip
        refine xz_iload_n hC 1 rfl rfl dMo_wasSettled_38 ?_
        exact xz_zreturn hC (by decide) (by decide) (⟨b, rfl, rfl, by rw [hb, show i = o by omega]⟩) dMo_wasSettled_39
      · skip
        have hsi := (hs i (by omega)).2
        refine xz_iload_n hC 1 rfl rfl dMo_wasSettled_12 ?_
        refine xz_ifb_ne hC (tgt := 26) (by decide) dMo_wasSettled_13 (fun h3 => ?_) (fun h3 => ?_)
        · skip
          have hbt := h3
          refine xz_iconst hC (v := bI true) (by decide +kernel) dMo_wasSettled_26 ?_
          refine xz_goto hC (tgt := 31) (by decide) dMo_wasSettled_27 ?_
          refine xz_istore_n hC (lc' := [(2, .int (bI true)), (3, .int (nI i)), (0, .ref mo), (1, .int (nI c))]) rfl (by decide) rfl dMo_wasSettled_31 ?_
          refine xz_iinc hC 1 (lc' := [(3, .int (nI (i + 1))), (2, .int (bI true)), (0, .ref mo), (1, .int (nI c))]) rfl (xn_inc _) (by decide) rfl dMo_wasSettled_32 ?_
          refine xz_goto hC (tgt := 4) (by decide) dMo_wasSettled_35 ?_
          exact ihlp1 _ (by omega) (i + 1) true (by omega) (by first | exact xt_t ⟨i, by omega, by omega⟩ | exact xt_t (by obtain ⟨j, hj, e⟩ := hb.mp hbt; exact ⟨j, by omega, e⟩)) rfl
        · skip
          have hbf : ¬ xo_mem s0 i c := fun k => absurd (hb.mpr k) (by rw [h3]; decide)
          refine xz_aload_n hC 2 rfl rfl dMo_wasSettled_16 ?_
          refine xz_get hC 0 rfl rfl 8 (by decide) inMo tq437 rfl rfl dMo_wasSettled_17 ?_
          refine xz_iload_n hC 0 rfl rfl dMo_wasSettled_20 ?_
          refine xz_iaload hC 1 0 (v := nI (s0 i)) rfl rfl (by omega) (by decide) (hs i (by omega)).1 dMo_wasSettled_21 ?_
          refine xz_iload_n hC 3 rfl rfl dMo_wasSettled_22 ?_
          refine xz_icmp_ne hC (tgt := 30) (nI_toInt (by omega)) (nI_toInt (by omega)) (by decide) dMo_wasSettled_23 (fun h4 => ?_) (fun h4 => ?_)
          · skip
            refine xz_iconst hC (v := bI false) (by decide +kernel) dMo_wasSettled_30 ?_
            refine xz_istore_n hC (lc' := [(2, .int (bI false)), (3, .int (nI i)), (0, .ref mo), (1, .int (nI c))]) rfl (by decide) rfl dMo_wasSettled_31 ?_
            refine xz_iinc hC 1 (lc' := [(3, .int (nI (i + 1))), (2, .int (bI false)), (0, .ref mo), (1, .int (nI c))]) rfl (xn_inc _) (by decide) rfl dMo_wasSettled_32 ?_
            refine xz_goto hC (tgt := 4) (by decide) dMo_wasSettled_35 ?_
            exact ihlp1 _ (by omega) (i + 1) false (by omega) (xt_f (fun ⟨j, hj, e⟩ => by by_cases z : j = i; (rw [z] at e; omega); exact hbf ⟨j, by omega, e⟩)) rfl
          · skip
            refine xz_iconst hC (v := bI true) (by decide +kernel) dMo_wasSettled_26 ?_
            refine xz_goto hC (tgt := 31) (by decide) dMo_wasSettled_27 ?_
            refine xz_istore_n hC (lc' := [(2, .int (bI true)), (3, .int (nI i)), (0, .ref mo), (1, .int (nI c))]) rfl (by decide) rfl dMo_wasSettled_31 ?_
            refine xz_iinc hC 1 (lc' := [(3, .int (nI (i + 1))), (2, .int (bI true)), (0, .ref mo), (1, .int (nI c))]) rfl (xn_inc _) (by decide) rfl dMo_wasSettled_32 ?_
            refine xz_goto hC (tgt := 4) (by decide) dMo_wasSettled_35 ?_
            exact ihlp1 _ (by omega) (i + 1) true (by omega) (by first | exact xt_t ⟨i, by omega, by omega⟩ | exact xt_t (by obtain ⟨j, hj, e⟩ := hb.mp hbt; exact ⟨j, by omega, e⟩)) rfl
  exact lp1 _ 0 false (by omega) (xt_f (fun ⟨j, hj, e⟩ => by omega)) rfl
