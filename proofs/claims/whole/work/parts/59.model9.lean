set_option maxHeartbeats 1000000 in
set_option maxRecDepth 100000 in
theorem mMo_bind (l : Launch) (D : va_G) (K : Nat → ClassId) (mo wo le lt pe st pt rr vl bo kp mb mw n o mg pa ma an lv : Nat) (Rr Vl Bo : Nat → Int32) (r : Nat → Nat) (u b : Nat) (hmw : mw ≤ 24) (hu : u ≤ 3) (hb : b < 100000) (hmw1 : 0 < u → 0 < mw) (hr : xs_rw r u) (hrr : ∀ j, j < u → Rr j = nI (32 + r j)) : xz_Met l D (tz K) yMo_bind cMo_bind 5 none { frames := 0, cells := 0, slots := 0, locals := 0 } [.ref mo, .int (nI u), .int (nI b)] [(mo, .inr (6, [.int (nI mb), .ref wo, .int (nI mw), .ref le, .ref lt, .int (nI n), .ref pe, .int (nI o), .ref st, .int (nI mg), .int (nI pa), .ref pt, .int (nI ma), .ref rr, .ref vl, .ref bo, .int (nI an), .ref kp, .int (nI lv)])), (rr, .inl (K 0, 3, .inl Rr)), (vl, .inl (K 0, 3, .inl Vl)), (bo, .inl (K 3, 3, .inl Bo))] (fun v w => ∃ Vl' Bo' : Nat → Int32, v = none ∧ w = [(mo, .inr (6, [.int (nI mb), .ref wo, .int (nI mw), .ref le, .ref lt, .int (nI n), .ref pe, .int (nI o), .ref st, .int (nI mg), .int (nI pa), .ref pt, .int (nI ma), .ref rr, .ref vl, .ref bo, .int (nI an), .ref kp, .int (nI lv)])), (rr, .inl (K 0, 3, .inl Rr)), (vl, .inl (K 0, 3, .inl Vl')), (bo, .inl (K 3, 3, .inl Bo'))] ∧ xm_bo Bo' Vl' (xm_Bo r u) (xm_Vv r (xr_dg mw u b)) ∧ ∀ v, v < 3 → Vl' v = xq_vl r (xr_dg mw u b) v) := by
  refine xz_enter (by decide +kernel) (Nat.le_of_ble_eq_true rfl) ?_
  intro Γ hC
  refine xz_lcs (lc' := [(0, .ref mo), (1, .int (nI u)), (2, .int (nI b))]) [0, 1, 2] rfl ?_
  rcases (show u = 0 ∨ u = 1 ∨ u = 2 ∨ u = 3 by omega) with rfl | rfl | rfl | rfl
  · skip
    refine xz_iload_n hC 2 rfl rfl dMo_bind_0 ?_
    refine xz_istore_n hC (lc' := [(3, .int (nI b)), (0, .ref mo), (1, .int (nI 0)), (2, .int (nI b))]) rfl (by decide) rfl dMo_bind_1 ?_
    refine xz_iconst hC (v := nI 0) (by decide +kernel) dMo_bind_2 ?_
    refine xz_istore hC (lc' := [(4, .int (nI 0)), (3, .int (nI b)), (0, .ref mo), (1, .int (nI 0)), (2, .int (nI b))]) (by decide) rfl dMo_bind_3 ?_
    refine xz_iload hC 0 rfl dMo_bind_5 ?_
    refine xz_iconst hC (v := nI 3) (by decide +kernel) dMo_bind_7 ?_
    refine xz_icmp_ge hC (tgt := 33) (nI_toInt (by omega)) (nI_toInt (by omega)) (by decide) dMo_bind_8 (fun h1 => ?_) (fun h1 => ?_)
    · skip
      exfalso; omega
    · skip
      refine xz_aload_n hC 2 rfl rfl dMo_bind_11 ?_
      refine xz_get hC 0 rfl rfl 15 (by decide) inMo tq444 rfl rfl dMo_bind_12 ?_
      refine xz_iload hC 0 rfl dMo_bind_15 ?_
      refine xz_iconst hC (v := bI false) (by decide +kernel) dMo_bind_17 ?_
      refine xz_bastore hC 3 3 (ws' := [(mo, .inr (6, [.int (nI mb), .ref wo, .int (nI mw), .ref le, .ref lt, .int (nI n), .ref pe, .int (nI o), .ref st, .int (nI mg), .int (nI pa), .ref pt, .int (nI ma), .ref rr, .ref vl, .ref bo, .int (nI an), .ref kp, .int (nI lv)])), (rr, .inl (K 0, 3, .inl Rr)), (vl, .inl (K 0, 3, .inl Vl)), (bo, .inl (K 3, 3, .inl (upd Bo 0 (bI false))))]) rfl rfl (by decide) (by decide) (bI_v _) rfl dMo_bind_18 ?_
      refine xz_aload_n hC 2 rfl rfl dMo_bind_19 ?_
      refine xz_get hC 0 rfl rfl 14 (by decide) inMo tq443 rfl rfl dMo_bind_20 ?_
      refine xz_iload hC 0 rfl dMo_bind_23 ?_
      refine xz_iconst hC (v := (-1)) (by decide +kernel) dMo_bind_25 ?_
      refine xz_iastore hC 2 0 (ws' := [(mo, .inr (6, [.int (nI mb), .ref wo, .int (nI mw), .ref le, .ref lt, .int (nI n), .ref pe, .int (nI o), .ref st, .int (nI mg), .int (nI pa), .ref pt, .int (nI ma), .ref rr, .ref vl, .ref bo, .int (nI an), .ref kp, .int (nI lv)])), (rr, .inl (K 0, 3, .inl Rr)), (vl, .inl (K 0, 3, .inl (upd Vl 0 (-1)))), (bo, .inl (K 3, 3, .inl (upd Bo 0 (bI false))))]) rfl rfl (by decide) (by decide) rfl dMo_bind_26 ?_
      refine xz_iinc hC 0 (lc' := [(4, .int (nI 1)), (3, .int (nI b)), (0, .ref mo), (1, .int (nI 0)), (2, .int (nI b))]) rfl (xn_inc _) (by decide) rfl dMo_bind_27 ?_
      refine xz_goto hC (tgt := 5) (by decide) dMo_bind_30 ?_
      refine xz_iload hC 0 rfl dMo_bind_5 ?_
      refine xz_iconst hC (v := nI 3) (by decide +kernel) dMo_bind_7 ?_
      refine xz_icmp_ge hC (tgt := 33) (nI_toInt (by omega)) (nI_toInt (by omega)) (by decide) dMo_bind_8 (fun h2 => ?_) (fun h2 => ?_)
      · skip
        exfalso; omega
      · skip
        refine xz_aload_n hC 2 rfl rfl dMo_bind_11 ?_
        refine xz_get hC 0 rfl rfl 15 (by decide) inMo tq444 rfl rfl dMo_bind_12 ?_
        refine xz_iload hC 0 rfl dMo_bind_15 ?_
        refine xz_iconst hC (v := bI false) (by decide +kernel) dMo_bind_17 ?_
        refine xz_bastore hC 3 3 (ws' := [(mo, .inr (6, [.int (nI mb), .ref wo, .int (nI mw), .ref le, .ref lt, .int (nI n), .ref pe, .int (nI o), .ref st, .int (nI mg), .int (nI pa), .ref pt, .int (nI ma), .ref rr, .ref vl, .ref bo, .int (nI an), .ref kp, .int (nI lv)])), (rr, .inl (K 0, 3, .inl Rr)), (vl, .inl (K 0, 3, .inl (upd Vl 0 (-1)))), (bo, .inl (K 3, 3, .inl (upd (upd Bo 0 (bI false)) 1 (bI false))))]) rfl rfl (by decide) (by decide) (bI_v _) rfl dMo_bind_18 ?_
        refine xz_aload_n hC 2 rfl rfl dMo_bind_19 ?_
        refine xz_get hC 0 rfl rfl 14 (by decide) inMo tq443 rfl rfl dMo_bind_20 ?_
        refine xz_iload hC 0 rfl dMo_bind_23 ?_
        refine xz_iconst hC (v := (-1)) (by decide +kernel) dMo_bind_25 ?_
        refine xz_iastore hC 2 0 (ws' := [(mo, .inr (6, [.int (nI mb), .ref wo, .int (nI mw), .ref le, .ref lt, .int (nI n), .ref pe, .int (nI o), .ref st, .int (nI mg), .int (nI pa), .ref pt, .int (nI ma), .ref rr, .ref vl, .ref bo, .int (nI an), .ref kp, .int (nI lv)])), (rr, .inl (K 0, 3, .inl Rr)), (vl, .inl (K 0, 3, .inl (upd (upd Vl 0 (-1)) 1 (-1)))), (bo, .inl (K 3, 3, .inl (upd (upd Bo 0 (bI false)) 1 (bI false))))]) rfl rfl (by decide) (by decide) rfl dMo_bind_26 ?_
        refine xz_iinc hC 0 (lc' := [(4, .int (nI 2)), (3, .int (nI b)), (0, .ref mo), (1, .int (nI 0)), (2, .int (nI b))]) rfl (xn_inc _) (by decide) rfl dMo_bind_27 ?_
        refine xz_goto hC (tgt := 5) (by decide) dMo_bind_30 ?_
        refine xz_iload hC 0 rfl dMo_bind_5 ?_
        refine xz_iconst hC (v := nI 3) (by decide +kernel) dMo_bind_7 ?_
        refine xz_icmp_ge hC (tgt := 33) (nI_toInt (by omega)) (nI_toInt (by omega)) (by decide) dMo_bind_8 (fun h3 => ?_) (fun h3 => ?_)
        · skip
          exfalso; omega
        · skip
          refine xz_aload_n hC 2 rfl rfl dMo_bind_11 ?_
          refine xz_get hC 0 rfl rfl 15 (by decide) inMo tq444 rfl rfl dMo_bind_12 ?_
          refine xz_iload hC 0 rfl dMo_bind_15 ?_
          refine xz_iconst hC (v := bI false) (by decide +kernel) dMo_bind_17 ?_
          refine xz_bastore hC 3 3 (ws' := [(mo, .inr (6, [.int (nI mb), .ref wo, .int (nI mw), .ref le, .ref lt, .int (nI n), .ref pe, .int (nI o), .ref st, .int (nI mg), .int (nI pa), .ref pt, .int (nI ma), .ref rr, .ref vl, .ref bo, .int (nI an), .ref kp, .int (nI lv)])), (rr, .inl (K 0, 3, .inl Rr)), (vl, .inl (K 0, 3, .inl (upd (upd Vl 0 (-1)) 1 (-1)))), (bo, .inl (K 3, 3, .inl (upd (upd (upd Bo 0 (bI false)) 1 (bI false)) 2 (bI false))))]) rfl rfl (by decide) (by decide) (bI_v _) rfl dMo_bind_18 ?_
          refine xz_aload_n hC 2 rfl rfl dMo_bind_19 ?_
          refine xz_get hC 0 rfl rfl 14 (by decide) inMo tq443 rfl rfl dMo_bind_20 ?_
          refine xz_iload hC 0 rfl dMo_bind_23 ?_
          refine xz_iconst hC (v := (-1)) (by decide +kernel) dMo_bind_25 ?_
          refine xz_iastore hC 2 0 (ws' := [(mo, .inr (6, [.int (nI mb), .ref wo, .int (nI mw), .ref le, .ref lt, .int (nI n), .ref pe, .int (nI o), .ref st, .int (nI mg), .int (nI pa), .ref pt, .int (nI ma), .ref rr, .ref vl, .ref bo, .int (nI an), .ref kp, .int (nI lv)])), (rr, .inl (K 0, 3, .inl Rr)), (vl, .inl (K 0, 3, .inl (upd (upd (upd Vl 0 (-1)) 1 (-1)) 2 (-1)))), (bo, .inl (K 3, 3, .inl (upd (upd (upd Bo 0 (bI false)) 1 (bI false)) 2 (bI false))))]) rfl rfl (by decide) (by decide) rfl dMo_bind_26 ?_
          refine xz_iinc hC 0 (lc' := [(4, .int (nI 3)), (3, .int (nI b)), (0, .ref mo), (1, .int (nI 0)), (2, .int (nI b))]) rfl (xn_inc _) (by decide) rfl dMo_bind_27 ?_
          refine xz_goto hC (tgt := 5) (by decide) dMo_bind_30 ?_
          refine xz_iload hC 0 rfl dMo_bind_5 ?_
          refine xz_iconst hC (v := nI 3) (by decide +kernel) dMo_bind_7 ?_
          refine xz_icmp_ge hC (tgt := 33) (nI_toInt (by omega)) (nI_toInt (by omega)) (by decide) dMo_bind_8 (fun h4 => ?_) (fun h4 => ?_)
          · skip
            refine xz_iload_n hC 3 rfl rfl dMo_bind_33 ?_
            refine xz_iconst hC (v := nI 1) (by decide +kernel) dMo_bind_34 ?_
            refine xz_isub hC (z := -1) (by decide +kernel) dMo_bind_35 ?_
            refine xz_istore hC (lc' := [(4, .int (-1)), (3, .int (nI b)), (0, .ref mo), (1, .int (nI 0)), (2, .int (nI b))]) (by decide) rfl dMo_bind_36 ?_
            refine xz_iload hC 0 rfl dMo_bind_38 ?_
            refine xz_if_lt hC (tgt := 93) xn_m1 (by decide) dMo_bind_40 (fun h5 => ?_) (fun h5 => ?_)
            · skip
              exact xz_return hC (by decide) (by decide) (have hfin := xm_bind_fin (ts := []) hr (xm_get0 ) (xm_v0 (f := Vl)) (xm_b0 (f := Bo)); ⟨_, _, rfl, rfl, hfin.1, hfin.2⟩) dMo_bind_93
            · skip
              exfalso; omega
          · skip
            exfalso; omega
  · skip
    have hmw0 := hmw1 (by decide)
    have hr0 := (hr.2.1 0 (by decide))
    refine xz_iload_n hC 2 rfl rfl dMo_bind_0 ?_
    refine xz_istore_n hC (lc' := [(3, .int (nI b)), (0, .ref mo), (1, .int (nI 1)), (2, .int (nI b))]) rfl (by decide) rfl dMo_bind_1 ?_
    refine xz_iconst hC (v := nI 0) (by decide +kernel) dMo_bind_2 ?_
    refine xz_istore hC (lc' := [(4, .int (nI 0)), (3, .int (nI b)), (0, .ref mo), (1, .int (nI 1)), (2, .int (nI b))]) (by decide) rfl dMo_bind_3 ?_
    refine xz_iload hC 0 rfl dMo_bind_5 ?_
    refine xz_iconst hC (v := nI 3) (by decide +kernel) dMo_bind_7 ?_
    refine xz_icmp_ge hC (tgt := 33) (nI_toInt (by omega)) (nI_toInt (by omega)) (by decide) dMo_bind_8 (fun h6 => ?_) (fun h6 => ?_)
    · skip
      exfalso; omega
    · skip
      refine xz_aload_n hC 2 rfl rfl dMo_bind_11 ?_
      refine xz_get hC 0 rfl rfl 15 (by decide) inMo tq444 rfl rfl dMo_bind_12 ?_
      refine xz_iload hC 0 rfl dMo_bind_15 ?_
      refine xz_iconst hC (v := bI false) (by decide +kernel) dMo_bind_17 ?_
      refine xz_bastore hC 3 3 (ws' := [(mo, .inr (6, [.int (nI mb), .ref wo, .int (nI mw), .ref le, .ref lt, .int (nI n), .ref pe, .int (nI o), .ref st, .int (nI mg), .int (nI pa), .ref pt, .int (nI ma), .ref rr, .ref vl, .ref bo, .int (nI an), .ref kp, .int (nI lv)])), (rr, .inl (K 0, 3, .inl Rr)), (vl, .inl (K 0, 3, .inl Vl)), (bo, .inl (K 3, 3, .inl (upd Bo 0 (bI false))))]) rfl rfl (by decide) (by decide) (bI_v _) rfl dMo_bind_18 ?_
      refine xz_aload_n hC 2 rfl rfl dMo_bind_19 ?_
      refine xz_get hC 0 rfl rfl 14 (by decide) inMo tq443 rfl rfl dMo_bind_20 ?_
      refine xz_iload hC 0 rfl dMo_bind_23 ?_
      refine xz_iconst hC (v := (-1)) (by decide +kernel) dMo_bind_25 ?_
      refine xz_iastore hC 2 0 (ws' := [(mo, .inr (6, [.int (nI mb), .ref wo, .int (nI mw), .ref le, .ref lt, .int (nI n), .ref pe, .int (nI o), .ref st, .int (nI mg), .int (nI pa), .ref pt, .int (nI ma), .ref rr, .ref vl, .ref bo, .int (nI an), .ref kp, .int (nI lv)])), (rr, .inl (K 0, 3, .inl Rr)), (vl, .inl (K 0, 3, .inl (upd Vl 0 (-1)))), (bo, .inl (K 3, 3, .inl (upd Bo 0 (bI false))))]) rfl rfl (by decide) (by decide) rfl dMo_bind_26 ?_
      refine xz_iinc hC 0 (lc' := [(4, .int (nI 1)), (3, .int (nI b)), (0, .ref mo), (1, .int (nI 1)), (2, .int (nI b))]) rfl (xn_inc _) (by decide) rfl dMo_bind_27 ?_
      refine xz_goto hC (tgt := 5) (by decide) dMo_bind_30 ?_
      refine xz_iload hC 0 rfl dMo_bind_5 ?_
      refine xz_iconst hC (v := nI 3) (by decide +kernel) dMo_bind_7 ?_
      refine xz_icmp_ge hC (tgt := 33) (nI_toInt (by omega)) (nI_toInt (by omega)) (by decide) dMo_bind_8 (fun h7 => ?_) (fun h7 => ?_)
      · skip
        exfalso; omega
      · skip
        refine xz_aload_n hC 2 rfl rfl dMo_bind_11 ?_
        refine xz_get hC 0 rfl rfl 15 (by decide) inMo tq444 rfl rfl dMo_bind_12 ?_
        refine xz_iload hC 0 rfl dMo_bind_15 ?_
        refine xz_iconst hC (v := bI false) (by decide +kernel) dMo_bind_17 ?_
        refine xz_bastore hC 3 3 (ws' := [(mo, .inr (6, [.int (nI mb), .ref wo, .int (nI mw), .ref le, .ref lt, .int (nI n), .ref pe, .int (nI o), .ref st, .int (nI mg), .int (nI pa), .ref pt, .int (nI ma), .ref rr, .ref vl, .ref bo, .int (nI an), .ref kp, .int (nI lv)])), (rr, .inl (K 0, 3, .inl Rr)), (vl, .inl (K 0, 3, .inl (upd Vl 0 (-1)))), (bo, .inl (K 3, 3, .inl (upd (upd Bo 0 (bI false)) 1 (bI false))))]) rfl rfl (by decide) (by decide) (bI_v _) rfl dMo_bind_18 ?_
        refine xz_aload_n hC 2 rfl rfl dMo_bind_19 ?_
        refine xz_get hC 0 rfl rfl 14 (by decide) inMo tq443 rfl rfl dMo_bind_20 ?_
        refine xz_iload hC 0 rfl dMo_bind_23 ?_
        refine xz_iconst hC (v := (-1)) (by decide +kernel) dMo_bind_25 ?_
        refine xz_iastore hC 2 0 (ws' := [(mo, .inr (6, [.int (nI mb), .ref wo, .int (nI mw), .ref le, .ref lt, .int (nI n), .ref pe, .int (nI o), .ref st, .int (nI mg), .int (nI pa), .ref pt, .int (nI ma), .ref rr, .ref vl, .ref bo, .int (nI an), .ref kp, .int (nI lv)])), (rr, .inl (K 0, 3, .inl Rr)), (vl, .inl (K 0, 3, .inl (upd (upd Vl 0 (-1)) 1 (-1)))), (bo, .inl (K 3, 3, .inl (upd (upd Bo 0 (bI false)) 1 (bI false))))]) rfl rfl (by decide) (by decide) rfl dMo_bind_26 ?_
        refine xz_iinc hC 0 (lc' := [(4, .int (nI 2)), (3, .int (nI b)), (0, .ref mo), (1, .int (nI 1)), (2, .int (nI b))]) rfl (xn_inc _) (by decide) rfl dMo_bind_27 ?_
        refine xz_goto hC (tgt := 5) (by decide) dMo_bind_30 ?_
        refine xz_iload hC 0 rfl dMo_bind_5 ?_
        refine xz_iconst hC (v := nI 3) (by decide +kernel) dMo_bind_7 ?_
        refine xz_icmp_ge hC (tgt := 33) (nI_toInt (by omega)) (nI_toInt (by omega)) (by decide) dMo_bind_8 (fun h8 => ?_) (fun h8 => ?_)
        · skip
          exfalso; omega
        · skip
          refine xz_aload_n hC 2 rfl rfl dMo_bind_11 ?_
          refine xz_get hC 0 rfl rfl 15 (by decide) inMo tq444 rfl rfl dMo_bind_12 ?_
          refine xz_iload hC 0 rfl dMo_bind_15 ?_
          refine xz_iconst hC (v := bI false) (by decide +kernel) dMo_bind_17 ?_
          refine xz_bastore hC 3 3 (ws' := [(mo, .inr (6, [.int (nI mb), .ref wo, .int (nI mw), .ref le, .ref lt, .int (nI n), .ref pe, .int (nI o), .ref st, .int (nI mg), .int (nI pa), .ref pt, .int (nI ma), .ref rr, .ref vl, .ref bo, .int (nI an), .ref kp, .int (nI lv)])), (rr, .inl (K 0, 3, .inl Rr)), (vl, .inl (K 0, 3, .inl (upd (upd Vl 0 (-1)) 1 (-1)))), (bo, .inl (K 3, 3, .inl (upd (upd (upd Bo 0 (bI false)) 1 (bI false)) 2 (bI false))))]) rfl rfl (by decide) (by decide) (bI_v _) rfl dMo_bind_18 ?_
          refine xz_aload_n hC 2 rfl rfl dMo_bind_19 ?_
          refine xz_get hC 0 rfl rfl 14 (by decide) inMo tq443 rfl rfl dMo_bind_20 ?_
          refine xz_iload hC 0 rfl dMo_bind_23 ?_
          refine xz_iconst hC (v := (-1)) (by decide +kernel) dMo_bind_25 ?_
          refine xz_iastore hC 2 0 (ws' := [(mo, .inr (6, [.int (nI mb), .ref wo, .int (nI mw), .ref le, .ref lt, .int (nI n), .ref pe, .int (nI o), .ref st, .int (nI mg), .int (nI pa), .ref pt, .int (nI ma), .ref rr, .ref vl, .ref bo, .int (nI an), .ref kp, .int (nI lv)])), (rr, .inl (K 0, 3, .inl Rr)), (vl, .inl (K 0, 3, .inl (upd (upd (upd Vl 0 (-1)) 1 (-1)) 2 (-1)))), (bo, .inl (K 3, 3, .inl (upd (upd (upd Bo 0 (bI false)) 1 (bI false)) 2 (bI false))))]) rfl rfl (by decide) (by decide) rfl dMo_bind_26 ?_
          refine xz_iinc hC 0 (lc' := [(4, .int (nI 3)), (3, .int (nI b)), (0, .ref mo), (1, .int (nI 1)), (2, .int (nI b))]) rfl (xn_inc _) (by decide) rfl dMo_bind_27 ?_
          refine xz_goto hC (tgt := 5) (by decide) dMo_bind_30 ?_
          refine xz_iload hC 0 rfl dMo_bind_5 ?_
          refine xz_iconst hC (v := nI 3) (by decide +kernel) dMo_bind_7 ?_
          refine xz_icmp_ge hC (tgt := 33) (nI_toInt (by omega)) (nI_toInt (by omega)) (by decide) dMo_bind_8 (fun h9 => ?_) (fun h9 => ?_)
          · skip
            refine xz_iload_n hC 3 rfl rfl dMo_bind_33 ?_
            refine xz_iconst hC (v := nI 1) (by decide +kernel) dMo_bind_34 ?_
            refine xz_isub hC (z := nI 0) (by decide +kernel) dMo_bind_35 ?_
            refine xz_istore hC (lc' := [(4, .int (nI 0)), (3, .int (nI b)), (0, .ref mo), (1, .int (nI 1)), (2, .int (nI b))]) (by decide) rfl dMo_bind_36 ?_
            refine xz_iload hC 0 rfl dMo_bind_38 ?_
            refine xz_if_lt hC (tgt := 93) (nI_toInt (by omega)) (by decide) dMo_bind_40 (fun h10 => ?_) (fun h10 => ?_)
            · skip
              exfalso; omega
            · skip
              refine xz_aload_n hC 2 rfl rfl dMo_bind_43 ?_
              refine xz_get hC 0 rfl rfl 15 (by decide) inMo tq444 rfl rfl dMo_bind_44 ?_
              refine xz_aload_n hC 2 rfl rfl dMo_bind_47 ?_
              refine xz_get hC 0 rfl rfl 13 (by decide) inMo tq442 rfl rfl dMo_bind_48 ?_
              refine xz_iload hC 0 rfl dMo_bind_51 ?_
              refine xz_iaload hC 1 0 (v := nI (32 + r 0)) rfl rfl (by decide) (by decide) (hrr 0 (by decide)) dMo_bind_53 ?_
              refine xz_bipush hC (v := nI 32) (by decide +kernel) dMo_bind_54 ?_
              refine xz_isub hC (z := nI (r 0)) ((pk_sub (by omega)).trans (congrArg nI (by omega))) dMo_bind_56 ?_
              refine xz_iconst hC (v := bI true) (by decide +kernel) dMo_bind_57 ?_
              refine xz_bastore hC 3 3 (ws' := [(mo, .inr (6, [.int (nI mb), .ref wo, .int (nI mw), .ref le, .ref lt, .int (nI n), .ref pe, .int (nI o), .ref st, .int (nI mg), .int (nI pa), .ref pt, .int (nI ma), .ref rr, .ref vl, .ref bo, .int (nI an), .ref kp, .int (nI lv)])), (rr, .inl (K 0, 3, .inl Rr)), (vl, .inl (K 0, 3, .inl (upd (upd (upd Vl 0 (-1)) 1 (-1)) 2 (-1)))), (bo, .inl (K 3, 3, .inl (upd (upd (upd (upd Bo 0 (bI false)) 1 (bI false)) 2 (bI false)) (r 0) (bI true))))]) rfl rfl (by omega) (by decide) (bI_v _) rfl dMo_bind_58 ?_
              refine xz_aload_n hC 2 rfl rfl dMo_bind_59 ?_
              refine xz_get hC 0 rfl rfl 14 (by decide) inMo tq443 rfl rfl dMo_bind_60 ?_
              refine xz_aload_n hC 2 rfl rfl dMo_bind_63 ?_
              refine xz_get hC 0 rfl rfl 13 (by decide) inMo tq442 rfl rfl dMo_bind_64 ?_
              refine xz_iload hC 0 rfl dMo_bind_67 ?_
              refine xz_iaload hC 1 0 (v := nI (32 + r 0)) rfl rfl (by decide) (by decide) (hrr 0 (by decide)) dMo_bind_69 ?_
              refine xz_bipush hC (v := nI 32) (by decide +kernel) dMo_bind_70 ?_
              refine xz_isub hC (z := nI (r 0)) ((pk_sub (by omega)).trans (congrArg nI (by omega))) dMo_bind_72 ?_
              refine xz_iload_n hC 1 rfl rfl dMo_bind_73 ?_
              refine xz_aload_n hC 2 rfl rfl dMo_bind_74 ?_
              refine xz_get hC 0 rfl rfl 2 (by decide) inMo tq431 rfl rfl dMo_bind_75 ?_
              refine xz_irem hC (z := nI (b % mw)) (nI_ne0 (by omega) (by omega)) (pk_rem (by omega) (by omega) (by omega)) dMo_bind_78 ?_
              refine xz_iastore hC 2 0 (ws' := [(mo, .inr (6, [.int (nI mb), .ref wo, .int (nI mw), .ref le, .ref lt, .int (nI n), .ref pe, .int (nI o), .ref st, .int (nI mg), .int (nI pa), .ref pt, .int (nI ma), .ref rr, .ref vl, .ref bo, .int (nI an), .ref kp, .int (nI lv)])), (rr, .inl (K 0, 3, .inl Rr)), (vl, .inl (K 0, 3, .inl (upd (upd (upd (upd Vl 0 (-1)) 1 (-1)) 2 (-1)) (r 0) (nI (b % mw))))), (bo, .inl (K 3, 3, .inl (upd (upd (upd (upd Bo 0 (bI false)) 1 (bI false)) 2 (bI false)) (r 0) (bI true))))]) rfl rfl (by omega) (by decide) rfl dMo_bind_79 ?_
              refine xz_iload_n hC 1 rfl rfl dMo_bind_80 ?_
              refine xz_aload_n hC 2 rfl rfl dMo_bind_81 ?_
              refine xz_get hC 0 rfl rfl 2 (by decide) inMo tq431 rfl rfl dMo_bind_82 ?_
              refine xz_idiv hC (z := nI (b / mw)) (nI_ne0 (by omega) (by omega)) (pk_div (by omega) (by omega) (by omega)) dMo_bind_85 ?_
              refine xz_istore_n hC (lc' := [(3, .int (nI (b / mw))), (4, .int (nI 0)), (0, .ref mo), (1, .int (nI 1)), (2, .int (nI b))]) rfl (by decide) rfl dMo_bind_86 ?_
              refine xz_iinc hC 1 (lc' := [(4, .int (-1)), (3, .int (nI (b / mw))), (0, .ref mo), (1, .int (nI 1)), (2, .int (nI b))]) rfl (by decide +kernel) (by decide) rfl dMo_bind_87 ?_
              refine xz_goto hC (tgt := 38) (by decide) dMo_bind_90 ?_
              refine xz_iload hC 0 rfl dMo_bind_38 ?_
              refine xz_if_lt hC (tgt := 93) xn_m1 (by decide) dMo_bind_40 (fun h11 => ?_) (fun h11 => ?_)
              · skip
                exact xz_return hC (by decide) (by decide) (have hfin := xm_bind_fin (ts := [b % mw]) hr (xm_get1 (Nat.lt_of_lt_of_le (Nat.mod_lt _ hmw0) (by omega))) (xm_v1 (f := Vl)) (xm_b1 (f := Bo)); ⟨_, _, rfl, rfl, hfin.1, hfin.2⟩) dMo_bind_93
              · skip
                exfalso; omega
          · skip
            exfalso; omega
  · skip
    have hmw0 := hmw1 (by decide)
    have hr0 := (hr.2.1 0 (by decide))
    have hr1 := (hr.2.1 1 (by decide))
    refine xz_iload_n hC 2 rfl rfl dMo_bind_0 ?_
    refine xz_istore_n hC (lc' := [(3, .int (nI b)), (0, .ref mo), (1, .int (nI 2)), (2, .int (nI b))]) rfl (by decide) rfl dMo_bind_1 ?_
    refine xz_iconst hC (v := nI 0) (by decide +kernel) dMo_bind_2 ?_
    refine xz_istore hC (lc' := [(4, .int (nI 0)), (3, .int (nI b)), (0, .ref mo), (1, .int (nI 2)), (2, .int (nI b))]) (by decide) rfl dMo_bind_3 ?_
    refine xz_iload hC 0 rfl dMo_bind_5 ?_
    refine xz_iconst hC (v := nI 3) (by decide +kernel) dMo_bind_7 ?_
    refine xz_icmp_ge hC (tgt := 33) (nI_toInt (by omega)) (nI_toInt (by omega)) (by decide) dMo_bind_8 (fun h12 => ?_) (fun h12 => ?_)
    · skip
      exfalso; omega
    · skip
      refine xz_aload_n hC 2 rfl rfl dMo_bind_11 ?_
      refine xz_get hC 0 rfl rfl 15 (by decide) inMo tq444 rfl rfl dMo_bind_12 ?_
      refine xz_iload hC 0 rfl dMo_bind_15 ?_
      refine xz_iconst hC (v := bI false) (by decide +kernel) dMo_bind_17 ?_
      refine xz_bastore hC 3 3 (ws' := [(mo, .inr (6, [.int (nI mb), .ref wo, .int (nI mw), .ref le, .ref lt, .int (nI n), .ref pe, .int (nI o), .ref st, .int (nI mg), .int (nI pa), .ref pt, .int (nI ma), .ref rr, .ref vl, .ref bo, .int (nI an), .ref kp, .int (nI lv)])), (rr, .inl (K 0, 3, .inl Rr)), (vl, .inl (K 0, 3, .inl Vl)), (bo, .inl (K 3, 3, .inl (upd Bo 0 (bI false))))]) rfl rfl (by decide) (by decide) (bI_v _) rfl dMo_bind_18 ?_
      refine xz_aload_n hC 2 rfl rfl dMo_bind_19 ?_
      refine xz_get hC 0 rfl rfl 14 (by decide) inMo tq443 rfl rfl dMo_bind_20 ?_
      refine xz_iload hC 0 rfl dMo_bind_23 ?_
      refine xz_iconst hC (v := (-1)) (by decide +kernel) dMo_bind_25 ?_
      refine xz_iastore hC 2 0 (ws' := [(mo, .inr (6, [.int (nI mb), .ref wo, .int (nI mw), .ref le, .ref lt, .int (nI n), .ref pe, .int (nI o), .ref st, .int (nI mg), .int (nI pa), .ref pt, .int (nI ma), .ref rr, .ref vl, .ref bo, .int (nI an), .ref kp, .int (nI lv)])), (rr, .inl (K 0, 3, .inl Rr)), (vl, .inl (K 0, 3, .inl (upd Vl 0 (-1)))), (bo, .inl (K 3, 3, .inl (upd Bo 0 (bI false))))]) rfl rfl (by decide) (by decide) rfl dMo_bind_26 ?_
      refine xz_iinc hC 0 (lc' := [(4, .int (nI 1)), (3, .int (nI b)), (0, .ref mo), (1, .int (nI 2)), (2, .int (nI b))]) rfl (xn_inc _) (by decide) rfl dMo_bind_27 ?_
      refine xz_goto hC (tgt := 5) (by decide) dMo_bind_30 ?_
      refine xz_iload hC 0 rfl dMo_bind_5 ?_
      refine xz_iconst hC (v := nI 3) (by decide +kernel) dMo_bind_7 ?_
      refine xz_icmp_ge hC (tgt := 33) (nI_toInt (by omega)) (nI_toInt (by omega)) (by decide) dMo_bind_8 (fun h13 => ?_) (fun h13 => ?_)
      · skip
        exfalso; omega
      · skip
        refine xz_aload_n hC 2 rfl rfl dMo_bind_11 ?_
        refine xz_get hC 0 rfl rfl 15 (by decide) inMo tq444 rfl rfl dMo_bind_12 ?_
        refine xz_iload hC 0 rfl dMo_bind_15 ?_
        refine xz_iconst hC (v := bI false) (by decide +kernel) dMo_bind_17 ?_
        refine xz_bastore hC 3 3 (ws' := [(mo, .inr (6, [.int (nI mb), .ref wo, .int (nI mw), .ref le, .ref lt, .int (nI n), .ref pe, .int (nI o), .ref st, .int (nI mg), .int (nI pa), .ref pt, .int (nI ma), .ref rr, .ref vl, .ref bo, .int (nI an), .ref kp, .int (nI lv)])), (rr, .inl (K 0, 3, .inl Rr)), (vl, .inl (K 0, 3, .inl (upd Vl 0 (-1)))), (bo, .inl (K 3, 3, .inl (upd (upd Bo 0 (bI false)) 1 (bI false))))]) rfl rfl (by decide) (by decide) (bI_v _) rfl dMo_bind_18 ?_
        refine xz_aload_n hC 2 rfl rfl dMo_bind_19 ?_
        refine xz_get hC 0 rfl rfl 14 (by decide) inMo tq443 rfl rfl dMo_bind_20 ?_
        refine xz_iload hC 0 rfl dMo_bind_23 ?_
        refine xz_iconst hC (v := (-1)) (by decide +kernel) dMo_bind_25 ?_
        refine xz_iastore hC 2 0 (ws' := [(mo, .inr (6, [.int (nI mb), .ref wo, .int (nI mw), .ref le, .ref lt, .int (nI n), .ref pe, .int (nI o), .ref st, .int (nI mg), .int (nI pa), .ref pt, .int (nI ma), .ref rr, .ref vl, .ref bo, .int (nI an), .ref kp, .int (nI lv)])), (rr, .inl (K 0, 3, .inl Rr)), (vl, .inl (K 0, 3, .inl (upd (upd Vl 0 (-1)) 1 (-1)))), (bo, .inl (K 3, 3, .inl (upd (upd Bo 0 (bI false)) 1 (bI false))))]) rfl rfl (by decide) (by decide) rfl dMo_bind_26 ?_
        refine xz_iinc hC 0 (lc' := [(4, .int (nI 2)), (3, .int (nI b)), (0, .ref mo), (1, .int (nI 2)), (2, .int (nI b))]) rfl (xn_inc _) (by decide) rfl dMo_bind_27 ?_
        refine xz_goto hC (tgt := 5) (by decide) dMo_bind_30 ?_
        refine xz_iload hC 0 rfl dMo_bind_5 ?_
        refine xz_iconst hC (v := nI 3) (by decide +kernel) dMo_bind_7 ?_
        refine xz_icmp_ge hC (tgt := 33) (nI_toInt (by omega)) (nI_toInt (by omega)) (by decide) dMo_bind_8 (fun h14 => ?_) (fun h14 => ?_)
        · skip
          exfalso; omega
        · skip
          refine xz_aload_n hC 2 rfl rfl dMo_bind_11 ?_
          refine xz_get hC 0 rfl rfl 15 (by decide) inMo tq444 rfl rfl dMo_bind_12 ?_
          refine xz_iload hC 0 rfl dMo_bind_15 ?_
          refine xz_iconst hC (v := bI false) (by decide +kernel) dMo_bind_17 ?_
          refine xz_bastore hC 3 3 (ws' := [(mo, .inr (6, [.int (nI mb), .ref wo, .int (nI mw), .ref le, .ref lt, .int (nI n), .ref pe, .int (nI o), .ref st, .int (nI mg), .int (nI pa), .ref pt, .int (nI ma), .ref rr, .ref vl, .ref bo, .int (nI an), .ref kp, .int (nI lv)])), (rr, .inl (K 0, 3, .inl Rr)), (vl, .inl (K 0, 3, .inl (upd (upd Vl 0 (-1)) 1 (-1)))), (bo, .inl (K 3, 3, .inl (upd (upd (upd Bo 0 (bI false)) 1 (bI false)) 2 (bI false))))]) rfl rfl (by decide) (by decide) (bI_v _) rfl dMo_bind_18 ?_
          refine xz_aload_n hC 2 rfl rfl dMo_bind_19 ?_
          refine xz_get hC 0 rfl rfl 14 (by decide) inMo tq443 rfl rfl dMo_bind_20 ?_
          refine xz_iload hC 0 rfl dMo_bind_23 ?_
          refine xz_iconst hC (v := (-1)) (by decide +kernel) dMo_bind_25 ?_
          refine xz_iastore hC 2 0 (ws' := [(mo, .inr (6, [.int (nI mb), .ref wo, .int (nI mw), .ref le, .ref lt, .int (nI n), .ref pe, .int (nI o), .ref st, .int (nI mg), .int (nI pa), .ref pt, .int (nI ma), .ref rr, .ref vl, .ref bo, .int (nI an), .ref kp, .int (nI lv)])), (rr, .inl (K 0, 3, .inl Rr)), (vl, .inl (K 0, 3, .inl (upd (upd (upd Vl 0 (-1)) 1 (-1)) 2 (-1)))), (bo, .inl (K 3, 3, .inl (upd (upd (upd Bo 0 (bI false)) 1 (bI false)) 2 (bI false))))]) rfl rfl (by decide) (by decide) rfl dMo_bind_26 ?_
          refine xz_iinc hC 0 (lc' := [(4, .int (nI 3)), (3, .int (nI b)), (0, .ref mo), (1, .int (nI 2)), (2, .int (nI b))]) rfl (xn_inc _) (by decide) rfl dMo_bind_27 ?_
          refine xz_goto hC (tgt := 5) (by decide) dMo_bind_30 ?_
          refine xz_iload hC 0 rfl dMo_bind_5 ?_
          refine xz_iconst hC (v := nI 3) (by decide +kernel) dMo_bind_7 ?_
          refine xz_icmp_ge hC (tgt := 33) (nI_toInt (by omega)) (nI_toInt (by omega)) (by decide) dMo_bind_8 (fun h15 => ?_) (fun h15 => ?_)
          · skip
            refine xz_iload_n hC 3 rfl rfl dMo_bind_33 ?_
            refine xz_iconst hC (v := nI 1) (by decide +kernel) dMo_bind_34 ?_
            refine xz_isub hC (z := nI 1) (by decide +kernel) dMo_bind_35 ?_
            refine xz_istore hC (lc' := [(4, .int (nI 1)), (3, .int (nI b)), (0, .ref mo), (1, .int (nI 2)), (2, .int (nI b))]) (by decide) rfl dMo_bind_36 ?_
            refine xz_iload hC 0 rfl dMo_bind_38 ?_
            refine xz_if_lt hC (tgt := 93) (nI_toInt (by omega)) (by decide) dMo_bind_40 (fun h16 => ?_) (fun h16 => ?_)
            · skip
              exfalso; omega
            · skip
              refine xz_aload_n hC 2 rfl rfl dMo_bind_43 ?_
              refine xz_get hC 0 rfl rfl 15 (by decide) inMo tq444 rfl rfl dMo_bind_44 ?_
              refine xz_aload_n hC 2 rfl rfl dMo_bind_47 ?_
              refine xz_get hC 0 rfl rfl 13 (by decide) inMo tq442 rfl rfl dMo_bind_48 ?_
              refine xz_iload hC 0 rfl dMo_bind_51 ?_
              refine xz_iaload hC 1 0 (v := nI (32 + r 1)) rfl rfl (by decide) (by decide) (hrr 1 (by decide)) dMo_bind_53 ?_
              refine xz_bipush hC (v := nI 32) (by decide +kernel) dMo_bind_54 ?_
              refine xz_isub hC (z := nI (r 1)) ((pk_sub (by omega)).trans (congrArg nI (by omega))) dMo_bind_56 ?_
              refine xz_iconst hC (v := bI true) (by decide +kernel) dMo_bind_57 ?_
              refine xz_bastore hC 3 3 (ws' := [(mo, .inr (6, [.int (nI mb), .ref wo, .int (nI mw), .ref le, .ref lt, .int (nI n), .ref pe, .int (nI o), .ref st, .int (nI mg), .int (nI pa), .ref pt, .int (nI ma), .ref rr, .ref vl, .ref bo, .int (nI an), .ref kp, .int (nI lv)])), (rr, .inl (K 0, 3, .inl Rr)), (vl, .inl (K 0, 3, .inl (upd (upd (upd Vl 0 (-1)) 1 (-1)) 2 (-1)))), (bo, .inl (K 3, 3, .inl (upd (upd (upd (upd Bo 0 (bI false)) 1 (bI false)) 2 (bI false)) (r 1) (bI true))))]) rfl rfl (by omega) (by decide) (bI_v _) rfl dMo_bind_58 ?_
              refine xz_aload_n hC 2 rfl rfl dMo_bind_59 ?_
              refine xz_get hC 0 rfl rfl 14 (by decide) inMo tq443 rfl rfl dMo_bind_60 ?_
              refine xz_aload_n hC 2 rfl rfl dMo_bind_63 ?_
              refine xz_get hC 0 rfl rfl 13 (by decide) inMo tq442 rfl rfl dMo_bind_64 ?_
              refine xz_iload hC 0 rfl dMo_bind_67 ?_
              refine xz_iaload hC 1 0 (v := nI (32 + r 1)) rfl rfl (by decide) (by decide) (hrr 1 (by decide)) dMo_bind_69 ?_
              refine xz_bipush hC (v := nI 32) (by decide +kernel) dMo_bind_70 ?_
              refine xz_isub hC (z := nI (r 1)) ((pk_sub (by omega)).trans (congrArg nI (by omega))) dMo_bind_72 ?_
              refine xz_iload_n hC 1 rfl rfl dMo_bind_73 ?_
              refine xz_aload_n hC 2 rfl rfl dMo_bind_74 ?_
              refine xz_get hC 0 rfl rfl 2 (by decide) inMo tq431 rfl rfl dMo_bind_75 ?_
              refine xz_irem hC (z := nI (b % mw)) (nI_ne0 (by omega) (by omega)) (pk_rem (by omega) (by omega) (by omega)) dMo_bind_78 ?_
              refine xz_iastore hC 2 0 (ws' := [(mo, .inr (6, [.int (nI mb), .ref wo, .int (nI mw), .ref le, .ref lt, .int (nI n), .ref pe, .int (nI o), .ref st, .int (nI mg), .int (nI pa), .ref pt, .int (nI ma), .ref rr, .ref vl, .ref bo, .int (nI an), .ref kp, .int (nI lv)])), (rr, .inl (K 0, 3, .inl Rr)), (vl, .inl (K 0, 3, .inl (upd (upd (upd (upd Vl 0 (-1)) 1 (-1)) 2 (-1)) (r 1) (nI (b % mw))))), (bo, .inl (K 3, 3, .inl (upd (upd (upd (upd Bo 0 (bI false)) 1 (bI false)) 2 (bI false)) (r 1) (bI true))))]) rfl rfl (by omega) (by decide) rfl dMo_bind_79 ?_
              refine xz_iload_n hC 1 rfl rfl dMo_bind_80 ?_
              refine xz_aload_n hC 2 rfl rfl dMo_bind_81 ?_
              refine xz_get hC 0 rfl rfl 2 (by decide) inMo tq431 rfl rfl dMo_bind_82 ?_
              refine xz_idiv hC (z := nI (b / mw)) (nI_ne0 (by omega) (by omega)) (pk_div (by omega) (by omega) (by omega)) dMo_bind_85 ?_
              refine xz_istore_n hC (lc' := [(3, .int (nI (b / mw))), (4, .int (nI 1)), (0, .ref mo), (1, .int (nI 2)), (2, .int (nI b))]) rfl (by decide) rfl dMo_bind_86 ?_
              refine xz_iinc hC 1 (lc' := [(4, .int (nI 0)), (3, .int (nI (b / mw))), (0, .ref mo), (1, .int (nI 2)), (2, .int (nI b))]) rfl (by decide +kernel) (by decide) rfl dMo_bind_87 ?_
              refine xz_goto hC (tgt := 38) (by decide) dMo_bind_90 ?_
              refine xz_iload hC 0 rfl dMo_bind_38 ?_
              refine xz_if_lt hC (tgt := 93) (nI_toInt (by omega)) (by decide) dMo_bind_40 (fun h17 => ?_) (fun h17 => ?_)
              · skip
                exfalso; omega
              · skip
                refine xz_aload_n hC 2 rfl rfl dMo_bind_43 ?_
                refine xz_get hC 0 rfl rfl 15 (by decide) inMo tq444 rfl rfl dMo_bind_44 ?_
                refine xz_aload_n hC 2 rfl rfl dMo_bind_47 ?_
                refine xz_get hC 0 rfl rfl 13 (by decide) inMo tq442 rfl rfl dMo_bind_48 ?_
                refine xz_iload hC 0 rfl dMo_bind_51 ?_
                refine xz_iaload hC 1 0 (v := nI (32 + r 0)) rfl rfl (by decide) (by decide) (hrr 0 (by decide)) dMo_bind_53 ?_
                refine xz_bipush hC (v := nI 32) (by decide +kernel) dMo_bind_54 ?_
                refine xz_isub hC (z := nI (r 0)) ((pk_sub (by omega)).trans (congrArg nI (by omega))) dMo_bind_56 ?_
                refine xz_iconst hC (v := bI true) (by decide +kernel) dMo_bind_57 ?_
                refine xz_bastore hC 3 3 (ws' := [(mo, .inr (6, [.int (nI mb), .ref wo, .int (nI mw), .ref le, .ref lt, .int (nI n), .ref pe, .int (nI o), .ref st, .int (nI mg), .int (nI pa), .ref pt, .int (nI ma), .ref rr, .ref vl, .ref bo, .int (nI an), .ref kp, .int (nI lv)])), (rr, .inl (K 0, 3, .inl Rr)), (vl, .inl (K 0, 3, .inl (upd (upd (upd (upd Vl 0 (-1)) 1 (-1)) 2 (-1)) (r 1) (nI (b % mw))))), (bo, .inl (K 3, 3, .inl (upd (upd (upd (upd (upd Bo 0 (bI false)) 1 (bI false)) 2 (bI false)) (r 1) (bI true)) (r 0) (bI true))))]) rfl rfl (by omega) (by decide) (bI_v _) rfl dMo_bind_58 ?_
                refine xz_aload_n hC 2 rfl rfl dMo_bind_59 ?_
                refine xz_get hC 0 rfl rfl 14 (by decide) inMo tq443 rfl rfl dMo_bind_60 ?_
                refine xz_aload_n hC 2 rfl rfl dMo_bind_63 ?_
                refine xz_get hC 0 rfl rfl 13 (by decide) inMo tq442 rfl rfl dMo_bind_64 ?_
                refine xz_iload hC 0 rfl dMo_bind_67 ?_
                refine xz_iaload hC 1 0 (v := nI (32 + r 0)) rfl rfl (by decide) (by decide) (hrr 0 (by decide)) dMo_bind_69 ?_
                refine xz_bipush hC (v := nI 32) (by decide +kernel) dMo_bind_70 ?_
                refine xz_isub hC (z := nI (r 0)) ((pk_sub (by omega)).trans (congrArg nI (by omega))) dMo_bind_72 ?_
                refine xz_iload_n hC 1 rfl rfl dMo_bind_73 ?_
                refine xz_aload_n hC 2 rfl rfl dMo_bind_74 ?_
                refine xz_get hC 0 rfl rfl 2 (by decide) inMo tq431 rfl rfl dMo_bind_75 ?_
                refine xz_irem hC (z := nI ((b / mw) % mw)) (nI_ne0 (by omega) (by omega)) (pk_rem (Nat.lt_of_le_of_lt (Nat.div_le_self _ _) (by omega)) (by omega) (by omega)) dMo_bind_78 ?_
                refine xz_iastore hC 2 0 (ws' := [(mo, .inr (6, [.int (nI mb), .ref wo, .int (nI mw), .ref le, .ref lt, .int (nI n), .ref pe, .int (nI o), .ref st, .int (nI mg), .int (nI pa), .ref pt, .int (nI ma), .ref rr, .ref vl, .ref bo, .int (nI an), .ref kp, .int (nI lv)])), (rr, .inl (K 0, 3, .inl Rr)), (vl, .inl (K 0, 3, .inl (upd (upd (upd (upd (upd Vl 0 (-1)) 1 (-1)) 2 (-1)) (r 1) (nI (b % mw))) (r 0) (nI ((b / mw) % mw))))), (bo, .inl (K 3, 3, .inl (upd (upd (upd (upd (upd Bo 0 (bI false)) 1 (bI false)) 2 (bI false)) (r 1) (bI true)) (r 0) (bI true))))]) rfl rfl (by omega) (by decide) rfl dMo_bind_79 ?_
                refine xz_iload_n hC 1 rfl rfl dMo_bind_80 ?_
                refine xz_aload_n hC 2 rfl rfl dMo_bind_81 ?_
                refine xz_get hC 0 rfl rfl 2 (by decide) inMo tq431 rfl rfl dMo_bind_82 ?_
                refine xz_idiv hC (z := nI ((b / mw) / mw)) (nI_ne0 (by omega) (by omega)) (pk_div (Nat.lt_of_le_of_lt (Nat.div_le_self _ _) (by omega)) (by omega) (by omega)) dMo_bind_85 ?_
                refine xz_istore_n hC (lc' := [(3, .int (nI ((b / mw) / mw))), (4, .int (nI 0)), (0, .ref mo), (1, .int (nI 2)), (2, .int (nI b))]) rfl (by decide) rfl dMo_bind_86 ?_
                refine xz_iinc hC 1 (lc' := [(4, .int (-1)), (3, .int (nI ((b / mw) / mw))), (0, .ref mo), (1, .int (nI 2)), (2, .int (nI b))]) rfl (by decide +kernel) (by decide) rfl dMo_bind_87 ?_
                refine xz_goto hC (tgt := 38) (by decide) dMo_bind_90 ?_
                refine xz_iload hC 0 rfl dMo_bind_38 ?_
                refine xz_if_lt hC (tgt := 93) xn_m1 (by decide) dMo_bind_40 (fun h18 => ?_) (fun h18 => ?_)
                · skip
                  exact xz_return hC (by decide) (by decide) (have hfin := xm_bind_fin (ts := [b / mw % mw, b % mw]) hr (xm_get2 (Nat.lt_of_lt_of_le (Nat.mod_lt _ hmw0) (by omega)) (Nat.lt_of_lt_of_le (Nat.mod_lt _ hmw0) (by omega))) (xm_v2 (f := Vl)) (xm_b2 (f := Bo)); ⟨_, _, rfl, rfl, hfin.1, hfin.2⟩) dMo_bind_93
                · skip
                  exfalso; omega
          · skip
            exfalso; omega
  · skip
    have hmw0 := hmw1 (by decide)
    have hr0 := (hr.2.1 0 (by decide))
    have hr1 := (hr.2.1 1 (by decide))
    have hr2 := (hr.2.1 2 (by decide))
    refine xz_iload_n hC 2 rfl rfl dMo_bind_0 ?_
    refine xz_istore_n hC (lc' := [(3, .int (nI b)), (0, .ref mo), (1, .int (nI 3)), (2, .int (nI b))]) rfl (by decide) rfl dMo_bind_1 ?_
    refine xz_iconst hC (v := nI 0) (by decide +kernel) dMo_bind_2 ?_
    refine xz_istore hC (lc' := [(4, .int (nI 0)), (3, .int (nI b)), (0, .ref mo), (1, .int (nI 3)), (2, .int (nI b))]) (by decide) rfl dMo_bind_3 ?_
    refine xz_iload hC 0 rfl dMo_bind_5 ?_
    refine xz_iconst hC (v := nI 3) (by decide +kernel) dMo_bind_7 ?_
    refine xz_icmp_ge hC (tgt := 33) (nI_toInt (by omega)) (nI_toInt (by omega)) (by decide) dMo_bind_8 (fun h19 => ?_) (fun h19 => ?_)
    · skip
      exfalso; omega
    · skip
      refine xz_aload_n hC 2 rfl rfl dMo_bind_11 ?_
      refine xz_get hC 0 rfl rfl 15 (by decide) inMo tq444 rfl rfl dMo_bind_12 ?_
      refine xz_iload hC 0 rfl dMo_bind_15 ?_
      refine xz_iconst hC (v := bI false) (by decide +kernel) dMo_bind_17 ?_
      refine xz_bastore hC 3 3 (ws' := [(mo, .inr (6, [.int (nI mb), .ref wo, .int (nI mw), .ref le, .ref lt, .int (nI n), .ref pe, .int (nI o), .ref st, .int (nI mg), .int (nI pa), .ref pt, .int (nI ma), .ref rr, .ref vl, .ref bo, .int (nI an), .ref kp, .int (nI lv)])), (rr, .inl (K 0, 3, .inl Rr)), (vl, .inl (K 0, 3, .inl Vl)), (bo, .inl (K 3, 3, .inl (upd Bo 0 (bI false))))]) rfl rfl (by decide) (by decide) (bI_v _) rfl dMo_bind_18 ?_
      refine xz_aload_n hC 2 rfl rfl dMo_bind_19 ?_
      refine xz_get hC 0 rfl rfl 14 (by decide) inMo tq443 rfl rfl dMo_bind_20 ?_
      refine xz_iload hC 0 rfl dMo_bind_23 ?_
      refine xz_iconst hC (v := (-1)) (by decide +kernel) dMo_bind_25 ?_
      refine xz_iastore hC 2 0 (ws' := [(mo, .inr (6, [.int (nI mb), .ref wo, .int (nI mw), .ref le, .ref lt, .int (nI n), .ref pe, .int (nI o), .ref st, .int (nI mg), .int (nI pa), .ref pt, .int (nI ma), .ref rr, .ref vl, .ref bo, .int (nI an), .ref kp, .int (nI lv)])), (rr, .inl (K 0, 3, .inl Rr)), (vl, .inl (K 0, 3, .inl (upd Vl 0 (-1)))), (bo, .inl (K 3, 3, .inl (upd Bo 0 (bI false))))]) rfl rfl (by decide) (by decide) rfl dMo_bind_26 ?_
      refine xz_iinc hC 0 (lc' := [(4, .int (nI 1)), (3, .int (nI b)), (0, .ref mo), (1, .int (nI 3)), (2, .int (nI b))]) rfl (xn_inc _) (by decide) rfl dMo_bind_27 ?_
      refine xz_goto hC (tgt := 5) (by decide) dMo_bind_30 ?_
      refine xz_iload hC 0 rfl dMo_bind_5 ?_
      refine xz_iconst hC (v := nI 3) (by decide +kernel) dMo_bind_7 ?_
      refine xz_icmp_ge hC (tgt := 33) (nI_toInt (by omega)) (nI_toInt (by omega)) (by decide) dMo_bind_8 (fun h20 => ?_) (fun h20 => ?_)
      · skip
        exfalso; omega
      · skip
        refine xz_aload_n hC 2 rfl rfl dMo_bind_11 ?_
        refine xz_get hC 0 rfl rfl 15 (by decide) inMo tq444 rfl rfl dMo_bind_12 ?_
        refine xz_iload hC 0 rfl dMo_bind_15 ?_
        refine xz_iconst hC (v := bI false) (by decide +kernel) dMo_bind_17 ?_
        refine xz_bastore hC 3 3 (ws' := [(mo, .inr (6, [.int (nI mb), .ref wo, .int (nI mw), .ref le, .ref lt, .int (nI n), .ref pe, .int (nI o), .ref st, .int (nI mg), .int (nI pa), .ref pt, .int (nI ma), .ref rr, .ref vl, .ref bo, .int (nI an), .ref kp, .int (nI lv)])), (rr, .inl (K 0, 3, .inl Rr)), (vl, .inl (K 0, 3, .inl (upd Vl 0 (-1)))), (bo, .inl (K 3, 3, .inl (upd (upd Bo 0 (bI false)) 1 (bI false))))]) rfl rfl (by decide) (by decide) (bI_v _) rfl dMo_bind_18 ?_
        refine xz_aload_n hC 2 rfl rfl dMo_bind_19 ?_
        refine xz_get hC 0 rfl rfl 14 (by decide) inMo tq443 rfl rfl dMo_bind_20 ?_
        refine xz_iload hC 0 rfl dMo_bind_23 ?_
        refine xz_iconst hC (v := (-1)) (by decide +kernel) dMo_bind_25 ?_
        refine xz_iastore hC 2 0 (ws' := [(mo, .inr (6, [.int (nI mb), .ref wo, .int (nI mw), .ref le, .ref lt, .int (nI n), .ref pe, .int (nI o), .ref st, .int (nI mg), .int (nI pa), .ref pt, .int (nI ma), .ref rr, .ref vl, .ref bo, .int (nI an), .ref kp, .int (nI lv)])), (rr, .inl (K 0, 3, .inl Rr)), (vl, .inl (K 0, 3, .inl (upd (upd Vl 0 (-1)) 1 (-1)))), (bo, .inl (K 3, 3, .inl (upd (upd Bo 0 (bI false)) 1 (bI false))))]) rfl rfl (by decide) (by decide) rfl dMo_bind_26 ?_
        refine xz_iinc hC 0 (lc' := [(4, .int (nI 2)), (3, .int (nI b)), (0, .ref mo), (1, .int (nI 3)), (2, .int (nI b))]) rfl (xn_inc _) (by decide) rfl dMo_bind_27 ?_
        refine xz_goto hC (tgt := 5) (by decide) dMo_bind_30 ?_
        refine xz_iload hC 0 rfl dMo_bind_5 ?_
        refine xz_iconst hC (v := nI 3) (by decide +kernel) dMo_bind_7 ?_
        refine xz_icmp_ge hC (tgt := 33) (nI_toInt (by omega)) (nI_toInt (by omega)) (by decide) dMo_bind_8 (fun h21 => ?_) (fun h21 => ?_)
        · skip
          exfalso; omega
        · skip
          refine xz_aload_n hC 2 rfl rfl dMo_bind_11 ?_
          refine xz_get hC 0 rfl rfl 15 (by decide) inMo tq444 rfl rfl dMo_bind_12 ?_
          refine xz_iload hC 0 rfl dMo_bind_15 ?_
          refine xz_iconst hC (v := bI false) (by decide +kernel) dMo_bind_17 ?_
          refine xz_bastore hC 3 3 (ws' := [(mo, .inr (6, [.int (nI mb), .ref wo, .int (nI mw), .ref le, .ref lt, .int (nI n), .ref pe, .int (nI o), .ref st, .int (nI mg), .int (nI pa), .ref pt, .int (nI ma), .ref rr, .ref vl, .ref bo, .int (nI an), .ref kp, .int (nI lv)])), (rr, .inl (K 0, 3, .inl Rr)), (vl, .inl (K 0, 3, .inl (upd (upd Vl 0 (-1)) 1 (-1)))), (bo, .inl (K 3, 3, .inl (upd (upd (upd Bo 0 (bI false)) 1 (bI false)) 2 (bI false))))]) rfl rfl (by decide) (by decide) (bI_v _) rfl dMo_bind_18 ?_
          refine xz_aload_n hC 2 rfl rfl dMo_bind_19 ?_
          refine xz_get hC 0 rfl rfl 14 (by decide) inMo tq443 rfl rfl dMo_bind_20 ?_
          refine xz_iload hC 0 rfl dMo_bind_23 ?_
          refine xz_iconst hC (v := (-1)) (by decide +kernel) dMo_bind_25 ?_
          refine xz_iastore hC 2 0 (ws' := [(mo, .inr (6, [.int (nI mb), .ref wo, .int (nI mw), .ref le, .ref lt, .int (nI n), .ref pe, .int (nI o), .ref st, .int (nI mg), .int (nI pa), .ref pt, .int (nI ma), .ref rr, .ref vl, .ref bo, .int (nI an), .ref kp, .int (nI lv)])), (rr, .inl (K 0, 3, .inl Rr)), (vl, .inl (K 0, 3, .inl (upd (upd (upd Vl 0 (-1)) 1 (-1)) 2 (-1)))), (bo, .inl (K 3, 3, .inl (upd (upd (upd Bo 0 (bI false)) 1 (bI false)) 2 (bI false))))]) rfl rfl (by decide) (by decide) rfl dMo_bind_26 ?_
          refine xz_iinc hC 0 (lc' := [(4, .int (nI 3)), (3, .int (nI b)), (0, .ref mo), (1, .int (nI 3)), (2, .int (nI b))]) rfl (xn_inc _) (by decide) rfl dMo_bind_27 ?_
          refine xz_goto hC (tgt := 5) (by decide) dMo_bind_30 ?_
          refine xz_iload hC 0 rfl dMo_bind_5 ?_
          refine xz_iconst hC (v := nI 3) (by decide +kernel) dMo_bind_7 ?_
          refine xz_icmp_ge hC (tgt := 33) (nI_toInt (by omega)) (nI_toInt (by omega)) (by decide) dMo_bind_8 (fun h22 => ?_) (fun h22 => ?_)
          · skip
            refine xz_iload_n hC 3 rfl rfl dMo_bind_33 ?_
            refine xz_iconst hC (v := nI 1) (by decide +kernel) dMo_bind_34 ?_
            refine xz_isub hC (z := nI 2) (by decide +kernel) dMo_bind_35 ?_
            refine xz_istore hC (lc' := [(4, .int (nI 2)), (3, .int (nI b)), (0, .ref mo), (1, .int (nI 3)), (2, .int (nI b))]) (by decide) rfl dMo_bind_36 ?_
            refine xz_iload hC 0 rfl dMo_bind_38 ?_
            refine xz_if_lt hC (tgt := 93) (nI_toInt (by omega)) (by decide) dMo_bind_40 (fun h23 => ?_) (fun h23 => ?_)
            · skip
              exfalso; omega
            · skip
              refine xz_aload_n hC 2 rfl rfl dMo_bind_43 ?_
              refine xz_get hC 0 rfl rfl 15 (by decide) inMo tq444 rfl rfl dMo_bind_44 ?_
              refine xz_aload_n hC 2 rfl rfl dMo_bind_47 ?_
              refine xz_get hC 0 rfl rfl 13 (by decide) inMo tq442 rfl rfl dMo_bind_48 ?_
              refine xz_iload hC 0 rfl dMo_bind_51 ?_
              refine xz_iaload hC 1 0 (v := nI (32 + r 2)) rfl rfl (by decide) (by decide) (hrr 2 (by decide)) dMo_bind_53 ?_
              refine xz_bipush hC (v := nI 32) (by decide +kernel) dMo_bind_54 ?_
              refine xz_isub hC (z := nI (r 2)) ((pk_sub (by omega)).trans (congrArg nI (by omega))) dMo_bind_56 ?_
              refine xz_iconst hC (v := bI true) (by decide +kernel) dMo_bind_57 ?_
              refine xz_bastore hC 3 3 (ws' := [(mo, .inr (6, [.int (nI mb), .ref wo, .int (nI mw), .ref le, .ref lt, .int (nI n), .ref pe, .int (nI o), .ref st, .int (nI mg), .int (nI pa), .ref pt, .int (nI ma), .ref rr, .ref vl, .ref bo, .int (nI an), .ref kp, .int (nI lv)])), (rr, .inl (K 0, 3, .inl Rr)), (vl, .inl (K 0, 3, .inl (upd (upd (upd Vl 0 (-1)) 1 (-1)) 2 (-1)))), (bo, .inl (K 3, 3, .inl (upd (upd (upd (upd Bo 0 (bI false)) 1 (bI false)) 2 (bI false)) (r 2) (bI true))))]) rfl rfl (by omega) (by decide) (bI_v _) rfl dMo_bind_58 ?_
              refine xz_aload_n hC 2 rfl rfl dMo_bind_59 ?_
              refine xz_get hC 0 rfl rfl 14 (by decide) inMo tq443 rfl rfl dMo_bind_60 ?_
              refine xz_aload_n hC 2 rfl rfl dMo_bind_63 ?_
              refine xz_get hC 0 rfl rfl 13 (by decide) inMo tq442 rfl rfl dMo_bind_64 ?_
              refine xz_iload hC 0 rfl dMo_bind_67 ?_
              refine xz_iaload hC 1 0 (v := nI (32 + r 2)) rfl rfl (by decide) (by decide) (hrr 2 (by decide)) dMo_bind_69 ?_
              refine xz_bipush hC (v := nI 32) (by decide +kernel) dMo_bind_70 ?_
              refine xz_isub hC (z := nI (r 2)) ((pk_sub (by omega)).trans (congrArg nI (by omega))) dMo_bind_72 ?_
              refine xz_iload_n hC 1 rfl rfl dMo_bind_73 ?_
              refine xz_aload_n hC 2 rfl rfl dMo_bind_74 ?_
              refine xz_get hC 0 rfl rfl 2 (by decide) inMo tq431 rfl rfl dMo_bind_75 ?_
              refine xz_irem hC (z := nI (b % mw)) (nI_ne0 (by omega) (by omega)) (pk_rem (by omega) (by omega) (by omega)) dMo_bind_78 ?_
              refine xz_iastore hC 2 0 (ws' := [(mo, .inr (6, [.int (nI mb), .ref wo, .int (nI mw), .ref le, .ref lt, .int (nI n), .ref pe, .int (nI o), .ref st, .int (nI mg), .int (nI pa), .ref pt, .int (nI ma), .ref rr, .ref vl, .ref bo, .int (nI an), .ref kp, .int (nI lv)])), (rr, .inl (K 0, 3, .inl Rr)), (vl, .inl (K 0, 3, .inl (upd (upd (upd (upd Vl 0 (-1)) 1 (-1)) 2 (-1)) (r 2) (nI (b % mw))))), (bo, .inl (K 3, 3, .inl (upd (upd (upd (upd Bo 0 (bI false)) 1 (bI false)) 2 (bI false)) (r 2) (bI true))))]) rfl rfl (by omega) (by decide) rfl dMo_bind_79 ?_
              refine xz_iload_n hC 1 rfl rfl dMo_bind_80 ?_
              refine xz_aload_n hC 2 rfl rfl dMo_bind_81 ?_
              refine xz_get hC 0 rfl rfl 2 (by decide) inMo tq431 rfl rfl dMo_bind_82 ?_
              refine xz_idiv hC (z := nI (b / mw)) (nI_ne0 (by omega) (by omega)) (pk_div (by omega) (by omega) (by omega)) dMo_bind_85 ?_
              refine xz_istore_n hC (lc' := [(3, .int (nI (b / mw))), (4, .int (nI 2)), (0, .ref mo), (1, .int (nI 3)), (2, .int (nI b))]) rfl (by decide) rfl dMo_bind_86 ?_
              refine xz_iinc hC 1 (lc' := [(4, .int (nI 1)), (3, .int (nI (b / mw))), (0, .ref mo), (1, .int (nI 3)), (2, .int (nI b))]) rfl (by decide +kernel) (by decide) rfl dMo_bind_87 ?_
              refine xz_goto hC (tgt := 38) (by decide) dMo_bind_90 ?_
              refine xz_iload hC 0 rfl dMo_bind_38 ?_
              refine xz_if_lt hC (tgt := 93) (nI_toInt (by omega)) (by decide) dMo_bind_40 (fun h24 => ?_) (fun h24 => ?_)
              · skip
                exfalso; omega
              · skip
                refine xz_aload_n hC 2 rfl rfl dMo_bind_43 ?_
                refine xz_get hC 0 rfl rfl 15 (by decide) inMo tq444 rfl rfl dMo_bind_44 ?_
                refine xz_aload_n hC 2 rfl rfl dMo_bind_47 ?_
                refine xz_get hC 0 rfl rfl 13 (by decide) inMo tq442 rfl rfl dMo_bind_48 ?_
                refine xz_iload hC 0 rfl dMo_bind_51 ?_
                refine xz_iaload hC 1 0 (v := nI (32 + r 1)) rfl rfl (by decide) (by decide) (hrr 1 (by decide)) dMo_bind_53 ?_
                refine xz_bipush hC (v := nI 32) (by decide +kernel) dMo_bind_54 ?_
                refine xz_isub hC (z := nI (r 1)) ((pk_sub (by omega)).trans (congrArg nI (by omega))) dMo_bind_56 ?_
                refine xz_iconst hC (v := bI true) (by decide +kernel) dMo_bind_57 ?_
                refine xz_bastore hC 3 3 (ws' := [(mo, .inr (6, [.int (nI mb), .ref wo, .int (nI mw), .ref le, .ref lt, .int (nI n), .ref pe, .int (nI o), .ref st, .int (nI mg), .int (nI pa), .ref pt, .int (nI ma), .ref rr, .ref vl, .ref bo, .int (nI an), .ref kp, .int (nI lv)])), (rr, .inl (K 0, 3, .inl Rr)), (vl, .inl (K 0, 3, .inl (upd (upd (upd (upd Vl 0 (-1)) 1 (-1)) 2 (-1)) (r 2) (nI (b % mw))))), (bo, .inl (K 3, 3, .inl (upd (upd (upd (upd (upd Bo 0 (bI false)) 1 (bI false)) 2 (bI false)) (r 2) (bI true)) (r 1) (bI true))))]) rfl rfl (by omega) (by decide) (bI_v _) rfl dMo_bind_58 ?_
                refine xz_aload_n hC 2 rfl rfl dMo_bind_59 ?_
                refine xz_get hC 0 rfl rfl 14 (by decide) inMo tq443 rfl rfl dMo_bind_60 ?_
                refine xz_aload_n hC 2 rfl rfl dMo_bind_63 ?_
                refine xz_get hC 0 rfl rfl 13 (by decide) inMo tq442 rfl rfl dMo_bind_64 ?_
                refine xz_iload hC 0 rfl dMo_bind_67 ?_
                refine xz_iaload hC 1 0 (v := nI (32 + r 1)) rfl rfl (by decide) (by decide) (hrr 1 (by decide)) dMo_bind_69 ?_
                refine xz_bipush hC (v := nI 32) (by decide +kernel) dMo_bind_70 ?_
                refine xz_isub hC (z := nI (r 1)) ((pk_sub (by omega)).trans (congrArg nI (by omega))) dMo_bind_72 ?_
                refine xz_iload_n hC 1 rfl rfl dMo_bind_73 ?_
                refine xz_aload_n hC 2 rfl rfl dMo_bind_74 ?_
                refine xz_get hC 0 rfl rfl 2 (by decide) inMo tq431 rfl rfl dMo_bind_75 ?_
                refine xz_irem hC (z := nI ((b / mw) % mw)) (nI_ne0 (by omega) (by omega)) (pk_rem (Nat.lt_of_le_of_lt (Nat.div_le_self _ _) (by omega)) (by omega) (by omega)) dMo_bind_78 ?_
                refine xz_iastore hC 2 0 (ws' := [(mo, .inr (6, [.int (nI mb), .ref wo, .int (nI mw), .ref le, .ref lt, .int (nI n), .ref pe, .int (nI o), .ref st, .int (nI mg), .int (nI pa), .ref pt, .int (nI ma), .ref rr, .ref vl, .ref bo, .int (nI an), .ref kp, .int (nI lv)])), (rr, .inl (K 0, 3, .inl Rr)), (vl, .inl (K 0, 3, .inl (upd (upd (upd (upd (upd Vl 0 (-1)) 1 (-1)) 2 (-1)) (r 2) (nI (b % mw))) (r 1) (nI ((b / mw) % mw))))), (bo, .inl (K 3, 3, .inl (upd (upd (upd (upd (upd Bo 0 (bI false)) 1 (bI false)) 2 (bI false)) (r 2) (bI true)) (r 1) (bI true))))]) rfl rfl (by omega) (by decide) rfl dMo_bind_79 ?_
                refine xz_iload_n hC 1 rfl rfl dMo_bind_80 ?_
                refine xz_aload_n hC 2 rfl rfl dMo_bind_81 ?_
                refine xz_get hC 0 rfl rfl 2 (by decide) inMo tq431 rfl rfl dMo_bind_82 ?_
                refine xz_idiv hC (z := nI ((b / mw) / mw)) (nI_ne0 (by omega) (by omega)) (pk_div (Nat.lt_of_le_of_lt (Nat.div_le_self _ _) (by omega)) (by omega) (by omega)) dMo_bind_85 ?_
                refine xz_istore_n hC (lc' := [(3, .int (nI ((b / mw) / mw))), (4, .int (nI 1)), (0, .ref mo), (1, .int (nI 3)), (2, .int (nI b))]) rfl (by decide) rfl dMo_bind_86 ?_
                refine xz_iinc hC 1 (lc' := [(4, .int (nI 0)), (3, .int (nI ((b / mw) / mw))), (0, .ref mo), (1, .int (nI 3)), (2, .int (nI b))]) rfl (by decide +kernel) (by decide) rfl dMo_bind_87 ?_
                refine xz_goto hC (tgt := 38) (by decide) dMo_bind_90 ?_
                refine xz_iload hC 0 rfl dMo_bind_38 ?_
                refine xz_if_lt hC (tgt := 93) (nI_toInt (by omega)) (by decide) dMo_bind_40 (fun h25 => ?_) (fun h25 => ?_)
                · skip
                  exfalso; omega
                · skip
                  refine xz_aload_n hC 2 rfl rfl dMo_bind_43 ?_
                  refine xz_get hC 0 rfl rfl 15 (by decide) inMo tq444 rfl rfl dMo_bind_44 ?_
                  refine xz_aload_n hC 2 rfl rfl dMo_bind_47 ?_
                  refine xz_get hC 0 rfl rfl 13 (by decide) inMo tq442 rfl rfl dMo_bind_48 ?_
                  refine xz_iload hC 0 rfl dMo_bind_51 ?_
                  refine xz_iaload hC 1 0 (v := nI (32 + r 0)) rfl rfl (by decide) (by decide) (hrr 0 (by decide)) dMo_bind_53 ?_
                  refine xz_bipush hC (v := nI 32) (by decide +kernel) dMo_bind_54 ?_
                  refine xz_isub hC (z := nI (r 0)) ((pk_sub (by omega)).trans (congrArg nI (by omega))) dMo_bind_56 ?_
                  refine xz_iconst hC (v := bI true) (by decide +kernel) dMo_bind_57 ?_
                  refine xz_bastore hC 3 3 (ws' := [(mo, .inr (6, [.int (nI mb), .ref wo, .int (nI mw), .ref le, .ref lt, .int (nI n), .ref pe, .int (nI o), .ref st, .int (nI mg), .int (nI pa), .ref pt, .int (nI ma), .ref rr, .ref vl, .ref bo, .int (nI an), .ref kp, .int (nI lv)])), (rr, .inl (K 0, 3, .inl Rr)), (vl, .inl (K 0, 3, .inl (upd (upd (upd (upd (upd Vl 0 (-1)) 1 (-1)) 2 (-1)) (r 2) (nI (b % mw))) (r 1) (nI ((b / mw) % mw))))), (bo, .inl (K 3, 3, .inl (upd (upd (upd (upd (upd (upd Bo 0 (bI false)) 1 (bI false)) 2 (bI false)) (r 2) (bI true)) (r 1) (bI true)) (r 0) (bI true))))]) rfl rfl (by omega) (by decide) (bI_v _) rfl dMo_bind_58 ?_
                  refine xz_aload_n hC 2 rfl rfl dMo_bind_59 ?_
                  refine xz_get hC 0 rfl rfl 14 (by decide) inMo tq443 rfl rfl dMo_bind_60 ?_
                  refine xz_aload_n hC 2 rfl rfl dMo_bind_63 ?_
                  refine xz_get hC 0 rfl rfl 13 (by decide) inMo tq442 rfl rfl dMo_bind_64 ?_
                  refine xz_iload hC 0 rfl dMo_bind_67 ?_
                  refine xz_iaload hC 1 0 (v := nI (32 + r 0)) rfl rfl (by decide) (by decide) (hrr 0 (by decide)) dMo_bind_69 ?_
                  refine xz_bipush hC (v := nI 32) (by decide +kernel) dMo_bind_70 ?_
                  refine xz_isub hC (z := nI (r 0)) ((pk_sub (by omega)).trans (congrArg nI (by omega))) dMo_bind_72 ?_
                  refine xz_iload_n hC 1 rfl rfl dMo_bind_73 ?_
                  refine xz_aload_n hC 2 rfl rfl dMo_bind_74 ?_
                  refine xz_get hC 0 rfl rfl 2 (by decide) inMo tq431 rfl rfl dMo_bind_75 ?_
                  refine xz_irem hC (z := nI (((b / mw) / mw) % mw)) (nI_ne0 (by omega) (by omega)) (pk_rem (Nat.lt_of_le_of_lt (Nat.le_trans (Nat.div_le_self _ _) (Nat.div_le_self _ _)) (by omega)) (by omega) (by omega)) dMo_bind_78 ?_
                  refine xz_iastore hC 2 0 (ws' := [(mo, .inr (6, [.int (nI mb), .ref wo, .int (nI mw), .ref le, .ref lt, .int (nI n), .ref pe, .int (nI o), .ref st, .int (nI mg), .int (nI pa), .ref pt, .int (nI ma), .ref rr, .ref vl, .ref bo, .int (nI an), .ref kp, .int (nI lv)])), (rr, .inl (K 0, 3, .inl Rr)), (vl, .inl (K 0, 3, .inl (upd (upd (upd (upd (upd (upd Vl 0 (-1)) 1 (-1)) 2 (-1)) (r 2) (nI (b % mw))) (r 1) (nI ((b / mw) % mw))) (r 0) (nI (((b / mw) / mw) % mw))))), (bo, .inl (K 3, 3, .inl (upd (upd (upd (upd (upd (upd Bo 0 (bI false)) 1 (bI false)) 2 (bI false)) (r 2) (bI true)) (r 1) (bI true)) (r 0) (bI true))))]) rfl rfl (by omega) (by decide) rfl dMo_bind_79 ?_
                  refine xz_iload_n hC 1 rfl rfl dMo_bind_80 ?_
                  refine xz_aload_n hC 2 rfl rfl dMo_bind_81 ?_
                  refine xz_get hC 0 rfl rfl 2 (by decide) inMo tq431 rfl rfl dMo_bind_82 ?_
                  refine xz_idiv hC (z := nI (((b / mw) / mw) / mw)) (nI_ne0 (by omega) (by omega)) (pk_div (Nat.lt_of_le_of_lt (Nat.le_trans (Nat.div_le_self _ _) (Nat.div_le_self _ _)) (by omega)) (by omega) (by omega)) dMo_bind_85 ?_
                  refine xz_istore_n hC (lc' := [(3, .int (nI (((b / mw) / mw) / mw))), (4, .int (nI 0)), (0, .ref mo), (1, .int (nI 3)), (2, .int (nI b))]) rfl (by decide) rfl dMo_bind_86 ?_
                  refine xz_iinc hC 1 (lc' := [(4, .int (-1)), (3, .int (nI (((b / mw) / mw) / mw))), (0, .ref mo), (1, .int (nI 3)), (2, .int (nI b))]) rfl (by decide +kernel) (by decide) rfl dMo_bind_87 ?_
                  refine xz_goto hC (tgt := 38) (by decide) dMo_bind_90 ?_
                  refine xz_iload hC 0 rfl dMo_bind_38 ?_
                  refine xz_if_lt hC (tgt := 93) xn_m1 (by decide) dMo_bind_40 (fun h26 => ?_) (fun h26 => ?_)
                  · skip
                    exact xz_return hC (by decide) (by decide) (have hfin := xm_bind_fin (ts := [b / mw / mw % mw, b / mw % mw, b % mw]) hr (xm_get3 (Nat.lt_of_lt_of_le (Nat.mod_lt _ hmw0) (by omega)) (Nat.lt_of_lt_of_le (Nat.mod_lt _ hmw0) (by omega)) (Nat.lt_of_lt_of_le (Nat.mod_lt _ hmw0) (by omega))) (xm_v3 (f := Vl)) (xm_b3 (f := Bo)); ⟨_, _, rfl, rfl, hfin.1, hfin.2⟩) dMo_bind_93
                  · skip
                    exfalso; omega
          · skip
            exfalso; omega
set_option maxHeartbeats 1000000 in
set_option maxRecDepth 100000 in
theorem mMo_through (l : Launch) (D : va_G) (K : Nat → ClassId) (mo wo le lt pe st pt rr vl bo kp mb mw n o mg pa ma an lv : Nat) (Pe Pt Rr Vl Bo Kp : Nat → Int32) (pp q r : Nat → Nat) (u : Nat) (hn : n ≤ 60) (hp : xo_og Pe pp n) (hpa : pa ≤ 4) (hq : xq_nu Pt q (3 * pa)) (hmw : mw ≤ 24) (hu : u ≤ 3) (hr : xs_rw r u) (hrr : ∀ j, j < u → Rr j = nI (32 + r j)) : xz_Met l D (tz K) yMo_through cMo_through 6 (some .int) { frames := 3, cells := 0, slots := 0, locals := 70 } [.ref mo, .int (nI u)] [(mo, .inr (6, [.int (nI mb), .ref wo, .int (nI mw), .ref le, .ref lt, .int (nI n), .ref pe, .int (nI o), .ref st, .int (nI mg), .int (nI pa), .ref pt, .int (nI ma), .ref rr, .ref vl, .ref bo, .int (nI an), .ref kp, .int (nI lv)])), (pe, .inl (K 0, 60, .inl Pe)), (pt, .inl (K 0, 12, .inl Pt)), (rr, .inl (K 0, 3, .inl Rr)), (vl, .inl (K 0, 3, .inl Vl)), (bo, .inl (K 3, 3, .inl Bo)), (kp, .inl (K 0, 600, .inl Kp))] (fun v w => ∃ Vl' Bo' Kp' : Nat → Int32, v = some (.int (nI (xr_F (xq_live q pa r (xo_mem pp n)) mw u).length)) ∧ w = [(mo, .inr (6, [.int (nI mb), .ref wo, .int (nI mw), .ref le, .ref lt, .int (nI n), .ref pe, .int (nI o), .ref st, .int (nI mg), .int (nI pa), .ref pt, .int (nI ma), .ref rr, .ref vl, .ref bo, .int (nI an), .ref kp, .int (nI lv)])), (pe, .inl (K 0, 60, .inl Pe)), (pt, .inl (K 0, 12, .inl Pt)), (rr, .inl (K 0, 3, .inl Rr)), (vl, .inl (K 0, 3, .inl Vl')), (bo, .inl (K 3, 3, .inl Bo')), (kp, .inl (K 0, 600, .inl Kp'))] ∧ xs_kp Kp' (xr_F (xq_live q pa r (xo_mem pp n)) mw u) (xq_vl r)) := by
  refine xz_enter (by decide +kernel) (Nat.le_of_ble_eq_true rfl) ?_
  intro Γ hC
  refine xz_lcs (lc' := [(0, .ref mo), (1, .int (nI u))]) [0, 1] rfl ?_
  have hpw : mw ^ u ≤ 13824 := Nat.le_trans (Nat.pow_le_pow_left hmw u) (Nat.pow_le_pow_right (n := 24) (by decide) hu)
  have hpi : ∀ i, i ≤ u → mw ^ i ≤ 13824 := fun i hi => Nat.le_trans (Nat.pow_le_pow_left hmw i) (Nat.pow_le_pow_right (n := 24) (by decide) (by omega : i ≤ 3))
  refine xz_iconst hC (v := nI 1) (by decide +kernel) dMo_through_0 ?_
  refine xz_istore_n hC (lc' := [(2, .int (nI 1)), (0, .ref mo), (1, .int (nI u))]) rfl (by decide) rfl dMo_through_1 ?_
  refine xz_iconst hC (v := nI 0) (by decide +kernel) dMo_through_2 ?_
  refine xz_istore_n hC (lc' := [(3, .int (nI 0)), (2, .int (nI 1)), (0, .ref mo), (1, .int (nI u))]) rfl (by decide) rfl dMo_through_3 ?_
  refine xz_lce (lc' := [(3, .int (nI 0)), (2, .int (nI (mw ^ 0))), (0, .ref mo), (1, .int (nI u))]) (by rw [Nat.pow_zero]) ?_
  have lp1 : ∀ (NNlp1 : Nat) (i : Nat), i ≤ u → u - i = NNlp1 → xz_X Γ 0 0 [(mo, .inr (6, [.int (nI mb), .ref wo, .int (nI mw), .ref le, .ref lt, .int (nI n), .ref pe, .int (nI o), .ref st, .int (nI mg), .int (nI pa), .ref pt, .int (nI ma), .ref rr, .ref vl, .ref bo, .int (nI an), .ref kp, .int (nI lv)])), (pe, .inl (K 0, 60, .inl Pe)), (pt, .inl (K 0, 12, .inl Pt)), (rr, .inl (K 0, 3, .inl Rr)), (vl, .inl (K 0, 3, .inl Vl)), (bo, .inl (K 3, 3, .inl Bo)), (kp, .inl (K 0, 600, .inl Kp))] 4 [(3, .int (nI i)), (2, .int (nI (mw ^ i))), (0, .ref mo), (1, .int (nI u))] [] := by
    intro NNlp1
    induction NNlp1 using Nat.strongRecOn with
    | _ NNlp1 ihlp1 =>
      intro i  hi hNNlp1
      refine xz_iload_n hC 0 rfl rfl dMo_through_4 ?_
      refine xz_iload_n hC 3 rfl rfl dMo_through_5 ?_
      refine xz_icmp_ge hC (tgt := 22) (nI_toInt (by omega)) (nI_toInt (by omega)) (by decide) dMo_through_6 (fun h2 => ?_) (fun h2 => ?_)
      · skip
        refine xz_iconst hC (v := nI 0) (by decide +kernel) dMo_through_22 ?_
        refine xz_istore_n hC (lc' := [(3, .int (nI 0)), (2, .int (nI (mw ^ i))), (0, .ref mo), (1, .int (nI u))]) rfl (by decide) rfl dMo_through_23 ?_
        refine xz_iconst hC (v := nI 0) (by decide +kernel) dMo_through_24 ?_
        refine xz_istore hC (lc' := [(4, .int (nI 0)), (3, .int (nI 0)), (2, .int (nI (mw ^ i))), (0, .ref mo), (1, .int (nI u))]) (by decide) rfl dMo_through_25 ?_
        refine xz_lce (lc' := [(4, .int (nI 0)), (3, .int (nI 0)), (2, .int (nI (mw ^ u))), (0, .ref mo), (1, .int (nI u))]) (by rw [show i = u by omega]) ?_
        have lp3 : ∀ (NNlp3 : Nat) (b : Nat) (Vl' : Nat → Int32) (Bo' : Nat → Int32) (Kp' : Nat → Int32) (nn : Nat), b ≤ mw ^ u → nn = (xr_K (xq_live q pa r (xo_mem pp n)) mw u b).length → xs_kp Kp' (xr_K (xq_live q pa r (xo_mem pp n)) mw u b) (xq_vl r) → mw ^ u - b = NNlp3 → xz_X Γ 0 0 [(mo, .inr (6, [.int (nI mb), .ref wo, .int (nI mw), .ref le, .ref lt, .int (nI n), .ref pe, .int (nI o), .ref st, .int (nI mg), .int (nI pa), .ref pt, .int (nI ma), .ref rr, .ref vl, .ref bo, .int (nI an), .ref kp, .int (nI lv)])), (pe, .inl (K 0, 60, .inl Pe)), (pt, .inl (K 0, 12, .inl Pt)), (rr, .inl (K 0, 3, .inl Rr)), (vl, .inl (K 0, 3, .inl Vl')), (bo, .inl (K 3, 3, .inl Bo')), (kp, .inl (K 0, 600, .inl Kp'))] 27 [(4, .int (nI b)), (3, .int (nI nn)), (2, .int (nI (mw ^ u))), (0, .ref mo), (1, .int (nI u))] [] := by
          intro NNlp3
          induction NNlp3 using Nat.strongRecOn with
          | _ NNlp3 ihlp3 =>
            intro b  Vl'  Bo'  Kp'  nn  hb0 hnn hkp hNNlp3
            refine xz_iload hC 0 rfl dMo_through_27 ?_
            refine xz_iload_n hC 2 rfl rfl dMo_through_29 ?_
            refine xz_icmp_ge hC (tgt := 96) (nI_toInt (by omega)) (nI_toInt (by omega)) (by decide) dMo_through_30 (fun h4 => ?_) (fun h4 => ?_)
            · skip
              refine xz_iload_n hC 1 rfl rfl dMo_through_96 ?_
              exact xz_ireturn hC (by decide) (by decide) (⟨Vl', Bo', Kp', by rw [hnn, show b = mw ^ u by omega, xr_K_all], rfl, by rw [← xr_K_all, show mw ^ u = b by omega]; exact hkp⟩) dMo_through_97
            · skip
              have hkl := xr_K_len (xq_live q pa r (xo_mem pp n)) mw u b
              refine xz_aload_n hC 3 rfl rfl dMo_through_33 ?_
              refine xz_iload_n hC 4 rfl rfl dMo_through_34 ?_
              refine xz_iload hC 0 rfl dMo_through_35 ?_
              refine xz_callV hC (mMo_bind l D K mo wo le lt pe st pt rr vl bo kp mb mw n o mg pa ma an lv Rr Vl' Bo' r u b hmw hu (by omega) (xm_pos (b := b) (by omega)) hr hrr) kMo_bind tq7 tq592 tq594 tp25 0 6 rfl rfl rfl (host := "") hMo_bind (by decide) [0, 3, 4, 5] [1, 2, 6] (by decide) rfl (wr := [(pe, .inl (K 0, 60, .inl Pe)), (pt, .inl (K 0, 12, .inl Pt)), (kp, .inl (K 0, 600, .inl Kp'))]) rfl (by decide) (by decide) (As := [.int (nI u), .int (nI b)]) (rest := []) rfl rfl (Nat.le_of_ble_eq_true rfl) (by decide) dMo_through_37 (fun v w hq => ?_)
              obtain ⟨Vl2, Bo2, rfl, rfl, hbo2, hvl2⟩ := hq
              refine xz_ste (st' := []) rfl ?_
              refine xz_wss (ws' := [(mo, .inr (6, [.int (nI mb), .ref wo, .int (nI mw), .ref le, .ref lt, .int (nI n), .ref pe, .int (nI o), .ref st, .int (nI mg), .int (nI pa), .ref pt, .int (nI ma), .ref rr, .ref vl, .ref bo, .int (nI an), .ref kp, .int (nI lv)])), (pe, .inl (K 0, 60, .inl Pe)), (pt, .inl (K 0, 12, .inl Pt)), (rr, .inl (K 0, 3, .inl Rr)), (vl, .inl (K 0, 3, .inl Vl2)), (bo, .inl (K 3, 3, .inl Bo2)), (kp, .inl (K 0, 600, .inl Kp'))]) [3, 0, 1, 4, 5, 6, 2] (by decide) rfl rfl ?_
              refine xz_aload_n hC 3 rfl rfl dMo_through_40 ?_
              refine xz_callV hC (mMo_isLive l D K mo wo le lt pe st pt rr vl bo kp mb mw n o mg pa ma an lv Pe Pt Vl2 Bo2 pp q (xm_Bo r u) (xm_Vv r (xr_dg mw u b)) hn hp hpa hq hbo2) kMo_isLive tq7 tq596 tq598 tp26 0 6 rfl rfl rfl (host := "") hMo_isLive (by decide) [0, 1, 2, 4, 5] [3, 6] (by decide) rfl (wr := [(rr, .inl (K 0, 3, .inl Rr)), (kp, .inl (K 0, 600, .inl Kp'))]) rfl (by decide) (by decide) (As := []) (rest := []) rfl rfl (Nat.le_of_ble_eq_true rfl) (by decide) dMo_through_41 (fun v w hq => ?_)
              obtain ⟨lb, rfl, rfl, hlb⟩ := hq
              refine xz_ste (st' := [.int (bI lb)]) rfl ?_
              refine xz_wss (ws' := [(mo, .inr (6, [.int (nI mb), .ref wo, .int (nI mw), .ref le, .ref lt, .int (nI n), .ref pe, .int (nI o), .ref st, .int (nI mg), .int (nI pa), .ref pt, .int (nI ma), .ref rr, .ref vl, .ref bo, .int (nI an), .ref kp, .int (nI lv)])), (pe, .inl (K 0, 60, .inl Pe)), (pt, .inl (K 0, 12, .inl Pt)), (rr, .inl (K 0, 3, .inl Rr)), (vl, .inl (K 0, 3, .inl Vl2)), (bo, .inl (K 3, 3, .inl Bo2)), (kp, .inl (K 0, 600, .inl Kp'))]) [2, 3, 4, 0, 5, 6, 1] (by decide) rfl rfl ?_
              rw [xm_live (P := xo_mem pp n) (fun i hi => (hq i hi).2) (xm_bd_dg hr) (fun c => Iff.rfl)] at hlb
              refine xz_ifb_eq hC (tgt := 90) (by decide) dMo_through_44 (fun h5 => ?_) (fun h5 => ?_)
              · skip
                have hnl : ¬ xq_live q pa r (xo_mem pp n) (xr_dg mw u b) = true := fun z => absurd (hlb.mpr z) (by rw [h5]; decide)
                refine xz_iinc hC 0 (lc' := [(4, .int (nI (b + 1))), (3, .int (nI nn)), (2, .int (nI (mw ^ u))), (0, .ref mo), (1, .int (nI u))]) rfl (xn_inc _) (by decide) rfl dMo_through_90 ?_
                refine xz_goto hC (tgt := 27) (by decide) dMo_through_93 ?_
                exact ihlp3 _ (by omega) (b + 1) Vl2 Bo2 Kp' nn (by omega) (by rw [xr_K_succ, if_neg hnl, List.append_nil]; exact hnn) (by rw [xr_K_succ, if_neg hnl, List.append_nil]; exact hkp) rfl
              · skip
                have hyl := hlb.mp h5
                refine xz_iconst hC (v := nI 0) (by decide +kernel) dMo_through_47 ?_
                refine xz_istore hC (lc' := [(5, .int (nI 0)), (4, .int (nI b)), (3, .int (nI nn)), (2, .int (nI (mw ^ u))), (0, .ref mo), (1, .int (nI u))]) (by decide) rfl dMo_through_48 ?_
                refine xz_iload hC 0 rfl dMo_through_50 ?_
                refine xz_iconst hC (v := nI 3) (by decide +kernel) dMo_through_52 ?_
                refine xz_icmp_ge hC (tgt := 87) (nI_toInt (by omega)) (nI_toInt (by omega)) (by decide) dMo_through_53 (fun h6 => ?_) (fun h6 => ?_)
                · skip
                  exfalso; omega
                · skip
                  refine xz_iload_n hC 2 rfl rfl dMo_through_56 ?_
                  refine xz_sipush hC (v := nI 200) (by decide +kernel) dMo_through_57 ?_
                  refine xz_icmp_ge hC (tgt := 87) (nI_toInt (by omega)) (nI_toInt (by omega)) (by decide) dMo_through_60 (fun h7 => ?_) (fun h7 => ?_)
                  · skip
                    refine xz_iinc hC 2 (lc' := [(3, .int (nI (nn + 1))), (5, .int (nI 0)), (4, .int (nI b)), (2, .int (nI (mw ^ u))), (0, .ref mo), (1, .int (nI u))]) rfl (xn_inc _) (by decide) rfl dMo_through_87 ?_
                    refine xz_iinc hC 2 (lc' := [(4, .int (nI (b + 1))), (3, .int (nI (nn + 1))), (5, .int (nI 0)), (2, .int (nI (mw ^ u))), (0, .ref mo), (1, .int (nI u))]) rfl (xn_inc _) (by decide) rfl dMo_through_90 ?_
                    refine xz_goto hC (tgt := 27) (by decide) dMo_through_93 ?_
                    refine xz_lcs (lc' := [(4, .int (nI (b + 1))), (3, .int (nI (nn + 1))), (2, .int (nI (mw ^ u))), (0, .ref mo), (1, .int (nI u))]) [0, 1, 3, 4, 5] rfl ?_
                    exact ihlp3 _ (by omega) (b + 1) Vl2 Bo2 Kp' (nn + 1) (by omega) (by rw [xr_K_succ, if_pos hyl, List.length_append, ← hnn]; rfl) (by rw [xr_K_succ, if_pos hyl]; exact xs_kp_over hkp (by omega)) rfl
                  · skip
                    refine xz_aload_n hC 4 rfl rfl dMo_through_63 ?_
                    refine xz_get hC 0 rfl rfl 17 (by decide) inMo tq446 rfl rfl dMo_through_64 ?_
                    refine xz_iconst hC (v := nI 3) (by decide +kernel) dMo_through_67 ?_
                    refine xz_iload_n hC 2 rfl rfl dMo_through_68 ?_
                    refine xz_imul hC (z := nI (3 * nn)) (pk_mul _ _) dMo_through_69 ?_
                    refine xz_iload hC 0 rfl dMo_through_70 ?_
                    refine xz_iadd hC (z := nI (3 * nn + 0)) (nI_add _ _) dMo_through_72 ?_
                    refine xz_aload_n hC 4 rfl rfl dMo_through_73 ?_
                    refine xz_get hC 0 rfl rfl 14 (by decide) inMo tq443 rfl rfl dMo_through_74 ?_
                    refine xz_iload hC 0 rfl dMo_through_77 ?_
                    refine xz_iaload hC 4 0 (v := Vl2 0) rfl rfl (by omega) (by decide) rfl dMo_through_79 ?_
                    refine xz_iastore hC 6 0 (ws' := [(mo, .inr (6, [.int (nI mb), .ref wo, .int (nI mw), .ref le, .ref lt, .int (nI n), .ref pe, .int (nI o), .ref st, .int (nI mg), .int (nI pa), .ref pt, .int (nI ma), .ref rr, .ref vl, .ref bo, .int (nI an), .ref kp, .int (nI lv)])), (pe, .inl (K 0, 60, .inl Pe)), (pt, .inl (K 0, 12, .inl Pt)), (rr, .inl (K 0, 3, .inl Rr)), (vl, .inl (K 0, 3, .inl Vl2)), (bo, .inl (K 3, 3, .inl Bo2)), (kp, .inl (K 0, 600, .inl (upd Kp' (3 * nn + 0) (Vl2 0))))]) rfl rfl (by omega) (by decide) rfl dMo_through_80 ?_
                    refine xz_iinc hC 0 (lc' := [(5, .int (nI 1)), (4, .int (nI b)), (3, .int (nI nn)), (2, .int (nI (mw ^ u))), (0, .ref mo), (1, .int (nI u))]) rfl (xn_inc _) (by decide) rfl dMo_through_81 ?_
                    refine xz_goto hC (tgt := 50) (by decide) dMo_through_84 ?_
                    refine xz_iload hC 0 rfl dMo_through_50 ?_
                    refine xz_iconst hC (v := nI 3) (by decide +kernel) dMo_through_52 ?_
                    refine xz_icmp_ge hC (tgt := 87) (nI_toInt (by omega)) (nI_toInt (by omega)) (by decide) dMo_through_53 (fun h8 => ?_) (fun h8 => ?_)
                    · skip
                      exfalso; omega
                    · skip
                      refine xz_iload_n hC 2 rfl rfl dMo_through_56 ?_
                      refine xz_sipush hC (v := nI 200) (by decide +kernel) dMo_through_57 ?_
                      refine xz_icmp_ge hC (tgt := 87) (nI_toInt (by omega)) (nI_toInt (by omega)) (by decide) dMo_through_60 (fun h9 => ?_) (fun h9 => ?_)
                      · skip
                        exfalso; omega
                      · skip
                        refine xz_aload_n hC 4 rfl rfl dMo_through_63 ?_
                        refine xz_get hC 0 rfl rfl 17 (by decide) inMo tq446 rfl rfl dMo_through_64 ?_
                        refine xz_iconst hC (v := nI 3) (by decide +kernel) dMo_through_67 ?_
                        refine xz_iload_n hC 2 rfl rfl dMo_through_68 ?_
                        refine xz_imul hC (z := nI (3 * nn)) (pk_mul _ _) dMo_through_69 ?_
                        refine xz_iload hC 0 rfl dMo_through_70 ?_
                        refine xz_iadd hC (z := nI (3 * nn + 1)) (nI_add _ _) dMo_through_72 ?_
                        refine xz_aload_n hC 4 rfl rfl dMo_through_73 ?_
                        refine xz_get hC 0 rfl rfl 14 (by decide) inMo tq443 rfl rfl dMo_through_74 ?_
                        refine xz_iload hC 0 rfl dMo_through_77 ?_
                        refine xz_iaload hC 4 0 (v := Vl2 1) rfl rfl (by omega) (by decide) rfl dMo_through_79 ?_
                        refine xz_iastore hC 6 0 (ws' := [(mo, .inr (6, [.int (nI mb), .ref wo, .int (nI mw), .ref le, .ref lt, .int (nI n), .ref pe, .int (nI o), .ref st, .int (nI mg), .int (nI pa), .ref pt, .int (nI ma), .ref rr, .ref vl, .ref bo, .int (nI an), .ref kp, .int (nI lv)])), (pe, .inl (K 0, 60, .inl Pe)), (pt, .inl (K 0, 12, .inl Pt)), (rr, .inl (K 0, 3, .inl Rr)), (vl, .inl (K 0, 3, .inl Vl2)), (bo, .inl (K 3, 3, .inl Bo2)), (kp, .inl (K 0, 600, .inl (upd (upd Kp' (3 * nn + 0) (Vl2 0)) (3 * nn + 1) (Vl2 1))))]) rfl rfl (by omega) (by decide) rfl dMo_through_80 ?_
                        refine xz_iinc hC 0 (lc' := [(5, .int (nI 2)), (4, .int (nI b)), (3, .int (nI nn)), (2, .int (nI (mw ^ u))), (0, .ref mo), (1, .int (nI u))]) rfl (xn_inc _) (by decide) rfl dMo_through_81 ?_
                        refine xz_goto hC (tgt := 50) (by decide) dMo_through_84 ?_
                        refine xz_iload hC 0 rfl dMo_through_50 ?_
                        refine xz_iconst hC (v := nI 3) (by decide +kernel) dMo_through_52 ?_
                        refine xz_icmp_ge hC (tgt := 87) (nI_toInt (by omega)) (nI_toInt (by omega)) (by decide) dMo_through_53 (fun h10 => ?_) (fun h10 => ?_)
                        · skip
                          exfalso; omega
                        · skip
                          refine xz_iload_n hC 2 rfl rfl dMo_through_56 ?_
                          refine xz_sipush hC (v := nI 200) (by decide +kernel) dMo_through_57 ?_
                          refine xz_icmp_ge hC (tgt := 87) (nI_toInt (by omega)) (nI_toInt (by omega)) (by decide) dMo_through_60 (fun h11 => ?_) (fun h11 => ?_)
                          · skip
                            exfalso; omega
                          · skip
                            refine xz_aload_n hC 4 rfl rfl dMo_through_63 ?_
                            refine xz_get hC 0 rfl rfl 17 (by decide) inMo tq446 rfl rfl dMo_through_64 ?_
                            refine xz_iconst hC (v := nI 3) (by decide +kernel) dMo_through_67 ?_
                            refine xz_iload_n hC 2 rfl rfl dMo_through_68 ?_
                            refine xz_imul hC (z := nI (3 * nn)) (pk_mul _ _) dMo_through_69 ?_
                            refine xz_iload hC 0 rfl dMo_through_70 ?_
                            refine xz_iadd hC (z := nI (3 * nn + 2)) (nI_add _ _) dMo_through_72 ?_
                            refine xz_aload_n hC 4 rfl rfl dMo_through_73 ?_
                            refine xz_get hC 0 rfl rfl 14 (by decide) inMo tq443 rfl rfl dMo_through_74 ?_
                            refine xz_iload hC 0 rfl dMo_through_77 ?_
                            refine xz_iaload hC 4 0 (v := Vl2 2) rfl rfl (by omega) (by decide) rfl dMo_through_79 ?_
                            refine xz_iastore hC 6 0 (ws' := [(mo, .inr (6, [.int (nI mb), .ref wo, .int (nI mw), .ref le, .ref lt, .int (nI n), .ref pe, .int (nI o), .ref st, .int (nI mg), .int (nI pa), .ref pt, .int (nI ma), .ref rr, .ref vl, .ref bo, .int (nI an), .ref kp, .int (nI lv)])), (pe, .inl (K 0, 60, .inl Pe)), (pt, .inl (K 0, 12, .inl Pt)), (rr, .inl (K 0, 3, .inl Rr)), (vl, .inl (K 0, 3, .inl Vl2)), (bo, .inl (K 3, 3, .inl Bo2)), (kp, .inl (K 0, 600, .inl (upd (upd (upd Kp' (3 * nn + 0) (Vl2 0)) (3 * nn + 1) (Vl2 1)) (3 * nn + 2) (Vl2 2))))]) rfl rfl (by omega) (by decide) rfl dMo_through_80 ?_
                            refine xz_iinc hC 0 (lc' := [(5, .int (nI 3)), (4, .int (nI b)), (3, .int (nI nn)), (2, .int (nI (mw ^ u))), (0, .ref mo), (1, .int (nI u))]) rfl (xn_inc _) (by decide) rfl dMo_through_81 ?_
                            refine xz_goto hC (tgt := 50) (by decide) dMo_through_84 ?_
                            refine xz_iload hC 0 rfl dMo_through_50 ?_
                            refine xz_iconst hC (v := nI 3) (by decide +kernel) dMo_through_52 ?_
                            refine xz_icmp_ge hC (tgt := 87) (nI_toInt (by omega)) (nI_toInt (by omega)) (by decide) dMo_through_53 (fun h12 => ?_) (fun h12 => ?_)
                            · skip
                              refine xz_iinc hC 2 (lc' := [(3, .int (nI (nn + 1))), (5, .int (nI 3)), (4, .int (nI b)), (2, .int (nI (mw ^ u))), (0, .ref mo), (1, .int (nI u))]) rfl (xn_inc _) (by decide) rfl dMo_through_87 ?_
                              refine xz_iinc hC 2 (lc' := [(4, .int (nI (b + 1))), (3, .int (nI (nn + 1))), (5, .int (nI 3)), (2, .int (nI (mw ^ u))), (0, .ref mo), (1, .int (nI u))]) rfl (xn_inc _) (by decide) rfl dMo_through_90 ?_
                              refine xz_goto hC (tgt := 27) (by decide) dMo_through_93 ?_
                              refine xz_lcs (lc' := [(4, .int (nI (b + 1))), (3, .int (nI (nn + 1))), (2, .int (nI (mw ^ u))), (0, .ref mo), (1, .int (nI u))]) [0, 1, 3, 4, 5] rfl ?_
                              exact ihlp3 _ (by omega) (b + 1) Vl2 Bo2 (upd (upd (upd Kp' (3 * nn + 0) (Vl2 0)) (3 * nn + 1) (Vl2 1)) (3 * nn + 2) (Vl2 2)) (nn + 1) (by omega) (by rw [xr_K_succ, if_pos hyl, List.length_append, ← hnn]; rfl) (by rw [xr_K_succ, if_pos hyl]; have hz := xm_kp_add hkp hvl2; rw [← hnn] at hz; exact hz) rfl
                            · skip
                              exfalso; omega
        exact lp3 _ 0 Vl Bo Kp 0 (Nat.zero_le _) rfl xs_kp_0 rfl
      · skip
        refine xz_iload_n hC 1 rfl rfl dMo_through_9 ?_
        refine xz_aload_n hC 2 rfl rfl dMo_through_10 ?_
        refine xz_get hC 0 rfl rfl 2 (by decide) inMo tq431 rfl rfl dMo_through_11 ?_
        refine xz_imul hC (z := nI (mw ^ (i + 1))) ((pk_mul _ _).trans (congrArg nI (Nat.pow_succ _ _).symm)) dMo_through_14 ?_
        refine xz_istore_n hC (lc' := [(2, .int (nI (mw ^ (i + 1)))), (3, .int (nI i)), (0, .ref mo), (1, .int (nI u))]) rfl (by decide) rfl dMo_through_15 ?_
        refine xz_iinc hC 1 (lc' := [(3, .int (nI (i + 1))), (2, .int (nI (mw ^ (i + 1)))), (0, .ref mo), (1, .int (nI u))]) rfl (xn_inc _) (by decide) rfl dMo_through_16 ?_
        refine xz_goto hC (tgt := 4) (by decide) dMo_through_19 ?_
        exact ihlp1 _ (by omega) (i + 1) (by omega) rfl
  exact lp1 _ 0 (by omega) rfl
