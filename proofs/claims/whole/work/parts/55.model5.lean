set_option maxHeartbeats 1000000 in
set_option maxRecDepth 100000 in
theorem mMo_fits (l : Launch) (D : va_G) (K : Nat → ClassId) (mo wo le lt pe st pt rr vl bo kp mb mw n o mg pa ma an lv : Nat) (x : Int32) (hmw : mw ≤ 24) : xz_Met l D (tz K) yMo_fits cMo_fits 2 (some .boolean) { frames := 1, cells := 0, slots := 0, locals := 21 } [.ref mo, .int x] [(mo, .inr (6, [.int (nI mb), .ref wo, .int (nI mw), .ref le, .ref lt, .int (nI n), .ref pe, .int (nI o), .ref st, .int (nI mg), .int (nI pa), .ref pt, .int (nI ma), .ref rr, .ref vl, .ref bo, .int (nI an), .ref kp, .int (nI lv)]))] (fun v w => ∃ b : Bool, v = some (.int (bI b)) ∧ w = [(mo, .inr (6, [.int (nI mb), .ref wo, .int (nI mw), .ref le, .ref lt, .int (nI n), .ref pe, .int (nI o), .ref st, .int (nI mg), .int (nI pa), .ref pt, .int (nI ma), .ref rr, .ref vl, .ref bo, .int (nI an), .ref kp, .int (nI lv)]))] ∧ (b = true ↔ ((0 ≤ x.toInt ∧ x.toInt < mw) ∨ (32 ≤ x.toInt ∧ x.toInt < 35)))) := by
  refine xz_enter (by decide +kernel) (Nat.le_of_ble_eq_true rfl) ?_
  intro Γ hC
  refine xz_lcs (lc' := [(0, .ref mo), (1, .int x)]) [0, 1] rfl ?_
  refine xz_aload_n hC 0 rfl rfl dMo_fits_0 ?_
  refine xz_iload_n hC 1 rfl rfl dMo_fits_1 ?_
  refine xz_callV hC (mMo_term l D K mo wo le lt pe st pt rr vl bo kp mb mw n o mg pa ma an lv x hmw) kMo_term tq7 tq530 tq532 tp19 0 6 rfl rfl rfl (host := "") hMo_term (by decide) [0] [] (by decide) rfl (wr := []) rfl (by decide) (by decide) (As := [.int x]) (rest := []) rfl rfl (Nat.le_of_ble_eq_true rfl) (by decide) dMo_fits_2 (fun v w hq => ?_)
  obtain ⟨b, rfl, rfl, hb⟩ := hq
  refine xz_ste (st' := [.int (bI b)]) rfl ?_
  refine xz_wss (ws' := [(mo, .inr (6, [.int (nI mb), .ref wo, .int (nI mw), .ref le, .ref lt, .int (nI n), .ref pe, .int (nI o), .ref st, .int (nI mg), .int (nI pa), .ref pt, .int (nI ma), .ref rr, .ref vl, .ref bo, .int (nI an), .ref kp, .int (nI lv)]))]) [0] (by decide) rfl rfl ?_
  refine xz_ifb_ne hC (tgt := 20) (by decide) dMo_fits_5 (fun h1 => ?_) (fun h1 => ?_)
  · skip
    have hv := hb.mp h1
    refine xz_iconst hC (v := bI true) (by decide +kernel) dMo_fits_20 ?_
    refine xz_goto hC (tgt := 25) (by decide) dMo_fits_21 ?_
    exact xz_zreturn hC (by decide) (by decide) (⟨_, rfl, rfl, by first | exact xt_t (by omega) | exact xt_f (by omega)⟩) dMo_fits_25
  · skip
    have hnv : ¬ (0 ≤ x.toInt ∧ x.toInt < mw) := fun k => absurd (hb.mpr k) (by rw [h1]; decide)
    refine xz_iload_n hC 1 rfl rfl dMo_fits_8 ?_
    refine xz_bipush hC (v := nI 32) (by decide +kernel) dMo_fits_9 ?_
    refine xz_icmp_lt hC (tgt := 24) rfl (nI_toInt (by omega)) (by decide) dMo_fits_11 (fun h2 => ?_) (fun h2 => ?_)
    · skip
      refine xz_iconst hC (v := bI false) (by decide +kernel) dMo_fits_24 ?_
      exact xz_zreturn hC (by decide) (by decide) (⟨_, rfl, rfl, by first | exact xt_t (by omega) | exact xt_f (by omega)⟩) dMo_fits_25
    · skip
      refine xz_iload_n hC 1 rfl rfl dMo_fits_14 ?_
      refine xz_bipush hC (v := nI 34) (by decide +kernel) dMo_fits_15 ?_
      refine xz_icmp_gt hC (tgt := 24) rfl (nI_toInt (by omega)) (by decide) dMo_fits_17 (fun h3 => ?_) (fun h3 => ?_)
      · skip
        refine xz_iconst hC (v := bI false) (by decide +kernel) dMo_fits_24 ?_
        exact xz_zreturn hC (by decide) (by decide) (⟨_, rfl, rfl, by first | exact xt_t (by omega) | exact xt_f (by omega)⟩) dMo_fits_25
      · skip
        refine xz_iconst hC (v := bI true) (by decide +kernel) dMo_fits_20 ?_
        refine xz_goto hC (tgt := 25) (by decide) dMo_fits_21 ?_
        exact xz_zreturn hC (by decide) (by decide) (⟨_, rfl, rfl, by first | exact xt_t (by omega) | exact xt_f (by omega)⟩) dMo_fits_25
set_option maxHeartbeats 1000000 in
set_option maxRecDepth 100000 in
theorem mMo_where (l : Launch) (D : va_G) (K : Nat → ClassId) (mo wo le lt pe st pt rr vl bo kp mb mw n o mg pa ma an lv : Nat) (Pt : Nat → Int32) (x y z : Int32) (hmw : mw ≤ 24) (hpa : pa ≤ 4) : xz_Met l D (tz K) yMo_where cMo_where 4 (some .int) { frames := 2, cells := 0, slots := 0, locals := 42 } [.ref mo, .int x, .int y, .int z] [(mo, .inr (6, [.int (nI mb), .ref wo, .int (nI mw), .ref le, .ref lt, .int (nI n), .ref pe, .int (nI o), .ref st, .int (nI mg), .int (nI pa), .ref pt, .int (nI ma), .ref rr, .ref vl, .ref bo, .int (nI an), .ref kp, .int (nI lv)])), (pt, .inl (K 0, 12, .inl Pt))] (fun v w => (¬ (((0 ≤ x.toInt ∧ x.toInt < mw) ∨ (32 ≤ x.toInt ∧ x.toInt < 35)) ∧ ((0 ≤ y.toInt ∧ y.toInt < mw) ∨ (32 ≤ y.toInt ∧ y.toInt < 35)) ∧ ((0 ≤ z.toInt ∧ z.toInt < mw) ∨ (32 ≤ z.toInt ∧ z.toInt < 35))) ∧ v = some (.int (-1)) ∧ w = [(mo, .inr (6, [.int (nI mb), .ref wo, .int (nI mw), .ref le, .ref lt, .int (nI n), .ref pe, .int (nI o), .ref st, .int (nI mg), .int (nI pa), .ref pt, .int (nI ma), .ref rr, .ref vl, .ref bo, .int (nI an), .ref kp, .int (nI lv)])), (pt, .inl (K 0, 12, .inl Pt))]) ∨ ((((0 ≤ x.toInt ∧ x.toInt < mw) ∨ (32 ≤ x.toInt ∧ x.toInt < 35)) ∧ ((0 ≤ y.toInt ∧ y.toInt < mw) ∨ (32 ≤ y.toInt ∧ y.toInt < 35)) ∧ ((0 ≤ z.toInt ∧ z.toInt < mw) ∨ (32 ≤ z.toInt ∧ z.toInt < 35))) ∧ pa = 4 ∧ v = some (.int (-2)) ∧ w = [(mo, .inr (6, [.int (nI mb), .ref wo, .int (nI mw), .ref le, .ref lt, .int (nI n), .ref pe, .int (nI o), .ref st, .int (nI mg), .int (nI pa), .ref pt, .int (nI ma), .ref rr, .ref vl, .ref bo, .int (nI an), .ref kp, .int (nI lv)])), (pt, .inl (K 0, 12, .inl Pt))]) ∨ ((((0 ≤ x.toInt ∧ x.toInt < mw) ∨ (32 ≤ x.toInt ∧ x.toInt < 35)) ∧ ((0 ≤ y.toInt ∧ y.toInt < mw) ∨ (32 ≤ y.toInt ∧ y.toInt < 35)) ∧ ((0 ≤ z.toInt ∧ z.toInt < mw) ∨ (32 ≤ z.toInt ∧ z.toInt < 35))) ∧ pa < 4 ∧ v = some (.int (nI (pa + 1))) ∧ w = [(mo, .inr (6, [.int (nI mb), .ref wo, .int (nI mw), .ref le, .ref lt, .int (nI n), .ref pe, .int (nI o), .ref st, .int (nI mg), .int (nI (pa + 1)), .ref pt, .int (nI ma), .ref rr, .ref vl, .ref bo, .int (nI an), .ref kp, .int (nI lv)])), (pt, .inl (K 0, 12, .inl (upd (upd (upd Pt (3 * pa) x) (3 * pa + 1) y) (3 * pa + 2) z)))])) := by
  refine xz_enter (by decide +kernel) (Nat.le_of_ble_eq_true rfl) ?_
  intro Γ hC
  refine xz_lcs (lc' := [(0, .ref mo), (1, .int x), (2, .int y), (3, .int z)]) [0, 1, 2, 3] rfl ?_
  refine xz_aload_n hC 0 rfl rfl dMo_where_0 ?_
  refine xz_iload_n hC 1 rfl rfl dMo_where_1 ?_
  refine xz_callV hC (mMo_fits l D K mo wo le lt pe st pt rr vl bo kp mb mw n o mg pa ma an lv x hmw) kMo_fits tq7 tq568 tq570 tp21 0 6 rfl rfl rfl (host := "") hMo_fits (by decide) [0] [1] (by decide) rfl (wr := [(pt, .inl (K 0, 12, .inl Pt))]) rfl (by decide) (by decide) (As := [.int x]) (rest := []) rfl rfl (Nat.le_of_ble_eq_true rfl) (by decide) dMo_where_2 (fun v w hq => ?_)
  obtain ⟨qx, rfl, rfl, hbx⟩ := hq
  refine xz_ste (st' := [.int (bI qx)]) rfl ?_
  refine xz_wss (ws' := [(mo, .inr (6, [.int (nI mb), .ref wo, .int (nI mw), .ref le, .ref lt, .int (nI n), .ref pe, .int (nI o), .ref st, .int (nI mg), .int (nI pa), .ref pt, .int (nI ma), .ref rr, .ref vl, .ref bo, .int (nI an), .ref kp, .int (nI lv)])), (pt, .inl (K 0, 12, .inl Pt))]) [1, 0] (by decide) rfl rfl ?_
  refine xz_ifb_eq hC (tgt := 24) (by decide) dMo_where_5 (fun h1 => ?_) (fun h1 => ?_)
  · skip
    have hnx : ¬ ((0 ≤ x.toInt ∧ x.toInt < mw) ∨ (32 ≤ x.toInt ∧ x.toInt < 35)) := fun k => absurd (hbx.mpr k) (by rw [h1]; decide)
    refine xz_iconst hC (v := (-1)) (by decide +kernel) dMo_where_24 ?_
    exact xz_ireturn hC (by decide) (by decide) (Or.inl ⟨by first | exact fun k => hnx k.1 | exact fun k => hny k.2.1 | exact fun k => hnz k.2.2, rfl, rfl⟩) dMo_where_25
  · skip
    have hyx := hbx.mp h1
    refine xz_aload_n hC 0 rfl rfl dMo_where_8 ?_
    refine xz_iload_n hC 2 rfl rfl dMo_where_9 ?_
    refine xz_callV hC (mMo_fits l D K mo wo le lt pe st pt rr vl bo kp mb mw n o mg pa ma an lv y hmw) kMo_fits tq7 tq568 tq570 tp21 0 6 rfl rfl rfl (host := "") hMo_fits (by decide) [0] [1] (by decide) rfl (wr := [(pt, .inl (K 0, 12, .inl Pt))]) rfl (by decide) (by decide) (As := [.int y]) (rest := []) rfl rfl (Nat.le_of_ble_eq_true rfl) (by decide) dMo_where_10 (fun v w hq => ?_)
    obtain ⟨qy, rfl, rfl, hby⟩ := hq
    refine xz_ste (st' := [.int (bI qy)]) rfl ?_
    refine xz_wss (ws' := [(mo, .inr (6, [.int (nI mb), .ref wo, .int (nI mw), .ref le, .ref lt, .int (nI n), .ref pe, .int (nI o), .ref st, .int (nI mg), .int (nI pa), .ref pt, .int (nI ma), .ref rr, .ref vl, .ref bo, .int (nI an), .ref kp, .int (nI lv)])), (pt, .inl (K 0, 12, .inl Pt))]) [1, 0] (by decide) rfl rfl ?_
    refine xz_ifb_eq hC (tgt := 24) (by decide) dMo_where_13 (fun h2 => ?_) (fun h2 => ?_)
    · skip
      have hny : ¬ ((0 ≤ y.toInt ∧ y.toInt < mw) ∨ (32 ≤ y.toInt ∧ y.toInt < 35)) := fun k => absurd (hby.mpr k) (by rw [h2]; decide)
      refine xz_iconst hC (v := (-1)) (by decide +kernel) dMo_where_24 ?_
      exact xz_ireturn hC (by decide) (by decide) (Or.inl ⟨by first | exact fun k => hnx k.1 | exact fun k => hny k.2.1 | exact fun k => hnz k.2.2, rfl, rfl⟩) dMo_where_25
    · skip
      have hyy := hby.mp h2
      refine xz_aload_n hC 0 rfl rfl dMo_where_16 ?_
      refine xz_iload_n hC 3 rfl rfl dMo_where_17 ?_
      refine xz_callV hC (mMo_fits l D K mo wo le lt pe st pt rr vl bo kp mb mw n o mg pa ma an lv z hmw) kMo_fits tq7 tq568 tq570 tp21 0 6 rfl rfl rfl (host := "") hMo_fits (by decide) [0] [1] (by decide) rfl (wr := [(pt, .inl (K 0, 12, .inl Pt))]) rfl (by decide) (by decide) (As := [.int z]) (rest := []) rfl rfl (Nat.le_of_ble_eq_true rfl) (by decide) dMo_where_18 (fun v w hq => ?_)
      obtain ⟨qz, rfl, rfl, hbz⟩ := hq
      refine xz_ste (st' := [.int (bI qz)]) rfl ?_
      refine xz_wss (ws' := [(mo, .inr (6, [.int (nI mb), .ref wo, .int (nI mw), .ref le, .ref lt, .int (nI n), .ref pe, .int (nI o), .ref st, .int (nI mg), .int (nI pa), .ref pt, .int (nI ma), .ref rr, .ref vl, .ref bo, .int (nI an), .ref kp, .int (nI lv)])), (pt, .inl (K 0, 12, .inl Pt))]) [1, 0] (by decide) rfl rfl ?_
      refine xz_ifb_ne hC (tgt := 26) (by decide) dMo_where_21 (fun h3 => ?_) (fun h3 => ?_)
      · skip
        have hyz := hbz.mp h3
        refine xz_aload_n hC 0 rfl rfl dMo_where_26 ?_
        refine xz_get hC 0 rfl rfl 10 (by decide) inMo tq439 rfl rfl dMo_where_27 ?_
        refine xz_iconst hC (v := nI 4) (by decide +kernel) dMo_where_30 ?_
        refine xz_icmp_ne hC (tgt := 37) (nI_toInt (by omega)) (nI_toInt (by omega)) (by decide) dMo_where_31 (fun h4 => ?_) (fun h4 => ?_)
        · skip
          refine xz_aload_n hC 0 rfl rfl dMo_where_37 ?_
          refine xz_get hC 0 rfl rfl 11 (by decide) inMo tq440 rfl rfl dMo_where_38 ?_
          refine xz_iconst hC (v := nI 3) (by decide +kernel) dMo_where_41 ?_
          refine xz_aload_n hC 0 rfl rfl dMo_where_42 ?_
          refine xz_get hC 0 rfl rfl 10 (by decide) inMo tq439 rfl rfl dMo_where_43 ?_
          refine xz_imul hC (z := nI (3 * pa)) (pk_mul _ _) dMo_where_46 ?_
          refine xz_iload_n hC 1 rfl rfl dMo_where_47 ?_
          refine xz_iastore hC 1 0 (ws' := [(mo, .inr (6, [.int (nI mb), .ref wo, .int (nI mw), .ref le, .ref lt, .int (nI n), .ref pe, .int (nI o), .ref st, .int (nI mg), .int (nI pa), .ref pt, .int (nI ma), .ref rr, .ref vl, .ref bo, .int (nI an), .ref kp, .int (nI lv)])), (pt, .inl (K 0, 12, .inl (upd Pt (3 * pa) x)))]) rfl rfl (by omega) (by decide) rfl dMo_where_48 ?_
          refine xz_aload_n hC 0 rfl rfl dMo_where_49 ?_
          refine xz_get hC 0 rfl rfl 11 (by decide) inMo tq440 rfl rfl dMo_where_50 ?_
          refine xz_iconst hC (v := nI 3) (by decide +kernel) dMo_where_53 ?_
          refine xz_aload_n hC 0 rfl rfl dMo_where_54 ?_
          refine xz_get hC 0 rfl rfl 10 (by decide) inMo tq439 rfl rfl dMo_where_55 ?_
          refine xz_imul hC (z := nI (3 * pa)) (pk_mul _ _) dMo_where_58 ?_
          refine xz_iconst hC (v := nI 1) (by decide +kernel) dMo_where_59 ?_
          refine xz_iadd hC (z := nI (3 * pa + 1)) (nI_add _ _) dMo_where_60 ?_
          refine xz_iload_n hC 2 rfl rfl dMo_where_61 ?_
          refine xz_iastore hC 1 0 (ws' := [(mo, .inr (6, [.int (nI mb), .ref wo, .int (nI mw), .ref le, .ref lt, .int (nI n), .ref pe, .int (nI o), .ref st, .int (nI mg), .int (nI pa), .ref pt, .int (nI ma), .ref rr, .ref vl, .ref bo, .int (nI an), .ref kp, .int (nI lv)])), (pt, .inl (K 0, 12, .inl (upd (upd Pt (3 * pa) x) (3 * pa + 1) y)))]) rfl rfl (by omega) (by decide) rfl dMo_where_62 ?_
          refine xz_aload_n hC 0 rfl rfl dMo_where_63 ?_
          refine xz_get hC 0 rfl rfl 11 (by decide) inMo tq440 rfl rfl dMo_where_64 ?_
          refine xz_iconst hC (v := nI 3) (by decide +kernel) dMo_where_67 ?_
          refine xz_aload_n hC 0 rfl rfl dMo_where_68 ?_
          refine xz_get hC 0 rfl rfl 10 (by decide) inMo tq439 rfl rfl dMo_where_69 ?_
          refine xz_imul hC (z := nI (3 * pa)) (pk_mul _ _) dMo_where_72 ?_
          refine xz_iconst hC (v := nI 2) (by decide +kernel) dMo_where_73 ?_
          refine xz_iadd hC (z := nI (3 * pa + 2)) (nI_add _ _) dMo_where_74 ?_
          refine xz_iload_n hC 3 rfl rfl dMo_where_75 ?_
          refine xz_iastore hC 1 0 (ws' := [(mo, .inr (6, [.int (nI mb), .ref wo, .int (nI mw), .ref le, .ref lt, .int (nI n), .ref pe, .int (nI o), .ref st, .int (nI mg), .int (nI pa), .ref pt, .int (nI ma), .ref rr, .ref vl, .ref bo, .int (nI an), .ref kp, .int (nI lv)])), (pt, .inl (K 0, 12, .inl (upd (upd (upd Pt (3 * pa) x) (3 * pa + 1) y) (3 * pa + 2) z)))]) rfl rfl (by omega) (by decide) rfl dMo_where_76 ?_
          refine xz_aload_n hC 0 rfl rfl dMo_where_77 ?_
          refine xz_dup hC rfl dMo_where_78 ?_
          refine xz_get hC 0 rfl rfl 10 (by decide) inMo tq439 rfl rfl dMo_where_79 ?_
          refine xz_iconst hC (v := nI 1) (by decide +kernel) dMo_where_82 ?_
          refine xz_iadd hC (z := nI (pa + 1)) (nI_add _ _) dMo_where_83 ?_
          refine xz_put hC 0 rfl rfl 10 (by decide) inMo tq439 rfl tyMo tyMo_ok nmMo rfl rfl rfl (Nat.le_of_ble_eq_true rfl) (ws' := [(mo, .inr (6, [.int (nI mb), .ref wo, .int (nI mw), .ref le, .ref lt, .int (nI n), .ref pe, .int (nI o), .ref st, .int (nI mg), .int (nI (pa + 1)), .ref pt, .int (nI ma), .ref rr, .ref vl, .ref bo, .int (nI an), .ref kp, .int (nI lv)])), (pt, .inl (K 0, 12, .inl (upd (upd (upd Pt (3 * pa) x) (3 * pa + 1) y) (3 * pa + 2) z)))]) rfl dMo_where_84 ?_
          refine xz_aload_n hC 0 rfl rfl dMo_where_87 ?_
          refine xz_get hC 0 rfl rfl 10 (by decide) inMo tq439 rfl rfl dMo_where_88 ?_
          exact xz_ireturn hC (by decide) (by decide) (Or.inr (Or.inr ⟨⟨hyx, hyy, hyz⟩, by omega, rfl, rfl⟩)) dMo_where_91
        · skip
          refine xz_bipush hC (v := (-2)) (by decide +kernel) dMo_where_34 ?_
          exact xz_ireturn hC (by decide) (by decide) (Or.inr (Or.inl ⟨⟨hyx, hyy, hyz⟩, by omega, rfl, rfl⟩)) dMo_where_36
      · skip
        have hnz : ¬ ((0 ≤ z.toInt ∧ z.toInt < mw) ∨ (32 ≤ z.toInt ∧ z.toInt < 35)) := fun k => absurd (hbz.mpr k) (by rw [h3]; decide)
        refine xz_iconst hC (v := (-1)) (by decide +kernel) dMo_where_24 ?_
        exact xz_ireturn hC (by decide) (by decide) (Or.inl ⟨by first | exact fun k => hnx k.1 | exact fun k => hny k.2.1 | exact fun k => hnz k.2.2, rfl, rfl⟩) dMo_where_25
set_option maxHeartbeats 1000000 in
set_option maxRecDepth 100000 in
theorem mMo_clear (l : Launch) (D : va_G) (K : Nat → ClassId) (mo wo le lt pe st pt rr vl bo kp mb mw n o mg pa ma an lv : Nat)  : xz_Met l D (tz K) yMo_clear cMo_clear 1 none { frames := 0, cells := 0, slots := 0, locals := 0 } [.ref mo] [(mo, .inr (6, [.int (nI mb), .ref wo, .int (nI mw), .ref le, .ref lt, .int (nI n), .ref pe, .int (nI o), .ref st, .int (nI mg), .int (nI pa), .ref pt, .int (nI ma), .ref rr, .ref vl, .ref bo, .int (nI an), .ref kp, .int (nI lv)]))] (fun v w => v = none ∧ w = [(mo, .inr (6, [.int (nI mb), .ref wo, .int (nI mw), .ref le, .ref lt, .int (nI n), .ref pe, .int (nI o), .ref st, .int (nI mg), .int (nI 0), .ref pt, .int (nI ma), .ref rr, .ref vl, .ref bo, .int (nI an), .ref kp, .int (nI lv)]))]) := by
  refine xz_enter (by decide +kernel) (Nat.le_of_ble_eq_true rfl) ?_
  intro Γ hC
  refine xz_lcs (lc' := [(0, .ref mo)]) [0] rfl ?_
  refine xz_aload_n hC 0 rfl rfl dMo_clear_0 ?_
  refine xz_iconst hC (v := nI 0) (by decide +kernel) dMo_clear_1 ?_
  refine xz_put hC 0 rfl rfl 10 (by decide) inMo tq439 rfl tyMo tyMo_ok nmMo rfl rfl rfl (Nat.le_of_ble_eq_true rfl) (ws' := [(mo, .inr (6, [.int (nI mb), .ref wo, .int (nI mw), .ref le, .ref lt, .int (nI n), .ref pe, .int (nI o), .ref st, .int (nI mg), .int (nI 0), .ref pt, .int (nI ma), .ref rr, .ref vl, .ref bo, .int (nI an), .ref kp, .int (nI lv)]))]) rfl dMo_clear_2 ?_
  exact xz_return hC (by decide) (by decide) (⟨rfl, rfl⟩) dMo_clear_5
set_option maxHeartbeats 1000000 in
set_option maxRecDepth 100000 in
theorem mMo_live (l : Launch) (D : va_G) (K : Nat → ClassId) (mo wo le lt pe st pt rr vl bo kp mb mw n o mg pa ma an lv : Nat)  : xz_Met l D (tz K) yMo_live cMo_live 1 (some .int) { frames := 0, cells := 0, slots := 0, locals := 0 } [.ref mo] [(mo, .inr (6, [.int (nI mb), .ref wo, .int (nI mw), .ref le, .ref lt, .int (nI n), .ref pe, .int (nI o), .ref st, .int (nI mg), .int (nI pa), .ref pt, .int (nI ma), .ref rr, .ref vl, .ref bo, .int (nI an), .ref kp, .int (nI lv)]))] (fun v w => v = some (.int (nI lv)) ∧ w = [(mo, .inr (6, [.int (nI mb), .ref wo, .int (nI mw), .ref le, .ref lt, .int (nI n), .ref pe, .int (nI o), .ref st, .int (nI mg), .int (nI pa), .ref pt, .int (nI ma), .ref rr, .ref vl, .ref bo, .int (nI an), .ref kp, .int (nI lv)]))]) := by
  refine xz_enter (by decide +kernel) (Nat.le_of_ble_eq_true rfl) ?_
  intro Γ hC
  refine xz_lcs (lc' := [(0, .ref mo)]) [0] rfl ?_
  refine xz_aload_n hC 0 rfl rfl dMo_live_0 ?_
  refine xz_get hC 0 rfl rfl 18 (by decide) inMo tq447 rfl rfl dMo_live_1 ?_
  exact xz_ireturn hC (by decide) (by decide) (⟨rfl, rfl⟩) dMo_live_4
set_option maxHeartbeats 1000000 in
set_option maxRecDepth 100000 in
theorem mMo_answer (l : Launch) (D : va_G) (K : Nat → ClassId) (mo wo le lt pe st pt rr vl bo kp mb mw n o mg pa ma an lv : Nat) (Kp : Nat → Int32) (x y : Int32) (han : an < 100000) : xz_Met l D (tz K) yMo_answer cMo_answer 3 (some .int) { frames := 0, cells := 0, slots := 0, locals := 0 } [.ref mo, .int x, .int y] [(mo, .inr (6, [.int (nI mb), .ref wo, .int (nI mw), .ref le, .ref lt, .int (nI n), .ref pe, .int (nI o), .ref st, .int (nI mg), .int (nI pa), .ref pt, .int (nI ma), .ref rr, .ref vl, .ref bo, .int (nI an), .ref kp, .int (nI lv)])), (kp, .inl (K 0, 600, .inl Kp))] (fun v w => w = [(mo, .inr (6, [.int (nI mb), .ref wo, .int (nI mw), .ref le, .ref lt, .int (nI n), .ref pe, .int (nI o), .ref st, .int (nI mg), .int (nI pa), .ref pt, .int (nI ma), .ref rr, .ref vl, .ref bo, .int (nI an), .ref kp, .int (nI lv)])), (kp, .inl (K 0, 600, .inl Kp))] ∧ (((0 ≤ x.toInt ∧ x.toInt < an ∧ x.toInt < 200 ∧ 32 ≤ y.toInt ∧ y.toInt < 35) ∧ v = some (.int (Kp (3 * xi x + (xi y - 32))))) ∨ (¬ (0 ≤ x.toInt ∧ x.toInt < an ∧ x.toInt < 200 ∧ 32 ≤ y.toInt ∧ y.toInt < 35) ∧ v = some (.int (-1))))) := by
  refine xz_enter (by decide +kernel) (Nat.le_of_ble_eq_true rfl) ?_
  intro Γ hC
  refine xz_lcs (lc' := [(0, .ref mo), (1, .int x), (2, .int y)]) [0, 1, 2] rfl ?_
  refine xz_iload_n hC 1 rfl rfl dMo_answer_0 ?_
  refine xz_if_lt hC (tgt := 31) rfl (by decide) dMo_answer_1 (fun h1 => ?_) (fun h1 => ?_)
  · skip
    refine xz_iconst hC (v := (-1)) (by decide +kernel) dMo_answer_31 ?_
    refine xz_goto hC (tgt := 48) (by decide) dMo_answer_32 ?_
    exact xz_ireturn hC (by decide) (by decide) (by first | exact ⟨rfl, Or.inl ⟨by omega, by rw [hki, hti]⟩⟩ | exact ⟨rfl, Or.inr ⟨by omega, rfl⟩⟩) dMo_answer_48
  · skip
    refine xz_iload_n hC 1 rfl rfl dMo_answer_4 ?_
    refine xz_aload_n hC 0 rfl rfl dMo_answer_5 ?_
    refine xz_get hC 0 rfl rfl 16 (by decide) inMo tq445 rfl rfl dMo_answer_6 ?_
    refine xz_icmp_ge hC (tgt := 31) rfl (nI_toInt (by omega)) (by decide) dMo_answer_9 (fun h2 => ?_) (fun h2 => ?_)
    · skip
      refine xz_iconst hC (v := (-1)) (by decide +kernel) dMo_answer_31 ?_
      refine xz_goto hC (tgt := 48) (by decide) dMo_answer_32 ?_
      exact xz_ireturn hC (by decide) (by decide) (by first | exact ⟨rfl, Or.inl ⟨by omega, by rw [hki, hti]⟩⟩ | exact ⟨rfl, Or.inr ⟨by omega, rfl⟩⟩) dMo_answer_48
    · skip
      refine xz_iload_n hC 1 rfl rfl dMo_answer_12 ?_
      refine xz_sipush hC (v := nI 200) (by decide +kernel) dMo_answer_13 ?_
      refine xz_icmp_ge hC (tgt := 31) rfl (nI_toInt (by omega)) (by decide) dMo_answer_16 (fun h3 => ?_) (fun h3 => ?_)
      · skip
        refine xz_iconst hC (v := (-1)) (by decide +kernel) dMo_answer_31 ?_
        refine xz_goto hC (tgt := 48) (by decide) dMo_answer_32 ?_
        exact xz_ireturn hC (by decide) (by decide) (by first | exact ⟨rfl, Or.inl ⟨by omega, by rw [hki, hti]⟩⟩ | exact ⟨rfl, Or.inr ⟨by omega, rfl⟩⟩) dMo_answer_48
      · skip
        refine xz_iload_n hC 2 rfl rfl dMo_answer_19 ?_
        refine xz_bipush hC (v := nI 32) (by decide +kernel) dMo_answer_20 ?_
        refine xz_icmp_lt hC (tgt := 31) rfl (nI_toInt (by omega)) (by decide) dMo_answer_22 (fun h4 => ?_) (fun h4 => ?_)
        · skip
          refine xz_iconst hC (v := (-1)) (by decide +kernel) dMo_answer_31 ?_
          refine xz_goto hC (tgt := 48) (by decide) dMo_answer_32 ?_
          exact xz_ireturn hC (by decide) (by decide) (by first | exact ⟨rfl, Or.inl ⟨by omega, by rw [hki, hti]⟩⟩ | exact ⟨rfl, Or.inr ⟨by omega, rfl⟩⟩) dMo_answer_48
        · skip
          refine xz_iload_n hC 2 rfl rfl dMo_answer_25 ?_
          refine xz_bipush hC (v := nI 34) (by decide +kernel) dMo_answer_26 ?_
          refine xz_icmp_le hC (tgt := 35) rfl (nI_toInt (by omega)) (by decide) dMo_answer_28 (fun h5 => ?_) (fun h5 => ?_)
          · skip
            obtain ⟨k, hk, rfl⟩ := xn_of (x := x) (n := 200) (by omega) (by omega)
            obtain ⟨t, ht, rfl⟩ := xn_of (x := y) (n := 35) (by omega) (by omega)
            have hkt : (nI k).toInt = (k : Int) := nI_toInt (by omega)
            have hki : xi (nI k) = k := xi_nI (by omega)
            have htt : (nI t).toInt = (t : Int) := nI_toInt (by omega)
            have hti : xi (nI t) = t := xi_nI (by omega)
            refine xz_aload_n hC 0 rfl rfl dMo_answer_35 ?_
            refine xz_get hC 0 rfl rfl 17 (by decide) inMo tq446 rfl rfl dMo_answer_36 ?_
            refine xz_iconst hC (v := nI 3) (by decide +kernel) dMo_answer_39 ?_
            refine xz_iload_n hC 1 rfl rfl dMo_answer_40 ?_
            refine xz_imul hC (z := nI (3 * k)) (pk_mul _ _) dMo_answer_41 ?_
            refine xz_iload_n hC 2 rfl rfl dMo_answer_42 ?_
            refine xz_iadd hC (z := nI (3 * k + t)) (nI_add _ _) dMo_answer_43 ?_
            refine xz_bipush hC (v := nI 32) (by decide +kernel) dMo_answer_44 ?_
            refine xz_isub hC (z := nI (3 * k + (t - 32))) ((pk_sub (by omega)).trans (congrArg nI (by omega))) dMo_answer_46 ?_
            refine xz_iaload hC 1 0 (v := Kp (3 * k + (t - 32))) rfl rfl (by omega) (by decide) rfl dMo_answer_47 ?_
            exact xz_ireturn hC (by decide) (by decide) (by first | exact ⟨rfl, Or.inl ⟨by omega, by rw [hki, hti]⟩⟩ | exact ⟨rfl, Or.inr ⟨by omega, rfl⟩⟩) dMo_answer_48
          · skip
            refine xz_iconst hC (v := (-1)) (by decide +kernel) dMo_answer_31 ?_
            refine xz_goto hC (tgt := 48) (by decide) dMo_answer_32 ?_
            exact xz_ireturn hC (by decide) (by decide) (by first | exact ⟨rfl, Or.inl ⟨by omega, by rw [hki, hti]⟩⟩ | exact ⟨rfl, Or.inr ⟨by omega, rfl⟩⟩) dMo_answer_48
set_option maxHeartbeats 1000000 in
set_option maxRecDepth 100000 in
theorem mMo_asked (l : Launch) (D : va_G) (K : Nat → ClassId) (mo wo le lt pe st pt rr vl bo kp mb mw n o mg pa ma an lv : Nat) (Pt : Nat → Int32) (q : Nat → Nat) (v0 : Nat) (hpa : pa ≤ 4) (hq : xq_nu Pt q (3 * pa)) (hv : v0 < 35) : xz_Met l D (tz K) yMo_asked cMo_asked 4 (some .boolean) { frames := 0, cells := 0, slots := 0, locals := 0 } [.ref mo, .int (nI v0)] [(mo, .inr (6, [.int (nI mb), .ref wo, .int (nI mw), .ref le, .ref lt, .int (nI n), .ref pe, .int (nI o), .ref st, .int (nI mg), .int (nI pa), .ref pt, .int (nI ma), .ref rr, .ref vl, .ref bo, .int (nI an), .ref kp, .int (nI lv)])), (pt, .inl (K 0, 12, .inl Pt))] (fun v w => ∃ b : Bool, v = some (.int (bI b)) ∧ w = [(mo, .inr (6, [.int (nI mb), .ref wo, .int (nI mw), .ref le, .ref lt, .int (nI n), .ref pe, .int (nI o), .ref st, .int (nI mg), .int (nI pa), .ref pt, .int (nI ma), .ref rr, .ref vl, .ref bo, .int (nI an), .ref kp, .int (nI lv)])), (pt, .inl (K 0, 12, .inl Pt))] ∧ (b = true ↔ ∃ j, j < 3 * pa ∧ q j = v0)) := by
  refine xz_enter (by decide +kernel) (Nat.le_of_ble_eq_true rfl) ?_
  intro Γ hC
  refine xz_lcs (lc' := [(0, .ref mo), (1, .int (nI v0))]) [0, 1] rfl ?_
  refine xz_iconst hC (v := bI false) (by decide +kernel) dMo_asked_0 ?_
  refine xz_istore_n hC (lc' := [(2, .int (bI false)), (0, .ref mo), (1, .int (nI v0))]) rfl (by decide) rfl dMo_asked_1 ?_
  refine xz_iconst hC (v := nI 0) (by decide +kernel) dMo_asked_2 ?_
  refine xz_istore_n hC (lc' := [(3, .int (nI 0)), (2, .int (bI false)), (0, .ref mo), (1, .int (nI v0))]) rfl (by decide) rfl dMo_asked_3 ?_
  have lp1 : ∀ (NNlp1 : Nat) (i : Nat) (b : Bool), i ≤ 3 * pa → (b = true ↔ ∃ j, j < i ∧ q j = v0) → 3 * pa - i = NNlp1 → xz_X Γ 0 0 [(mo, .inr (6, [.int (nI mb), .ref wo, .int (nI mw), .ref le, .ref lt, .int (nI n), .ref pe, .int (nI o), .ref st, .int (nI mg), .int (nI pa), .ref pt, .int (nI ma), .ref rr, .ref vl, .ref bo, .int (nI an), .ref kp, .int (nI lv)])), (pt, .inl (K 0, 12, .inl Pt))] 4 [(3, .int (nI i)), (2, .int (bI b)), (0, .ref mo), (1, .int (nI v0))] [] := by
    intro NNlp1
    induction NNlp1 using Nat.strongRecOn with
    | _ NNlp1 ihlp1 =>
      intro i  b  hi hb hNNlp1
      refine xz_iload_n hC 0 rfl rfl dMo_asked_4 ?_
      refine xz_iconst hC (v := nI 3) (by decide +kernel) dMo_asked_5 ?_
      refine xz_aload_n hC 2 rfl rfl dMo_asked_6 ?_
      refine xz_get hC 0 rfl rfl 10 (by decide) inMo tq439 rfl rfl dMo_asked_7 ?_
      refine xz_imul hC (z := nI (3 * pa)) (pk_mul _ _) dMo_asked_10 ?_
      refine xz_icmp_ge hC (tgt := 40) (nI_toInt (by omega)) (nI_toInt (by omega)) (by decide) dMo_asked_11 (fun h2 => ?_) (fun h2 => ?_)
      · skip
        refine xz_iload_n hC 1 rfl rfl dMo_asked_40 ?_
        exact xz_zreturn hC (by decide) (by decide) (⟨b, rfl, rfl, by rw [hb, show i = 3 * pa by omega]⟩) dMo_asked_41
      · skip
        have hqi := (hq i (by omega)).2
        refine xz_iload_n hC 1 rfl rfl dMo_asked_14 ?_
        refine xz_ifb_ne hC (tgt := 28) (by decide) dMo_asked_15 (fun h3 => ?_) (fun h3 => ?_)
        · skip
          have hbt := h3
          refine xz_iconst hC (v := bI true) (by decide +kernel) dMo_asked_28 ?_
          refine xz_goto hC (tgt := 33) (by decide) dMo_asked_29 ?_
          refine xz_istore_n hC (lc' := [(2, .int (bI true)), (3, .int (nI i)), (0, .ref mo), (1, .int (nI v0))]) rfl (by decide) rfl dMo_asked_33 ?_
          refine xz_iinc hC 1 (lc' := [(3, .int (nI (i + 1))), (2, .int (bI true)), (0, .ref mo), (1, .int (nI v0))]) rfl (xn_inc _) (by decide) rfl dMo_asked_34 ?_
          refine xz_goto hC (tgt := 4) (by decide) dMo_asked_37 ?_
          exact ihlp1 _ (by omega) (i + 1) true (by omega) (by first | exact xt_t ⟨i, by omega, by omega⟩ | exact xt_t (by obtain ⟨j, hj, e⟩ := hb.mp hbt; exact ⟨j, by omega, e⟩)) rfl
        · skip
          have hbf : ¬ ∃ j, j < i ∧ q j = v0 := fun k => absurd (hb.mpr k) (by rw [h3]; decide)
          refine xz_aload_n hC 2 rfl rfl dMo_asked_18 ?_
          refine xz_get hC 0 rfl rfl 11 (by decide) inMo tq440 rfl rfl dMo_asked_19 ?_
          refine xz_iload_n hC 0 rfl rfl dMo_asked_22 ?_
          refine xz_iaload hC 1 0 (v := nI (q i)) rfl rfl (by omega) (by decide) (hq i (by omega)).1 dMo_asked_23 ?_
          refine xz_iload_n hC 3 rfl rfl dMo_asked_24 ?_
          refine xz_icmp_ne hC (tgt := 32) (nI_toInt (by omega)) (nI_toInt (by omega)) (by decide) dMo_asked_25 (fun h4 => ?_) (fun h4 => ?_)
          · skip
            refine xz_iconst hC (v := bI false) (by decide +kernel) dMo_asked_32 ?_
            refine xz_istore_n hC (lc' := [(2, .int (bI false)), (3, .int (nI i)), (0, .ref mo), (1, .int (nI v0))]) rfl (by decide) rfl dMo_asked_33 ?_
            refine xz_iinc hC 1 (lc' := [(3, .int (nI (i + 1))), (2, .int (bI false)), (0, .ref mo), (1, .int (nI v0))]) rfl (xn_inc _) (by decide) rfl dMo_asked_34 ?_
            refine xz_goto hC (tgt := 4) (by decide) dMo_asked_37 ?_
            exact ihlp1 _ (by omega) (i + 1) false (by omega) (xt_f (fun ⟨j, hj, e⟩ => by by_cases z : j = i; (rw [z] at e; omega); exact hbf ⟨j, by omega, e⟩)) rfl
          · skip
            refine xz_iconst hC (v := bI true) (by decide +kernel) dMo_asked_28 ?_
            refine xz_goto hC (tgt := 33) (by decide) dMo_asked_29 ?_
            refine xz_istore_n hC (lc' := [(2, .int (bI true)), (3, .int (nI i)), (0, .ref mo), (1, .int (nI v0))]) rfl (by decide) rfl dMo_asked_33 ?_
            refine xz_iinc hC 1 (lc' := [(3, .int (nI (i + 1))), (2, .int (bI true)), (0, .ref mo), (1, .int (nI v0))]) rfl (xn_inc _) (by decide) rfl dMo_asked_34 ?_
            refine xz_goto hC (tgt := 4) (by decide) dMo_asked_37 ?_
            exact ihlp1 _ (by omega) (i + 1) true (by omega) (by first | exact xt_t ⟨i, by omega, by omega⟩ | exact xt_t (by obtain ⟨j, hj, e⟩ := hb.mp hbt; exact ⟨j, by omega, e⟩)) rfl
  exact lp1 _ 0 false (by omega) (xt_f (fun ⟨j, hj, e⟩ => by omega)) rfl
set_option maxHeartbeats 1000000 in
set_option maxRecDepth 100000 in
theorem mMo_counts (l : Launch) (D : va_G) (K : Nat → ClassId) (mo wo le lt pe st pt rr vl bo kp mb mw n o mg pa ma an lv : Nat) (Pt Vl Bo : Nat → Int32) (q : Nat → Nat) (bd : Nat → Bool) (vv : Nat → Nat) (p : Nat) (hpa : pa ≤ 4) (hq : xq_nu Pt q (3 * pa)) (hk : p < pa) (hbo : xm_bo Bo Vl bd vv) : xz_Met l D (tz K) yMo_counts cMo_counts 5 (some .boolean) { frames := 0, cells := 0, slots := 0, locals := 0 } [.ref mo, .int (nI p)] [(mo, .inr (6, [.int (nI mb), .ref wo, .int (nI mw), .ref le, .ref lt, .int (nI n), .ref pe, .int (nI o), .ref st, .int (nI mg), .int (nI pa), .ref pt, .int (nI ma), .ref rr, .ref vl, .ref bo, .int (nI an), .ref kp, .int (nI lv)])), (pt, .inl (K 0, 12, .inl Pt)), (bo, .inl (K 3, 3, .inl Bo))] (fun v w => ∃ b : Bool, v = some (.int (bI b)) ∧ w = [(mo, .inr (6, [.int (nI mb), .ref wo, .int (nI mw), .ref le, .ref lt, .int (nI n), .ref pe, .int (nI o), .ref st, .int (nI mg), .int (nI pa), .ref pt, .int (nI ma), .ref rr, .ref vl, .ref bo, .int (nI an), .ref kp, .int (nI lv)])), (pt, .inl (K 0, 12, .inl Pt)), (bo, .inl (K 3, 3, .inl Bo))] ∧ (b = true ↔ xm_cn q p bd)) := by
  refine xz_enter (by decide +kernel) (Nat.le_of_ble_eq_true rfl) ?_
  intro Γ hC
  refine xz_lcs (lc' := [(0, .ref mo), (1, .int (nI p))]) [0, 1] rfl ?_
  refine xz_iconst hC (v := bI true) (by decide +kernel) dMo_counts_0 ?_
  refine xz_istore_n hC (lc' := [(2, .int (bI true)), (0, .ref mo), (1, .int (nI p))]) rfl (by decide) rfl dMo_counts_1 ?_
  refine xz_iconst hC (v := bI false) (by decide +kernel) dMo_counts_2 ?_
  refine xz_istore_n hC (lc' := [(3, .int (bI false)), (2, .int (bI true)), (0, .ref mo), (1, .int (nI p))]) rfl (by decide) rfl dMo_counts_3 ?_
  refine xz_iconst hC (v := nI 3) (by decide +kernel) dMo_counts_4 ?_
  refine xz_iload_n hC 3 rfl rfl dMo_counts_5 ?_
  refine xz_imul hC (z := nI (3 * p)) (pk_mul _ _) dMo_counts_6 ?_
  refine xz_istore hC (lc' := [(4, .int (nI (3 * p))), (3, .int (bI false)), (2, .int (bI true)), (0, .ref mo), (1, .int (nI p))]) (by decide) rfl dMo_counts_7 ?_
  have lp1 : ∀ (NNlp1 : Nat) (i : Nat) (o1 : Bool) (n1 : Bool), i ≤ 3 → (n1 = true ↔ ∀ j, j < i → q (3 * p + j) < 32) → (o1 = true ↔ ∃ j, j < i ∧ 32 ≤ q (3 * p + j) ∧ bd (q (3 * p + j) - 32) = true) → 3 - i = NNlp1 → xz_X Γ 0 0 [(mo, .inr (6, [.int (nI mb), .ref wo, .int (nI mw), .ref le, .ref lt, .int (nI n), .ref pe, .int (nI o), .ref st, .int (nI mg), .int (nI pa), .ref pt, .int (nI ma), .ref rr, .ref vl, .ref bo, .int (nI an), .ref kp, .int (nI lv)])), (pt, .inl (K 0, 12, .inl Pt)), (bo, .inl (K 3, 3, .inl Bo))] 9 [(4, .int (nI (3 * p + i))), (3, .int (bI o1)), (2, .int (bI n1)), (0, .ref mo), (1, .int (nI p))] [] := by
    intro NNlp1
    induction NNlp1 using Nat.strongRecOn with
    | _ NNlp1 ihlp1 =>
      intro i  o1  n1  hi hn1 ho1 hNNlp1
      refine xz_iload hC 0 rfl dMo_counts_9 ?_
      refine xz_iconst hC (v := nI 3) (by decide +kernel) dMo_counts_11 ?_
      refine xz_iload_n hC 4 rfl rfl dMo_counts_12 ?_
      refine xz_imul hC (z := nI (3 * p)) (pk_mul _ _) dMo_counts_13 ?_
      refine xz_iconst hC (v := nI 3) (by decide +kernel) dMo_counts_14 ?_
      refine xz_iadd hC (z := nI (3 * p + 3)) (nI_add _ _) dMo_counts_15 ?_
      refine xz_icmp_ge hC (tgt := 87) (nI_toInt (by omega)) (nI_toInt (by omega)) (by decide) dMo_counts_16 (fun h2 => ?_) (fun h2 => ?_)
      · skip
        refine xz_iload_n hC 2 rfl rfl dMo_counts_87 ?_
        refine xz_ifb_ne hC (tgt := 95) (by decide) dMo_counts_88 (fun h3 => ?_) (fun h3 => ?_)
        · skip
          have hnt := h3
          refine xz_iconst hC (v := bI true) (by decide +kernel) dMo_counts_95 ?_
          refine xz_goto hC (tgt := 100) (by decide) dMo_counts_96 ?_
          exact xz_zreturn hC (by decide) (by decide) (⟨_, rfl, rfl, by first | exact xt_t (Or.inl (fun j hj => hn1.mp hnt j (by omega))) | exact xt_t (Or.inr (by obtain ⟨j, hj, e⟩ := ho1.mp hot; exact ⟨j, by omega, e⟩)) | exact xt_f (fun k => k.elim (fun k => hnf (fun j hj => k j (by omega))) (fun ⟨j, hj, e⟩ => hof ⟨j, by omega, e⟩))⟩) dMo_counts_100
        · skip
          have hnf : ¬ ∀ j, j < i → q (3 * p + j) < 32 := fun k => absurd (hn1.mpr k) (by rw [h3]; decide)
          refine xz_iload_n hC 1 rfl rfl dMo_counts_91 ?_
          refine xz_ifb_eq hC (tgt := 99) (by decide) dMo_counts_92 (fun h4 => ?_) (fun h4 => ?_)
          · skip
            have hof : ¬ ∃ j, j < i ∧ 32 ≤ q (3 * p + j) ∧ bd (q (3 * p + j) - 32) = true := fun k => absurd (ho1.mpr k) (by rw [h4]; decide)
            refine xz_iconst hC (v := bI false) (by decide +kernel) dMo_counts_99 ?_
            exact xz_zreturn hC (by decide) (by decide) (⟨_, rfl, rfl, by first | exact xt_t (Or.inl (fun j hj => hn1.mp hnt j (by omega))) | exact xt_t (Or.inr (by obtain ⟨j, hj, e⟩ := ho1.mp hot; exact ⟨j, by omega, e⟩)) | exact xt_f (fun k => k.elim (fun k => hnf (fun j hj => k j (by omega))) (fun ⟨j, hj, e⟩ => hof ⟨j, by omega, e⟩))⟩) dMo_counts_100
          · skip
            have hot := h4
            refine xz_iconst hC (v := bI true) (by decide +kernel) dMo_counts_95 ?_
            refine xz_goto hC (tgt := 100) (by decide) dMo_counts_96 ?_
            exact xz_zreturn hC (by decide) (by decide) (⟨_, rfl, rfl, by first | exact xt_t (Or.inl (fun j hj => hn1.mp hnt j (by omega))) | exact xt_t (Or.inr (by obtain ⟨j, hj, e⟩ := ho1.mp hot; exact ⟨j, by omega, e⟩)) | exact xt_f (fun k => k.elim (fun k => hnf (fun j hj => k j (by omega))) (fun ⟨j, hj, e⟩ => hof ⟨j, by omega, e⟩))⟩) dMo_counts_100
      · skip
        have hqi := (hq (3 * p + i) (by omega)).2
        refine xz_iload_n hC 2 rfl rfl dMo_counts_19 ?_
        refine xz_ifb_eq hC (tgt := 39) (by decide) dMo_counts_20 (fun h5 => ?_) (fun h5 => ?_)
        · skip
          have hnf : ¬ ∀ j, j < i → q (3 * p + j) < 32 := fun k => absurd (hn1.mpr k) (by rw [h5]; decide)
          refine xz_iconst hC (v := bI false) (by decide +kernel) dMo_counts_39 ?_
          refine xz_istore_n hC (lc' := [(2, .int (bI false)), (4, .int (nI (3 * p + i))), (3, .int (bI o1)), (0, .ref mo), (1, .int (nI p))]) rfl (by decide) rfl dMo_counts_40 ?_
          refine xz_iload_n hC 2 rfl rfl dMo_counts_41 ?_
          refine xz_ifb_ne hC (tgt := 75) (by decide) dMo_counts_42 (fun h6 => ?_) (fun h6 => ?_)
          · skip
            have hot := h6
            refine xz_iconst hC (v := bI true) (by decide +kernel) dMo_counts_75 ?_
            refine xz_goto hC (tgt := 80) (by decide) dMo_counts_76 ?_
            refine xz_istore_n hC (lc' := [(3, .int (bI true)), (2, .int (bI false)), (4, .int (nI (3 * p + i))), (0, .ref mo), (1, .int (nI p))]) rfl (by decide) rfl dMo_counts_80 ?_
            refine xz_iinc hC 2 (lc' := [(4, .int (nI (3 * p + i + 1))), (3, .int (bI true)), (2, .int (bI false)), (0, .ref mo), (1, .int (nI p))]) rfl (xn_inc _) (by decide) rfl dMo_counts_81 ?_
            refine xz_goto hC (tgt := 9) (by decide) dMo_counts_84 ?_
            exact ihlp1 _ (by omega) (i + 1) true false (by omega) (by first | exact xt_f (fun k => hnf (fun j hj => k j (by omega))) | exact xt_f (fun k => by have := k i (by omega); omega)) (by first | exact xt_t ⟨i, by omega, by omega, hbt⟩ | exact xt_t (by obtain ⟨j, hj, e⟩ := ho1.mp hot; exact ⟨j, by omega, e⟩)) rfl
          · skip
            have hof : ¬ ∃ j, j < i ∧ 32 ≤ q (3 * p + j) ∧ bd (q (3 * p + j) - 32) = true := fun k => absurd (ho1.mpr k) (by rw [h6]; decide)
            refine xz_aload_n hC 3 rfl rfl dMo_counts_45 ?_
            refine xz_get hC 0 rfl rfl 11 (by decide) inMo tq440 rfl rfl dMo_counts_46 ?_
            refine xz_iload hC 1 rfl dMo_counts_49 ?_
            refine xz_iaload hC 1 0 (v := nI (q (3 * p + i))) rfl rfl (by omega) (by decide) (hq (3 * p + i) (by omega)).1 dMo_counts_51 ?_
            refine xz_bipush hC (v := nI 32) (by decide +kernel) dMo_counts_52 ?_
            refine xz_icmp_lt hC (tgt := 79) (nI_toInt (by omega)) (nI_toInt (by omega)) (by decide) dMo_counts_54 (fun h7 => ?_) (fun h7 => ?_)
            · skip
              refine xz_iconst hC (v := bI false) (by decide +kernel) dMo_counts_79 ?_
              refine xz_istore_n hC (lc' := [(3, .int (bI false)), (2, .int (bI false)), (4, .int (nI (3 * p + i))), (0, .ref mo), (1, .int (nI p))]) rfl (by decide) rfl dMo_counts_80 ?_
              refine xz_iinc hC 2 (lc' := [(4, .int (nI (3 * p + i + 1))), (3, .int (bI false)), (2, .int (bI false)), (0, .ref mo), (1, .int (nI p))]) rfl (xn_inc _) (by decide) rfl dMo_counts_81 ?_
              refine xz_goto hC (tgt := 9) (by decide) dMo_counts_84 ?_
              exact ihlp1 _ (by omega) (i + 1) false false (by omega) (by first | exact xt_f (fun k => hnf (fun j hj => k j (by omega))) | exact xt_f (fun k => by have := k i (by omega); omega)) (by first | exact xt_f (fun ⟨j, hj, e1, e2⟩ => by by_cases z : j = i; (subst z; omega); exact hof ⟨j, by omega, e1, e2⟩) | exact xt_f (fun ⟨j, hj, e1, e2⟩ => by by_cases z : j = i; (subst z; rw [hbf] at e2; exact absurd e2 (by decide)); exact hof ⟨j, by omega, e1, e2⟩)) rfl
            · skip
              refine xz_aload_n hC 3 rfl rfl dMo_counts_57 ?_
              refine xz_get hC 0 rfl rfl 15 (by decide) inMo tq444 rfl rfl dMo_counts_58 ?_
              refine xz_aload_n hC 3 rfl rfl dMo_counts_61 ?_
              refine xz_get hC 0 rfl rfl 11 (by decide) inMo tq440 rfl rfl dMo_counts_62 ?_
              refine xz_iload hC 1 rfl dMo_counts_65 ?_
              refine xz_iaload hC 1 0 (v := nI (q (3 * p + i))) rfl rfl (by omega) (by decide) (hq (3 * p + i) (by omega)).1 dMo_counts_67 ?_
              refine xz_bipush hC (v := nI 32) (by decide +kernel) dMo_counts_68 ?_
              refine xz_isub hC (z := nI ((q (3 * p + i)) - 32)) (pk_sub (by omega)) dMo_counts_70 ?_
              refine xz_baload hC 2 3 (v := bI (bd (q (3 * p + i) - 32))) rfl rfl (by omega) (by decide) (hbo _ (by omega)).1 dMo_counts_71 ?_
              refine xz_ifb_eq hC (tgt := 79) (by decide) dMo_counts_72 (fun h8 => ?_) (fun h8 => ?_)
              · skip
                have hbf := h8
                refine xz_iconst hC (v := bI false) (by decide +kernel) dMo_counts_79 ?_
                refine xz_istore_n hC (lc' := [(3, .int (bI false)), (2, .int (bI false)), (4, .int (nI (3 * p + i))), (0, .ref mo), (1, .int (nI p))]) rfl (by decide) rfl dMo_counts_80 ?_
                refine xz_iinc hC 2 (lc' := [(4, .int (nI (3 * p + i + 1))), (3, .int (bI false)), (2, .int (bI false)), (0, .ref mo), (1, .int (nI p))]) rfl (xn_inc _) (by decide) rfl dMo_counts_81 ?_
                refine xz_goto hC (tgt := 9) (by decide) dMo_counts_84 ?_
                exact ihlp1 _ (by omega) (i + 1) false false (by omega) (by first | exact xt_f (fun k => hnf (fun j hj => k j (by omega))) | exact xt_f (fun k => by have := k i (by omega); omega)) (by first | exact xt_f (fun ⟨j, hj, e1, e2⟩ => by by_cases z : j = i; (subst z; omega); exact hof ⟨j, by omega, e1, e2⟩) | exact xt_f (fun ⟨j, hj, e1, e2⟩ => by by_cases z : j = i; (subst z; rw [hbf] at e2; exact absurd e2 (by decide)); exact hof ⟨j, by omega, e1, e2⟩)) rfl
              · skip
                have hbt := h8
                refine xz_iconst hC (v := bI true) (by decide +kernel) dMo_counts_75 ?_
                refine xz_goto hC (tgt := 80) (by decide) dMo_counts_76 ?_
                refine xz_istore_n hC (lc' := [(3, .int (bI true)), (2, .int (bI false)), (4, .int (nI (3 * p + i))), (0, .ref mo), (1, .int (nI p))]) rfl (by decide) rfl dMo_counts_80 ?_
                refine xz_iinc hC 2 (lc' := [(4, .int (nI (3 * p + i + 1))), (3, .int (bI true)), (2, .int (bI false)), (0, .ref mo), (1, .int (nI p))]) rfl (xn_inc _) (by decide) rfl dMo_counts_81 ?_
                refine xz_goto hC (tgt := 9) (by decide) dMo_counts_84 ?_
                exact ihlp1 _ (by omega) (i + 1) true false (by omega) (by first | exact xt_f (fun k => hnf (fun j hj => k j (by omega))) | exact xt_f (fun k => by have := k i (by omega); omega)) (by first | exact xt_t ⟨i, by omega, by omega, hbt⟩ | exact xt_t (by obtain ⟨j, hj, e⟩ := ho1.mp hot; exact ⟨j, by omega, e⟩)) rfl
        · skip
          have hnt := h5
          refine xz_aload_n hC 3 rfl rfl dMo_counts_23 ?_
          refine xz_get hC 0 rfl rfl 11 (by decide) inMo tq440 rfl rfl dMo_counts_24 ?_
          refine xz_iload hC 0 rfl dMo_counts_27 ?_
          refine xz_iaload hC 1 0 (v := nI (q (3 * p + i))) rfl rfl (by omega) (by decide) (hq (3 * p + i) (by omega)).1 dMo_counts_29 ?_
          refine xz_bipush hC (v := nI 32) (by decide +kernel) dMo_counts_30 ?_
          refine xz_icmp_ge hC (tgt := 39) (nI_toInt (by omega)) (nI_toInt (by omega)) (by decide) dMo_counts_32 (fun h9 => ?_) (fun h9 => ?_)
          · skip
            refine xz_iconst hC (v := bI false) (by decide +kernel) dMo_counts_39 ?_
            refine xz_istore_n hC (lc' := [(2, .int (bI false)), (4, .int (nI (3 * p + i))), (3, .int (bI o1)), (0, .ref mo), (1, .int (nI p))]) rfl (by decide) rfl dMo_counts_40 ?_
            refine xz_iload_n hC 2 rfl rfl dMo_counts_41 ?_
            refine xz_ifb_ne hC (tgt := 75) (by decide) dMo_counts_42 (fun h10 => ?_) (fun h10 => ?_)
            · skip
              have hot := h10
              refine xz_iconst hC (v := bI true) (by decide +kernel) dMo_counts_75 ?_
              refine xz_goto hC (tgt := 80) (by decide) dMo_counts_76 ?_
              refine xz_istore_n hC (lc' := [(3, .int (bI true)), (2, .int (bI false)), (4, .int (nI (3 * p + i))), (0, .ref mo), (1, .int (nI p))]) rfl (by decide) rfl dMo_counts_80 ?_
              refine xz_iinc hC 2 (lc' := [(4, .int (nI (3 * p + i + 1))), (3, .int (bI true)), (2, .int (bI false)), (0, .ref mo), (1, .int (nI p))]) rfl (xn_inc _) (by decide) rfl dMo_counts_81 ?_
              refine xz_goto hC (tgt := 9) (by decide) dMo_counts_84 ?_
              exact ihlp1 _ (by omega) (i + 1) true false (by omega) (by first | exact xt_f (fun k => hnf (fun j hj => k j (by omega))) | exact xt_f (fun k => by have := k i (by omega); omega)) (by first | exact xt_t ⟨i, by omega, by omega, hbt⟩ | exact xt_t (by obtain ⟨j, hj, e⟩ := ho1.mp hot; exact ⟨j, by omega, e⟩)) rfl
            · skip
              have hof : ¬ ∃ j, j < i ∧ 32 ≤ q (3 * p + j) ∧ bd (q (3 * p + j) - 32) = true := fun k => absurd (ho1.mpr k) (by rw [h10]; decide)
              refine xz_aload_n hC 3 rfl rfl dMo_counts_45 ?_
              refine xz_get hC 0 rfl rfl 11 (by decide) inMo tq440 rfl rfl dMo_counts_46 ?_
              refine xz_iload hC 1 rfl dMo_counts_49 ?_
              refine xz_iaload hC 1 0 (v := nI (q (3 * p + i))) rfl rfl (by omega) (by decide) (hq (3 * p + i) (by omega)).1 dMo_counts_51 ?_
              refine xz_bipush hC (v := nI 32) (by decide +kernel) dMo_counts_52 ?_
              refine xz_icmp_lt hC (tgt := 79) (nI_toInt (by omega)) (nI_toInt (by omega)) (by decide) dMo_counts_54 (fun h11 => ?_) (fun h11 => ?_)
              · skip
                refine xz_iconst hC (v := bI false) (by decide +kernel) dMo_counts_79 ?_
                refine xz_istore_n hC (lc' := [(3, .int (bI false)), (2, .int (bI false)), (4, .int (nI (3 * p + i))), (0, .ref mo), (1, .int (nI p))]) rfl (by decide) rfl dMo_counts_80 ?_
                refine xz_iinc hC 2 (lc' := [(4, .int (nI (3 * p + i + 1))), (3, .int (bI false)), (2, .int (bI false)), (0, .ref mo), (1, .int (nI p))]) rfl (xn_inc _) (by decide) rfl dMo_counts_81 ?_
                refine xz_goto hC (tgt := 9) (by decide) dMo_counts_84 ?_
                exact ihlp1 _ (by omega) (i + 1) false false (by omega) (by first | exact xt_f (fun k => hnf (fun j hj => k j (by omega))) | exact xt_f (fun k => by have := k i (by omega); omega)) (by first | exact xt_f (fun ⟨j, hj, e1, e2⟩ => by by_cases z : j = i; (subst z; omega); exact hof ⟨j, by omega, e1, e2⟩) | exact xt_f (fun ⟨j, hj, e1, e2⟩ => by by_cases z : j = i; (subst z; rw [hbf] at e2; exact absurd e2 (by decide)); exact hof ⟨j, by omega, e1, e2⟩)) rfl
              · skip
                refine xz_aload_n hC 3 rfl rfl dMo_counts_57 ?_
                refine xz_get hC 0 rfl rfl 15 (by decide) inMo tq444 rfl rfl dMo_counts_58 ?_
                refine xz_aload_n hC 3 rfl rfl dMo_counts_61 ?_
                refine xz_get hC 0 rfl rfl 11 (by decide) inMo tq440 rfl rfl dMo_counts_62 ?_
                refine xz_iload hC 1 rfl dMo_counts_65 ?_
                refine xz_iaload hC 1 0 (v := nI (q (3 * p + i))) rfl rfl (by omega) (by decide) (hq (3 * p + i) (by omega)).1 dMo_counts_67 ?_
                refine xz_bipush hC (v := nI 32) (by decide +kernel) dMo_counts_68 ?_
                refine xz_isub hC (z := nI ((q (3 * p + i)) - 32)) (pk_sub (by omega)) dMo_counts_70 ?_
                refine xz_baload hC 2 3 (v := bI (bd (q (3 * p + i) - 32))) rfl rfl (by omega) (by decide) (hbo _ (by omega)).1 dMo_counts_71 ?_
                refine xz_ifb_eq hC (tgt := 79) (by decide) dMo_counts_72 (fun h12 => ?_) (fun h12 => ?_)
                · skip
                  have hbf := h12
                  refine xz_iconst hC (v := bI false) (by decide +kernel) dMo_counts_79 ?_
                  refine xz_istore_n hC (lc' := [(3, .int (bI false)), (2, .int (bI false)), (4, .int (nI (3 * p + i))), (0, .ref mo), (1, .int (nI p))]) rfl (by decide) rfl dMo_counts_80 ?_
                  refine xz_iinc hC 2 (lc' := [(4, .int (nI (3 * p + i + 1))), (3, .int (bI false)), (2, .int (bI false)), (0, .ref mo), (1, .int (nI p))]) rfl (xn_inc _) (by decide) rfl dMo_counts_81 ?_
                  refine xz_goto hC (tgt := 9) (by decide) dMo_counts_84 ?_
                  exact ihlp1 _ (by omega) (i + 1) false false (by omega) (by first | exact xt_f (fun k => hnf (fun j hj => k j (by omega))) | exact xt_f (fun k => by have := k i (by omega); omega)) (by first | exact xt_f (fun ⟨j, hj, e1, e2⟩ => by by_cases z : j = i; (subst z; omega); exact hof ⟨j, by omega, e1, e2⟩) | exact xt_f (fun ⟨j, hj, e1, e2⟩ => by by_cases z : j = i; (subst z; rw [hbf] at e2; exact absurd e2 (by decide)); exact hof ⟨j, by omega, e1, e2⟩)) rfl
                · skip
                  have hbt := h12
                  refine xz_iconst hC (v := bI true) (by decide +kernel) dMo_counts_75 ?_
                  refine xz_goto hC (tgt := 80) (by decide) dMo_counts_76 ?_
                  refine xz_istore_n hC (lc' := [(3, .int (bI true)), (2, .int (bI false)), (4, .int (nI (3 * p + i))), (0, .ref mo), (1, .int (nI p))]) rfl (by decide) rfl dMo_counts_80 ?_
                  refine xz_iinc hC 2 (lc' := [(4, .int (nI (3 * p + i + 1))), (3, .int (bI true)), (2, .int (bI false)), (0, .ref mo), (1, .int (nI p))]) rfl (xn_inc _) (by decide) rfl dMo_counts_81 ?_
                  refine xz_goto hC (tgt := 9) (by decide) dMo_counts_84 ?_
                  exact ihlp1 _ (by omega) (i + 1) true false (by omega) (by first | exact xt_f (fun k => hnf (fun j hj => k j (by omega))) | exact xt_f (fun k => by have := k i (by omega); omega)) (by first | exact xt_t ⟨i, by omega, by omega, hbt⟩ | exact xt_t (by obtain ⟨j, hj, e⟩ := ho1.mp hot; exact ⟨j, by omega, e⟩)) rfl
          · skip
            refine xz_iconst hC (v := bI true) (by decide +kernel) dMo_counts_35 ?_
            refine xz_goto hC (tgt := 40) (by decide) dMo_counts_36 ?_
            refine xz_istore_n hC (lc' := [(2, .int (bI true)), (4, .int (nI (3 * p + i))), (3, .int (bI o1)), (0, .ref mo), (1, .int (nI p))]) rfl (by decide) rfl dMo_counts_40 ?_
            refine xz_iload_n hC 2 rfl rfl dMo_counts_41 ?_
            refine xz_ifb_ne hC (tgt := 75) (by decide) dMo_counts_42 (fun h13 => ?_) (fun h13 => ?_)
            · skip
              have hot := h13
              refine xz_iconst hC (v := bI true) (by decide +kernel) dMo_counts_75 ?_
              refine xz_goto hC (tgt := 80) (by decide) dMo_counts_76 ?_
              refine xz_istore_n hC (lc' := [(3, .int (bI true)), (2, .int (bI true)), (4, .int (nI (3 * p + i))), (0, .ref mo), (1, .int (nI p))]) rfl (by decide) rfl dMo_counts_80 ?_
              refine xz_iinc hC 2 (lc' := [(4, .int (nI (3 * p + i + 1))), (3, .int (bI true)), (2, .int (bI true)), (0, .ref mo), (1, .int (nI p))]) rfl (xn_inc _) (by decide) rfl dMo_counts_81 ?_
              refine xz_goto hC (tgt := 9) (by decide) dMo_counts_84 ?_
              exact ihlp1 _ (by omega) (i + 1) true true (by omega) (by first | exact xt_t (lt_s (hn1.mp hnt) (by omega)) ) (by first | exact xt_t ⟨i, by omega, by omega, hbt⟩ | exact xt_t (by obtain ⟨j, hj, e⟩ := ho1.mp hot; exact ⟨j, by omega, e⟩)) rfl
            · skip
              have hof : ¬ ∃ j, j < i ∧ 32 ≤ q (3 * p + j) ∧ bd (q (3 * p + j) - 32) = true := fun k => absurd (ho1.mpr k) (by rw [h13]; decide)
              refine xz_aload_n hC 3 rfl rfl dMo_counts_45 ?_
              refine xz_get hC 0 rfl rfl 11 (by decide) inMo tq440 rfl rfl dMo_counts_46 ?_
              refine xz_iload hC 1 rfl dMo_counts_49 ?_
              refine xz_iaload hC 1 0 (v := nI (q (3 * p + i))) rfl rfl (by omega) (by decide) (hq (3 * p + i) (by omega)).1 dMo_counts_51 ?_
              refine xz_bipush hC (v := nI 32) (by decide +kernel) dMo_counts_52 ?_
              refine xz_icmp_lt hC (tgt := 79) (nI_toInt (by omega)) (nI_toInt (by omega)) (by decide) dMo_counts_54 (fun h14 => ?_) (fun h14 => ?_)
              · skip
                refine xz_iconst hC (v := bI false) (by decide +kernel) dMo_counts_79 ?_
                refine xz_istore_n hC (lc' := [(3, .int (bI false)), (2, .int (bI true)), (4, .int (nI (3 * p + i))), (0, .ref mo), (1, .int (nI p))]) rfl (by decide) rfl dMo_counts_80 ?_
                refine xz_iinc hC 2 (lc' := [(4, .int (nI (3 * p + i + 1))), (3, .int (bI false)), (2, .int (bI true)), (0, .ref mo), (1, .int (nI p))]) rfl (xn_inc _) (by decide) rfl dMo_counts_81 ?_
                refine xz_goto hC (tgt := 9) (by decide) dMo_counts_84 ?_
                exact ihlp1 _ (by omega) (i + 1) false true (by omega) (by first | exact xt_t (lt_s (hn1.mp hnt) (by omega)) ) (by first | exact xt_f (fun ⟨j, hj, e1, e2⟩ => by by_cases z : j = i; (subst z; omega); exact hof ⟨j, by omega, e1, e2⟩) | exact xt_f (fun ⟨j, hj, e1, e2⟩ => by by_cases z : j = i; (subst z; rw [hbf] at e2; exact absurd e2 (by decide)); exact hof ⟨j, by omega, e1, e2⟩)) rfl
              · skip
                refine xz_aload_n hC 3 rfl rfl dMo_counts_57 ?_
                refine xz_get hC 0 rfl rfl 15 (by decide) inMo tq444 rfl rfl dMo_counts_58 ?_
                refine xz_aload_n hC 3 rfl rfl dMo_counts_61 ?_
                refine xz_get hC 0 rfl rfl 11 (by decide) inMo tq440 rfl rfl dMo_counts_62 ?_
                refine xz_iload hC 1 rfl dMo_counts_65 ?_
                refine xz_iaload hC 1 0 (v := nI (q (3 * p + i))) rfl rfl (by omega) (by decide) (hq (3 * p + i) (by omega)).1 dMo_counts_67 ?_
                refine xz_bipush hC (v := nI 32) (by decide +kernel) dMo_counts_68 ?_
                refine xz_isub hC (z := nI ((q (3 * p + i)) - 32)) (pk_sub (by omega)) dMo_counts_70 ?_
                refine xz_baload hC 2 3 (v := bI (bd (q (3 * p + i) - 32))) rfl rfl (by omega) (by decide) (hbo _ (by omega)).1 dMo_counts_71 ?_
                refine xz_ifb_eq hC (tgt := 79) (by decide) dMo_counts_72 (fun h15 => ?_) (fun h15 => ?_)
                · skip
                  have hbf := h15
                  refine xz_iconst hC (v := bI false) (by decide +kernel) dMo_counts_79 ?_
                  refine xz_istore_n hC (lc' := [(3, .int (bI false)), (2, .int (bI true)), (4, .int (nI (3 * p + i))), (0, .ref mo), (1, .int (nI p))]) rfl (by decide) rfl dMo_counts_80 ?_
                  refine xz_iinc hC 2 (lc' := [(4, .int (nI (3 * p + i + 1))), (3, .int (bI false)), (2, .int (bI true)), (0, .ref mo), (1, .int (nI p))]) rfl (xn_inc _) (by decide) rfl dMo_counts_81 ?_
                  refine xz_goto hC (tgt := 9) (by decide) dMo_counts_84 ?_
                  exact ihlp1 _ (by omega) (i + 1) false true (by omega) (by first | exact xt_t (lt_s (hn1.mp hnt) (by omega)) ) (by first | exact xt_f (fun ⟨j, hj, e1, e2⟩ => by by_cases z : j = i; (subst z; omega); exact hof ⟨j, by omega, e1, e2⟩) | exact xt_f (fun ⟨j, hj, e1, e2⟩ => by by_cases z : j = i; (subst z; rw [hbf] at e2; exact absurd e2 (by decide)); exact hof ⟨j, by omega, e1, e2⟩)) rfl
                · skip
                  have hbt := h15
                  refine xz_iconst hC (v := bI true) (by decide +kernel) dMo_counts_75 ?_
                  refine xz_goto hC (tgt := 80) (by decide) dMo_counts_76 ?_
                  refine xz_istore_n hC (lc' := [(3, .int (bI true)), (2, .int (bI true)), (4, .int (nI (3 * p + i))), (0, .ref mo), (1, .int (nI p))]) rfl (by decide) rfl dMo_counts_80 ?_
                  refine xz_iinc hC 2 (lc' := [(4, .int (nI (3 * p + i + 1))), (3, .int (bI true)), (2, .int (bI true)), (0, .ref mo), (1, .int (nI p))]) rfl (xn_inc _) (by decide) rfl dMo_counts_81 ?_
                  refine xz_goto hC (tgt := 9) (by decide) dMo_counts_84 ?_
                  exact ihlp1 _ (by omega) (i + 1) true true (by omega) (by first | exact xt_t (lt_s (hn1.mp hnt) (by omega)) ) (by first | exact xt_t ⟨i, by omega, by omega, hbt⟩ | exact xt_t (by obtain ⟨j, hj, e⟩ := ho1.mp hot; exact ⟨j, by omega, e⟩)) rfl
  exact lp1 _ 0 false true (by omega) (xt_t (fun j hj => absurd hj (by omega))) (xt_f (fun ⟨j, hj, e⟩ => by omega)) rfl
