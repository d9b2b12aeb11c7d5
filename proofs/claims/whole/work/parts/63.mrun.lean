set_option maxHeartbeats 1000000 in
set_option maxRecDepth 100000 in
theorem mMo_run (l : Launch) (D : va_G) (K : Nat → ClassId) (mo wo le lt pe st pt rr vl bo kp mb mw n o mg pa ma an lv : Nat) (Pe Pt Rr Vl Bo Kp : Nat → Int32) (pp q : Nat → Nat) (x y z : Int32) (hn : n ≤ 60) (hp : xo_og Pe pp n) (hpa : pa ≤ 4) (hq : xq_nu Pt q (3 * pa)) (hmw : mw ≤ 24) : xz_Met l D (tz K) yMo_run cMo_run 6 (some .int) { frames := 4, cells := 0, slots := 0, locals := 95 } [.ref mo, .int x, .int y, .int z] [(mo, .inr (6, [.int (nI mb), .ref wo, .int (nI mw), .ref le, .ref lt, .int (nI n), .ref pe, .int (nI o), .ref st, .int (nI mg), .int (nI pa), .ref pt, .int (nI ma), .ref rr, .ref vl, .ref bo, .int (nI an), .ref kp, .int (nI lv)])), (pe, .inl (K 0, 60, .inl Pe)), (pt, .inl (K 0, 12, .inl Pt)), (rr, .inl (K 0, 3, .inl Rr)), (vl, .inl (K 0, 3, .inl Vl)), (bo, .inl (K 3, 3, .inl Bo)), (kp, .inl (K 0, 600, .inl Kp))] (fun v w => (¬ (0 < pa ∧ xq_aw (xq_aw (xq_aw (xq_vb q (3 * pa)) (xq_ev x)) (xq_ev y)) (xq_ev z) = 0) ∧ v = some (.int (-1)) ∧ ∃ Rq : Nat → Int32, w = [(mo, .inr (6, [.int (nI mb), .ref wo, .int (nI mw), .ref le, .ref lt, .int (nI n), .ref pe, .int (nI o), .ref st, .int (nI mg), .int (nI pa), .ref pt, .int (nI (xq_pc (xq_vb q (3 * pa)))), .ref rr, .ref vl, .ref bo, .int (nI an), .ref kp, .int (nI lv)])), (pe, .inl (K 0, 60, .inl Pe)), (pt, .inl (K 0, 12, .inl Pt)), (rr, .inl (K 0, 3, .inl Rq)), (vl, .inl (K 0, 3, .inl Vl)), (bo, .inl (K 3, 3, .inl Bo)), (kp, .inl (K 0, 600, .inl Kp))]) ∨ (0 < pa ∧ xq_aw (xq_aw (xq_aw (xq_vb q (3 * pa)) (xq_ev x)) (xq_ev y)) (xq_ev z) = 0 ∧ ∃ (d : Nat) (Rq Vl' Bo' Kp' : Nat → Int32), d = (xq_pc (xq_vb q (3 * pa))) ∧ v = some (.int (nI ((xr_F (xq_live q pa (x3 (xq_ev x) (xq_ev y) (xq_ev z)) (xo_mem pp n)) mw d).length))) ∧ w = [(mo, .inr (6, [.int (nI mb), .ref wo, .int (nI mw), .ref le, .ref lt, .int (nI n), .ref pe, .int (nI o), .ref st, .int (nI mg), .int (nI pa), .ref pt, .int (nI d), .ref rr, .ref vl, .ref bo, .int (nI ((xr_F (xq_live q pa (x3 (xq_ev x) (xq_ev y) (xq_ev z)) (xo_mem pp n)) mw d).length)), .ref kp, .int (nI (xr_sm (fun j => (xr_F (xq_live q pa (x3 (xq_ev x) (xq_ev y) (xq_ev z)) (xo_mem pp n)) mw (1 + j)).length) d))])), (pe, .inl (K 0, 60, .inl Pe)), (pt, .inl (K 0, 12, .inl Pt)), (rr, .inl (K 0, 3, .inl Rq)), (vl, .inl (K 0, 3, .inl Vl')), (bo, .inl (K 3, 3, .inl Bo')), (kp, .inl (K 0, 600, .inl Kp'))] ∧ xs_kp Kp' (xr_F (xq_live q pa (x3 (xq_ev x) (xq_ev y) (xq_ev z)) (xo_mem pp n)) mw d) (xq_vl (x3 (xq_ev x) (xq_ev y) (xq_ev z))))) := by
  refine xz_enter (by decide +kernel) (Nat.le_of_ble_eq_true rfl) ?_
  intro Γ hC
  refine xz_lcs (lc' := [(0, .ref mo), (1, .int x), (2, .int y), (3, .int z)]) [0, 1, 2, 3] rfl ?_
  refine xz_aload_n hC 0 rfl rfl dMo_run_0 ?_
  refine xz_iload_n hC 1 rfl rfl dMo_run_1 ?_
  refine xz_iload_n hC 2 rfl rfl dMo_run_2 ?_
  refine xz_iload_n hC 3 rfl rfl dMo_run_3 ?_
  refine xz_callV hC (mMo_rowFits l D K mo wo le lt pe st pt rr vl bo kp mb mw n o mg pa ma an lv Pt Rr q x y z hpa hq) kMo_rowFits tq7 tq580 tq582 tp22 0 6 rfl rfl rfl (host := "") hMo_rowFits (by decide) [0, 2, 3] [1, 4, 5, 6] (by decide) rfl (wr := [(pe, .inl (K 0, 60, .inl Pe)), (vl, .inl (K 0, 3, .inl Vl)), (bo, .inl (K 3, 3, .inl Bo)), (kp, .inl (K 0, 600, .inl Kp))]) rfl (by decide) (by decide) (As := [.int x, .int y, .int z]) (rest := []) rfl rfl (Nat.le_of_ble_eq_true rfl) (by decide) dMo_run_4 (fun v w hq => ?_)
  obtain ⟨b, Rq, rfl, rfl, hR0, hR1, hR2, hb⟩ := hq
  refine xz_ste (st' := [.int (bI b)]) rfl ?_
  refine xz_wss (ws' := [(mo, .inr (6, [.int (nI mb), .ref wo, .int (nI mw), .ref le, .ref lt, .int (nI n), .ref pe, .int (nI o), .ref st, .int (nI mg), .int (nI pa), .ref pt, .int (nI (xq_pc (xq_vb q (3 * pa)))), .ref rr, .ref vl, .ref bo, .int (nI an), .ref kp, .int (nI lv)])), (pe, .inl (K 0, 60, .inl Pe)), (pt, .inl (K 0, 12, .inl Pt)), (rr, .inl (K 0, 3, .inl Rq)), (vl, .inl (K 0, 3, .inl Vl)), (bo, .inl (K 3, 3, .inl Bo)), (kp, .inl (K 0, 600, .inl Kp))]) [4, 0, 5, 6, 1, 2, 3] (by decide) rfl rfl ?_
  refine xz_ifb_ne hC (tgt := 12) (by decide) dMo_run_7 (fun h1 => ?_) (fun h1 => ?_)
  · skip
    have hbt := h1
    obtain ⟨hpa0, hrow⟩ := hb.mp hbt
    obtain ⟨-, -, -, hr4⟩ := xq_row_ok (fun i hi => (hq i hi).2) hrow
    have hrr := xm_rr hR0 hR1 hR2 hr4
    have hd3 := hr4.1
    rcases (show (xq_pc (xq_vb q (3 * pa))) = 0 ∨ (xq_pc (xq_vb q (3 * pa))) = 1 ∨ (xq_pc (xq_vb q (3 * pa))) = 2 ∨ (xq_pc (xq_vb q (3 * pa))) = 3 by omega) with hm | hm | hm | hm
    · skip
      refine xz_wse (ws' := [(mo, .inr (6, [.int (nI mb), .ref wo, .int (nI mw), .ref le, .ref lt, .int (nI n), .ref pe, .int (nI o), .ref st, .int (nI mg), .int (nI pa), .ref pt, .int (nI 0), .ref rr, .ref vl, .ref bo, .int (nI an), .ref kp, .int (nI lv)])), (pe, .inl (K 0, 60, .inl Pe)), (pt, .inl (K 0, 12, .inl Pt)), (rr, .inl (K 0, 3, .inl Rq)), (vl, .inl (K 0, 3, .inl Vl)), (bo, .inl (K 3, 3, .inl Bo)), (kp, .inl (K 0, 600, .inl Kp))]) (by rw [hm]) ?_
      rw [hm] at hrr hr4 hd3
      refine xz_aload_n hC 0 rfl rfl dMo_run_12 ?_
      refine xz_iconst hC (v := nI 0) (by decide +kernel) dMo_run_13 ?_
      refine xz_put hC 0 rfl rfl 18 (by decide) inMo tq447 rfl tyMo tyMo_ok nmMo rfl rfl rfl (Nat.le_of_ble_eq_true rfl) (ws' := [(mo, .inr (6, [.int (nI mb), .ref wo, .int (nI mw), .ref le, .ref lt, .int (nI n), .ref pe, .int (nI o), .ref st, .int (nI mg), .int (nI pa), .ref pt, .int (nI 0), .ref rr, .ref vl, .ref bo, .int (nI an), .ref kp, .int (nI 0)])), (pe, .inl (K 0, 60, .inl Pe)), (pt, .inl (K 0, 12, .inl Pt)), (rr, .inl (K 0, 3, .inl Rq)), (vl, .inl (K 0, 3, .inl Vl)), (bo, .inl (K 3, 3, .inl Bo)), (kp, .inl (K 0, 600, .inl Kp))]) rfl dMo_run_14 ?_
      refine xz_iconst hC (v := nI 1) (by decide +kernel) dMo_run_17 ?_
      refine xz_istore hC (lc' := [(4, .int (nI 1)), (0, .ref mo), (1, .int x), (2, .int y), (3, .int z)]) (by decide) rfl dMo_run_18 ?_
      refine xz_iload hC 0 rfl dMo_run_20 ?_
      refine xz_aload_n hC 1 rfl rfl dMo_run_22 ?_
      refine xz_get hC 0 rfl rfl 12 (by decide) inMo tq441 rfl rfl dMo_run_23 ?_
      refine xz_icmp_ge hC (tgt := 54) (nI_toInt (by omega)) (nI_toInt (by omega)) (by decide) dMo_run_26 (fun h2 => ?_) (fun h2 => ?_)
      · skip
        refine xz_aload_n hC 1 rfl rfl dMo_run_54 ?_
        refine xz_aload_n hC 1 rfl rfl dMo_run_55 ?_
        refine xz_aload_n hC 1 rfl rfl dMo_run_56 ?_
        refine xz_get hC 0 rfl rfl 12 (by decide) inMo tq441 rfl rfl dMo_run_57 ?_
        refine xz_callV hC (mMo_through l D K mo wo le lt pe st pt rr vl bo kp mb mw n o mg pa 0 an 0 Pe Pt Rq Vl Bo Kp pp q (x3 (xq_ev x) (xq_ev y) (xq_ev z)) 0 hn hp hpa hq hmw (by decide) (xs_rw_le hr4 (by omega)) (fun j hj => hrr j (by omega))) kMo_through tq7 tq588 tq590 tp24 0 6 rfl rfl rfl (host := "") hMo_through (by decide) [0, 1, 2, 3, 4, 5, 6] [] (by decide) rfl (wr := []) rfl (by decide) (by decide) (As := [.int (nI 0)]) (rest := [.ref mo]) rfl rfl (Nat.le_of_ble_eq_true rfl) (by decide) dMo_run_60 (fun v w hq => ?_)
        obtain ⟨Vl3, Bo3, Kp3, rfl, rfl, hk3⟩ := hq
        refine xz_ste (st' := [.int (nI ((xr_F (xq_live q pa (x3 (xq_ev x) (xq_ev y) (xq_ev z)) (xo_mem pp n)) mw 0).length)), .ref mo]) rfl ?_
        refine xz_wss (ws' := [(mo, .inr (6, [.int (nI mb), .ref wo, .int (nI mw), .ref le, .ref lt, .int (nI n), .ref pe, .int (nI o), .ref st, .int (nI mg), .int (nI pa), .ref pt, .int (nI 0), .ref rr, .ref vl, .ref bo, .int (nI an), .ref kp, .int (nI 0)])), (pe, .inl (K 0, 60, .inl Pe)), (pt, .inl (K 0, 12, .inl Pt)), (rr, .inl (K 0, 3, .inl Rq)), (vl, .inl (K 0, 3, .inl Vl3)), (bo, .inl (K 3, 3, .inl Bo3)), (kp, .inl (K 0, 600, .inl Kp3))]) [0, 1, 2, 3, 4, 5, 6] (by decide) rfl rfl ?_
        refine xz_put hC 0 rfl rfl 16 (by decide) inMo tq445 rfl tyMo tyMo_ok nmMo rfl rfl rfl (Nat.le_of_ble_eq_true rfl) (ws' := [(mo, .inr (6, [.int (nI mb), .ref wo, .int (nI mw), .ref le, .ref lt, .int (nI n), .ref pe, .int (nI o), .ref st, .int (nI mg), .int (nI pa), .ref pt, .int (nI 0), .ref rr, .ref vl, .ref bo, .int (nI ((xr_F (xq_live q pa (x3 (xq_ev x) (xq_ev y) (xq_ev z)) (xo_mem pp n)) mw 0).length)), .ref kp, .int (nI 0)])), (pe, .inl (K 0, 60, .inl Pe)), (pt, .inl (K 0, 12, .inl Pt)), (rr, .inl (K 0, 3, .inl Rq)), (vl, .inl (K 0, 3, .inl Vl3)), (bo, .inl (K 3, 3, .inl Bo3)), (kp, .inl (K 0, 600, .inl Kp3))]) rfl dMo_run_63 ?_
        refine xz_aload_n hC 1 rfl rfl dMo_run_66 ?_
        refine xz_aload_n hC 1 rfl rfl dMo_run_67 ?_
        refine xz_get hC 0 rfl rfl 12 (by decide) inMo tq441 rfl rfl dMo_run_68 ?_
        refine xz_if_le hC (tgt := 86) (nI_toInt (by omega)) (by decide) dMo_run_71 (fun h4 => ?_) (fun h4 => ?_)
        · skip
          refine xz_iconst hC (v := nI 0) (by decide +kernel) dMo_run_86 ?_
          refine xz_put hC 0 rfl rfl 18 (by decide) inMo tq447 rfl tyMo tyMo_ok nmMo rfl rfl rfl (Nat.le_of_ble_eq_true rfl) (ws' := [(mo, .inr (6, [.int (nI mb), .ref wo, .int (nI mw), .ref le, .ref lt, .int (nI n), .ref pe, .int (nI o), .ref st, .int (nI mg), .int (nI pa), .ref pt, .int (nI 0), .ref rr, .ref vl, .ref bo, .int (nI ((xr_F (xq_live q pa (x3 (xq_ev x) (xq_ev y) (xq_ev z)) (xo_mem pp n)) mw 0).length)), .ref kp, .int (nI 0)])), (pe, .inl (K 0, 60, .inl Pe)), (pt, .inl (K 0, 12, .inl Pt)), (rr, .inl (K 0, 3, .inl Rq)), (vl, .inl (K 0, 3, .inl Vl3)), (bo, .inl (K 3, 3, .inl Bo3)), (kp, .inl (K 0, 600, .inl Kp3))]) rfl dMo_run_87 ?_
          refine xz_aload_n hC 1 rfl rfl dMo_run_90 ?_
          refine xz_get hC 0 rfl rfl 16 (by decide) inMo tq445 rfl rfl dMo_run_91 ?_
          exact xz_ireturn hC (by decide) (by decide) (Or.inr ⟨hpa0, hrow, 0, Rq, Vl3, Bo3, Kp3, hm.symm, rfl, rfl, hk3⟩) dMo_run_94
        · skip
          exfalso; omega
      · skip
        exfalso; omega
    · skip
      refine xz_wse (ws' := [(mo, .inr (6, [.int (nI mb), .ref wo, .int (nI mw), .ref le, .ref lt, .int (nI n), .ref pe, .int (nI o), .ref st, .int (nI mg), .int (nI pa), .ref pt, .int (nI 1), .ref rr, .ref vl, .ref bo, .int (nI an), .ref kp, .int (nI lv)])), (pe, .inl (K 0, 60, .inl Pe)), (pt, .inl (K 0, 12, .inl Pt)), (rr, .inl (K 0, 3, .inl Rq)), (vl, .inl (K 0, 3, .inl Vl)), (bo, .inl (K 3, 3, .inl Bo)), (kp, .inl (K 0, 600, .inl Kp))]) (by rw [hm]) ?_
      rw [hm] at hrr hr4 hd3
      refine xz_aload_n hC 0 rfl rfl dMo_run_12 ?_
      refine xz_iconst hC (v := nI 0) (by decide +kernel) dMo_run_13 ?_
      refine xz_put hC 0 rfl rfl 18 (by decide) inMo tq447 rfl tyMo tyMo_ok nmMo rfl rfl rfl (Nat.le_of_ble_eq_true rfl) (ws' := [(mo, .inr (6, [.int (nI mb), .ref wo, .int (nI mw), .ref le, .ref lt, .int (nI n), .ref pe, .int (nI o), .ref st, .int (nI mg), .int (nI pa), .ref pt, .int (nI 1), .ref rr, .ref vl, .ref bo, .int (nI an), .ref kp, .int (nI 0)])), (pe, .inl (K 0, 60, .inl Pe)), (pt, .inl (K 0, 12, .inl Pt)), (rr, .inl (K 0, 3, .inl Rq)), (vl, .inl (K 0, 3, .inl Vl)), (bo, .inl (K 3, 3, .inl Bo)), (kp, .inl (K 0, 600, .inl Kp))]) rfl dMo_run_14 ?_
      refine xz_iconst hC (v := nI 1) (by decide +kernel) dMo_run_17 ?_
      refine xz_istore hC (lc' := [(4, .int (nI 1)), (0, .ref mo), (1, .int x), (2, .int y), (3, .int z)]) (by decide) rfl dMo_run_18 ?_
      refine xz_iload hC 0 rfl dMo_run_20 ?_
      refine xz_aload_n hC 1 rfl rfl dMo_run_22 ?_
      refine xz_get hC 0 rfl rfl 12 (by decide) inMo tq441 rfl rfl dMo_run_23 ?_
      refine xz_icmp_ge hC (tgt := 54) (nI_toInt (by omega)) (nI_toInt (by omega)) (by decide) dMo_run_26 (fun h5 => ?_) (fun h5 => ?_)
      · skip
        refine xz_aload_n hC 1 rfl rfl dMo_run_54 ?_
        refine xz_aload_n hC 1 rfl rfl dMo_run_55 ?_
        refine xz_aload_n hC 1 rfl rfl dMo_run_56 ?_
        refine xz_get hC 0 rfl rfl 12 (by decide) inMo tq441 rfl rfl dMo_run_57 ?_
        refine xz_callV hC (mMo_through l D K mo wo le lt pe st pt rr vl bo kp mb mw n o mg pa 1 an 0 Pe Pt Rq Vl Bo Kp pp q (x3 (xq_ev x) (xq_ev y) (xq_ev z)) 1 hn hp hpa hq hmw (by decide) (xs_rw_le hr4 (by omega)) (fun j hj => hrr j (by omega))) kMo_through tq7 tq588 tq590 tp24 0 6 rfl rfl rfl (host := "") hMo_through (by decide) [0, 1, 2, 3, 4, 5, 6] [] (by decide) rfl (wr := []) rfl (by decide) (by decide) (As := [.int (nI 1)]) (rest := [.ref mo]) rfl rfl (Nat.le_of_ble_eq_true rfl) (by decide) dMo_run_60 (fun v w hq => ?_)
        obtain ⟨Vl6, Bo6, Kp6, rfl, rfl, hk6⟩ := hq
        refine xz_ste (st' := [.int (nI ((xr_F (xq_live q pa (x3 (xq_ev x) (xq_ev y) (xq_ev z)) (xo_mem pp n)) mw 1).length)), .ref mo]) rfl ?_
        refine xz_wss (ws' := [(mo, .inr (6, [.int (nI mb), .ref wo, .int (nI mw), .ref le, .ref lt, .int (nI n), .ref pe, .int (nI o), .ref st, .int (nI mg), .int (nI pa), .ref pt, .int (nI 1), .ref rr, .ref vl, .ref bo, .int (nI an), .ref kp, .int (nI 0)])), (pe, .inl (K 0, 60, .inl Pe)), (pt, .inl (K 0, 12, .inl Pt)), (rr, .inl (K 0, 3, .inl Rq)), (vl, .inl (K 0, 3, .inl Vl6)), (bo, .inl (K 3, 3, .inl Bo6)), (kp, .inl (K 0, 600, .inl Kp6))]) [0, 1, 2, 3, 4, 5, 6] (by decide) rfl rfl ?_
        refine xz_put hC 0 rfl rfl 16 (by decide) inMo tq445 rfl tyMo tyMo_ok nmMo rfl rfl rfl (Nat.le_of_ble_eq_true rfl) (ws' := [(mo, .inr (6, [.int (nI mb), .ref wo, .int (nI mw), .ref le, .ref lt, .int (nI n), .ref pe, .int (nI o), .ref st, .int (nI mg), .int (nI pa), .ref pt, .int (nI 1), .ref rr, .ref vl, .ref bo, .int (nI ((xr_F (xq_live q pa (x3 (xq_ev x) (xq_ev y) (xq_ev z)) (xo_mem pp n)) mw 1).length)), .ref kp, .int (nI 0)])), (pe, .inl (K 0, 60, .inl Pe)), (pt, .inl (K 0, 12, .inl Pt)), (rr, .inl (K 0, 3, .inl Rq)), (vl, .inl (K 0, 3, .inl Vl6)), (bo, .inl (K 3, 3, .inl Bo6)), (kp, .inl (K 0, 600, .inl Kp6))]) rfl dMo_run_63 ?_
        refine xz_aload_n hC 1 rfl rfl dMo_run_66 ?_
        refine xz_aload_n hC 1 rfl rfl dMo_run_67 ?_
        refine xz_get hC 0 rfl rfl 12 (by decide) inMo tq441 rfl rfl dMo_run_68 ?_
        refine xz_if_le hC (tgt := 86) (nI_toInt (by omega)) (by decide) dMo_run_71 (fun h7 => ?_) (fun h7 => ?_)
        · skip
          exfalso; omega
        · skip
          refine xz_aload_n hC 1 rfl rfl dMo_run_74 ?_
          refine xz_get hC 0 rfl rfl 18 (by decide) inMo tq447 rfl rfl dMo_run_75 ?_
          refine xz_aload_n hC 1 rfl rfl dMo_run_78 ?_
          refine xz_get hC 0 rfl rfl 16 (by decide) inMo tq445 rfl rfl dMo_run_79 ?_
          refine xz_iadd hC (z := nI (0 + ((xr_F (xq_live q pa (x3 (xq_ev x) (xq_ev y) (xq_ev z)) (xo_mem pp n)) mw 1).length))) (nI_add _ _) dMo_run_82 ?_
          refine xz_goto hC (tgt := 87) (by decide) dMo_run_83 ?_
          refine xz_put hC 0 rfl rfl 18 (by decide) inMo tq447 rfl tyMo tyMo_ok nmMo rfl rfl rfl (Nat.le_of_ble_eq_true rfl) (ws' := [(mo, .inr (6, [.int (nI mb), .ref wo, .int (nI mw), .ref le, .ref lt, .int (nI n), .ref pe, .int (nI o), .ref st, .int (nI mg), .int (nI pa), .ref pt, .int (nI 1), .ref rr, .ref vl, .ref bo, .int (nI ((xr_F (xq_live q pa (x3 (xq_ev x) (xq_ev y) (xq_ev z)) (xo_mem pp n)) mw 1).length)), .ref kp, .int (nI (0 + ((xr_F (xq_live q pa (x3 (xq_ev x) (xq_ev y) (xq_ev z)) (xo_mem pp n)) mw 1).length)))])), (pe, .inl (K 0, 60, .inl Pe)), (pt, .inl (K 0, 12, .inl Pt)), (rr, .inl (K 0, 3, .inl Rq)), (vl, .inl (K 0, 3, .inl Vl6)), (bo, .inl (K 3, 3, .inl Bo6)), (kp, .inl (K 0, 600, .inl Kp6))]) rfl dMo_run_87 ?_
          refine xz_aload_n hC 1 rfl rfl dMo_run_90 ?_
          refine xz_get hC 0 rfl rfl 16 (by decide) inMo tq445 rfl rfl dMo_run_91 ?_
          exact xz_ireturn hC (by decide) (by decide) (Or.inr ⟨hpa0, hrow, 1, Rq, Vl6, Bo6, Kp6, hm.symm, rfl, rfl, hk6⟩) dMo_run_94
      · skip
        exfalso; omega
    · skip
      refine xz_wse (ws' := [(mo, .inr (6, [.int (nI mb), .ref wo, .int (nI mw), .ref le, .ref lt, .int (nI n), .ref pe, .int (nI o), .ref st, .int (nI mg), .int (nI pa), .ref pt, .int (nI 2), .ref rr, .ref vl, .ref bo, .int (nI an), .ref kp, .int (nI lv)])), (pe, .inl (K 0, 60, .inl Pe)), (pt, .inl (K 0, 12, .inl Pt)), (rr, .inl (K 0, 3, .inl Rq)), (vl, .inl (K 0, 3, .inl Vl)), (bo, .inl (K 3, 3, .inl Bo)), (kp, .inl (K 0, 600, .inl Kp))]) (by rw [hm]) ?_
      rw [hm] at hrr hr4 hd3
      refine xz_aload_n hC 0 rfl rfl dMo_run_12 ?_
      refine xz_iconst hC (v := nI 0) (by decide +kernel) dMo_run_13 ?_
      refine xz_put hC 0 rfl rfl 18 (by decide) inMo tq447 rfl tyMo tyMo_ok nmMo rfl rfl rfl (Nat.le_of_ble_eq_true rfl) (ws' := [(mo, .inr (6, [.int (nI mb), .ref wo, .int (nI mw), .ref le, .ref lt, .int (nI n), .ref pe, .int (nI o), .ref st, .int (nI mg), .int (nI pa), .ref pt, .int (nI 2), .ref rr, .ref vl, .ref bo, .int (nI an), .ref kp, .int (nI 0)])), (pe, .inl (K 0, 60, .inl Pe)), (pt, .inl (K 0, 12, .inl Pt)), (rr, .inl (K 0, 3, .inl Rq)), (vl, .inl (K 0, 3, .inl Vl)), (bo, .inl (K 3, 3, .inl Bo)), (kp, .inl (K 0, 600, .inl Kp))]) rfl dMo_run_14 ?_
      refine xz_iconst hC (v := nI 1) (by decide +kernel) dMo_run_17 ?_
      refine xz_istore hC (lc' := [(4, .int (nI 1)), (0, .ref mo), (1, .int x), (2, .int y), (3, .int z)]) (by decide) rfl dMo_run_18 ?_
      refine xz_iload hC 0 rfl dMo_run_20 ?_
      refine xz_aload_n hC 1 rfl rfl dMo_run_22 ?_
      refine xz_get hC 0 rfl rfl 12 (by decide) inMo tq441 rfl rfl dMo_run_23 ?_
      refine xz_icmp_ge hC (tgt := 54) (nI_toInt (by omega)) (nI_toInt (by omega)) (by decide) dMo_run_26 (fun h8 => ?_) (fun h8 => ?_)
      · skip
        exfalso; omega
      · skip
        refine xz_aload_n hC 1 rfl rfl dMo_run_29 ?_
        refine xz_iload hC 0 rfl dMo_run_30 ?_
        refine xz_callV hC (mMo_through l D K mo wo le lt pe st pt rr vl bo kp mb mw n o mg pa 2 an 0 Pe Pt Rq Vl Bo Kp pp q (x3 (xq_ev x) (xq_ev y) (xq_ev z)) 1 hn hp hpa hq hmw (by decide) (xs_rw_le hr4 (by omega)) (fun j hj => hrr j (by omega))) kMo_through tq7 tq588 tq590 tp24 0 6 rfl rfl rfl (host := "") hMo_through (by decide) [0, 1, 2, 3, 4, 5, 6] [] (by decide) rfl (wr := []) rfl (by decide) (by decide) (As := [.int (nI 1)]) (rest := []) rfl rfl (Nat.le_of_ble_eq_true rfl) (by decide) dMo_run_32 (fun v w hq => ?_)
        obtain ⟨Vl9, Bo9, Kp9, rfl, rfl, hk9⟩ := hq
        refine xz_ste (st' := [.int (nI ((xr_F (xq_live q pa (x3 (xq_ev x) (xq_ev y) (xq_ev z)) (xo_mem pp n)) mw 1).length))]) rfl ?_
        refine xz_wss (ws' := [(mo, .inr (6, [.int (nI mb), .ref wo, .int (nI mw), .ref le, .ref lt, .int (nI n), .ref pe, .int (nI o), .ref st, .int (nI mg), .int (nI pa), .ref pt, .int (nI 2), .ref rr, .ref vl, .ref bo, .int (nI an), .ref kp, .int (nI 0)])), (pe, .inl (K 0, 60, .inl Pe)), (pt, .inl (K 0, 12, .inl Pt)), (rr, .inl (K 0, 3, .inl Rq)), (vl, .inl (K 0, 3, .inl Vl9)), (bo, .inl (K 3, 3, .inl Bo9)), (kp, .inl (K 0, 600, .inl Kp9))]) [0, 1, 2, 3, 4, 5, 6] (by decide) rfl rfl ?_
        refine xz_istore hC (lc' := [(5, .int (nI ((xr_F (xq_live q pa (x3 (xq_ev x) (xq_ev y) (xq_ev z)) (xo_mem pp n)) mw 1).length))), (4, .int (nI 1)), (0, .ref mo), (1, .int x), (2, .int y), (3, .int z)]) (by decide) rfl dMo_run_35 ?_
        refine xz_aload_n hC 2 rfl rfl dMo_run_37 ?_
        refine xz_aload_n hC 2 rfl rfl dMo_run_38 ?_
        refine xz_get hC 0 rfl rfl 18 (by decide) inMo tq447 rfl rfl dMo_run_39 ?_
        refine xz_iload hC 0 rfl dMo_run_42 ?_
        refine xz_iadd hC (z := nI (0 + ((xr_F (xq_live q pa (x3 (xq_ev x) (xq_ev y) (xq_ev z)) (xo_mem pp n)) mw 1).length))) (nI_add _ _) dMo_run_44 ?_
        refine xz_put hC 0 rfl rfl 18 (by decide) inMo tq447 rfl tyMo tyMo_ok nmMo rfl rfl rfl (Nat.le_of_ble_eq_true rfl) (ws' := [(mo, .inr (6, [.int (nI mb), .ref wo, .int (nI mw), .ref le, .ref lt, .int (nI n), .ref pe, .int (nI o), .ref st, .int (nI mg), .int (nI pa), .ref pt, .int (nI 2), .ref rr, .ref vl, .ref bo, .int (nI an), .ref kp, .int (nI (0 + ((xr_F (xq_live q pa (x3 (xq_ev x) (xq_ev y) (xq_ev z)) (xo_mem pp n)) mw 1).length)))])), (pe, .inl (K 0, 60, .inl Pe)), (pt, .inl (K 0, 12, .inl Pt)), (rr, .inl (K 0, 3, .inl Rq)), (vl, .inl (K 0, 3, .inl Vl9)), (bo, .inl (K 3, 3, .inl Bo9)), (kp, .inl (K 0, 600, .inl Kp9))]) rfl dMo_run_45 ?_
        refine xz_iinc hC 1 (lc' := [(4, .int (nI 2)), (5, .int (nI ((xr_F (xq_live q pa (x3 (xq_ev x) (xq_ev y) (xq_ev z)) (xo_mem pp n)) mw 1).length))), (0, .ref mo), (1, .int x), (2, .int y), (3, .int z)]) rfl (xn_inc _) (by decide) rfl dMo_run_48 ?_
        refine xz_goto hC (tgt := 20) (by decide) dMo_run_51 ?_
        refine xz_iload hC 0 rfl dMo_run_20 ?_
        refine xz_aload_n hC 2 rfl rfl dMo_run_22 ?_
        refine xz_get hC 0 rfl rfl 12 (by decide) inMo tq441 rfl rfl dMo_run_23 ?_
        refine xz_icmp_ge hC (tgt := 54) (nI_toInt (by omega)) (nI_toInt (by omega)) (by decide) dMo_run_26 (fun h10 => ?_) (fun h10 => ?_)
        · skip
          refine xz_aload_n hC 2 rfl rfl dMo_run_54 ?_
          refine xz_aload_n hC 2 rfl rfl dMo_run_55 ?_
          refine xz_aload_n hC 2 rfl rfl dMo_run_56 ?_
          refine xz_get hC 0 rfl rfl 12 (by decide) inMo tq441 rfl rfl dMo_run_57 ?_
          refine xz_callV hC (mMo_through l D K mo wo le lt pe st pt rr vl bo kp mb mw n o mg pa 2 an (0 + ((xr_F (xq_live q pa (x3 (xq_ev x) (xq_ev y) (xq_ev z)) (xo_mem pp n)) mw 1).length)) Pe Pt Rq Vl9 Bo9 Kp9 pp q (x3 (xq_ev x) (xq_ev y) (xq_ev z)) 2 hn hp hpa hq hmw (by decide) (xs_rw_le hr4 (by omega)) (fun j hj => hrr j (by omega))) kMo_through tq7 tq588 tq590 tp24 0 6 rfl rfl rfl (host := "") hMo_through (by decide) [0, 1, 2, 3, 4, 5, 6] [] (by decide) rfl (wr := []) rfl (by decide) (by decide) (As := [.int (nI 2)]) (rest := [.ref mo]) rfl rfl (Nat.le_of_ble_eq_true rfl) (by decide) dMo_run_60 (fun v w hq => ?_)
          obtain ⟨Vl11, Bo11, Kp11, rfl, rfl, hk11⟩ := hq
          refine xz_ste (st' := [.int (nI ((xr_F (xq_live q pa (x3 (xq_ev x) (xq_ev y) (xq_ev z)) (xo_mem pp n)) mw 2).length)), .ref mo]) rfl ?_
          refine xz_wss (ws' := [(mo, .inr (6, [.int (nI mb), .ref wo, .int (nI mw), .ref le, .ref lt, .int (nI n), .ref pe, .int (nI o), .ref st, .int (nI mg), .int (nI pa), .ref pt, .int (nI 2), .ref rr, .ref vl, .ref bo, .int (nI an), .ref kp, .int (nI (0 + ((xr_F (xq_live q pa (x3 (xq_ev x) (xq_ev y) (xq_ev z)) (xo_mem pp n)) mw 1).length)))])), (pe, .inl (K 0, 60, .inl Pe)), (pt, .inl (K 0, 12, .inl Pt)), (rr, .inl (K 0, 3, .inl Rq)), (vl, .inl (K 0, 3, .inl Vl11)), (bo, .inl (K 3, 3, .inl Bo11)), (kp, .inl (K 0, 600, .inl Kp11))]) [0, 1, 2, 3, 4, 5, 6] (by decide) rfl rfl ?_
          refine xz_put hC 0 rfl rfl 16 (by decide) inMo tq445 rfl tyMo tyMo_ok nmMo rfl rfl rfl (Nat.le_of_ble_eq_true rfl) (ws' := [(mo, .inr (6, [.int (nI mb), .ref wo, .int (nI mw), .ref le, .ref lt, .int (nI n), .ref pe, .int (nI o), .ref st, .int (nI mg), .int (nI pa), .ref pt, .int (nI 2), .ref rr, .ref vl, .ref bo, .int (nI ((xr_F (xq_live q pa (x3 (xq_ev x) (xq_ev y) (xq_ev z)) (xo_mem pp n)) mw 2).length)), .ref kp, .int (nI (0 + ((xr_F (xq_live q pa (x3 (xq_ev x) (xq_ev y) (xq_ev z)) (xo_mem pp n)) mw 1).length)))])), (pe, .inl (K 0, 60, .inl Pe)), (pt, .inl (K 0, 12, .inl Pt)), (rr, .inl (K 0, 3, .inl Rq)), (vl, .inl (K 0, 3, .inl Vl11)), (bo, .inl (K 3, 3, .inl Bo11)), (kp, .inl (K 0, 600, .inl Kp11))]) rfl dMo_run_63 ?_
          refine xz_aload_n hC 2 rfl rfl dMo_run_66 ?_
          refine xz_aload_n hC 2 rfl rfl dMo_run_67 ?_
          refine xz_get hC 0 rfl rfl 12 (by decide) inMo tq441 rfl rfl dMo_run_68 ?_
          refine xz_if_le hC (tgt := 86) (nI_toInt (by omega)) (by decide) dMo_run_71 (fun h12 => ?_) (fun h12 => ?_)
          · skip
            exfalso; omega
          · skip
            refine xz_aload_n hC 2 rfl rfl dMo_run_74 ?_
            refine xz_get hC 0 rfl rfl 18 (by decide) inMo tq447 rfl rfl dMo_run_75 ?_
            refine xz_aload_n hC 2 rfl rfl dMo_run_78 ?_
            refine xz_get hC 0 rfl rfl 16 (by decide) inMo tq445 rfl rfl dMo_run_79 ?_
            refine xz_iadd hC (z := nI (0 + ((xr_F (xq_live q pa (x3 (xq_ev x) (xq_ev y) (xq_ev z)) (xo_mem pp n)) mw 1).length) + ((xr_F (xq_live q pa (x3 (xq_ev x) (xq_ev y) (xq_ev z)) (xo_mem pp n)) mw 2).length))) (nI_add _ _) dMo_run_82 ?_
            refine xz_goto hC (tgt := 87) (by decide) dMo_run_83 ?_
            refine xz_put hC 0 rfl rfl 18 (by decide) inMo tq447 rfl tyMo tyMo_ok nmMo rfl rfl rfl (Nat.le_of_ble_eq_true rfl) (ws' := [(mo, .inr (6, [.int (nI mb), .ref wo, .int (nI mw), .ref le, .ref lt, .int (nI n), .ref pe, .int (nI o), .ref st, .int (nI mg), .int (nI pa), .ref pt, .int (nI 2), .ref rr, .ref vl, .ref bo, .int (nI ((xr_F (xq_live q pa (x3 (xq_ev x) (xq_ev y) (xq_ev z)) (xo_mem pp n)) mw 2).length)), .ref kp, .int (nI (0 + ((xr_F (xq_live q pa (x3 (xq_ev x) (xq_ev y) (xq_ev z)) (xo_mem pp n)) mw 1).length) + ((xr_F (xq_live q pa (x3 (xq_ev x) (xq_ev y) (xq_ev z)) (xo_mem pp n)) mw 2).length)))])), (pe, .inl (K 0, 60, .inl Pe)), (pt, .inl (K 0, 12, .inl Pt)), (rr, .inl (K 0, 3, .inl Rq)), (vl, .inl (K 0, 3, .inl Vl11)), (bo, .inl (K 3, 3, .inl Bo11)), (kp, .inl (K 0, 600, .inl Kp11))]) rfl dMo_run_87 ?_
            refine xz_aload_n hC 2 rfl rfl dMo_run_90 ?_
            refine xz_get hC 0 rfl rfl 16 (by decide) inMo tq445 rfl rfl dMo_run_91 ?_
            exact xz_ireturn hC (by decide) (by decide) (Or.inr ⟨hpa0, hrow, 2, Rq, Vl11, Bo11, Kp11, hm.symm, rfl, rfl, hk11⟩) dMo_run_94
        · skip
          exfalso; omega
    · skip
      refine xz_wse (ws' := [(mo, .inr (6, [.int (nI mb), .ref wo, .int (nI mw), .ref le, .ref lt, .int (nI n), .ref pe, .int (nI o), .ref st, .int (nI mg), .int (nI pa), .ref pt, .int (nI 3), .ref rr, .ref vl, .ref bo, .int (nI an), .ref kp, .int (nI lv)])), (pe, .inl (K 0, 60, .inl Pe)), (pt, .inl (K 0, 12, .inl Pt)), (rr, .inl (K 0, 3, .inl Rq)), (vl, .inl (K 0, 3, .inl Vl)), (bo, .inl (K 3, 3, .inl Bo)), (kp, .inl (K 0, 600, .inl Kp))]) (by rw [hm]) ?_
      rw [hm] at hrr hr4 hd3
      refine xz_aload_n hC 0 rfl rfl dMo_run_12 ?_
      refine xz_iconst hC (v := nI 0) (by decide +kernel) dMo_run_13 ?_
      refine xz_put hC 0 rfl rfl 18 (by decide) inMo tq447 rfl tyMo tyMo_ok nmMo rfl rfl rfl (Nat.le_of_ble_eq_true rfl) (ws' := [(mo, .inr (6, [.int (nI mb), .ref wo, .int (nI mw), .ref le, .ref lt, .int (nI n), .ref pe, .int (nI o), .ref st, .int (nI mg), .int (nI pa), .ref pt, .int (nI 3), .ref rr, .ref vl, .ref bo, .int (nI an), .ref kp, .int (nI 0)])), (pe, .inl (K 0, 60, .inl Pe)), (pt, .inl (K 0, 12, .inl Pt)), (rr, .inl (K 0, 3, .inl Rq)), (vl, .inl (K 0, 3, .inl Vl)), (bo, .inl (K 3, 3, .inl Bo)), (kp, .inl (K 0, 600, .inl Kp))]) rfl dMo_run_14 ?_
      refine xz_iconst hC (v := nI 1) (by decide +kernel) dMo_run_17 ?_
      refine xz_istore hC (lc' := [(4, .int (nI 1)), (0, .ref mo), (1, .int x), (2, .int y), (3, .int z)]) (by decide) rfl dMo_run_18 ?_
      refine xz_iload hC 0 rfl dMo_run_20 ?_
      refine xz_aload_n hC 1 rfl rfl dMo_run_22 ?_
      refine xz_get hC 0 rfl rfl 12 (by decide) inMo tq441 rfl rfl dMo_run_23 ?_
      refine xz_icmp_ge hC (tgt := 54) (nI_toInt (by omega)) (nI_toInt (by omega)) (by decide) dMo_run_26 (fun h13 => ?_) (fun h13 => ?_)
      · skip
        exfalso; omega
      · skip
        refine xz_aload_n hC 1 rfl rfl dMo_run_29 ?_
        refine xz_iload hC 0 rfl dMo_run_30 ?_
        refine xz_callV hC (mMo_through l D K mo wo le lt pe st pt rr vl bo kp mb mw n o mg pa 3 an 0 Pe Pt Rq Vl Bo Kp pp q (x3 (xq_ev x) (xq_ev y) (xq_ev z)) 1 hn hp hpa hq hmw (by decide) (xs_rw_le hr4 (by omega)) (fun j hj => hrr j (by omega))) kMo_through tq7 tq588 tq590 tp24 0 6 rfl rfl rfl (host := "") hMo_through (by decide) [0, 1, 2, 3, 4, 5, 6] [] (by decide) rfl (wr := []) rfl (by decide) (by decide) (As := [.int (nI 1)]) (rest := []) rfl rfl (Nat.le_of_ble_eq_true rfl) (by decide) dMo_run_32 (fun v w hq => ?_)
        obtain ⟨Vl14, Bo14, Kp14, rfl, rfl, hk14⟩ := hq
        refine xz_ste (st' := [.int (nI ((xr_F (xq_live q pa (x3 (xq_ev x) (xq_ev y) (xq_ev z)) (xo_mem pp n)) mw 1).length))]) rfl ?_
        refine xz_wss (ws' := [(mo, .inr (6, [.int (nI mb), .ref wo, .int (nI mw), .ref le, .ref lt, .int (nI n), .ref pe, .int (nI o), .ref st, .int (nI mg), .int (nI pa), .ref pt, .int (nI 3), .ref rr, .ref vl, .ref bo, .int (nI an), .ref kp, .int (nI 0)])), (pe, .inl (K 0, 60, .inl Pe)), (pt, .inl (K 0, 12, .inl Pt)), (rr, .inl (K 0, 3, .inl Rq)), (vl, .inl (K 0, 3, .inl Vl14)), (bo, .inl (K 3, 3, .inl Bo14)), (kp, .inl (K 0, 600, .inl Kp14))]) [0, 1, 2, 3, 4, 5, 6] (by decide) rfl rfl ?_
        refine xz_istore hC (lc' := [(5, .int (nI ((xr_F (xq_live q pa (x3 (xq_ev x) (xq_ev y) (xq_ev z)) (xo_mem pp n)) mw 1).length))), (4, .int (nI 1)), (0, .ref mo), (1, .int x), (2, .int y), (3, .int z)]) (by decide) rfl dMo_run_35 ?_
        refine xz_aload_n hC 2 rfl rfl dMo_run_37 ?_
        refine xz_aload_n hC 2 rfl rfl dMo_run_38 ?_
        refine xz_get hC 0 rfl rfl 18 (by decide) inMo tq447 rfl rfl dMo_run_39 ?_
        refine xz_iload hC 0 rfl dMo_run_42 ?_
        refine xz_iadd hC (z := nI (0 + ((xr_F (xq_live q pa (x3 (xq_ev x) (xq_ev y) (xq_ev z)) (xo_mem pp n)) mw 1).length))) (nI_add _ _) dMo_run_44 ?_
        refine xz_put hC 0 rfl rfl 18 (by decide) inMo tq447 rfl tyMo tyMo_ok nmMo rfl rfl rfl (Nat.le_of_ble_eq_true rfl) (ws' := [(mo, .inr (6, [.int (nI mb), .ref wo, .int (nI mw), .ref le, .ref lt, .int (nI n), .ref pe, .int (nI o), .ref st, .int (nI mg), .int (nI pa), .ref pt, .int (nI 3), .ref rr, .ref vl, .ref bo, .int (nI an), .ref kp, .int (nI (0 + ((xr_F (xq_live q pa (x3 (xq_ev x) (xq_ev y) (xq_ev z)) (xo_mem pp n)) mw 1).length)))])), (pe, .inl (K 0, 60, .inl Pe)), (pt, .inl (K 0, 12, .inl Pt)), (rr, .inl (K 0, 3, .inl Rq)), (vl, .inl (K 0, 3, .inl Vl14)), (bo, .inl (K 3, 3, .inl Bo14)), (kp, .inl (K 0, 600, .inl Kp14))]) rfl dMo_run_45 ?_
        refine xz_iinc hC 1 (lc' := [(4, .int (nI 2)), (5, .int (nI ((xr_F (xq_live q pa (x3 (xq_ev x) (xq_ev y) (xq_ev z)) (xo_mem pp n)) mw 1).length))), (0, .ref mo), (1, .int x), (2, .int y), (3, .int z)]) rfl (xn_inc _) (by decide) rfl dMo_run_48 ?_
        refine xz_goto hC (tgt := 20) (by decide) dMo_run_51 ?_
        refine xz_iload hC 0 rfl dMo_run_20 ?_
        refine xz_aload_n hC 2 rfl rfl dMo_run_22 ?_
        refine xz_get hC 0 rfl rfl 12 (by decide) inMo tq441 rfl rfl dMo_run_23 ?_
        refine xz_icmp_ge hC (tgt := 54) (nI_toInt (by omega)) (nI_toInt (by omega)) (by decide) dMo_run_26 (fun h15 => ?_) (fun h15 => ?_)
        · skip
          exfalso; omega
        · skip
          refine xz_aload_n hC 2 rfl rfl dMo_run_29 ?_
          refine xz_iload hC 0 rfl dMo_run_30 ?_
          refine xz_callV hC (mMo_through l D K mo wo le lt pe st pt rr vl bo kp mb mw n o mg pa 3 an (0 + ((xr_F (xq_live q pa (x3 (xq_ev x) (xq_ev y) (xq_ev z)) (xo_mem pp n)) mw 1).length)) Pe Pt Rq Vl14 Bo14 Kp14 pp q (x3 (xq_ev x) (xq_ev y) (xq_ev z)) 2 hn hp hpa hq hmw (by decide) (xs_rw_le hr4 (by omega)) (fun j hj => hrr j (by omega))) kMo_through tq7 tq588 tq590 tp24 0 6 rfl rfl rfl (host := "") hMo_through (by decide) [0, 1, 2, 3, 4, 5, 6] [] (by decide) rfl (wr := []) rfl (by decide) (by decide) (As := [.int (nI 2)]) (rest := []) rfl rfl (Nat.le_of_ble_eq_true rfl) (by decide) dMo_run_32 (fun v w hq => ?_)
          obtain ⟨Vl16, Bo16, Kp16, rfl, rfl, hk16⟩ := hq
          refine xz_ste (st' := [.int (nI ((xr_F (xq_live q pa (x3 (xq_ev x) (xq_ev y) (xq_ev z)) (xo_mem pp n)) mw 2).length))]) rfl ?_
          refine xz_wss (ws' := [(mo, .inr (6, [.int (nI mb), .ref wo, .int (nI mw), .ref le, .ref lt, .int (nI n), .ref pe, .int (nI o), .ref st, .int (nI mg), .int (nI pa), .ref pt, .int (nI 3), .ref rr, .ref vl, .ref bo, .int (nI an), .ref kp, .int (nI (0 + ((xr_F (xq_live q pa (x3 (xq_ev x) (xq_ev y) (xq_ev z)) (xo_mem pp n)) mw 1).length)))])), (pe, .inl (K 0, 60, .inl Pe)), (pt, .inl (K 0, 12, .inl Pt)), (rr, .inl (K 0, 3, .inl Rq)), (vl, .inl (K 0, 3, .inl Vl16)), (bo, .inl (K 3, 3, .inl Bo16)), (kp, .inl (K 0, 600, .inl Kp16))]) [0, 1, 2, 3, 4, 5, 6] (by decide) rfl rfl ?_
          refine xz_istore hC (lc' := [(5, .int (nI ((xr_F (xq_live q pa (x3 (xq_ev x) (xq_ev y) (xq_ev z)) (xo_mem pp n)) mw 2).length))), (4, .int (nI 2)), (0, .ref mo), (1, .int x), (2, .int y), (3, .int z)]) (by decide) rfl dMo_run_35 ?_
          refine xz_aload_n hC 2 rfl rfl dMo_run_37 ?_
          refine xz_aload_n hC 2 rfl rfl dMo_run_38 ?_
          refine xz_get hC 0 rfl rfl 18 (by decide) inMo tq447 rfl rfl dMo_run_39 ?_
          refine xz_iload hC 0 rfl dMo_run_42 ?_
          refine xz_iadd hC (z := nI (0 + ((xr_F (xq_live q pa (x3 (xq_ev x) (xq_ev y) (xq_ev z)) (xo_mem pp n)) mw 1).length) + ((xr_F (xq_live q pa (x3 (xq_ev x) (xq_ev y) (xq_ev z)) (xo_mem pp n)) mw 2).length))) (nI_add _ _) dMo_run_44 ?_
          refine xz_put hC 0 rfl rfl 18 (by decide) inMo tq447 rfl tyMo tyMo_ok nmMo rfl rfl rfl (Nat.le_of_ble_eq_true rfl) (ws' := [(mo, .inr (6, [.int (nI mb), .ref wo, .int (nI mw), .ref le, .ref lt, .int (nI n), .ref pe, .int (nI o), .ref st, .int (nI mg), .int (nI pa), .ref pt, .int (nI 3), .ref rr, .ref vl, .ref bo, .int (nI an), .ref kp, .int (nI (0 + ((xr_F (xq_live q pa (x3 (xq_ev x) (xq_ev y) (xq_ev z)) (xo_mem pp n)) mw 1).length) + ((xr_F (xq_live q pa (x3 (xq_ev x) (xq_ev y) (xq_ev z)) (xo_mem pp n)) mw 2).length)))])), (pe, .inl (K 0, 60, .inl Pe)), (pt, .inl (K 0, 12, .inl Pt)), (rr, .inl (K 0, 3, .inl Rq)), (vl, .inl (K 0, 3, .inl Vl16)), (bo, .inl (K 3, 3, .inl Bo16)), (kp, .inl (K 0, 600, .inl Kp16))]) rfl dMo_run_45 ?_
          refine xz_iinc hC 1 (lc' := [(4, .int (nI 3)), (5, .int (nI ((xr_F (xq_live q pa (x3 (xq_ev x) (xq_ev y) (xq_ev z)) (xo_mem pp n)) mw 2).length))), (0, .ref mo), (1, .int x), (2, .int y), (3, .int z)]) rfl (xn_inc _) (by decide) rfl dMo_run_48 ?_
          refine xz_goto hC (tgt := 20) (by decide) dMo_run_51 ?_
          refine xz_iload hC 0 rfl dMo_run_20 ?_
          refine xz_aload_n hC 2 rfl rfl dMo_run_22 ?_
          refine xz_get hC 0 rfl rfl 12 (by decide) inMo tq441 rfl rfl dMo_run_23 ?_
          refine xz_icmp_ge hC (tgt := 54) (nI_toInt (by omega)) (nI_toInt (by omega)) (by decide) dMo_run_26 (fun h17 => ?_) (fun h17 => ?_)
          · skip
            refine xz_aload_n hC 2 rfl rfl dMo_run_54 ?_
            refine xz_aload_n hC 2 rfl rfl dMo_run_55 ?_
            refine xz_aload_n hC 2 rfl rfl dMo_run_56 ?_
            refine xz_get hC 0 rfl rfl 12 (by decide) inMo tq441 rfl rfl dMo_run_57 ?_
            refine xz_callV hC (mMo_through l D K mo wo le lt pe st pt rr vl bo kp mb mw n o mg pa 3 an (0 + ((xr_F (xq_live q pa (x3 (xq_ev x) (xq_ev y) (xq_ev z)) (xo_mem pp n)) mw 1).length) + ((xr_F (xq_live q pa (x3 (xq_ev x) (xq_ev y) (xq_ev z)) (xo_mem pp n)) mw 2).length)) Pe Pt Rq Vl16 Bo16 Kp16 pp q (x3 (xq_ev x) (xq_ev y) (xq_ev z)) 3 hn hp hpa hq hmw (by decide) (xs_rw_le hr4 (by omega)) (fun j hj => hrr j (by omega))) kMo_through tq7 tq588 tq590 tp24 0 6 rfl rfl rfl (host := "") hMo_through (by decide) [0, 1, 2, 3, 4, 5, 6] [] (by decide) rfl (wr := []) rfl (by decide) (by decide) (As := [.int (nI 3)]) (rest := [.ref mo]) rfl rfl (Nat.le_of_ble_eq_true rfl) (by decide) dMo_run_60 (fun v w hq => ?_)
            obtain ⟨Vl18, Bo18, Kp18, rfl, rfl, hk18⟩ := hq
            refine xz_ste (st' := [.int (nI ((xr_F (xq_live q pa (x3 (xq_ev x) (xq_ev y) (xq_ev z)) (xo_mem pp n)) mw 3).length)), .ref mo]) rfl ?_
            refine xz_wss (ws' := [(mo, .inr (6, [.int (nI mb), .ref wo, .int (nI mw), .ref le, .ref lt, .int (nI n), .ref pe, .int (nI o), .ref st, .int (nI mg), .int (nI pa), .ref pt, .int (nI 3), .ref rr, .ref vl, .ref bo, .int (nI an), .ref kp, .int (nI (0 + ((xr_F (xq_live q pa (x3 (xq_ev x) (xq_ev y) (xq_ev z)) (xo_mem pp n)) mw 1).length) + ((xr_F (xq_live q pa (x3 (xq_ev x) (xq_ev y) (xq_ev z)) (xo_mem pp n)) mw 2).length)))])), (pe, .inl (K 0, 60, .inl Pe)), (pt, .inl (K 0, 12, .inl Pt)), (rr, .inl (K 0, 3, .inl Rq)), (vl, .inl (K 0, 3, .inl Vl18)), (bo, .inl (K 3, 3, .inl Bo18)), (kp, .inl (K 0, 600, .inl Kp18))]) [0, 1, 2, 3, 4, 5, 6] (by decide) rfl rfl ?_
            refine xz_put hC 0 rfl rfl 16 (by decide) inMo tq445 rfl tyMo tyMo_ok nmMo rfl rfl rfl (Nat.le_of_ble_eq_true rfl) (ws' := [(mo, .inr (6, [.int (nI mb), .ref wo, .int (nI mw), .ref le, .ref lt, .int (nI n), .ref pe, .int (nI o), .ref st, .int (nI mg), .int (nI pa), .ref pt, .int (nI 3), .ref rr, .ref vl, .ref bo, .int (nI ((xr_F (xq_live q pa (x3 (xq_ev x) (xq_ev y) (xq_ev z)) (xo_mem pp n)) mw 3).length)), .ref kp, .int (nI (0 + ((xr_F (xq_live q pa (x3 (xq_ev x) (xq_ev y) (xq_ev z)) (xo_mem pp n)) mw 1).length) + ((xr_F (xq_live q pa (x3 (xq_ev x) (xq_ev y) (xq_ev z)) (xo_mem pp n)) mw 2).length)))])), (pe, .inl (K 0, 60, .inl Pe)), (pt, .inl (K 0, 12, .inl Pt)), (rr, .inl (K 0, 3, .inl Rq)), (vl, .inl (K 0, 3, .inl Vl18)), (bo, .inl (K 3, 3, .inl Bo18)), (kp, .inl (K 0, 600, .inl Kp18))]) rfl dMo_run_63 ?_
            refine xz_aload_n hC 2 rfl rfl dMo_run_66 ?_
            refine xz_aload_n hC 2 rfl rfl dMo_run_67 ?_
            refine xz_get hC 0 rfl rfl 12 (by decide) inMo tq441 rfl rfl dMo_run_68 ?_
            refine xz_if_le hC (tgt := 86) (nI_toInt (by omega)) (by decide) dMo_run_71 (fun h19 => ?_) (fun h19 => ?_)
            · skip
              exfalso; omega
            · skip
              refine xz_aload_n hC 2 rfl rfl dMo_run_74 ?_
              refine xz_get hC 0 rfl rfl 18 (by decide) inMo tq447 rfl rfl dMo_run_75 ?_
              refine xz_aload_n hC 2 rfl rfl dMo_run_78 ?_
              refine xz_get hC 0 rfl rfl 16 (by decide) inMo tq445 rfl rfl dMo_run_79 ?_
              refine xz_iadd hC (z := nI (0 + ((xr_F (xq_live q pa (x3 (xq_ev x) (xq_ev y) (xq_ev z)) (xo_mem pp n)) mw 1).length) + ((xr_F (xq_live q pa (x3 (xq_ev x) (xq_ev y) (xq_ev z)) (xo_mem pp n)) mw 2).length) + ((xr_F (xq_live q pa (x3 (xq_ev x) (xq_ev y) (xq_ev z)) (xo_mem pp n)) mw 3).length))) (nI_add _ _) dMo_run_82 ?_
              refine xz_goto hC (tgt := 87) (by decide) dMo_run_83 ?_
              refine xz_put hC 0 rfl rfl 18 (by decide) inMo tq447 rfl tyMo tyMo_ok nmMo rfl rfl rfl (Nat.le_of_ble_eq_true rfl) (ws' := [(mo, .inr (6, [.int (nI mb), .ref wo, .int (nI mw), .ref le, .ref lt, .int (nI n), .ref pe, .int (nI o), .ref st, .int (nI mg), .int (nI pa), .ref pt, .int (nI 3), .ref rr, .ref vl, .ref bo, .int (nI ((xr_F (xq_live q pa (x3 (xq_ev x) (xq_ev y) (xq_ev z)) (xo_mem pp n)) mw 3).length)), .ref kp, .int (nI (0 + ((xr_F (xq_live q pa (x3 (xq_ev x) (xq_ev y) (xq_ev z)) (xo_mem pp n)) mw 1).length) + ((xr_F (xq_live q pa (x3 (xq_ev x) (xq_ev y) (xq_ev z)) (xo_mem pp n)) mw 2).length) + ((xr_F (xq_live q pa (x3 (xq_ev x) (xq_ev y) (xq_ev z)) (xo_mem pp n)) mw 3).length)))])), (pe, .inl (K 0, 60, .inl Pe)), (pt, .inl (K 0, 12, .inl Pt)), (rr, .inl (K 0, 3, .inl Rq)), (vl, .inl (K 0, 3, .inl Vl18)), (bo, .inl (K 3, 3, .inl Bo18)), (kp, .inl (K 0, 600, .inl Kp18))]) rfl dMo_run_87 ?_
              refine xz_aload_n hC 2 rfl rfl dMo_run_90 ?_
              refine xz_get hC 0 rfl rfl 16 (by decide) inMo tq445 rfl rfl dMo_run_91 ?_
              exact xz_ireturn hC (by decide) (by decide) (Or.inr ⟨hpa0, hrow, 3, Rq, Vl18, Bo18, Kp18, hm.symm, rfl, rfl, hk18⟩) dMo_run_94
          · skip
            exfalso; omega
  · skip
    have hbf : ¬ (0 < pa ∧ xq_aw (xq_aw (xq_aw (xq_vb q (3 * pa)) (xq_ev x)) (xq_ev y)) (xq_ev z) = 0) := fun k => absurd (hb.mpr k) (by rw [h1]; decide)
    refine xz_iconst hC (v := (-1)) (by decide +kernel) dMo_run_10 ?_
    exact xz_ireturn hC (by decide) (by decide) (Or.inl ⟨hbf, rfl, Rq, rfl⟩) dMo_run_11
