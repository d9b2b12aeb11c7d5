def iv_R13 (K : Nat → ClassId) (pw : Nat) (ln : Nat) (os : Nat) (ks : Nat) (oa : Nat → Nat) (ka : Nat → Nat) (wo : Nat) (le : Nat) (lt : Nat) (st : Nat) (n : Nat) (m : Nat) (Pw : Nat → Int64) (Lw : Nat → Int32) (f : Nat → Nat → Int32) (e : Nat → Int32) (Wo : Nat → Int32) (Le : Nat → Int32) (Lt : Nat → Int32) (St : Nat → Int32) : va_W := [(pw, .inl (K 1, 24, .inr (.inl Pw))), (ln, .inl (K 0, 24, .inl Lw)), (oa 1, .inr (1, [.int (nI 0), .int (nI 2), .int (nI 1), .ref (ka 1), .int (nI n)])), (ka 1, .inl (K 0, 60, .inl (f 1))), (oa 2, .inr (1, [.int (nI 1), .int (nI 0), .int (nI 2), .ref (ka 2), .int (nI n)])), (ka 2, .inl (K 0, 60, .inl (f 2))), (oa 3, .inr (1, [.int (nI 1), .int (nI 2), .int (nI 0), .ref (ka 3), .int (nI n)])), (ka 3, .inl (K 0, 60, .inl (f 3))), (oa 4, .inr (1, [.int (nI 2), .int (nI 0), .int (nI 1), .ref (ka 4), .int (nI n)])), (ka 4, .inl (K 0, 60, .inl (f 4))), (oa 5, .inr (1, [.int (nI 2), .int (nI 1), .int (nI 0), .ref (ka 5), .int (nI n)])), (ka 5, .inl (K 0, 60, .inl (f 5))), (os, .inr (1, [.int (nI 0), .int (nI 1), .int (nI 2), .ref ks, .int (nI m)])), (ks, .inl (K 0, 60, .inl e)), (wo, .inl (K 2, 6, .inl Wo)), (le, .inl (K 0, 24, .inl Le)), (lt, .inl (K 2, 144, .inl Lt)), (st, .inl (K 0, 60, .inl St))]
set_option maxRecDepth 100000 in
theorem iv_p13 (K : Nat → ClassId) (xo : Nat) (mo : Nat) (di : Nat) (pw : Nat) (ln : Nat) (ts : Nat) (pr : Nat) (os : Nat) (ks : Nat) (qu : Nat) (nu : Nat) (se : Nat) (rw : Nat) (pl : Nat) (ho : Nat) (ag : Nat) (bi : Nat) (an : Nat) (fa : Nat → Option Nat) (oa : Nat → Nat) (ka : Nat → Nat) (wo : Nat) (le : Nat) (lt : Nat) (pe : Nat) (st : Nat) (pt : Nat) (rr : Nat) (vl : Nat) (bo : Nat) (kp : Nat) (dn : Nat) (bb : Nat) (n : Nat) (m : Nat) (pd : Nat) (mg : Nat) (qc : Nat) (rl : Nat) (wn : Nat) (pn : Nat) (fd : Nat) (lv : Nat) (ma : Nat) (bg : Int64) (Pw : Nat → Int64) (Lw : Nat → Int32) (f : Nat → Nat → Int32) (e : Nat → Int32) (F : Nat → Int32) (Rw : Nat → Int32) (Pl : Nat → Int32) (Ho : Nat → Int64) (Ag : Nat → Int64) (Bi : Nat → Int32) (An : Nat → Int32) (Wo : Nat → Int32) (Le : Nat → Int32) (Lt : Nat → Int32) (Pe : Nat → Int32) (St : Nat → Int32) (Pt : Nat → Int32) (Rr : Nat → Int32) (Vl : Nat → Int32) (Bo : Nat → Int32) (Kp : Nat → Int32) : (iv_W K xo mo di pw ln ts pr os ks qu nu se rw pl ho ag bi an fa oa ka wo le lt pe st pt rr vl bo kp dn bb n m pd mg qc rl wn pn fd lv ma bg Pw Lw f e F Rw Pl Ho Ag Bi An Wo Le Lt Pe St Pt Rr Vl Bo Kp).Perm ([(xo, .inr (5, [.ref di, .ref ts, .ref qu, .ref se])), (di, .inr (0, [.ref pw, .ref ln, .int (nI dn), .long bg, .int (nI bb)])), (ts, .inr (4, [.ref pr, .ref os, .int (nI pd), .int (nI mg)])), (pr, .inl (K 4, 6, .inr (.inr (.inr (.inr fa))))), (oa 0, .inr (1, [.int (nI 0), .int (nI 1), .int (nI 2), .ref (ka 0), .int (nI n)])), (ka 0, .inl (K 0, 60, .inl (f 0))), (qu, .inr (2, [.ref nu, .int (nI qc)])), (nu, .inl (K 0, 12, .inl F)), (se, .inr (3, [.ref rw, .int (nI rl), .int (nI wn), .int (nI pn), .ref pl, .ref ho, .ref ag, .ref bi, .ref an, .int (nI fd), .int (nI lv)])), (rw, .inl (K 0, 3, .inl Rw)), (pl, .inl (K 0, 12, .inl Pl)), (ho, .inl (K 1, 72, .inr (.inl Ho))), (ag, .inl (K 1, 16, .inr (.inl Ag))), (bi, .inl (K 0, 3, .inl Bi)), (an, .inl (K 0, 600, .inl An))] ++ ([(mo, .inr (6, [.int (nI bb), .ref wo, .int (nI dn), .ref le, .ref lt, .int (nI n), .ref pe, .int (nI m), .ref st, .int (nI mg), .int (nI qc), .ref pt, .int (nI ma), .ref rr, .ref vl, .ref bo, .int (nI fd), .ref kp, .int (nI lv)])), (pe, .inl (K 0, 60, .inl Pe)), (pt, .inl (K 0, 12, .inl Pt)), (rr, .inl (K 0, 3, .inl Rr)), (vl, .inl (K 0, 3, .inl Vl)), (bo, .inl (K 3, 3, .inl Bo)), (kp, .inl (K 0, 600, .inl Kp))] ++ iv_R13 K pw ln os ks oa ka wo le lt st n m Pw Lw f e Wo Le Lt St)) := fr_pn 40 _ [0, 1, 4, 5, 6, 7, 20, 21, 22, 23, 24, 25, 26, 27, 28, 29, 33, 35, 36, 37, 38, 39, 2, 3, 8, 9, 10, 11, 12, 13, 14, 15, 16, 17, 18, 19, 30, 31, 32, 34] rfl (by decide +kernel) rfl
set_option maxHeartbeats 1000000 in
set_option maxRecDepth 100000 in
theorem xl_c13 {Γ : xz_G} {l : Launch} {D : va_G} {K : Nat → ClassId} {nm : String} {Qp : xz_P} {b L : Nat} {xs : Nat → Int32} (hC : xz_C Γ l D (tz K) code 4 "SixfoldTriplesLaw" room_1 (some .boolean) nm Qp) (hX : xl_S Γ b L xs) (hL : L ≤ 2048) (i xo mo : Nat) (hi : i + 4 ≤ L) {ws : va_W} (hI : iv_J K xo mo ws) (back : ∀ ws', iv_J K xo mo ws' → xz_X Γ 40 2187 ws' 510 [(3, .int (nI i)), (2, .ref mo), (1, .ref xo), (0, .ref b)] []) : xz_X Γ 40 2187 ws 421 [(3, .int (nI i)), (2, .ref mo), (1, .ref xo), (0, .ref b)] [] := by
  obtain ⟨di, pw, ln, ts, pr, os, ks, qu, nu, se, rw, pl, ho, ag, bi, an, fa, oa, ka, wo, le, lt, pe, st, pt, rr, vl, bo, kp, dn, bb, n, m, pd, mg, qc, rl, wn, pn, fd, lv, ma, bg, Pw, Lw, f, e, F, Rw, Pl, Ho, Ag, Bi, An, Wo, Le, Lt, Pe, St, Pt, Rr, Vl, Bo, Kp, wl, wc, bw, g, h, pp, s0, q, hpm, rfl, hfa, hD, hS, hQ, hA⟩ := hI
  refine xz_perm (hpm.trans (iv_p13 K xo mo di pw ln ts pr os ks qu nu se rw pl ho ag bi an fa oa ka wo le lt pe st pt rr vl bo kp dn bb n m pd mg qc rl wn pn fd lv ma (lN (xw_pk bw bb)) Pw Lw f e F Rw Pl Ho Ag Bi An Wo Le Lt Pe St Pt Rr Vl Bo Kp)) ?_
  clear hpm
  obtain ⟨hn, hm, hO, hSs, hp, hpn, hs, hsn, hpd, hp12, h24⟩ := id hS
  have hmem : xo_mem (g 0) n = xo_mem pp n := iv_P hO.1 (fun i hi => (hp i hi).2)
  have hg24 : ∀ k, k < n → ∀ j, j < 3 → xk_pt (g 0 k) j < 24 := iv_g24 hmem h24 hD.1
  refine xz_aload_n hC 2 rfl rfl dLa_law_421 ?_
  refine xz_aload_n hC 3 rfl rfl dLa_law_422 ?_
  refine xz_iload_n hC 0 rfl rfl dLa_law_423 ?_
  refine xz_iconst hC (v := nI 1) (by decide +kernel) dLa_law_424 ?_
  refine xz_iadd hC (z := nI (i + 1)) (nI_add _ _) dLa_law_425 ?_
  refine xl_sld hC hX (by omega) (by omega) dLa_law_426 ?_
  refine xz_aload_n hC 3 rfl rfl dLa_law_427 ?_
  refine xz_iload_n hC 0 rfl rfl dLa_law_428 ?_
  refine xz_iconst hC (v := nI 2) (by decide +kernel) dLa_law_429 ?_
  refine xz_iadd hC (z := nI (i + 2)) (nI_add _ _) dLa_law_430 ?_
  refine xl_sld hC hX (by omega) (by omega) dLa_law_431 ?_
  refine xz_aload_n hC 3 rfl rfl dLa_law_432 ?_
  refine xz_iload_n hC 0 rfl rfl dLa_law_433 ?_
  refine xz_iconst hC (v := nI 3) (by decide +kernel) dLa_law_434 ?_
  refine xz_iadd hC (z := nI (i + 3)) (nI_add _ _) dLa_law_435 ?_
  refine xl_sld hC hX (by omega) (by omega) dLa_law_436 ?_
  refine xz_callVF hC (mSx_run l D K xo di qu pw ln dn (xw_pk bw bb) bb nu qc F q ts pr os ks n pd mg m fa oa ka f e g h (xo_mem pp n) (xo_mem s0 m) se rw pl ho ag bi an rl wn pn fd lv Rw Pl Ho Ag Bi An (xs (i + 1)) (xs (i + 2)) (xs (i + 3)) hD.1 hQ.1 hQ.2.1 hfa hn hO.1 hg24) kSx_run tq1 tq329 tq330 tq331 5 rfl rfl rfl hSx_run (by decide) (As := [.int (xs (i + 1)), .int (xs (i + 2)), .int (xs (i + 3))]) (rest := []) rfl rfl (Nat.le_of_ble_eq_true rfl) (by decide) dLa_law_437 (fun v w hq => ?_)
  rcases hq with ⟨hc, rfl, rfl⟩ | ⟨hq0, hrow, Rw', Pl', Ho', Ag', Bi', An', fd', lv', rfl, rfl, hfd, hlv, hkp⟩
  · skip
    refine xz_ste (st' := [.int (-1)]) rfl ?_
    refine xz_swap ?_
    refine xz_aload_n hC 1 rfl rfl dLa_law_440 ?_
    refine xz_aload_n hC 3 rfl rfl dLa_law_441 ?_
    refine xz_iload_n hC 0 rfl rfl dLa_law_442 ?_
    refine xz_iconst hC (v := nI 1) (by decide +kernel) dLa_law_443 ?_
    refine xz_iadd hC (z := nI (i + 1)) (nI_add _ _) dLa_law_444 ?_
    refine xl_sld hC hX (by omega) (by omega) dLa_law_445 ?_
    refine xz_aload_n hC 3 rfl rfl dLa_law_446 ?_
    refine xz_iload_n hC 0 rfl rfl dLa_law_447 ?_
    refine xz_iconst hC (v := nI 2) (by decide +kernel) dLa_law_448 ?_
    refine xz_iadd hC (z := nI (i + 2)) (nI_add _ _) dLa_law_449 ?_
    refine xl_sld hC hX (by omega) (by omega) dLa_law_450 ?_
    refine xz_aload_n hC 3 rfl rfl dLa_law_451 ?_
    refine xz_iload_n hC 0 rfl rfl dLa_law_452 ?_
    refine xz_iconst hC (v := nI 3) (by decide +kernel) dLa_law_453 ?_
    refine xz_iadd hC (z := nI (i + 3)) (nI_add _ _) dLa_law_454 ?_
    refine xl_sld hC hX (by omega) (by omega) dLa_law_455 ?_
    refine xz_callVF hC (mMo_run l D K mo wo le lt pe st pt rr vl bo kp bb dn n m mg qc ma fd lv Pe Pt Rr Vl Bo Kp pp q (xs (i + 1)) (xs (i + 2)) (xs (i + 3)) hn hp hQ.1 hQ.2.2 hD.1) kMo_run tq7 tq576 tq577 tq578 6 rfl rfl rfl hMo_run (by decide) (As := [.int (xs (i + 1)), .int (xs (i + 2)), .int (xs (i + 3))]) (rest := [.int (-1)]) rfl rfl (Nat.le_of_ble_eq_true rfl) (by decide) dLa_law_456 (fun v w hq => ?_)
    rcases hq with ⟨gc, rfl, Rq, rfl⟩ | ⟨g0, grow, d, Rq, Vl', Bo', Kp', rfl, rfl, rfl, hkp2⟩
    · skip
      refine xz_ste (st' := [.int (-1), .int (-1)]) rfl ?_
      refine xz_icmp_eq hC (tgt := 510) rfl rfl (by decide) dLa_law_459 (fun h1 => ?_) (fun h1 => ?_)
      · skip
        exact back _ ⟨di, pw, ln, ts, pr, os, ks, qu, nu, se, rw, pl, ho, ag, bi, an, fa, oa, ka, wo, le, lt, pe, st, pt, rr, vl, bo, kp, dn, bb, n, m, pd, mg, qc, rl, wn, pn, fd, lv, xq_pc (xq_vb q (3 * qc)), lN (xw_pk bw bb), Pw, Lw, f, e, F, Rw, Pl, Ho, Ag, Bi, An, Wo, Le, Lt, Pe, St, Pt, Rq, Vl, Bo, Kp, wl, wc, bw, g, h, pp, s0, q, (fr_sw _ _ _).trans (iv_p13 K xo mo di pw ln ts pr os ks qu nu se rw pl ho ag bi an fa oa ka wo le lt pe st pt rr vl bo kp dn bb n m pd mg qc rl wn pn fd lv (xq_pc (xq_vb q (3 * qc))) (lN (xw_pk bw bb)) Pw Lw f e F Rw Pl Ho Ag Bi An Wo Le Lt Pe St Pt Rq Vl Bo Kp).symm, rfl, hfa, hD, hS, hQ, hA⟩
      · skip
        exact absurd rfl h1
    · skip
      rcases hc with z | z
      · exfalso; omega
      · exact absurd grow z
  · skip
    rw [hmem] at hfd hlv hkp
    refine xz_ste (st' := [.int (nI fd')]) rfl ?_
    refine xz_swap ?_
    refine xz_aload_n hC 1 rfl rfl dLa_law_440 ?_
    refine xz_aload_n hC 3 rfl rfl dLa_law_441 ?_
    refine xz_iload_n hC 0 rfl rfl dLa_law_442 ?_
    refine xz_iconst hC (v := nI 1) (by decide +kernel) dLa_law_443 ?_
    refine xz_iadd hC (z := nI (i + 1)) (nI_add _ _) dLa_law_444 ?_
    refine xl_sld hC hX (by omega) (by omega) dLa_law_445 ?_
    refine xz_aload_n hC 3 rfl rfl dLa_law_446 ?_
    refine xz_iload_n hC 0 rfl rfl dLa_law_447 ?_
    refine xz_iconst hC (v := nI 2) (by decide +kernel) dLa_law_448 ?_
    refine xz_iadd hC (z := nI (i + 2)) (nI_add _ _) dLa_law_449 ?_
    refine xl_sld hC hX (by omega) (by omega) dLa_law_450 ?_
    refine xz_aload_n hC 3 rfl rfl dLa_law_451 ?_
    refine xz_iload_n hC 0 rfl rfl dLa_law_452 ?_
    refine xz_iconst hC (v := nI 3) (by decide +kernel) dLa_law_453 ?_
    refine xz_iadd hC (z := nI (i + 3)) (nI_add _ _) dLa_law_454 ?_
    refine xl_sld hC hX (by omega) (by omega) dLa_law_455 ?_
    refine xz_callVF hC (mMo_run l D K mo wo le lt pe st pt rr vl bo kp bb dn n m mg qc ma fd lv Pe Pt Rr Vl Bo Kp pp q (xs (i + 1)) (xs (i + 2)) (xs (i + 3)) hn hp hQ.1 hQ.2.2 hD.1) kMo_run tq7 tq576 tq577 tq578 6 rfl rfl rfl hMo_run (by decide) (As := [.int (xs (i + 1)), .int (xs (i + 2)), .int (xs (i + 3))]) (rest := [.int (nI fd')]) rfl rfl (Nat.le_of_ble_eq_true rfl) (by decide) dLa_law_456 (fun v w hq => ?_)
    rcases hq with ⟨gc, rfl, Rq, rfl⟩ | ⟨g0, grow, d, Rq, Vl', Bo', Kp', rfl, rfl, rfl, hkp2⟩
    · skip
      exact absurd ⟨hq0, hrow⟩ gc
    · skip
      obtain ⟨-, -, -, hr4⟩ := xq_row_ok (n := 3 * qc) (fun i hi => (hQ.2.1 i hi).2) hrow
      have hd3 := hr4.1
      subst hfd
      subst hlv
      refine xz_ste (st' := [.int (nI ((xr_F (xq_live q qc (x3 (xq_ev (xs (i + 1))) (xq_ev (xs (i + 2))) (xq_ev (xs (i + 3)))) (xo_mem pp n)) dn (xq_pc (xq_vb q (3 * qc)))).length)), .int (nI ((xr_F (xq_live q qc (x3 (xq_ev (xs (i + 1))) (xq_ev (xs (i + 2))) (xq_ev (xs (i + 3)))) (xo_mem pp n)) dn (xq_pc (xq_vb q (3 * qc)))).length))]) rfl ?_
      refine xz_icmp_eq hC (tgt := 510) rfl rfl (by decide) dLa_law_459 (fun h2 => ?_) (fun h2 => ?_)
      · skip
        exact back _ ⟨di, pw, ln, ts, pr, os, ks, qu, nu, se, rw, pl, ho, ag, bi, an, fa, oa, ka, wo, le, lt, pe, st, pt, rr, vl, bo, kp, dn, bb, n, m, pd, mg, qc, xq_pc (xq_vb q (3 * qc)), dn, qc, (xr_F (xq_live q qc (x3 (xq_ev (xs (i + 1))) (xq_ev (xs (i + 2))) (xq_ev (xs (i + 3)))) (xo_mem pp n)) dn (xq_pc (xq_vb q (3 * qc)))).length, xr_sm (fun j => (xr_F (xq_live q qc (x3 (xq_ev (xs (i + 1))) (xq_ev (xs (i + 2))) (xq_ev (xs (i + 3)))) (xo_mem pp n)) dn (1 + j)).length) (xq_pc (xq_vb q (3 * qc))), xq_pc (xq_vb q (3 * qc)), lN (xw_pk bw bb), Pw, Lw, f, e, F, Rw', Pl', Ho', Ag', Bi', An', Wo, Le, Lt, Pe, St, Pt, Rq, Vl', Bo', Kp', wl, wc, bw, g, h, pp, s0, q, (fr_sw _ _ _).trans (iv_p13 K xo mo di pw ln ts pr os ks qu nu se rw pl ho ag bi an fa oa ka wo le lt pe st pt rr vl bo kp dn bb n m pd mg qc (xq_pc (xq_vb q (3 * qc))) dn qc ((xr_F (xq_live q qc (x3 (xq_ev (xs (i + 1))) (xq_ev (xs (i + 2))) (xq_ev (xs (i + 3)))) (xo_mem pp n)) dn (xq_pc (xq_vb q (3 * qc)))).length) (xr_sm (fun j => (xr_F (xq_live q qc (x3 (xq_ev (xs (i + 1))) (xq_ev (xs (i + 2))) (xq_ev (xs (i + 3)))) (xo_mem pp n)) dn (1 + j)).length) (xq_pc (xq_vb q (3 * qc)))) (xq_pc (xq_vb q (3 * qc))) (lN (xw_pk bw bb)) Pw Lw f e F Rw' Pl' Ho' Ag' Bi' An' Wo Le Lt Pe St Pt Rq Vl' Bo' Kp').symm, rfl, hfa, hD, hS, hQ, ⟨iv_F_len hD.1 hd3, iv_kept hkp hkp2⟩⟩
      · skip
        exact absurd rfl h2
