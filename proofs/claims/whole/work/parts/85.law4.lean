def iv_R6 (K : Nat → ClassId) (di : Nat) (pw : Nat) (ln : Nat) (qu : Nat) (nu : Nat) (se : Nat) (rw : Nat) (pl : Nat) (ho : Nat) (ag : Nat) (bi : Nat) (an : Nat) (oa : Nat → Nat) (ka : Nat → Nat) (wo : Nat) (le : Nat) (lt : Nat) (pt : Nat) (rr : Nat) (vl : Nat) (bo : Nat) (kp : Nat) (dn : Nat) (bb : Nat) (n : Nat) (qc : Nat) (rl : Nat) (wn : Nat) (pn : Nat) (fd : Nat) (lv : Nat) (bg : Int64) (Pw : Nat → Int64) (Lw : Nat → Int32) (f : Nat → Nat → Int32) (F : Nat → Int32) (Rw : Nat → Int32) (Pl : Nat → Int32) (Ho : Nat → Int64) (Ag : Nat → Int64) (Bi : Nat → Int32) (An : Nat → Int32) (Wo : Nat → Int32) (Le : Nat → Int32) (Lt : Nat → Int32) (Pt : Nat → Int32) (Rr : Nat → Int32) (Vl : Nat → Int32) (Bo : Nat → Int32) (Kp : Nat → Int32) : va_W := [(di, .inr (0, [.ref pw, .ref ln, .int (nI dn), .long bg, .int (nI bb)])), (pw, .inl (K 1, 24, .inr (.inl Pw))), (ln, .inl (K 0, 24, .inl Lw)), (oa 1, .inr (1, [.int (nI 0), .int (nI 2), .int (nI 1), .ref (ka 1), .int (nI n)])), (ka 1, .inl (K 0, 60, .inl (f 1))), (oa 2, .inr (1, [.int (nI 1), .int (nI 0), .int (nI 2), .ref (ka 2), .int (nI n)])), (ka 2, .inl (K 0, 60, .inl (f 2))), (oa 3, .inr (1, [.int (nI 1), .int (nI 2), .int (nI 0), .ref (ka 3), .int (nI n)])), (ka 3, .inl (K 0, 60, .inl (f 3))), (oa 4, .inr (1, [.int (nI 2), .int (nI 0), .int (nI 1), .ref (ka 4), .int (nI n)])), (ka 4, .inl (K 0, 60, .inl (f 4))), (oa 5, .inr (1, [.int (nI 2), .int (nI 1), .int (nI 0), .ref (ka 5), .int (nI n)])), (ka 5, .inl (K 0, 60, .inl (f 5))), (qu, .inr (2, [.ref nu, .int (nI qc)])), (nu, .inl (K 0, 12, .inl F)), (se, .inr (3, [.ref rw, .int (nI rl), .int (nI wn), .int (nI pn), .ref pl, .ref ho, .ref ag, .ref bi, .ref an, .int (nI fd), .int (nI lv)])), (rw, .inl (K 0, 3, .inl Rw)), (pl, .inl (K 0, 12, .inl Pl)), (ho, .inl (K 1, 72, .inr (.inl Ho))), (ag, .inl (K 1, 16, .inr (.inl Ag))), (bi, .inl (K 0, 3, .inl Bi)), (an, .inl (K 0, 600, .inl An)), (wo, .inl (K 2, 6, .inl Wo)), (le, .inl (K 0, 24, .inl Le)), (lt, .inl (K 2, 144, .inl Lt)), (pt, .inl (K 0, 12, .inl Pt)), (rr, .inl (K 0, 3, .inl Rr)), (vl, .inl (K 0, 3, .inl Vl)), (bo, .inl (K 3, 3, .inl Bo)), (kp, .inl (K 0, 600, .inl Kp))]
set_option maxRecDepth 100000 in
theorem iv_p6 (K : Nat → ClassId) (xo : Nat) (mo : Nat) (di : Nat) (pw : Nat) (ln : Nat) (ts : Nat) (pr : Nat) (os : Nat) (ks : Nat) (qu : Nat) (nu : Nat) (se : Nat) (rw : Nat) (pl : Nat) (ho : Nat) (ag : Nat) (bi : Nat) (an : Nat) (fa : Nat → Option Nat) (oa : Nat → Nat) (ka : Nat → Nat) (wo : Nat) (le : Nat) (lt : Nat) (pe : Nat) (st : Nat) (pt : Nat) (rr : Nat) (vl : Nat) (bo : Nat) (kp : Nat) (dn : Nat) (bb : Nat) (n : Nat) (m : Nat) (pd : Nat) (mg : Nat) (qc : Nat) (rl : Nat) (wn : Nat) (pn : Nat) (fd : Nat) (lv : Nat) (ma : Nat) (bg : Int64) (Pw : Nat → Int64) (Lw : Nat → Int32) (f : Nat → Nat → Int32) (e : Nat → Int32) (F : Nat → Int32) (Rw : Nat → Int32) (Pl : Nat → Int32) (Ho : Nat → Int64) (Ag : Nat → Int64) (Bi : Nat → Int32) (An : Nat → Int32) (Wo : Nat → Int32) (Le : Nat → Int32) (Lt : Nat → Int32) (Pe : Nat → Int32) (St : Nat → Int32) (Pt : Nat → Int32) (Rr : Nat → Int32) (Vl : Nat → Int32) (Bo : Nat → Int32) (Kp : Nat → Int32) : (iv_W K xo mo di pw ln ts pr os ks qu nu se rw pl ho ag bi an fa oa ka wo le lt pe st pt rr vl bo kp dn bb n m pd mg qc rl wn pn fd lv ma bg Pw Lw f e F Rw Pl Ho Ag Bi An Wo Le Lt Pe St Pt Rr Vl Bo Kp).Perm ([(xo, .inr (5, [.ref di, .ref ts, .ref qu, .ref se])), (ts, .inr (4, [.ref pr, .ref os, .int (nI pd), .int (nI mg)])), (pr, .inl (K 4, 6, .inr (.inr (.inr (.inr fa))))), (oa 0, .inr (1, [.int (nI 0), .int (nI 1), .int (nI 2), .ref (ka 0), .int (nI n)])), (ka 0, .inl (K 0, 60, .inl (f 0))), (os, .inr (1, [.int (nI 0), .int (nI 1), .int (nI 2), .ref ks, .int (nI m)])), (ks, .inl (K 0, 60, .inl e))] ++ ([(mo, .inr (6, [.int (nI bb), .ref wo, .int (nI dn), .ref le, .ref lt, .int (nI n), .ref pe, .int (nI m), .ref st, .int (nI mg), .int (nI qc), .ref pt, .int (nI ma), .ref rr, .ref vl, .ref bo, .int (nI fd), .ref kp, .int (nI lv)])), (pe, .inl (K 0, 60, .inl Pe)), (st, .inl (K 0, 60, .inl St))] ++ iv_R6 K di pw ln qu nu se rw pl ho ag bi an oa ka wo le lt pt rr vl bo kp dn bb n qc rl wn pn fd lv bg Pw Lw f F Rw Pl Ho Ag Bi An Wo Le Lt Pt Rr Vl Bo Kp)) := fr_pn 40 _ [0, 4, 5, 6, 7, 18, 19, 29, 33, 34, 1, 2, 3, 8, 9, 10, 11, 12, 13, 14, 15, 16, 17, 20, 21, 22, 23, 24, 25, 26, 27, 28, 30, 31, 32, 35, 36, 37, 38, 39] rfl (by decide +kernel) rfl
set_option maxHeartbeats 1000000 in
set_option maxRecDepth 100000 in
theorem xl_c6 {Γ : xz_G} {l : Launch} {D : va_G} {K : Nat → ClassId} {nm : String} {Qp : xz_P} {b L : Nat} {xs : Nat → Int32} (hC : xz_C Γ l D (tz K) code 4 "SixfoldTriplesLaw" room_1 (some .boolean) nm Qp) (hX : xl_S Γ b L xs) (hL : L ≤ 2048) (i xo mo : Nat) (hi : i + 4 ≤ L) {ws : va_W} (hI : iv_J K xo mo ws) (back : ∀ ws', iv_J K xo mo ws' → xz_X Γ 40 2187 ws' 510 [(3, .int (nI i)), (2, .ref mo), (1, .ref xo), (0, .ref b)] []) : xz_X Γ 40 2187 ws 282 [(3, .int (nI i)), (2, .ref mo), (1, .ref xo), (0, .ref b)] [] := by
  obtain ⟨di, pw, ln, ts, pr, os, ks, qu, nu, se, rw, pl, ho, ag, bi, an, fa, oa, ka, wo, le, lt, pe, st, pt, rr, vl, bo, kp, dn, bb, n, m, pd, mg, qc, rl, wn, pn, fd, lv, ma, bg, Pw, Lw, f, e, F, Rw, Pl, Ho, Ag, Bi, An, Wo, Le, Lt, Pe, St, Pt, Rr, Vl, Bo, Kp, wl, wc, bw, g, h, pp, s0, q, hpm, rfl, hfa, hD, hS, hQ, hA⟩ := hI
  refine xz_perm (hpm.trans (iv_p6 K xo mo di pw ln ts pr os ks qu nu se rw pl ho ag bi an fa oa ka wo le lt pe st pt rr vl bo kp dn bb n m pd mg qc rl wn pn fd lv ma (lN (xw_pk bw bb)) Pw Lw f e F Rw Pl Ho Ag Bi An Wo Le Lt Pe St Pt Rr Vl Bo Kp)) ?_
  clear hpm
  obtain ⟨hn, hm, hO, hSs, hp, hpn, hs, hsn, hpd, hp12, h24⟩ := id hS
  refine xz_aload_n hC 2 rfl rfl dLa_law_282 ?_
  refine xz_callVF hC (mSx_merge l D K xo di ts qu se pw ln dn (xw_pk bw bb) bb pr os ks n pd mg m fa oa ka f e g h (xo_mem pp n) (xo_mem s0 m) hfa hn hO.1) kSx_merge tq1 tq272 tq273 tq274 5 rfl rfl rfl hSx_merge (by decide) (As := []) (rest := []) rfl rfl (Nat.le_of_ble_eq_true rfl) (by decide) dLa_law_283 (fun v w hq => ?_)
  obtain ⟨e', rfl, rfl, he⟩ := hq
  refine xz_ste (st' := [.int (nI pd)]) rfl ?_
  refine xz_swap ?_
  refine xz_aload_n hC 1 rfl rfl dLa_law_286 ?_
  refine xz_callVF hC (mMo_merge l D K mo wo le lt pe st pt rr vl bo kp bb dn n m mg qc ma fd lv Pe St pp s0 hn hm hp hs) kMo_merge tq7 tq521 tq522 tq523 6 rfl rfl rfl hMo_merge (by decide) (As := []) (rest := [.int (nI pd)]) rfl rfl (Nat.le_of_ble_eq_true rfl) (by decide) dLa_law_287 (fun v w hq => ?_)
  obtain ⟨St', rfl, rfl, hst⟩ := hq
  refine xz_ste (st' := [.int (nI (xo_pd pp n s0 m)), .int (nI pd)]) rfl ?_
  refine xz_icmp_eq hC (tgt := 510) rfl rfl (by decide) dLa_law_290 (fun h1 => ?_) (fun h1 => ?_)
  · skip
    exact back _ ⟨di, pw, ln, ts, pr, os, ks, qu, nu, se, rw, pl, ho, ag, bi, an, fa, oa, ka, wo, le, lt, pe, st, pt, rr, vl, bo, kp, dn, bb, n, n, 0, mg + 1, qc, rl, wn, pn, fd, lv, ma, lN (xw_pk bw bb), Pw, Lw, f, e', F, Rw, Pl, Ho, Ag, Bi, An, Wo, Le, Lt, Pe, St', Pt, Rr, Vl, Bo, Kp, wl, wc, bw, g, (g 0), pp, pp, q, (fr_sw _ _ _).trans (iv_p6 K xo mo di pw ln ts pr os ks qu nu se rw pl ho ag bi an fa oa ka wo le lt pe st pt rr vl bo kp dn bb n n 0 (mg + 1) qc rl wn pn fd lv ma (lN (xw_pk bw bb)) Pw Lw f e' F Rw Pl Ho Ag Bi An Wo Le Lt Pe St' Pt Rr Vl Bo Kp).symm, rfl, hfa, hD, iv_merge hS he hst, hQ, hA⟩
  · skip
    exact absurd (by rw [hpd]) h1
def iv_R14 (K : Nat → ClassId) (di : Nat) (pw : Nat) (ln : Nat) (ts : Nat) (pr : Nat) (os : Nat) (ks : Nat) (qu : Nat) (nu : Nat) (rw : Nat) (pl : Nat) (ho : Nat) (ag : Nat) (bi : Nat) (fa : Nat → Option Nat) (oa : Nat → Nat) (ka : Nat → Nat) (wo : Nat) (le : Nat) (lt : Nat) (pe : Nat) (st : Nat) (pt : Nat) (rr : Nat) (vl : Nat) (bo : Nat) (dn : Nat) (bb : Nat) (n : Nat) (m : Nat) (pd : Nat) (mg : Nat) (qc : Nat) (bg : Int64) (Pw : Nat → Int64) (Lw : Nat → Int32) (f : Nat → Nat → Int32) (e : Nat → Int32) (F : Nat → Int32) (Rw : Nat → Int32) (Pl : Nat → Int32) (Ho : Nat → Int64) (Ag : Nat → Int64) (Bi : Nat → Int32) (Wo : Nat → Int32) (Le : Nat → Int32) (Lt : Nat → Int32) (Pe : Nat → Int32) (St : Nat → Int32) (Pt : Nat → Int32) (Rr : Nat → Int32) (Vl : Nat → Int32) (Bo : Nat → Int32) : va_W := [(di, .inr (0, [.ref pw, .ref ln, .int (nI dn), .long bg, .int (nI bb)])), (pw, .inl (K 1, 24, .inr (.inl Pw))), (ln, .inl (K 0, 24, .inl Lw)), (ts, .inr (4, [.ref pr, .ref os, .int (nI pd), .int (nI mg)])), (pr, .inl (K 4, 6, .inr (.inr (.inr (.inr fa))))), (oa 0, .inr (1, [.int (nI 0), .int (nI 1), .int (nI 2), .ref (ka 0), .int (nI n)])), (ka 0, .inl (K 0, 60, .inl (f 0))), (oa 1, .inr (1, [.int (nI 0), .int (nI 2), .int (nI 1), .ref (ka 1), .int (nI n)])), (ka 1, .inl (K 0, 60, .inl (f 1))), (oa 2, .inr (1, [.int (nI 1), .int (nI 0), .int (nI 2), .ref (ka 2), .int (nI n)])), (ka 2, .inl (K 0, 60, .inl (f 2))), (oa 3, .inr (1, [.int (nI 1), .int (nI 2), .int (nI 0), .ref (ka 3), .int (nI n)])), (ka 3, .inl (K 0, 60, .inl (f 3))), (oa 4, .inr (1, [.int (nI 2), .int (nI 0), .int (nI 1), .ref (ka 4), .int (nI n)])), (ka 4, .inl (K 0, 60, .inl (f 4))), (oa 5, .inr (1, [.int (nI 2), .int (nI 1), .int (nI 0), .ref (ka 5), .int (nI n)])), (ka 5, .inl (K 0, 60, .inl (f 5))), (os, .inr (1, [.int (nI 0), .int (nI 1), .int (nI 2), .ref ks, .int (nI m)])), (ks, .inl (K 0, 60, .inl e)), (qu, .inr (2, [.ref nu, .int (nI qc)])), (nu, .inl (K 0, 12, .inl F)), (rw, .inl (K 0, 3, .inl Rw)), (pl, .inl (K 0, 12, .inl Pl)), (ho, .inl (K 1, 72, .inr (.inl Ho))), (ag, .inl (K 1, 16, .inr (.inl Ag))), (bi, .inl (K 0, 3, .inl Bi)), (wo, .inl (K 2, 6, .inl Wo)), (le, .inl (K 0, 24, .inl Le)), (lt, .inl (K 2, 144, .inl Lt)), (pe, .inl (K 0, 60, .inl Pe)), (st, .inl (K 0, 60, .inl St)), (pt, .inl (K 0, 12, .inl Pt)), (rr, .inl (K 0, 3, .inl Rr)), (vl, .inl (K 0, 3, .inl Vl)), (bo, .inl (K 3, 3, .inl Bo))]
set_option maxRecDepth 100000 in
theorem iv_p14 (K : Nat → ClassId) (xo : Nat) (mo : Nat) (di : Nat) (pw : Nat) (ln : Nat) (ts : Nat) (pr : Nat) (os : Nat) (ks : Nat) (qu : Nat) (nu : Nat) (se : Nat) (rw : Nat) (pl : Nat) (ho : Nat) (ag : Nat) (bi : Nat) (an : Nat) (fa : Nat → Option Nat) (oa : Nat → Nat) (ka : Nat → Nat) (wo : Nat) (le : Nat) (lt : Nat) (pe : Nat) (st : Nat) (pt : Nat) (rr : Nat) (vl : Nat) (bo : Nat) (kp : Nat) (dn : Nat) (bb : Nat) (n : Nat) (m : Nat) (pd : Nat) (mg : Nat) (qc : Nat) (rl : Nat) (wn : Nat) (pn : Nat) (fd : Nat) (lv : Nat) (ma : Nat) (bg : Int64) (Pw : Nat → Int64) (Lw : Nat → Int32) (f : Nat → Nat → Int32) (e : Nat → Int32) (F : Nat → Int32) (Rw : Nat → Int32) (Pl : Nat → Int32) (Ho : Nat → Int64) (Ag : Nat → Int64) (Bi : Nat → Int32) (An : Nat → Int32) (Wo : Nat → Int32) (Le : Nat → Int32) (Lt : Nat → Int32) (Pe : Nat → Int32) (St : Nat → Int32) (Pt : Nat → Int32) (Rr : Nat → Int32) (Vl : Nat → Int32) (Bo : Nat → Int32) (Kp : Nat → Int32) : (iv_W K xo mo di pw ln ts pr os ks qu nu se rw pl ho ag bi an fa oa ka wo le lt pe st pt rr vl bo kp dn bb n m pd mg qc rl wn pn fd lv ma bg Pw Lw f e F Rw Pl Ho Ag Bi An Wo Le Lt Pe St Pt Rr Vl Bo Kp).Perm ([(xo, .inr (5, [.ref di, .ref ts, .ref qu, .ref se])), (se, .inr (3, [.ref rw, .int (nI rl), .int (nI wn), .int (nI pn), .ref pl, .ref ho, .ref ag, .ref bi, .ref an, .int (nI fd), .int (nI lv)])), (an, .inl (K 0, 600, .inl An))] ++ ([(mo, .inr (6, [.int (nI bb), .ref wo, .int (nI dn), .ref le, .ref lt, .int (nI n), .ref pe, .int (nI m), .ref st, .int (nI mg), .int (nI qc), .ref pt, .int (nI ma), .ref rr, .ref vl, .ref bo, .int (nI fd), .ref kp, .int (nI lv)])), (kp, .inl (K 0, 600, .inl Kp))] ++ iv_R14 K di pw ln ts pr os ks qu nu rw pl ho ag bi fa oa ka wo le lt pe st pt rr vl bo dn bb n m pd mg qc bg Pw Lw f e F Rw Pl Ho Ag Bi Wo Le Lt Pe St Pt Rr Vl Bo)) := fr_pn 40 _ [0, 22, 28, 29, 39, 1, 2, 3, 4, 5, 6, 7, 8, 9, 10, 11, 12, 13, 14, 15, 16, 17, 18, 19, 20, 21, 23, 24, 25, 26, 27, 30, 31, 32, 33, 34, 35, 36, 37, 38] rfl (by decide +kernel) rfl
set_option maxHeartbeats 1000000 in
set_option maxRecDepth 100000 in
theorem xl_c14 {Γ : xz_G} {l : Launch} {D : va_G} {K : Nat → ClassId} {nm : String} {Qp : xz_P} {b L : Nat} {xs : Nat → Int32} (hC : xz_C Γ l D (tz K) code 4 "SixfoldTriplesLaw" room_1 (some .boolean) nm Qp) (hX : xl_S Γ b L xs) (hL : L ≤ 2048) (i xo mo : Nat) (hi : i + 4 ≤ L) {ws : va_W} (hI : iv_J K xo mo ws) (back : ∀ ws', iv_J K xo mo ws' → xz_X Γ 40 2187 ws' 510 [(3, .int (nI i)), (2, .ref mo), (1, .ref xo), (0, .ref b)] []) : xz_X Γ 40 2187 ws 464 [(3, .int (nI i)), (2, .ref mo), (1, .ref xo), (0, .ref b)] [] := by
  obtain ⟨di, pw, ln, ts, pr, os, ks, qu, nu, se, rw, pl, ho, ag, bi, an, fa, oa, ka, wo, le, lt, pe, st, pt, rr, vl, bo, kp, dn, bb, n, m, pd, mg, qc, rl, wn, pn, fd, lv, ma, bg, Pw, Lw, f, e, F, Rw, Pl, Ho, Ag, Bi, An, Wo, Le, Lt, Pe, St, Pt, Rr, Vl, Bo, Kp, wl, wc, bw, g, h, pp, s0, q, hpm, rfl, hfa, hD, hS, hQ, hA⟩ := hI
  refine xz_perm (hpm.trans (iv_p14 K xo mo di pw ln ts pr os ks qu nu se rw pl ho ag bi an fa oa ka wo le lt pe st pt rr vl bo kp dn bb n m pd mg qc rl wn pn fd lv ma (lN (xw_pk bw bb)) Pw Lw f e F Rw Pl Ho Ag Bi An Wo Le Lt Pe St Pt Rr Vl Bo Kp)) ?_
  clear hpm
  have hfd := hA.1
  refine xz_aload_n hC 2 rfl rfl dLa_law_464 ?_
  refine xz_aload_n hC 3 rfl rfl dLa_law_465 ?_
  refine xz_iload_n hC 0 rfl rfl dLa_law_466 ?_
  refine xz_iconst hC (v := nI 1) (by decide +kernel) dLa_law_467 ?_
  refine xz_iadd hC (z := nI (i + 1)) (nI_add _ _) dLa_law_468 ?_
  refine xl_sld hC hX (by omega) (by omega) dLa_law_469 ?_
  refine xz_aload_n hC 3 rfl rfl dLa_law_470 ?_
  refine xz_iload_n hC 0 rfl rfl dLa_law_471 ?_
  refine xz_iconst hC (v := nI 2) (by decide +kernel) dLa_law_472 ?_
  refine xz_iadd hC (z := nI (i + 2)) (nI_add _ _) dLa_law_473 ?_
  refine xl_sld hC hX (by omega) (by omega) dLa_law_474 ?_
  refine xz_callVF hC (mSx_answer l D K xo di ts qu se rw pl ho ag bi an rl wn pn fd lv An (xs (i + 1)) (xs (i + 2)) (by omega)) kSx_answer tq1 tq411 tq412 tq413 5 rfl rfl rfl hSx_answer (by decide) (As := [.int (xs (i + 1)), .int (xs (i + 2))]) (rest := []) rfl rfl (Nat.le_of_ble_eq_true rfl) (by decide) dLa_law_475 (fun v w hq => ?_)
  rcases hq with ⟨rfl, ⟨hc, rfl⟩ | ⟨hc, rfl⟩⟩
  · skip
    refine xz_ste (st' := [.int (An (xi (xs (i + 1)) * 3 + (xi (xs (i + 2)) - 32)))]) rfl ?_
    refine xz_swap ?_
    refine xz_aload_n hC 1 rfl rfl dLa_law_478 ?_
    refine xz_aload_n hC 3 rfl rfl dLa_law_479 ?_
    refine xz_iload_n hC 0 rfl rfl dLa_law_480 ?_
    refine xz_iconst hC (v := nI 1) (by decide +kernel) dLa_law_481 ?_
    refine xz_iadd hC (z := nI (i + 1)) (nI_add _ _) dLa_law_482 ?_
    refine xl_sld hC hX (by omega) (by omega) dLa_law_483 ?_
    refine xz_aload_n hC 3 rfl rfl dLa_law_484 ?_
    refine xz_iload_n hC 0 rfl rfl dLa_law_485 ?_
    refine xz_iconst hC (v := nI 2) (by decide +kernel) dLa_law_486 ?_
    refine xz_iadd hC (z := nI (i + 2)) (nI_add _ _) dLa_law_487 ?_
    refine xl_sld hC hX (by omega) (by omega) dLa_law_488 ?_
    refine xz_callVF hC (mMo_answer l D K mo wo le lt pe st pt rr vl bo kp bb dn n m mg qc ma fd lv Kp (xs (i + 1)) (xs (i + 2)) (by omega)) kMo_answer tq7 tq608 tq609 tq610 6 rfl rfl rfl hMo_answer (by decide) (As := [.int (xs (i + 1)), .int (xs (i + 2))]) (rest := [.int (An (xi (xs (i + 1)) * 3 + (xi (xs (i + 2)) - 32)))]) rfl rfl (Nat.le_of_ble_eq_true rfl) (by decide) dLa_law_489 (fun v w hq => ?_)
    rcases hq with ⟨rfl, ⟨hc2, rfl⟩ | ⟨hc2, rfl⟩⟩
    · skip
      have hval : An (xi (xs (i + 1)) * 3 + (xi (xs (i + 2)) - 32)) = Kp (3 * xi (xs (i + 1)) + (xi (xs (i + 2)) - 32)) := hA.2 _ (by unfold xi; omega) (by unfold xi; omega) _ (by unfold xi; omega)
      refine xz_ste (st' := [.int (Kp (3 * xi (xs (i + 1)) + (xi (xs (i + 2)) - 32))), .int (An (xi (xs (i + 1)) * 3 + (xi (xs (i + 2)) - 32)))]) rfl ?_
      refine xz_icmp_eq hC (tgt := 510) rfl rfl (by decide) dLa_law_492 (fun h1 => ?_) (fun h1 => ?_)
      · skip
        exact back _ ⟨di, pw, ln, ts, pr, os, ks, qu, nu, se, rw, pl, ho, ag, bi, an, fa, oa, ka, wo, le, lt, pe, st, pt, rr, vl, bo, kp, dn, bb, n, m, pd, mg, qc, rl, wn, pn, fd, lv, ma, lN (xw_pk bw bb), Pw, Lw, f, e, F, Rw, Pl, Ho, Ag, Bi, An, Wo, Le, Lt, Pe, St, Pt, Rr, Vl, Bo, Kp, wl, wc, bw, g, h, pp, s0, q, (fr_sw _ _ _).trans (iv_p14 K xo mo di pw ln ts pr os ks qu nu se rw pl ho ag bi an fa oa ka wo le lt pe st pt rr vl bo kp dn bb n m pd mg qc rl wn pn fd lv ma (lN (xw_pk bw bb)) Pw Lw f e F Rw Pl Ho Ag Bi An Wo Le Lt Pe St Pt Rr Vl Bo Kp).symm, rfl, hfa, hD, hS, hQ, hA⟩
      · skip
        exact absurd (by rw [hval]) h1
    · skip
      exact absurd hc hc2
  · skip
    refine xz_ste (st' := [.int (-1)]) rfl ?_
    refine xz_swap ?_
    refine xz_aload_n hC 1 rfl rfl dLa_law_478 ?_
    refine xz_aload_n hC 3 rfl rfl dLa_law_479 ?_
    refine xz_iload_n hC 0 rfl rfl dLa_law_480 ?_
    refine xz_iconst hC (v := nI 1) (by decide +kernel) dLa_law_481 ?_
    refine xz_iadd hC (z := nI (i + 1)) (nI_add _ _) dLa_law_482 ?_
    refine xl_sld hC hX (by omega) (by omega) dLa_law_483 ?_
    refine xz_aload_n hC 3 rfl rfl dLa_law_484 ?_
    refine xz_iload_n hC 0 rfl rfl dLa_law_485 ?_
    refine xz_iconst hC (v := nI 2) (by decide +kernel) dLa_law_486 ?_
    refine xz_iadd hC (z := nI (i + 2)) (nI_add _ _) dLa_law_487 ?_
    refine xl_sld hC hX (by omega) (by omega) dLa_law_488 ?_
    refine xz_callVF hC (mMo_answer l D K mo wo le lt pe st pt rr vl bo kp bb dn n m mg qc ma fd lv Kp (xs (i + 1)) (xs (i + 2)) (by omega)) kMo_answer tq7 tq608 tq609 tq610 6 rfl rfl rfl hMo_answer (by decide) (As := [.int (xs (i + 1)), .int (xs (i + 2))]) (rest := [.int (-1)]) rfl rfl (Nat.le_of_ble_eq_true rfl) (by decide) dLa_law_489 (fun v w hq => ?_)
    rcases hq with ⟨rfl, ⟨hc2, rfl⟩ | ⟨hc2, rfl⟩⟩
    · skip
      exact absurd hc2 hc
    · skip
      refine xz_ste (st' := [.int (-1), .int (-1)]) rfl ?_
      refine xz_icmp_eq hC (tgt := 510) rfl rfl (by decide) dLa_law_492 (fun h2 => ?_) (fun h2 => ?_)
      · skip
        exact back _ ⟨di, pw, ln, ts, pr, os, ks, qu, nu, se, rw, pl, ho, ag, bi, an, fa, oa, ka, wo, le, lt, pe, st, pt, rr, vl, bo, kp, dn, bb, n, m, pd, mg, qc, rl, wn, pn, fd, lv, ma, lN (xw_pk bw bb), Pw, Lw, f, e, F, Rw, Pl, Ho, Ag, Bi, An, Wo, Le, Lt, Pe, St, Pt, Rr, Vl, Bo, Kp, wl, wc, bw, g, h, pp, s0, q, (fr_sw _ _ _).trans (iv_p14 K xo mo di pw ln ts pr os ks qu nu se rw pl ho ag bi an fa oa ka wo le lt pe st pt rr vl bo kp dn bb n m pd mg qc rl wn pn fd lv ma (lN (xw_pk bw bb)) Pw Lw f e F Rw Pl Ho Ag Bi An Wo Le Lt Pe St Pt Rr Vl Bo Kp).symm, rfl, hfa, hD, hS, hQ, hA⟩
      · skip
        exact absurd rfl h2
def iv_R11 (K : Nat → ClassId) (pw : Nat) (ln : Nat) (ts : Nat) (pr : Nat) (os : Nat) (ks : Nat) (se : Nat) (rw : Nat) (pl : Nat) (ho : Nat) (ag : Nat) (bi : Nat) (an : Nat) (fa : Nat → Option Nat) (oa : Nat → Nat) (ka : Nat → Nat) (wo : Nat) (le : Nat) (lt : Nat) (pe : Nat) (st : Nat) (rr : Nat) (vl : Nat) (bo : Nat) (kp : Nat) (n : Nat) (m : Nat) (pd : Nat) (mg : Nat) (rl : Nat) (wn : Nat) (pn : Nat) (fd : Nat) (lv : Nat) (Pw : Nat → Int64) (Lw : Nat → Int32) (f : Nat → Nat → Int32) (e : Nat → Int32) (Rw : Nat → Int32) (Pl : Nat → Int32) (Ho : Nat → Int64) (Ag : Nat → Int64) (Bi : Nat → Int32) (An : Nat → Int32) (Wo : Nat → Int32) (Le : Nat → Int32) (Lt : Nat → Int32) (Pe : Nat → Int32) (St : Nat → Int32) (Rr : Nat → Int32) (Vl : Nat → Int32) (Bo : Nat → Int32) (Kp : Nat → Int32) : va_W := [(pw, .inl (K 1, 24, .inr (.inl Pw))), (ln, .inl (K 0, 24, .inl Lw)), (ts, .inr (4, [.ref pr, .ref os, .int (nI pd), .int (nI mg)])), (pr, .inl (K 4, 6, .inr (.inr (.inr (.inr fa))))), (oa 0, .inr (1, [.int (nI 0), .int (nI 1), .int (nI 2), .ref (ka 0), .int (nI n)])), (ka 0, .inl (K 0, 60, .inl (f 0))), (oa 1, .inr (1, [.int (nI 0), .int (nI 2), .int (nI 1), .ref (ka 1), .int (nI n)])), (ka 1, .inl (K 0, 60, .inl (f 1))), (oa 2, .inr (1, [.int (nI 1), .int (nI 0), .int (nI 2), .ref (ka 2), .int (nI n)])), (ka 2, .inl (K 0, 60, .inl (f 2))), (oa 3, .inr (1, [.int (nI 1), .int (nI 2), .int (nI 0), .ref (ka 3), .int (nI n)])), (ka 3, .inl (K 0, 60, .inl (f 3))), (oa 4, .inr (1, [.int (nI 2), .int (nI 0), .int (nI 1), .ref (ka 4), .int (nI n)])), (ka 4, .inl (K 0, 60, .inl (f 4))), (oa 5, .inr (1, [.int (nI 2), .int (nI 1), .int (nI 0), .ref (ka 5), .int (nI n)])), (ka 5, .inl (K 0, 60, .inl (f 5))), (os, .inr (1, [.int (nI 0), .int (nI 1), .int (nI 2), .ref ks, .int (nI m)])), (ks, .inl (K 0, 60, .inl e)), (se, .inr (3, [.ref rw, .int (nI rl), .int (nI wn), .int (nI pn), .ref pl, .ref ho, .ref ag, .ref bi, .ref an, .int (nI fd), .int (nI lv)])), (rw, .inl (K 0, 3, .inl Rw)), (pl, .inl (K 0, 12, .inl Pl)), (ho, .inl (K 1, 72, .inr (.inl Ho))), (ag, .inl (K 1, 16, .inr (.inl Ag))), (bi, .inl (K 0, 3, .inl Bi)), (an, .inl (K 0, 600, .inl An)), (wo, .inl (K 2, 6, .inl Wo)), (le, .inl (K 0, 24, .inl Le)), (lt, .inl (K 2, 144, .inl Lt)), (pe, .inl (K 0, 60, .inl Pe)), (st, .inl (K 0, 60, .inl St)), (rr, .inl (K 0, 3, .inl Rr)), (vl, .inl (K 0, 3, .inl Vl)), (bo, .inl (K 3, 3, .inl Bo)), (kp, .inl (K 0, 600, .inl Kp))]
set_option maxRecDepth 100000 in
theorem iv_p11 (K : Nat → ClassId) (xo : Nat) (mo : Nat) (di : Nat) (pw : Nat) (ln : Nat) (ts : Nat) (pr : Nat) (os : Nat) (ks : Nat) (qu : Nat) (nu : Nat) (se : Nat) (rw : Nat) (pl : Nat) (ho : Nat) (ag : Nat) (bi : Nat) (an : Nat) (fa : Nat → Option Nat) (oa : Nat → Nat) (ka : Nat → Nat) (wo : Nat) (le : Nat) (lt : Nat) (pe : Nat) (st : Nat) (pt : Nat) (rr : Nat) (vl : Nat) (bo : Nat) (kp : Nat) (dn : Nat) (bb : Nat) (n : Nat) (m : Nat) (pd : Nat) (mg : Nat) (qc : Nat) (rl : Nat) (wn : Nat) (pn : Nat) (fd : Nat) (lv : Nat) (ma : Nat) (bg : Int64) (Pw : Nat → Int64) (Lw : Nat → Int32) (f : Nat → Nat → Int32) (e : Nat → Int32) (F : Nat → Int32) (Rw : Nat → Int32) (Pl : Nat → Int32) (Ho : Nat → Int64) (Ag : Nat → Int64) (Bi : Nat → Int32) (An : Nat → Int32) (Wo : Nat → Int32) (Le : Nat → Int32) (Lt : Nat → Int32) (Pe : Nat → Int32) (St : Nat → Int32) (Pt : Nat → Int32) (Rr : Nat → Int32) (Vl : Nat → Int32) (Bo : Nat → Int32) (Kp : Nat → Int32) : (iv_W K xo mo di pw ln ts pr os ks qu nu se rw pl ho ag bi an fa oa ka wo le lt pe st pt rr vl bo kp dn bb n m pd mg qc rl wn pn fd lv ma bg Pw Lw f e F Rw Pl Ho Ag Bi An Wo Le Lt Pe St Pt Rr Vl Bo Kp).Perm ([(xo, .inr (5, [.ref di, .ref ts, .ref qu, .ref se])), (di, .inr (0, [.ref pw, .ref ln, .int (nI dn), .long bg, .int (nI bb)])), (qu, .inr (2, [.ref nu, .int (nI qc)])), (nu, .inl (K 0, 12, .inl F))] ++ ([(mo, .inr (6, [.int (nI bb), .ref wo, .int (nI dn), .ref le, .ref lt, .int (nI n), .ref pe, .int (nI m), .ref st, .int (nI mg), .int (nI qc), .ref pt, .int (nI ma), .ref rr, .ref vl, .ref bo, .int (nI fd), .ref kp, .int (nI lv)])), (pt, .inl (K 0, 12, .inl Pt))] ++ iv_R11 K pw ln ts pr os ks se rw pl ho ag bi an fa oa ka wo le lt pe st rr vl bo kp n m pd mg rl wn pn fd lv Pw Lw f e Rw Pl Ho Ag Bi An Wo Le Lt Pe St Rr Vl Bo Kp)) := fr_pn 40 _ [0, 1, 20, 21, 29, 35, 2, 3, 4, 5, 6, 7, 8, 9, 10, 11, 12, 13, 14, 15, 16, 17, 18, 19, 22, 23, 24, 25, 26, 27, 28, 30, 31, 32, 33, 34, 36, 37, 38, 39] rfl (by decide +kernel) rfl
set_option maxHeartbeats 1000000 in
set_option maxRecDepth 100000 in
theorem xl_c11 {Γ : xz_G} {l : Launch} {D : va_G} {K : Nat → ClassId} {nm : String} {Qp : xz_P} {b L : Nat} {xs : Nat → Int32} (hC : xz_C Γ l D (tz K) code 4 "SixfoldTriplesLaw" room_1 (some .boolean) nm Qp) (hX : xl_S Γ b L xs) (hL : L ≤ 2048) (i xo mo : Nat) (hi : i + 4 ≤ L) {ws : va_W} (hI : iv_J K xo mo ws) (back : ∀ ws', iv_J K xo mo ws' → xz_X Γ 40 2187 ws' 510 [(3, .int (nI i)), (2, .ref mo), (1, .ref xo), (0, .ref b)] []) : xz_X Γ 40 2187 ws 367 [(3, .int (nI i)), (2, .ref mo), (1, .ref xo), (0, .ref b)] [] := by
  obtain ⟨di, pw, ln, ts, pr, os, ks, qu, nu, se, rw, pl, ho, ag, bi, an, fa, oa, ka, wo, le, lt, pe, st, pt, rr, vl, bo, kp, dn, bb, n, m, pd, mg, qc, rl, wn, pn, fd, lv, ma, bg, Pw, Lw, f, e, F, Rw, Pl, Ho, Ag, Bi, An, Wo, Le, Lt, Pe, St, Pt, Rr, Vl, Bo, Kp, wl, wc, bw, g, h, pp, s0, q, hpm, rfl, hfa, hD, hS, hQ, hA⟩ := hI
  refine xz_perm (hpm.trans (iv_p11 K xo mo di pw ln ts pr os ks qu nu se rw pl ho ag bi an fa oa ka wo le lt pe st pt rr vl bo kp dn bb n m pd mg qc rl wn pn fd lv ma (lN (xw_pk bw bb)) Pw Lw f e F Rw Pl Ho Ag Bi An Wo Le Lt Pe St Pt Rr Vl Bo Kp)) ?_
  clear hpm
  have hdn := hD.1
  refine xz_aload_n hC 2 rfl rfl dLa_law_367 ?_
  refine xz_aload_n hC 3 rfl rfl dLa_law_368 ?_
  refine xz_iload_n hC 0 rfl rfl dLa_law_369 ?_
  refine xz_iconst hC (v := nI 1) (by decide +kernel) dLa_law_370 ?_
  refine xz_iadd hC (z := nI (i + 1)) (nI_add _ _) dLa_law_371 ?_
  refine xl_sld hC hX (by omega) (by omega) dLa_law_372 ?_
  refine xz_aload_n hC 3 rfl rfl dLa_law_373 ?_
  refine xz_iload_n hC 0 rfl rfl dLa_law_374 ?_
  refine xz_iconst hC (v := nI 2) (by decide +kernel) dLa_law_375 ?_
  refine xz_iadd hC (z := nI (i + 2)) (nI_add _ _) dLa_law_376 ?_
  refine xl_sld hC hX (by omega) (by omega) dLa_law_377 ?_
  refine xz_aload_n hC 3 rfl rfl dLa_law_378 ?_
  refine xz_iload_n hC 0 rfl rfl dLa_law_379 ?_
  refine xz_iconst hC (v := nI 3) (by decide +kernel) dLa_law_380 ?_
  refine xz_iadd hC (z := nI (i + 3)) (nI_add _ _) dLa_law_381 ?_
  refine xl_sld hC hX (by omega) (by omega) dLa_law_382 ?_
  refine xz_callVF hC (mSx_where l D K xo di ts qu se pw ln dn (xw_pk bw bb) bb nu qc F (xs (i + 1)) (xs (i + 2)) (xs (i + 3)) hD.1 hQ.1) kSx_where tq1 tq306 tq307 tq308 5 rfl rfl rfl hSx_where (by decide) (As := [.int (xs (i + 1)), .int (xs (i + 2)), .int (xs (i + 3))]) (rest := []) rfl rfl (Nat.le_of_ble_eq_true rfl) (by decide) dLa_law_383 (fun v w hq => ?_)
  rcases hq with ⟨h0, rfl, rfl⟩ | ⟨h0, h4, rfl, rfl⟩ | ⟨h0, h4, rfl, rfl⟩
  · skip
    refine xz_ste (st' := [.int (-1)]) rfl ?_
    refine xz_swap ?_
    refine xz_aload_n hC 1 rfl rfl dLa_law_386 ?_
    refine xz_aload_n hC 3 rfl rfl dLa_law_387 ?_
    refine xz_iload_n hC 0 rfl rfl dLa_law_388 ?_
    refine xz_iconst hC (v := nI 1) (by decide +kernel) dLa_law_389 ?_
    refine xz_iadd hC (z := nI (i + 1)) (nI_add _ _) dLa_law_390 ?_
    refine xl_sld hC hX (by omega) (by omega) dLa_law_391 ?_
    refine xz_aload_n hC 3 rfl rfl dLa_law_392 ?_
    refine xz_iload_n hC 0 rfl rfl dLa_law_393 ?_
    refine xz_iconst hC (v := nI 2) (by decide +kernel) dLa_law_394 ?_
    refine xz_iadd hC (z := nI (i + 2)) (nI_add _ _) dLa_law_395 ?_
    refine xl_sld hC hX (by omega) (by omega) dLa_law_396 ?_
    refine xz_aload_n hC 3 rfl rfl dLa_law_397 ?_
    refine xz_iload_n hC 0 rfl rfl dLa_law_398 ?_
    refine xz_iconst hC (v := nI 3) (by decide +kernel) dLa_law_399 ?_
    refine xz_iadd hC (z := nI (i + 3)) (nI_add _ _) dLa_law_400 ?_
    refine xl_sld hC hX (by omega) (by omega) dLa_law_401 ?_
    refine xz_callVF hC (mMo_where l D K mo wo le lt pe st pt rr vl bo kp bb dn n m mg qc ma fd lv Pt (xs (i + 1)) (xs (i + 2)) (xs (i + 3)) hD.1 hQ.1) kMo_where tq7 tq564 tq565 tq566 6 rfl rfl rfl hMo_where (by decide) (As := [.int (xs (i + 1)), .int (xs (i + 2)), .int (xs (i + 3))]) (rest := [.int (-1)]) rfl rfl (Nat.le_of_ble_eq_true rfl) (by decide) dLa_law_402 (fun v w hq => ?_)
    rcases hq with ⟨g0, rfl, rfl⟩ | ⟨g0, g4, rfl, rfl⟩ | ⟨g0, g4, rfl, rfl⟩
    · skip
      refine xz_ste (st' := [.int (-1), .int (-1)]) rfl ?_
      refine xz_icmp_eq hC (tgt := 510) rfl rfl (by decide) dLa_law_405 (fun h1 => ?_) (fun h1 => ?_)
      · skip
        exact back _ ⟨di, pw, ln, ts, pr, os, ks, qu, nu, se, rw, pl, ho, ag, bi, an, fa, oa, ka, wo, le, lt, pe, st, pt, rr, vl, bo, kp, dn, bb, n, m, pd, mg, qc, rl, wn, pn, fd, lv, ma, lN (xw_pk bw bb), Pw, Lw, f, e, F, Rw, Pl, Ho, Ag, Bi, An, Wo, Le, Lt, Pe, St, Pt, Rr, Vl, Bo, Kp, wl, wc, bw, g, h, pp, s0, q, (fr_sw _ _ _).trans (iv_p11 K xo mo di pw ln ts pr os ks qu nu se rw pl ho ag bi an fa oa ka wo le lt pe st pt rr vl bo kp dn bb n m pd mg qc rl wn pn fd lv ma (lN (xw_pk bw bb)) Pw Lw f e F Rw Pl Ho Ag Bi An Wo Le Lt Pe St Pt Rr Vl Bo Kp).symm, rfl, hfa, hD, hS, hQ, hA⟩
      · skip
        exact absurd rfl h1
    · skip
      exfalso; omega
    · skip
      exfalso; omega
  · skip
    refine xz_ste (st' := [.int (-2)]) rfl ?_
    refine xz_swap ?_
    refine xz_aload_n hC 1 rfl rfl dLa_law_386 ?_
    refine xz_aload_n hC 3 rfl rfl dLa_law_387 ?_
    refine xz_iload_n hC 0 rfl rfl dLa_law_388 ?_
    refine xz_iconst hC (v := nI 1) (by decide +kernel) dLa_law_389 ?_
    refine xz_iadd hC (z := nI (i + 1)) (nI_add _ _) dLa_law_390 ?_
    refine xl_sld hC hX (by omega) (by omega) dLa_law_391 ?_
    refine xz_aload_n hC 3 rfl rfl dLa_law_392 ?_
    refine xz_iload_n hC 0 rfl rfl dLa_law_393 ?_
    refine xz_iconst hC (v := nI 2) (by decide +kernel) dLa_law_394 ?_
    refine xz_iadd hC (z := nI (i + 2)) (nI_add _ _) dLa_law_395 ?_
    refine xl_sld hC hX (by omega) (by omega) dLa_law_396 ?_
    refine xz_aload_n hC 3 rfl rfl dLa_law_397 ?_
    refine xz_iload_n hC 0 rfl rfl dLa_law_398 ?_
    refine xz_iconst hC (v := nI 3) (by decide +kernel) dLa_law_399 ?_
    refine xz_iadd hC (z := nI (i + 3)) (nI_add _ _) dLa_law_400 ?_
    refine xl_sld hC hX (by omega) (by omega) dLa_law_401 ?_
    refine xz_callVF hC (mMo_where l D K mo wo le lt pe st pt rr vl bo kp bb dn n m mg qc ma fd lv Pt (xs (i + 1)) (xs (i + 2)) (xs (i + 3)) hD.1 hQ.1) kMo_where tq7 tq564 tq565 tq566 6 rfl rfl rfl hMo_where (by decide) (As := [.int (xs (i + 1)), .int (xs (i + 2)), .int (xs (i + 3))]) (rest := [.int (-2)]) rfl rfl (Nat.le_of_ble_eq_true rfl) (by decide) dLa_law_402 (fun v w hq => ?_)
    rcases hq with ⟨g0, rfl, rfl⟩ | ⟨g0, g4, rfl, rfl⟩ | ⟨g0, g4, rfl, rfl⟩
    · skip
      exfalso; omega
    · skip
      refine xz_ste (st' := [.int (-2), .int (-2)]) rfl ?_
      refine xz_icmp_eq hC (tgt := 510) rfl rfl (by decide) dLa_law_405 (fun h2 => ?_) (fun h2 => ?_)
      · skip
        exact back _ ⟨di, pw, ln, ts, pr, os, ks, qu, nu, se, rw, pl, ho, ag, bi, an, fa, oa, ka, wo, le, lt, pe, st, pt, rr, vl, bo, kp, dn, bb, n, m, pd, mg, qc, rl, wn, pn, fd, lv, ma, lN (xw_pk bw bb), Pw, Lw, f, e, F, Rw, Pl, Ho, Ag, Bi, An, Wo, Le, Lt, Pe, St, Pt, Rr, Vl, Bo, Kp, wl, wc, bw, g, h, pp, s0, q, (fr_sw _ _ _).trans (iv_p11 K xo mo di pw ln ts pr os ks qu nu se rw pl ho ag bi an fa oa ka wo le lt pe st pt rr vl bo kp dn bb n m pd mg qc rl wn pn fd lv ma (lN (xw_pk bw bb)) Pw Lw f e F Rw Pl Ho Ag Bi An Wo Le Lt Pe St Pt Rr Vl Bo Kp).symm, rfl, hfa, hD, hS, hQ, hA⟩
      · skip
        exact absurd rfl h2
    · skip
      exfalso; omega
  · skip
    refine xz_ste (st' := [.int (nI (qc + 1))]) rfl ?_
    refine xz_swap ?_
    refine xz_aload_n hC 1 rfl rfl dLa_law_386 ?_
    refine xz_aload_n hC 3 rfl rfl dLa_law_387 ?_
    refine xz_iload_n hC 0 rfl rfl dLa_law_388 ?_
    refine xz_iconst hC (v := nI 1) (by decide +kernel) dLa_law_389 ?_
    refine xz_iadd hC (z := nI (i + 1)) (nI_add _ _) dLa_law_390 ?_
    refine xl_sld hC hX (by omega) (by omega) dLa_law_391 ?_
    refine xz_aload_n hC 3 rfl rfl dLa_law_392 ?_
    refine xz_iload_n hC 0 rfl rfl dLa_law_393 ?_
    refine xz_iconst hC (v := nI 2) (by decide +kernel) dLa_law_394 ?_
    refine xz_iadd hC (z := nI (i + 2)) (nI_add _ _) dLa_law_395 ?_
    refine xl_sld hC hX (by omega) (by omega) dLa_law_396 ?_
    refine xz_aload_n hC 3 rfl rfl dLa_law_397 ?_
    refine xz_iload_n hC 0 rfl rfl dLa_law_398 ?_
    refine xz_iconst hC (v := nI 3) (by decide +kernel) dLa_law_399 ?_
    refine xz_iadd hC (z := nI (i + 3)) (nI_add _ _) dLa_law_400 ?_
    refine xl_sld hC hX (by omega) (by omega) dLa_law_401 ?_
    refine xz_callVF hC (mMo_where l D K mo wo le lt pe st pt rr vl bo kp bb dn n m mg qc ma fd lv Pt (xs (i + 1)) (xs (i + 2)) (xs (i + 3)) hD.1 hQ.1) kMo_where tq7 tq564 tq565 tq566 6 rfl rfl rfl hMo_where (by decide) (As := [.int (xs (i + 1)), .int (xs (i + 2)), .int (xs (i + 3))]) (rest := [.int (nI (qc + 1))]) rfl rfl (Nat.le_of_ble_eq_true rfl) (by decide) dLa_law_402 (fun v w hq => ?_)
    rcases hq with ⟨g0, rfl, rfl⟩ | ⟨g0, g4, rfl, rfl⟩ | ⟨g0, g4, rfl, rfl⟩
    · skip
      exfalso; omega
    · skip
      exfalso; omega
    · skip
      refine xz_ste (st' := [.int (nI (qc + 1)), .int (nI (qc + 1))]) rfl ?_
      refine xz_icmp_eq hC (tgt := 510) rfl rfl (by decide) dLa_law_405 (fun h3 => ?_) (fun h3 => ?_)
      · skip
        exact back _ ⟨di, pw, ln, ts, pr, os, ks, qu, nu, se, rw, pl, ho, ag, bi, an, fa, oa, ka, wo, le, lt, pe, st, pt, rr, vl, bo, kp, dn, bb, n, m, pd, mg, qc + 1, rl, wn, pn, fd, lv, ma, lN (xw_pk bw bb), Pw, Lw, f, e, upd (upd (upd F (qc * 3) (xs (i + 1))) (qc * 3 + 1) (xs (i + 2))) (qc * 3 + 2) (xs (i + 3)), Rw, Pl, Ho, Ag, Bi, An, Wo, Le, Lt, Pe, St, upd (upd (upd Pt (3 * qc) (xs (i + 1))) (3 * qc + 1) (xs (i + 2))) (3 * qc + 2) (xs (i + 3)), Rr, Vl, Bo, Kp, wl, wc, bw, g, h, pp, s0, iv_q q qc (xi (xs (i + 1))) (xi (xs (i + 2))) (xi (xs (i + 3))), (fr_sw _ _ _).trans (iv_p11 K xo mo di pw ln ts pr os ks qu nu se rw pl ho ag bi an fa oa ka wo le lt pe st pt rr vl bo kp dn bb n m pd mg (qc + 1) rl wn pn fd lv ma (lN (xw_pk bw bb)) Pw Lw f e (upd (upd (upd F (qc * 3) (xs (i + 1))) (qc * 3 + 1) (xs (i + 2))) (qc * 3 + 2) (xs (i + 3))) Rw Pl Ho Ag Bi An Wo Le Lt Pe St (upd (upd (upd Pt (3 * qc) (xs (i + 1))) (3 * qc + 1) (xs (i + 2))) (3 * qc + 2) (xs (i + 3))) Rr Vl Bo Kp).symm, rfl, hfa, hD, hS, iv_where hQ h4 (by omega) (by omega) (by omega), hA⟩
      · skip
        exact absurd rfl h3
