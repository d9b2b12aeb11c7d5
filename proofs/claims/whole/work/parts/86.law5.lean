def iv_R10 (K : Nat → ClassId) (di : Nat) (pw : Nat) (ln : Nat) (os : Nat) (ks : Nat) (qu : Nat) (nu : Nat) (se : Nat) (rw : Nat) (pl : Nat) (ho : Nat) (ag : Nat) (bi : Nat) (an : Nat) (wo : Nat) (le : Nat) (lt : Nat) (st : Nat) (pt : Nat) (rr : Nat) (vl : Nat) (bo : Nat) (kp : Nat) (dn : Nat) (bb : Nat) (m : Nat) (qc : Nat) (rl : Nat) (wn : Nat) (pn : Nat) (fd : Nat) (lv : Nat) (bg : Int64) (Pw : Nat → Int64) (Lw : Nat → Int32) (e : Nat → Int32) (F : Nat → Int32) (Rw : Nat → Int32) (Pl : Nat → Int32) (Ho : Nat → Int64) (Ag : Nat → Int64) (Bi : Nat → Int32) (An : Nat → Int32) (Wo : Nat → Int32) (Le : Nat → Int32) (Lt : Nat → Int32) (St : Nat → Int32) (Pt : Nat → Int32) (Rr : Nat → Int32) (Vl : Nat → Int32) (Bo : Nat → Int32) (Kp : Nat → Int32) : va_W := [(di, .inr (0, [.ref pw, .ref ln, .int (nI dn), .long bg, .int (nI bb)])), (pw, .inl (K 1, 24, .inr (.inl Pw))), (ln, .inl (K 0, 24, .inl Lw)), (os, .inr (1, [.int (nI 0), .int (nI 1), .int (nI 2), .ref ks, .int (nI m)])), (ks, .inl (K 0, 60, .inl e)), (qu, .inr (2, [.ref nu, .int (nI qc)])), (nu, .inl (K 0, 12, .inl F)), (se, .inr (3, [.ref rw, .int (nI rl), .int (nI wn), .int (nI pn), .ref pl, .ref ho, .ref ag, .ref bi, .ref an, .int (nI fd), .int (nI lv)])), (rw, .inl (K 0, 3, .inl Rw)), (pl, .inl (K 0, 12, .inl Pl)), (ho, .inl (K 1, 72, .inr (.inl Ho))), (ag, .inl (K 1, 16, .inr (.inl Ag))), (bi, .inl (K 0, 3, .inl Bi)), (an, .inl (K 0, 600, .inl An)), (wo, .inl (K 2, 6, .inl Wo)), (le, .inl (K 0, 24, .inl Le)), (lt, .inl (K 2, 144, .inl Lt)), (st, .inl (K 0, 60, .inl St)), (pt, .inl (K 0, 12, .inl Pt)), (rr, .inl (K 0, 3, .inl Rr)), (vl, .inl (K 0, 3, .inl Vl)), (bo, .inl (K 3, 3, .inl Bo)), (kp, .inl (K 0, 600, .inl Kp))]
set_option maxRecDepth 100000 in
theorem iv_p10 (K : Nat → ClassId) (xo : Nat) (mo : Nat) (di : Nat) (pw : Nat) (ln : Nat) (ts : Nat) (pr : Nat) (os : Nat) (ks : Nat) (qu : Nat) (nu : Nat) (se : Nat) (rw : Nat) (pl : Nat) (ho : Nat) (ag : Nat) (bi : Nat) (an : Nat) (fa : Nat → Option Nat) (oa : Nat → Nat) (ka : Nat → Nat) (wo : Nat) (le : Nat) (lt : Nat) (pe : Nat) (st : Nat) (pt : Nat) (rr : Nat) (vl : Nat) (bo : Nat) (kp : Nat) (dn : Nat) (bb : Nat) (n : Nat) (m : Nat) (pd : Nat) (mg : Nat) (qc : Nat) (rl : Nat) (wn : Nat) (pn : Nat) (fd : Nat) (lv : Nat) (ma : Nat) (bg : Int64) (Pw : Nat → Int64) (Lw : Nat → Int32) (f : Nat → Nat → Int32) (e : Nat → Int32) (F : Nat → Int32) (Rw : Nat → Int32) (Pl : Nat → Int32) (Ho : Nat → Int64) (Ag : Nat → Int64) (Bi : Nat → Int32) (An : Nat → Int32) (Wo : Nat → Int32) (Le : Nat → Int32) (Lt : Nat → Int32) (Pe : Nat → Int32) (St : Nat → Int32) (Pt : Nat → Int32) (Rr : Nat → Int32) (Vl : Nat → Int32) (Bo : Nat → Int32) (Kp : Nat → Int32) : (iv_W K xo mo di pw ln ts pr os ks qu nu se rw pl ho ag bi an fa oa ka wo le lt pe st pt rr vl bo kp dn bb n m pd mg qc rl wn pn fd lv ma bg Pw Lw f e F Rw Pl Ho Ag Bi An Wo Le Lt Pe St Pt Rr Vl Bo Kp).Perm ([(xo, .inr (5, [.ref di, .ref ts, .ref qu, .ref se])), (ts, .inr (4, [.ref pr, .ref os, .int (nI pd), .int (nI mg)])), (pr, .inl (K 4, 6, .inr (.inr (.inr (.inr fa))))), (oa 0, .inr (1, [.int (nI 0), .int (nI 1), .int (nI 2), .ref (ka 0), .int (nI n)])), (ka 0, .inl (K 0, 60, .inl (f 0))), (oa 1, .inr (1, [.int (nI 0), .int (nI 2), .int (nI 1), .ref (ka 1), .int (nI n)])), (ka 1, .inl (K 0, 60, .inl (f 1))), (oa 2, .inr (1, [.int (nI 1), .int (nI 0), .int (nI 2), .ref (ka 2), .int (nI n)])), (ka 2, .inl (K 0, 60, .inl (f 2))), (oa 3, .inr (1, [.int (nI 1), .int (nI 2), .int (nI 0), .ref (ka 3), .int (nI n)])), (ka 3, .inl (K 0, 60, .inl (f 3))), (oa 4, .inr (1, [.int (nI 2), .int (nI 0), .int (nI 1), .ref (ka 4), .int (nI n)])), (ka 4, .inl (K 0, 60, .inl (f 4))), (oa 5, .inr (1, [.int (nI 2), .int (nI 1), .int (nI 0), .ref (ka 5), .int (nI n)])), (ka 5, .inl (K 0, 60, .inl (f 5)))] ++ ([(mo, .inr (6, [.int (nI bb), .ref wo, .int (nI dn), .ref le, .ref lt, .int (nI n), .ref pe, .int (nI m), .ref st, .int (nI mg), .int (nI qc), .ref pt, .int (nI ma), .ref rr, .ref vl, .ref bo, .int (nI fd), .ref kp, .int (nI lv)])), (pe, .inl (K 0, 60, .inl Pe))] ++ iv_R10 K di pw ln os ks qu nu se rw pl ho ag bi an wo le lt st pt rr vl bo kp dn bb m qc rl wn pn fd lv bg Pw Lw e F Rw Pl Ho Ag Bi An Wo Le Lt St Pt Rr Vl Bo Kp)) := fr_pn 40 _ [0, 4, 5, 6, 7, 8, 9, 10, 11, 12, 13, 14, 15, 16, 17, 29, 33, 1, 2, 3, 18, 19, 20, 21, 22, 23, 24, 25, 26, 27, 28, 30, 31, 32, 34, 35, 36, 37, 38, 39] rfl (by decide +kernel) rfl
set_option maxHeartbeats 1000000 in
set_option maxRecDepth 100000 in
theorem xl_c10 {Γ : xz_G} {l : Launch} {D : va_G} {K : Nat → ClassId} {nm : String} {Qp : xz_P} {b L : Nat} {xs : Nat → Int32} (hC : xz_C Γ l D (tz K) code 4 "SixfoldTriplesLaw" room_1 (some .boolean) nm Qp) (hX : xl_S Γ b L xs) (hL : L ≤ 2048) (i xo mo : Nat) (hi : i + 4 ≤ L) {ws : va_W} (hI : iv_J K xo mo ws) (back : ∀ ws', iv_J K xo mo ws' → xz_X Γ 40 2187 ws' 510 [(3, .int (nI i)), (2, .ref mo), (1, .ref xo), (0, .ref b)] []) : xz_X Γ 40 2187 ws 334 [(3, .int (nI i)), (2, .ref mo), (1, .ref xo), (0, .ref b)] [] := by
  obtain ⟨di, pw, ln, ts, pr, os, ks, qu, nu, se, rw, pl, ho, ag, bi, an, fa, oa, ka, wo, le, lt, pe, st, pt, rr, vl, bo, kp, dn, bb, n, m, pd, mg, qc, rl, wn, pn, fd, lv, ma, bg, Pw, Lw, f, e, F, Rw, Pl, Ho, Ag, Bi, An, Wo, Le, Lt, Pe, St, Pt, Rr, Vl, Bo, Kp, wl, wc, bw, g, h, pp, s0, q, hpm, rfl, hfa, hD, hS, hQ, hA⟩ := hI
  refine xz_perm (hpm.trans (iv_p10 K xo mo di pw ln ts pr os ks qu nu se rw pl ho ag bi an fa oa ka wo le lt pe st pt rr vl bo kp dn bb n m pd mg qc rl wn pn fd lv ma (lN (xw_pk bw bb)) Pw Lw f e F Rw Pl Ho Ag Bi An Wo Le Lt Pe St Pt Rr Vl Bo Kp)) ?_
  clear hpm
  obtain ⟨hn, hm, hO, hSs, hp, hpn, hs, hsn, hpd, hp12, h24⟩ := id hS
  refine xz_aload_n hC 2 rfl rfl dLa_law_334 ?_
  refine xz_aload_n hC 3 rfl rfl dLa_law_335 ?_
  refine xz_iload_n hC 0 rfl rfl dLa_law_336 ?_
  refine xz_iconst hC (v := nI 1) (by decide +kernel) dLa_law_337 ?_
  refine xz_iadd hC (z := nI (i + 1)) (nI_add _ _) dLa_law_338 ?_
  refine xl_sld hC hX (by omega) (by omega) dLa_law_339 ?_
  refine xz_aload_n hC 3 rfl rfl dLa_law_340 ?_
  refine xz_iload_n hC 0 rfl rfl dLa_law_341 ?_
  refine xz_iconst hC (v := nI 2) (by decide +kernel) dLa_law_342 ?_
  refine xz_iadd hC (z := nI (i + 2)) (nI_add _ _) dLa_law_343 ?_
  refine xl_sld hC hX (by omega) (by omega) dLa_law_344 ?_
  refine xz_callVF hC (mSx_triple l D K xo di ts qu se pw ln dn (xw_pk bw bb) bb pr os ks n pd mg m fa oa ka f e g h (xo_mem pp n) (xo_mem s0 m) (xs (i + 1)) (xs (i + 2)) hfa hn hO) kSx_triple tq1 tq293 tq294 tq295 5 rfl rfl rfl hSx_triple (by decide) (As := [.int (xs (i + 1)), .int (xs (i + 2))]) (rest := []) rfl rfl (Nat.le_of_ble_eq_true rfl) (by decide) dLa_law_345 (fun v w hq => ?_)
  rcases hq with ⟨hc, c, rfl, rfl, hcc, hkw⟩ | ⟨hc, rfl, rfl⟩
  · skip
    refine xz_ste (st' := [.int (nI c)]) rfl ?_
    refine xz_swap ?_
    refine xz_aload_n hC 1 rfl rfl dLa_law_348 ?_
    refine xz_aload_n hC 3 rfl rfl dLa_law_349 ?_
    refine xz_iload_n hC 0 rfl rfl dLa_law_350 ?_
    refine xz_iconst hC (v := nI 1) (by decide +kernel) dLa_law_351 ?_
    refine xz_iadd hC (z := nI (i + 1)) (nI_add _ _) dLa_law_352 ?_
    refine xl_sld hC hX (by omega) (by omega) dLa_law_353 ?_
    refine xz_aload_n hC 3 rfl rfl dLa_law_354 ?_
    refine xz_iload_n hC 0 rfl rfl dLa_law_355 ?_
    refine xz_iconst hC (v := nI 2) (by decide +kernel) dLa_law_356 ?_
    refine xz_iadd hC (z := nI (i + 2)) (nI_add _ _) dLa_law_357 ?_
    refine xl_sld hC hX (by omega) (by omega) dLa_law_358 ?_
    refine xz_callVF hC (mMo_triple l D K mo wo le lt pe st pt rr vl bo kp bb dn n m mg qc ma fd lv Pe pp (xs (i + 1)) (xs (i + 2)) hn hp) kMo_triple tq7 tq554 tq555 tq556 6 rfl rfl rfl hMo_triple (by decide) (As := [.int (xs (i + 1)), .int (xs (i + 2))]) (rest := [.int (nI c)]) rfl rfl (Nat.le_of_ble_eq_true rfl) (by decide) dLa_law_359 (fun v w hq => ?_)
    rcases hq with ⟨rfl, ⟨hc2, rfl⟩ | ⟨hc2, i2, hi2, rfl, hct2⟩ | ⟨hc2, rfl, hct2⟩⟩
    · skip
      exact absurd hc hc2
    · skip
      obtain ⟨⟨i3, hi3, hpi3, hct3⟩, huni⟩ := iv_rank6 (w := xi (xs (i + 1))) (k := xi (xs (i + 2))) hO (by unfold xi; omega) hpn (fun j hj => (hp j hj).2) (by unfold xi; omega) hcc hkw
      have hval : c = pp i2 := (huni i2 hi2 hct2).symm
      have hp15 := (hp i2 hi2).2
      refine xz_ste (st' := [.int (nI (pp i2)), .int (nI c)]) rfl ?_
      refine xz_icmp_eq hC (tgt := 510) (nI_toInt (by omega)) (nI_toInt (by omega)) (by decide) dLa_law_362 (fun h1 => ?_) (fun h1 => ?_)
      · skip
        exact back _ ⟨di, pw, ln, ts, pr, os, ks, qu, nu, se, rw, pl, ho, ag, bi, an, fa, oa, ka, wo, le, lt, pe, st, pt, rr, vl, bo, kp, dn, bb, n, m, pd, mg, qc, rl, wn, pn, fd, lv, ma, lN (xw_pk bw bb), Pw, Lw, f, e, F, Rw, Pl, Ho, Ag, Bi, An, Wo, Le, Lt, Pe, St, Pt, Rr, Vl, Bo, Kp, wl, wc, bw, g, h, pp, s0, q, (fr_sw _ _ _).trans (iv_p10 K xo mo di pw ln ts pr os ks qu nu se rw pl ho ag bi an fa oa ka wo le lt pe st pt rr vl bo kp dn bb n m pd mg qc rl wn pn fd lv ma (lN (xw_pk bw bb)) Pw Lw f e F Rw Pl Ho Ag Bi An Wo Le Lt Pe St Pt Rr Vl Bo Kp).symm, rfl, hfa, hD, hS, hQ, hA⟩
      · skip
        exact absurd (congrArg (fun z : Nat => (z : Int)) hval) h1
    · skip
      obtain ⟨⟨i3, hi3, hpi3, hct3⟩, huni⟩ := iv_rank6 (w := xi (xs (i + 1))) (k := xi (xs (i + 2))) hO (by unfold xi; omega) hpn (fun j hj => (hp j hj).2) (by unfold xi; omega) hcc hkw
      exact absurd hct3 (hct2 i3 hi3)
  · skip
    refine xz_ste (st' := [.int (-1)]) rfl ?_
    refine xz_swap ?_
    refine xz_aload_n hC 1 rfl rfl dLa_law_348 ?_
    refine xz_aload_n hC 3 rfl rfl dLa_law_349 ?_
    refine xz_iload_n hC 0 rfl rfl dLa_law_350 ?_
    refine xz_iconst hC (v := nI 1) (by decide +kernel) dLa_law_351 ?_
    refine xz_iadd hC (z := nI (i + 1)) (nI_add _ _) dLa_law_352 ?_
    refine xl_sld hC hX (by omega) (by omega) dLa_law_353 ?_
    refine xz_aload_n hC 3 rfl rfl dLa_law_354 ?_
    refine xz_iload_n hC 0 rfl rfl dLa_law_355 ?_
    refine xz_iconst hC (v := nI 2) (by decide +kernel) dLa_law_356 ?_
    refine xz_iadd hC (z := nI (i + 2)) (nI_add _ _) dLa_law_357 ?_
    refine xl_sld hC hX (by omega) (by omega) dLa_law_358 ?_
    refine xz_callVF hC (mMo_triple l D K mo wo le lt pe st pt rr vl bo kp bb dn n m mg qc ma fd lv Pe pp (xs (i + 1)) (xs (i + 2)) hn hp) kMo_triple tq7 tq554 tq555 tq556 6 rfl rfl rfl hMo_triple (by decide) (As := [.int (xs (i + 1)), .int (xs (i + 2))]) (rest := [.int (-1)]) rfl rfl (Nat.le_of_ble_eq_true rfl) (by decide) dLa_law_359 (fun v w hq => ?_)
    rcases hq with ⟨rfl, ⟨hc2, rfl⟩ | ⟨hc2, i2, hi2, rfl, hct2⟩ | ⟨hc2, rfl, hct2⟩⟩
    · skip
      refine xz_ste (st' := [.int (-1), .int (-1)]) rfl ?_
      refine xz_icmp_eq hC (tgt := 510) rfl rfl (by decide) dLa_law_362 (fun h2 => ?_) (fun h2 => ?_)
      · skip
        exact back _ ⟨di, pw, ln, ts, pr, os, ks, qu, nu, se, rw, pl, ho, ag, bi, an, fa, oa, ka, wo, le, lt, pe, st, pt, rr, vl, bo, kp, dn, bb, n, m, pd, mg, qc, rl, wn, pn, fd, lv, ma, lN (xw_pk bw bb), Pw, Lw, f, e, F, Rw, Pl, Ho, Ag, Bi, An, Wo, Le, Lt, Pe, St, Pt, Rr, Vl, Bo, Kp, wl, wc, bw, g, h, pp, s0, q, (fr_sw _ _ _).trans (iv_p10 K xo mo di pw ln ts pr os ks qu nu se rw pl ho ag bi an fa oa ka wo le lt pe st pt rr vl bo kp dn bb n m pd mg qc rl wn pn fd lv ma (lN (xw_pk bw bb)) Pw Lw f e F Rw Pl Ho Ag Bi An Wo Le Lt Pe St Pt Rr Vl Bo Kp).symm, rfl, hfa, hD, hS, hQ, hA⟩
      · skip
        exact absurd rfl h2
    · skip
      exact absurd hc2 hc
    · skip
      exact absurd hc2 hc
