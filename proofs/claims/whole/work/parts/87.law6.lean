def iv_R4 (K : Nat → ClassId) (pw : Nat) (ln : Nat) (qu : Nat) (nu : Nat) (se : Nat) (rw : Nat) (pl : Nat) (ho : Nat) (ag : Nat) (bi : Nat) (an : Nat) (wo : Nat) (le : Nat) (lt : Nat) (pt : Nat) (rr : Nat) (vl : Nat) (bo : Nat) (kp : Nat) (qc : Nat) (rl : Nat) (wn : Nat) (pn : Nat) (fd : Nat) (lv : Nat) (Pw : Nat → Int64) (Lw : Nat → Int32) (F : Nat → Int32) (Rw : Nat → Int32) (Pl : Nat → Int32) (Ho : Nat → Int64) (Ag : Nat → Int64) (Bi : Nat → Int32) (An : Nat → Int32) (Wo : Nat → Int32) (Le : Nat → Int32) (Lt : Nat → Int32) (Pt : Nat → Int32) (Rr : Nat → Int32) (Vl : Nat → Int32) (Bo : Nat → Int32) (Kp : Nat → Int32) : va_W := [(pw, .inl (K 1, 24, .inr (.inl Pw))), (ln, .inl (K 0, 24, .inl Lw)), (qu, .inr (2, [.ref nu, .int (nI qc)])), (nu, .inl (K 0, 12, .inl F)), (se, .inr (3, [.ref rw, .int (nI rl), .int (nI wn), .int (nI pn), .ref pl, .ref ho, .ref ag, .ref bi, .ref an, .int (nI fd), .int (nI lv)])), (rw, .inl (K 0, 3, .inl Rw)), (pl, .inl (K 0, 12, .inl Pl)), (ho, .inl (K 1, 72, .inr (.inl Ho))), (ag, .inl (K 1, 16, .inr (.inl Ag))), (bi, .inl (K 0, 3, .inl Bi)), (an, .inl (K 0, 600, .inl An)), (wo, .inl (K 2, 6, .inl Wo)), (le, .inl (K 0, 24, .inl Le)), (lt, .inl (K 2, 144, .inl Lt)), (pt, .inl (K 0, 12, .inl Pt)), (rr, .inl (K 0, 3, .inl Rr)), (vl, .inl (K 0, 3, .inl Vl)), (bo, .inl (K 3, 3, .inl Bo)), (kp, .inl (K 0, 600, .inl Kp))]
set_option maxRecDepth 100000 in
theorem iv_p4 (K : Nat → ClassId) (xo : Nat) (mo : Nat) (di : Nat) (pw : Nat) (ln : Nat) (ts : Nat) (pr : Nat) (os : Nat) (ks : Nat) (qu : Nat) (nu : Nat) (se : Nat) (rw : Nat) (pl : Nat) (ho : Nat) (ag : Nat) (bi : Nat) (an : Nat) (fa : Nat → Option Nat) (oa : Nat → Nat) (ka : Nat → Nat) (wo : Nat) (le : Nat) (lt : Nat) (pe : Nat) (st : Nat) (pt : Nat) (rr : Nat) (vl : Nat) (bo : Nat) (kp : Nat) (dn : Nat) (bb : Nat) (n : Nat) (m : Nat) (pd : Nat) (mg : Nat) (qc : Nat) (rl : Nat) (wn : Nat) (pn : Nat) (fd : Nat) (lv : Nat) (ma : Nat) (bg : Int64) (Pw : Nat → Int64) (Lw : Nat → Int32) (f : Nat → Nat → Int32) (e : Nat → Int32) (F : Nat → Int32) (Rw : Nat → Int32) (Pl : Nat → Int32) (Ho : Nat → Int64) (Ag : Nat → Int64) (Bi : Nat → Int32) (An : Nat → Int32) (Wo : Nat → Int32) (Le : Nat → Int32) (Lt : Nat → Int32) (Pe : Nat → Int32) (St : Nat → Int32) (Pt : Nat → Int32) (Rr : Nat → Int32) (Vl : Nat → Int32) (Bo : Nat → Int32) (Kp : Nat → Int32) : (iv_W K xo mo di pw ln ts pr os ks qu nu se rw pl ho ag bi an fa oa ka wo le lt pe st pt rr vl bo kp dn bb n m pd mg qc rl wn pn fd lv ma bg Pw Lw f e F Rw Pl Ho Ag Bi An Wo Le Lt Pe St Pt Rr Vl Bo Kp).Perm ([(xo, .inr (5, [.ref di, .ref ts, .ref qu, .ref se])), (di, .inr (0, [.ref pw, .ref ln, .int (nI dn), .long bg, .int (nI bb)])), (ts, .inr (4, [.ref pr, .ref os, .int (nI pd), .int (nI mg)])), (pr, .inl (K 4, 6, .inr (.inr (.inr (.inr fa))))), (oa 0, .inr (1, [.int (nI 0), .int (nI 1), .int (nI 2), .ref (ka 0), .int (nI n)])), (ka 0, .inl (K 0, 60, .inl (f 0))), (oa 1, .inr (1, [.int (nI 0), .int (nI 2), .int (nI 1), .ref (ka 1), .int (nI n)])), (ka 1, .inl (K 0, 60, .inl (f 1))), (oa 2, .inr (1, [.int (nI 1), .int (nI 0), .int (nI 2), .ref (ka 2), .int (nI n)])), (ka 2, .inl (K 0, 60, .inl (f 2))), (oa 3, .inr (1, [.int (nI 1), .int (nI 2), .int (nI 0), .ref (ka 3), .int (nI n)])), (ka 3, .inl (K 0, 60, .inl (f 3))), (oa 4, .inr (1, [.int (nI 2), .int (nI 0), .int (nI 1), .ref (ka 4), .int (nI n)])), (ka 4, .inl (K 0, 60, .inl (f 4))), (oa 5, .inr (1, [.int (nI 2), .int (nI 1), .int (nI 0), .ref (ka 5), .int (nI n)])), (ka 5, .inl (K 0, 60, .inl (f 5))), (os, .inr (1, [.int (nI 0), .int (nI 1), .int (nI 2), .ref ks, .int (nI m)])), (ks, .inl (K 0, 60, .inl e))] ++ ([(mo, .inr (6, [.int (nI bb), .ref wo, .int (nI dn), .ref le, .ref lt, .int (nI n), .ref pe, .int (nI m), .ref st, .int (nI mg), .int (nI qc), .ref pt, .int (nI ma), .ref rr, .ref vl, .ref bo, .int (nI fd), .ref kp, .int (nI lv)])), (pe, .inl (K 0, 60, .inl Pe)), (st, .inl (K 0, 60, .inl St))] ++ iv_R4 K pw ln qu nu se rw pl ho ag bi an wo le lt pt rr vl bo kp qc rl wn pn fd lv Pw Lw F Rw Pl Ho Ag Bi An Wo Le Lt Pt Rr Vl Bo Kp)) := fr_pn 40 _ [0, 1, 4, 5, 6, 7, 8, 9, 10, 11, 12, 13, 14, 15, 16, 17, 18, 19, 29, 33, 34, 2, 3, 20, 21, 22, 23, 24, 25, 26, 27, 28, 30, 31, 32, 35, 36, 37, 38, 39] rfl (by decide +kernel) rfl
set_option maxHeartbeats 1000000 in
set_option maxRecDepth 100000 in
theorem xl_c4 {Γ : xz_G} {l : Launch} {D : va_G} {K : Nat → ClassId} {nm : String} {Qp : xz_P} {b L : Nat} {xs : Nat → Int32} (hC : xz_C Γ l D (tz K) code 4 "SixfoldTriplesLaw" room_1 (some .boolean) nm Qp) (hX : xl_S Γ b L xs) (hL : L ≤ 2048) (i xo mo : Nat) (hi : i + 4 ≤ L) {ws : va_W} (hI : iv_J K xo mo ws) (back : ∀ ws', iv_J K xo mo ws' → xz_X Γ 40 2187 ws' 510 [(3, .int (nI i)), (2, .ref mo), (1, .ref xo), (0, .ref b)] []) : xz_X Γ 40 2187 ws 196 [(3, .int (nI i)), (2, .ref mo), (1, .ref xo), (0, .ref b)] [] := by
  obtain ⟨di, pw, ln, ts, pr, os, ks, qu, nu, se, rw, pl, ho, ag, bi, an, fa, oa, ka, wo, le, lt, pe, st, pt, rr, vl, bo, kp, dn, bb, n, m, pd, mg, qc, rl, wn, pn, fd, lv, ma, bg, Pw, Lw, f, e, F, Rw, Pl, Ho, Ag, Bi, An, Wo, Le, Lt, Pe, St, Pt, Rr, Vl, Bo, Kp, wl, wc, bw, g, h, pp, s0, q, hpm, rfl, hfa, hD, hS, hQ, hA⟩ := hI
  refine xz_perm (hpm.trans (iv_p4 K xo mo di pw ln ts pr os ks qu nu se rw pl ho ag bi an fa oa ka wo le lt pe st pt rr vl bo kp dn bb n m pd mg qc rl wn pn fd lv ma (lN (xw_pk bw bb)) Pw Lw f e F Rw Pl Ho Ag Bi An Wo Le Lt Pe St Pt Rr Vl Bo Kp)) ?_
  clear hpm
  obtain ⟨hn, hm, hO, hSs, hp, hpn, hs, hsn, hpd, hp12, h24⟩ := id hS
  have hdn := hD.1
  refine xz_aload_n hC 2 rfl rfl dLa_law_196 ?_
  refine xz_aload_n hC 3 rfl rfl dLa_law_197 ?_
  refine xz_iload_n hC 0 rfl rfl dLa_law_198 ?_
  refine xz_iconst hC (v := nI 1) (by decide +kernel) dLa_law_199 ?_
  refine xz_iadd hC (z := nI (i + 1)) (nI_add _ _) dLa_law_200 ?_
  refine xl_sld hC hX (by omega) (by omega) dLa_law_201 ?_
  refine xz_aload_n hC 3 rfl rfl dLa_law_202 ?_
  refine xz_iload_n hC 0 rfl rfl dLa_law_203 ?_
  refine xz_iconst hC (v := nI 2) (by decide +kernel) dLa_law_204 ?_
  refine xz_iadd hC (z := nI (i + 2)) (nI_add _ _) dLa_law_205 ?_
  refine xl_sld hC hX (by omega) (by omega) dLa_law_206 ?_
  refine xz_aload_n hC 3 rfl rfl dLa_law_207 ?_
  refine xz_iload_n hC 0 rfl rfl dLa_law_208 ?_
  refine xz_iconst hC (v := nI 3) (by decide +kernel) dLa_law_209 ?_
  refine xz_iadd hC (z := nI (i + 3)) (nI_add _ _) dLa_law_210 ?_
  refine xl_sld hC hX (by omega) (by omega) dLa_law_211 ?_
  refine xz_callVF hC (mSx_insert l D K xo di ts qu se pw ln dn (xw_pk bw bb) bb pr os ks n pd mg m fa oa ka f e g h (xo_mem pp n) (xo_mem s0 m) (xs (i + 1)) (xs (i + 2)) (xs (i + 3)) hfa hD.1 hn hm (by omega) hO hSs (fun a b => by have z := iv_pos1 a b; omega)) kSx_insert tq1 tq198 tq199 tq200 5 rfl rfl rfl hSx_insert (by decide) (As := [.int (xs (i + 1)), .int (xs (i + 2)), .int (xs (i + 3))]) (rest := []) rfl rfl (Nat.le_of_ble_eq_true rfl) (by decide) dLa_law_212 (fun v w hq => ?_)
  rcases hq with ⟨h0, rfl, rfl⟩ | ⟨h0, hP, rfl, rfl⟩ | ⟨h0, hP, h60, rfl, rfl⟩ | ⟨h0, hP, h60, rfl, f', g', e', h', m', pd', mg', b0, S', rfl, q1, q2, q3, q4⟩
  · skip
    refine xz_ste (st' := [.int (-1)]) rfl ?_
    refine xz_swap ?_
    refine xz_aload_n hC 1 rfl rfl dLa_law_215 ?_
    refine xz_aload_n hC 3 rfl rfl dLa_law_216 ?_
    refine xz_iload_n hC 0 rfl rfl dLa_law_217 ?_
    refine xz_iconst hC (v := nI 1) (by decide +kernel) dLa_law_218 ?_
    refine xz_iadd hC (z := nI (i + 1)) (nI_add _ _) dLa_law_219 ?_
    refine xl_sld hC hX (by omega) (by omega) dLa_law_220 ?_
    refine xz_aload_n hC 3 rfl rfl dLa_law_221 ?_
    refine xz_iload_n hC 0 rfl rfl dLa_law_222 ?_
    refine xz_iconst hC (v := nI 2) (by decide +kernel) dLa_law_223 ?_
    refine xz_iadd hC (z := nI (i + 2)) (nI_add _ _) dLa_law_224 ?_
    refine xl_sld hC hX (by omega) (by omega) dLa_law_225 ?_
    refine xz_aload_n hC 3 rfl rfl dLa_law_226 ?_
    refine xz_iload_n hC 0 rfl rfl dLa_law_227 ?_
    refine xz_iconst hC (v := nI 3) (by decide +kernel) dLa_law_228 ?_
    refine xz_iadd hC (z := nI (i + 3)) (nI_add _ _) dLa_law_229 ?_
    refine xl_sld hC hX (by omega) (by omega) dLa_law_230 ?_
    refine xz_callVF hC (mMo_insert l D K mo wo le lt pe st pt rr vl bo kp bb dn n m mg qc ma fd lv Pe St pp s0 (xs (i + 1)) (xs (i + 2)) (xs (i + 3)) hD.1 hn hm hp hs) kMo_insert tq7 tq526 tq527 tq528 6 rfl rfl rfl hMo_insert (by decide) (As := [.int (xs (i + 1)), .int (xs (i + 2)), .int (xs (i + 3))]) (rest := [.int (-1)]) rfl rfl (Nat.le_of_ble_eq_true rfl) (by decide) dLa_law_231 (fun v w hq => ?_)
    rcases hq with ⟨g0, rfl, rfl⟩ | ⟨g0, gP, rfl, rfl⟩ | ⟨g0, gP, g60, rfl, rfl⟩ | ⟨g0, gP, g60, rfl, ⟨hne, rfl⟩ | ⟨he, St', rfl, hst⟩⟩
    · skip
      refine xz_ste (st' := [.int (-1), .int (-1)]) rfl ?_
      refine xz_icmp_eq hC (tgt := 510) rfl rfl (by decide) dLa_law_234 (fun h1 => ?_) (fun h1 => ?_)
      · skip
        exact back _ ⟨di, pw, ln, ts, pr, os, ks, qu, nu, se, rw, pl, ho, ag, bi, an, fa, oa, ka, wo, le, lt, pe, st, pt, rr, vl, bo, kp, dn, bb, n, m, pd, mg, qc, rl, wn, pn, fd, lv, ma, lN (xw_pk bw bb), Pw, Lw, f, e, F, Rw, Pl, Ho, Ag, Bi, An, Wo, Le, Lt, Pe, St, Pt, Rr, Vl, Bo, Kp, wl, wc, bw, g, h, pp, s0, q, (fr_sw _ _ _).trans (iv_p4 K xo mo di pw ln ts pr os ks qu nu se rw pl ho ag bi an fa oa ka wo le lt pe st pt rr vl bo kp dn bb n m pd mg qc rl wn pn fd lv ma (lN (xw_pk bw bb)) Pw Lw f e F Rw Pl Ho Ag Bi An Wo Le Lt Pe St Pt Rr Vl Bo Kp).symm, rfl, hfa, hD, hS, hQ, hA⟩
      · skip
        exact absurd rfl h1
    · skip
      first | exact absurd g0 h0 | exact absurd h0 g0 | exact absurd gP hP | exact absurd hP gP | (exfalso; omega)
    · skip
      first | exact absurd g0 h0 | exact absurd h0 g0 | exact absurd gP hP | exact absurd hP gP | (exfalso; omega)
    · skip
      first | exact absurd g0 h0 | exact absurd h0 g0 | exact absurd gP hP | exact absurd hP gP | (exfalso; omega)
    · skip
      first | exact absurd g0 h0 | exact absurd h0 g0 | exact absurd gP hP | exact absurd hP gP | (exfalso; omega)
  · skip
    refine xz_ste (st' := [.int (nI 0)]) rfl ?_
    refine xz_swap ?_
    refine xz_aload_n hC 1 rfl rfl dLa_law_215 ?_
    refine xz_aload_n hC 3 rfl rfl dLa_law_216 ?_
    refine xz_iload_n hC 0 rfl rfl dLa_law_217 ?_
    refine xz_iconst hC (v := nI 1) (by decide +kernel) dLa_law_218 ?_
    refine xz_iadd hC (z := nI (i + 1)) (nI_add _ _) dLa_law_219 ?_
    refine xl_sld hC hX (by omega) (by omega) dLa_law_220 ?_
    refine xz_aload_n hC 3 rfl rfl dLa_law_221 ?_
    refine xz_iload_n hC 0 rfl rfl dLa_law_222 ?_
    refine xz_iconst hC (v := nI 2) (by decide +kernel) dLa_law_223 ?_
    refine xz_iadd hC (z := nI (i + 2)) (nI_add _ _) dLa_law_224 ?_
    refine xl_sld hC hX (by omega) (by omega) dLa_law_225 ?_
    refine xz_aload_n hC 3 rfl rfl dLa_law_226 ?_
    refine xz_iload_n hC 0 rfl rfl dLa_law_227 ?_
    refine xz_iconst hC (v := nI 3) (by decide +kernel) dLa_law_228 ?_
    refine xz_iadd hC (z := nI (i + 3)) (nI_add _ _) dLa_law_229 ?_
    refine xl_sld hC hX (by omega) (by omega) dLa_law_230 ?_
    refine xz_callVF hC (mMo_insert l D K mo wo le lt pe st pt rr vl bo kp bb dn n m mg qc ma fd lv Pe St pp s0 (xs (i + 1)) (xs (i + 2)) (xs (i + 3)) hD.1 hn hm hp hs) kMo_insert tq7 tq526 tq527 tq528 6 rfl rfl rfl hMo_insert (by decide) (As := [.int (xs (i + 1)), .int (xs (i + 2)), .int (xs (i + 3))]) (rest := [.int (nI 0)]) rfl rfl (Nat.le_of_ble_eq_true rfl) (by decide) dLa_law_231 (fun v w hq => ?_)
    rcases hq with ⟨g0, rfl, rfl⟩ | ⟨g0, gP, rfl, rfl⟩ | ⟨g0, gP, g60, rfl, rfl⟩ | ⟨g0, gP, g60, rfl, ⟨hne, rfl⟩ | ⟨he, St', rfl, hst⟩⟩
    · skip
      first | exact absurd g0 h0 | exact absurd h0 g0 | exact absurd gP hP | exact absurd hP gP | (exfalso; omega)
    · skip
      refine xz_ste (st' := [.int (nI 0), .int (nI 0)]) rfl ?_
      refine xz_icmp_eq hC (tgt := 510) rfl rfl (by decide) dLa_law_234 (fun h2 => ?_) (fun h2 => ?_)
      · skip
        exact back _ ⟨di, pw, ln, ts, pr, os, ks, qu, nu, se, rw, pl, ho, ag, bi, an, fa, oa, ka, wo, le, lt, pe, st, pt, rr, vl, bo, kp, dn, bb, n, m, pd, mg, qc, rl, wn, pn, fd, lv, ma, lN (xw_pk bw bb), Pw, Lw, f, e, F, Rw, Pl, Ho, Ag, Bi, An, Wo, Le, Lt, Pe, St, Pt, Rr, Vl, Bo, Kp, wl, wc, bw, g, h, pp, s0, q, (fr_sw _ _ _).trans (iv_p4 K xo mo di pw ln ts pr os ks qu nu se rw pl ho ag bi an fa oa ka wo le lt pe st pt rr vl bo kp dn bb n m pd mg qc rl wn pn fd lv ma (lN (xw_pk bw bb)) Pw Lw f e F Rw Pl Ho Ag Bi An Wo Le Lt Pe St Pt Rr Vl Bo Kp).symm, rfl, hfa, hD, hS, hQ, hA⟩
      · skip
        exact absurd rfl h2
    · skip
      first | exact absurd g0 h0 | exact absurd h0 g0 | exact absurd gP hP | exact absurd hP gP | (exfalso; omega)
    · skip
      first | exact absurd g0 h0 | exact absurd h0 g0 | exact absurd gP hP | exact absurd hP gP | (exfalso; omega)
    · skip
      first | exact absurd g0 h0 | exact absurd h0 g0 | exact absurd gP hP | exact absurd hP gP | (exfalso; omega)
  · skip
    refine xz_ste (st' := [.int (-2)]) rfl ?_
    refine xz_swap ?_
    refine xz_aload_n hC 1 rfl rfl dLa_law_215 ?_
    refine xz_aload_n hC 3 rfl rfl dLa_law_216 ?_
    refine xz_iload_n hC 0 rfl rfl dLa_law_217 ?_
    refine xz_iconst hC (v := nI 1) (by decide +kernel) dLa_law_218 ?_
    refine xz_iadd hC (z := nI (i + 1)) (nI_add _ _) dLa_law_219 ?_
    refine xl_sld hC hX (by omega) (by omega) dLa_law_220 ?_
    refine xz_aload_n hC 3 rfl rfl dLa_law_221 ?_
    refine xz_iload_n hC 0 rfl rfl dLa_law_222 ?_
    refine xz_iconst hC (v := nI 2) (by decide +kernel) dLa_law_223 ?_
    refine xz_iadd hC (z := nI (i + 2)) (nI_add _ _) dLa_law_224 ?_
    refine xl_sld hC hX (by omega) (by omega) dLa_law_225 ?_
    refine xz_aload_n hC 3 rfl rfl dLa_law_226 ?_
    refine xz_iload_n hC 0 rfl rfl dLa_law_227 ?_
    refine xz_iconst hC (v := nI 3) (by decide +kernel) dLa_law_228 ?_
    refine xz_iadd hC (z := nI (i + 3)) (nI_add _ _) dLa_law_229 ?_
    refine xl_sld hC hX (by omega) (by omega) dLa_law_230 ?_
    refine xz_callVF hC (mMo_insert l D K mo wo le lt pe st pt rr vl bo kp bb dn n m mg qc ma fd lv Pe St pp s0 (xs (i + 1)) (xs (i + 2)) (xs (i + 3)) hD.1 hn hm hp hs) kMo_insert tq7 tq526 tq527 tq528 6 rfl rfl rfl hMo_insert (by decide) (As := [.int (xs (i + 1)), .int (xs (i + 2)), .int (xs (i + 3))]) (rest := [.int (-2)]) rfl rfl (Nat.le_of_ble_eq_true rfl) (by decide) dLa_law_231 (fun v w hq => ?_)
    rcases hq with ⟨g0, rfl, rfl⟩ | ⟨g0, gP, rfl, rfl⟩ | ⟨g0, gP, g60, rfl, rfl⟩ | ⟨g0, gP, g60, rfl, ⟨hne, rfl⟩ | ⟨he, St', rfl, hst⟩⟩
    · skip
      first | exact absurd g0 h0 | exact absurd h0 g0 | exact absurd gP hP | exact absurd hP gP | (exfalso; omega)
    · skip
      first | exact absurd g0 h0 | exact absurd h0 g0 | exact absurd gP hP | exact absurd hP gP | (exfalso; omega)
    · skip
      refine xz_ste (st' := [.int (-2), .int (-2)]) rfl ?_
      refine xz_icmp_eq hC (tgt := 510) rfl rfl (by decide) dLa_law_234 (fun h3 => ?_) (fun h3 => ?_)
      · skip
        exact back _ ⟨di, pw, ln, ts, pr, os, ks, qu, nu, se, rw, pl, ho, ag, bi, an, fa, oa, ka, wo, le, lt, pe, st, pt, rr, vl, bo, kp, dn, bb, n, m, pd, mg, qc, rl, wn, pn, fd, lv, ma, lN (xw_pk bw bb), Pw, Lw, f, e, F, Rw, Pl, Ho, Ag, Bi, An, Wo, Le, Lt, Pe, St, Pt, Rr, Vl, Bo, Kp, wl, wc, bw, g, h, pp, s0, q, (fr_sw _ _ _).trans (iv_p4 K xo mo di pw ln ts pr os ks qu nu se rw pl ho ag bi an fa oa ka wo le lt pe st pt rr vl bo kp dn bb n m pd mg qc rl wn pn fd lv ma (lN (xw_pk bw bb)) Pw Lw f e F Rw Pl Ho Ag Bi An Wo Le Lt Pe St Pt Rr Vl Bo Kp).symm, rfl, hfa, hD, hS, hQ, hA⟩
      · skip
        exact absurd rfl h3
    · skip
      first | exact absurd g0 h0 | exact absurd h0 g0 | exact absurd gP hP | exact absurd hP gP | (exfalso; omega)
    · skip
      first | exact absurd g0 h0 | exact absurd h0 g0 | exact absurd gP hP | exact absurd hP gP | (exfalso; omega)
  · skip
    refine xz_ste (st' := [.int (nI 1)]) rfl ?_
    refine xz_swap ?_
    refine xz_aload_n hC 1 rfl rfl dLa_law_215 ?_
    refine xz_aload_n hC 3 rfl rfl dLa_law_216 ?_
    refine xz_iload_n hC 0 rfl rfl dLa_law_217 ?_
    refine xz_iconst hC (v := nI 1) (by decide +kernel) dLa_law_218 ?_
    refine xz_iadd hC (z := nI (i + 1)) (nI_add _ _) dLa_law_219 ?_
    refine xl_sld hC hX (by omega) (by omega) dLa_law_220 ?_
    refine xz_aload_n hC 3 rfl rfl dLa_law_221 ?_
    refine xz_iload_n hC 0 rfl rfl dLa_law_222 ?_
    refine xz_iconst hC (v := nI 2) (by decide +kernel) dLa_law_223 ?_
    refine xz_iadd hC (z := nI (i + 2)) (nI_add _ _) dLa_law_224 ?_
    refine xl_sld hC hX (by omega) (by omega) dLa_law_225 ?_
    refine xz_aload_n hC 3 rfl rfl dLa_law_226 ?_
    refine xz_iload_n hC 0 rfl rfl dLa_law_227 ?_
    refine xz_iconst hC (v := nI 3) (by decide +kernel) dLa_law_228 ?_
    refine xz_iadd hC (z := nI (i + 3)) (nI_add _ _) dLa_law_229 ?_
    refine xl_sld hC hX (by omega) (by omega) dLa_law_230 ?_
    refine xz_callVF hC (mMo_insert l D K mo wo le lt pe st pt rr vl bo kp bb dn n m mg qc ma fd lv Pe St pp s0 (xs (i + 1)) (xs (i + 2)) (xs (i + 3)) hD.1 hn hm hp hs) kMo_insert tq7 tq526 tq527 tq528 6 rfl rfl rfl hMo_insert (by decide) (As := [.int (xs (i + 1)), .int (xs (i + 2)), .int (xs (i + 3))]) (rest := [.int (nI 1)]) rfl rfl (Nat.le_of_ble_eq_true rfl) (by decide) dLa_law_231 (fun v w hq => ?_)
    rcases hq with ⟨g0, rfl, rfl⟩ | ⟨g0, gP, rfl, rfl⟩ | ⟨g0, gP, g60, rfl, rfl⟩ | ⟨g0, gP, g60, rfl, ⟨hne, rfl⟩ | ⟨he, St', rfl, hst⟩⟩
    · skip
      first | exact absurd g0 h0 | exact absurd h0 g0 | exact absurd gP hP | exact absurd hP gP | (exfalso; omega)
    · skip
      first | exact absurd g0 h0 | exact absurd h0 g0 | exact absurd gP hP | exact absurd hP gP | (exfalso; omega)
    · skip
      first | exact absurd g0 h0 | exact absurd h0 g0 | exact absurd gP hP | exact absurd hP gP | (exfalso; omega)
    · skip
      have hx1 : xi (xs (i + 1)) < dn := by unfold xi; omega
      have hx2 : xi (xs (i + 2)) < dn := by unfold xi; omega
      have hx3 : xi (xs (i + 3)) < dn := by unfold xi; omega
      have hcl : xk_cd (xi (xs (i + 1))) (xi (xs (i + 2))) (xi (xs (i + 3))) < 32768 := xk_cd_lt (by omega) (by omega) (by omega)
      have hpt : ∀ j, j < 3 → xk_pt (xk_cd (xi (xs (i + 1))) (xi (xs (i + 2))) (xi (xs (i + 3)))) j < dn := iv_pt3 (by omega) hx1 hx2 hx3
      have HI := iv_insert hS hcl hpt hP h60 q1 q2 q3 q4
      obtain ⟨ea, eb, hS'⟩ := HI.1 hne
      have ea := ea.symm
      subst ea
      have eb := eb.symm
      subst eb
      refine xz_ste (st' := [.int (nI 1), .int (nI 1)]) rfl ?_
      refine xz_icmp_eq hC (tgt := 510) rfl rfl (by decide) dLa_law_234 (fun h4 => ?_) (fun h4 => ?_)
      · skip
        exact back _ ⟨di, pw, ln, ts, pr, os, ks, qu, nu, se, rw, pl, ho, ag, bi, an, fa, oa, ka, wo, le, lt, pe, st, pt, rr, vl, bo, kp, dn, bb, n + 1, m, pd', mg, qc, rl, wn, pn, fd, lv, ma, lN (xw_pk bw bb), Pw, Lw, f', e', F, Rw, Pl, Ho, Ag, Bi, An, Wo, Le, Lt, upd Pe n (nI (xk_cd (xi (xs (i + 1))) (xi (xs (i + 2))) (xi (xs (i + 3))))), St, Pt, Rr, Vl, Bo, Kp, wl, wc, bw, g', h', xm_add pp n (xk_cd (xi (xs (i + 1))) (xi (xs (i + 2))) (xi (xs (i + 3)))), s0, q, (fr_sw _ _ _).trans (iv_p4 K xo mo di pw ln ts pr os ks qu nu se rw pl ho ag bi an fa oa ka wo le lt pe st pt rr vl bo kp dn bb (n + 1) m pd' mg qc rl wn pn fd lv ma (lN (xw_pk bw bb)) Pw Lw f' e' F Rw Pl Ho Ag Bi An Wo Le Lt (upd Pe n (nI (xk_cd (xi (xs (i + 1))) (xi (xs (i + 2))) (xi (xs (i + 3)))))) St Pt Rr Vl Bo Kp).symm, rfl, hfa, hD, hS', hQ, hA⟩
      · skip
        exact absurd rfl h4
    · skip
      have hx1 : xi (xs (i + 1)) < dn := by unfold xi; omega
      have hx2 : xi (xs (i + 2)) < dn := by unfold xi; omega
      have hx3 : xi (xs (i + 3)) < dn := by unfold xi; omega
      have hcl : xk_cd (xi (xs (i + 1))) (xi (xs (i + 2))) (xi (xs (i + 3))) < 32768 := xk_cd_lt (by omega) (by omega) (by omega)
      have hpt : ∀ j, j < 3 → xk_pt (xk_cd (xi (xs (i + 1))) (xi (xs (i + 2))) (xi (xs (i + 3)))) j < dn := iv_pt3 (by omega) hx1 hx2 hx3
      have HI := iv_insert hS hcl hpt hP h60 q1 q2 q3 q4
      obtain ⟨ea, eb, hSz⟩ := HI.2 he
      have ea := ea.symm
      subst ea
      subst eb
      have hS' := hSz St' hst
      refine xz_ste (st' := [.int (nI 1), .int (nI 1)]) rfl ?_
      refine xz_icmp_eq hC (tgt := 510) rfl rfl (by decide) dLa_law_234 (fun h5 => ?_) (fun h5 => ?_)
      · skip
        exact back _ ⟨di, pw, ln, ts, pr, os, ks, qu, nu, se, rw, pl, ho, ag, bi, an, fa, oa, ka, wo, le, lt, pe, st, pt, rr, vl, bo, kp, dn, bb, n + 1, n, pd', mg + 1, qc, rl, wn, pn, fd, lv, ma, lN (xw_pk bw bb), Pw, Lw, f', e', F, Rw, Pl, Ho, Ag, Bi, An, Wo, Le, Lt, upd Pe n (nI (xk_cd (xi (xs (i + 1))) (xi (xs (i + 2))) (xi (xs (i + 3))))), St', Pt, Rr, Vl, Bo, Kp, wl, wc, bw, g', h', xm_add pp n (xk_cd (xi (xs (i + 1))) (xi (xs (i + 2))) (xi (xs (i + 3)))), pp, q, (fr_sw _ _ _).trans (iv_p4 K xo mo di pw ln ts pr os ks qu nu se rw pl ho ag bi an fa oa ka wo le lt pe st pt rr vl bo kp dn bb (n + 1) n pd' (mg + 1) qc rl wn pn fd lv ma (lN (xw_pk bw bb)) Pw Lw f' e' F Rw Pl Ho Ag Bi An Wo Le Lt (upd Pe n (nI (xk_cd (xi (xs (i + 1))) (xi (xs (i + 2))) (xi (xs (i + 3)))))) St' Pt Rr Vl Bo Kp).symm, rfl, hfa, hD, hS', hQ, hA⟩
      · skip
        exact absurd rfl h5
