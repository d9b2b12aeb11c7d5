set_option maxHeartbeats 1000000 in
set_option maxRecDepth 100000 in
theorem mMo_rowFits (l : Launch) (D : va_G) (K : Nat → ClassId) (mo wo le lt pe st pt rr vl bo kp mb mw n o mg pa ma an lv : Nat) (Pt Rr : Nat → Int32) (q : Nat → Nat) (x y z : Int32) (hpa : pa ≤ 4) (hq : xq_nu Pt q (3 * pa)) : xz_Met l D (tz K) yMo_rowFits cMo_rowFits 8 (some .boolean) { frames := 1, cells := 0, slots := 0, locals := 23 } [.ref mo, .int x, .int y, .int z] [(mo, .inr (6, [.int (nI mb), .ref wo, .int (nI mw), .ref le, .ref lt, .int (nI n), .ref pe, .int (nI o), .ref st, .int (nI mg), .int (nI pa), .ref pt, .int (nI ma), .ref rr, .ref vl, .ref bo, .int (nI an), .ref kp, .int (nI lv)])), (pt, .inl (K 0, 12, .inl Pt)), (rr, .inl (K 0, 3, .inl Rr))] (fun v w => ∃ (b : Bool) (Rq : Nat → Int32), v = some (.int (bI b)) ∧ w = [(mo, .inr (6, [.int (nI mb), .ref wo, .int (nI mw), .ref le, .ref lt, .int (nI n), .ref pe, .int (nI o), .ref st, .int (nI mg), .int (nI pa), .ref pt, .int (nI (xq_pc (xq_vb q (3 * pa)))), .ref rr, .ref vl, .ref bo, .int (nI an), .ref kp, .int (nI lv)])), (pt, .inl (K 0, 12, .inl Pt)), (rr, .inl (K 0, 3, .inl Rq))] ∧ Rq 0 = x ∧ Rq 1 = y ∧ Rq 2 = z ∧ (b = true ↔ (0 < pa ∧ xq_aw (xq_aw (xq_aw (xq_vb q (3 * pa)) (xq_ev x)) (xq_ev y)) (xq_ev z) = 0))) := by
  refine xz_enter (by decide +kernel) (Nat.le_of_ble_eq_true rfl) ?_
  intro Γ hC
  refine xz_lcs (lc' := [(0, .ref mo), (1, .int x), (2, .int y), (3, .int z)]) [0, 1, 2, 3] rfl ?_
  refine xz_aload_n hC 0 rfl rfl dMo_rowFits_0 ?_
  refine xz_get hC 0 rfl rfl 13 (by decide) inMo tq442 rfl rfl dMo_rowFits_1 ?_
  refine xz_iconst hC (v := nI 0) (by decide +kernel) dMo_rowFits_4 ?_
  refine xz_iload_n hC 1 rfl rfl dMo_rowFits_5 ?_
  refine xz_iastore hC 2 0 (ws' := [(mo, .inr (6, [.int (nI mb), .ref wo, .int (nI mw), .ref le, .ref lt, .int (nI n), .ref pe, .int (nI o), .ref st, .int (nI mg), .int (nI pa), .ref pt, .int (nI ma), .ref rr, .ref vl, .ref bo, .int (nI an), .ref kp, .int (nI lv)])), (pt, .inl (K 0, 12, .inl Pt)), (rr, .inl (K 0, 3, .inl (upd Rr 0 x)))]) rfl rfl (by omega) (by decide) rfl dMo_rowFits_6 ?_
  refine xz_aload_n hC 0 rfl rfl dMo_rowFits_7 ?_
  refine xz_get hC 0 rfl rfl 13 (by decide) inMo tq442 rfl rfl dMo_rowFits_8 ?_
  refine xz_iconst hC (v := nI 1) (by decide +kernel) dMo_rowFits_11 ?_
  refine xz_iload_n hC 2 rfl rfl dMo_rowFits_12 ?_
  refine xz_iastore hC 2 0 (ws' := [(mo, .inr (6, [.int (nI mb), .ref wo, .int (nI mw), .ref le, .ref lt, .int (nI n), .ref pe, .int (nI o), .ref st, .int (nI mg), .int (nI pa), .ref pt, .int (nI ma), .ref rr, .ref vl, .ref bo, .int (nI an), .ref kp, .int (nI lv)])), (pt, .inl (K 0, 12, .inl Pt)), (rr, .inl (K 0, 3, .inl (upd (upd Rr 0 x) 1 y)))]) rfl rfl (by omega) (by decide) rfl dMo_rowFits_13 ?_
  refine xz_aload_n hC 0 rfl rfl dMo_rowFits_14 ?_
  refine xz_get hC 0 rfl rfl 13 (by decide) inMo tq442 rfl rfl dMo_rowFits_15 ?_
  refine xz_iconst hC (v := nI 2) (by decide +kernel) dMo_rowFits_18 ?_
  refine xz_iload_n hC 3 rfl rfl dMo_rowFits_19 ?_
  refine xz_iastore hC 2 0 (ws' := [(mo, .inr (6, [.int (nI mb), .ref wo, .int (nI mw), .ref le, .ref lt, .int (nI n), .ref pe, .int (nI o), .ref st, .int (nI mg), .int (nI pa), .ref pt, .int (nI ma), .ref rr, .ref vl, .ref bo, .int (nI an), .ref kp, .int (nI lv)])), (pt, .inl (K 0, 12, .inl Pt)), (rr, .inl (K 0, 3, .inl (upd (upd (upd Rr 0 x) 1 y) 2 z)))]) rfl rfl (by omega) (by decide) rfl dMo_rowFits_20 ?_
  obtain ⟨Rq, hRq⟩ : ∃ Rq, Rq = upd (upd (upd Rr 0 x) 1 y) 2 z := ⟨_, rfl⟩
  have hR0 : Rq 0 = x := by rw [hRq]; rfl
  have hR1 : Rq 1 = y := by rw [hRq]; rfl
  have hR2 : Rq 2 = z := by rw [hRq]; rfl
  refine xz_wse (ws' := [(mo, .inr (6, [.int (nI mb), .ref wo, .int (nI mw), .ref le, .ref lt, .int (nI n), .ref pe, .int (nI o), .ref st, .int (nI mg), .int (nI pa), .ref pt, .int (nI ma), .ref rr, .ref vl, .ref bo, .int (nI an), .ref kp, .int (nI lv)])), (pt, .inl (K 0, 12, .inl Pt)), (rr, .inl (K 0, 3, .inl Rq))]) (by rw [hRq]) ?_
  refine xz_aload_n hC 0 rfl rfl dMo_rowFits_21 ?_
  refine xz_iconst hC (v := nI 0) (by decide +kernel) dMo_rowFits_22 ?_
  refine xz_put hC 0 rfl rfl 12 (by decide) inMo tq441 rfl tyMo tyMo_ok nmMo rfl rfl rfl (Nat.le_of_ble_eq_true rfl) (ws' := [(mo, .inr (6, [.int (nI mb), .ref wo, .int (nI mw), .ref le, .ref lt, .int (nI n), .ref pe, .int (nI o), .ref st, .int (nI mg), .int (nI pa), .ref pt, .int (nI 0), .ref rr, .ref vl, .ref bo, .int (nI an), .ref kp, .int (nI lv)])), (pt, .inl (K 0, 12, .inl Pt)), (rr, .inl (K 0, 3, .inl Rq))]) rfl dMo_rowFits_23 ?_
  refine xz_bipush hC (v := nI 32) (by decide +kernel) dMo_rowFits_26 ?_
  refine xz_istore hC (lc' := [(4, .int (nI 32)), (0, .ref mo), (1, .int x), (2, .int y), (3, .int z)]) (by decide) rfl dMo_rowFits_28 ?_
  refine xz_wse (ws' := [(mo, .inr (6, [.int (nI mb), .ref wo, .int (nI mw), .ref le, .ref lt, .int (nI n), .ref pe, .int (nI o), .ref st, .int (nI mg), .int (nI pa), .ref pt, .int (nI (xc_n (fun v => xm_as q (3 * pa) v) 0)), .ref rr, .ref vl, .ref bo, .int (nI an), .ref kp, .int (nI lv)])), (pt, .inl (K 0, 12, .inl Pt)), (rr, .inl (K 0, 3, .inl Rq))]) rfl ?_
  refine xz_lce (lc' := [(4, .int (nI (32 + 0))), (0, .ref mo), (1, .int x), (2, .int y), (3, .int z)]) rfl ?_
  have lp1 : ∀ (NNlp1 : Nat) (j : Nat), j ≤ 3 → 3 - j = NNlp1 → xz_X Γ 0 0 [(mo, .inr (6, [.int (nI mb), .ref wo, .int (nI mw), .ref le, .ref lt, .int (nI n), .ref pe, .int (nI o), .ref st, .int (nI mg), .int (nI pa), .ref pt, .int (nI (xc_n (fun v => xm_as q (3 * pa) v) j)), .ref rr, .ref vl, .ref bo, .int (nI an), .ref kp, .int (nI lv)])), (pt, .inl (K 0, 12, .inl Pt)), (rr, .inl (K 0, 3, .inl Rq))] 30 [(4, .int (nI (32 + j))), (0, .ref mo), (1, .int x), (2, .int y), (3, .int z)] [] := by
    intro NNlp1
    induction NNlp1 using Nat.strongRecOn with
    | _ NNlp1 ihlp1 =>
      intro j  hj hNNlp1
      refine xz_iload hC 0 rfl dMo_rowFits_30 ?_
      refine xz_bipush hC (v := nI 35) (by decide +kernel) dMo_rowFits_32 ?_
      refine xz_icmp_ge hC (tgt := 66) (nI_toInt (by omega)) (nI_toInt (by omega)) (by decide) dMo_rowFits_34 (fun h2 => ?_) (fun h2 => ?_)
      · skip
        refine xz_wse (ws' := [(mo, .inr (6, [.int (nI mb), .ref wo, .int (nI mw), .ref le, .ref lt, .int (nI n), .ref pe, .int (nI o), .ref st, .int (nI mg), .int (nI pa), .ref pt, .int (nI (xq_pc (xq_vb q (3 * pa)))), .ref rr, .ref vl, .ref bo, .int (nI an), .ref kp, .int (nI lv)])), (pt, .inl (K 0, 12, .inl Pt)), (rr, .inl (K 0, 3, .inl Rq))]) (by rw [show j = 3 by omega, xm_many (fun i hi => (hq i hi).2)]) ?_
        have hmv : (xq_pc (xq_vb q (3 * pa))) ≤ 3 := xq_pc_le _ (xq_vb_lt (fun i hi => (hq i hi).2))
        refine xz_aload_n hC 1 rfl rfl dMo_rowFits_66 ?_
        refine xz_get hC 0 rfl rfl 10 (by decide) inMo tq439 rfl rfl dMo_rowFits_67 ?_
        refine xz_if_le hC (tgt := 77) (nI_toInt (by omega)) (by decide) dMo_rowFits_70 (fun h3 => ?_) (fun h3 => ?_)
        · skip
          refine xz_iconst hC (v := bI false) (by decide +kernel) dMo_rowFits_77 ?_
          refine xz_istore hC (lc' := [(4, .int (bI false)), (0, .ref mo), (1, .int x), (2, .int y), (3, .int z)]) (by decide) rfl dMo_rowFits_78 ?_
          refine xz_iconst hC (v := nI 0) (by decide +kernel) dMo_rowFits_80 ?_
          refine xz_istore hC (lc' := [(5, .int (nI 0)), (4, .int (bI false)), (0, .ref mo), (1, .int x), (2, .int y), (3, .int z)]) (by decide) rfl dMo_rowFits_81 ?_
          have lp4 : ∀ (NNlp4 : Nat) (i : Nat) (gd : Bool), i ≤ 3 → (gd = true ↔ (0 < pa ∧ ∀ a, a < i → xm_rf Rq q (3 * pa) (xq_pc (xq_vb q (3 * pa))) a)) → 3 - i = NNlp4 → xz_X Γ 0 0 [(mo, .inr (6, [.int (nI mb), .ref wo, .int (nI mw), .ref le, .ref lt, .int (nI n), .ref pe, .int (nI o), .ref st, .int (nI mg), .int (nI pa), .ref pt, .int (nI (xq_pc (xq_vb q (3 * pa)))), .ref rr, .ref vl, .ref bo, .int (nI an), .ref kp, .int (nI lv)])), (pt, .inl (K 0, 12, .inl Pt)), (rr, .inl (K 0, 3, .inl Rq))] 83 [(5, .int (nI i)), (4, .int (bI gd)), (0, .ref mo), (1, .int x), (2, .int y), (3, .int z)] [] := by
            intro NNlp4
            induction NNlp4 using Nat.strongRecOn with
            | _ NNlp4 ihlp4 =>
              intro i  gd  hi hgd hNNlp4
              refine xz_iload hC 0 rfl dMo_rowFits_83 ?_
              refine xz_iconst hC (v := nI 3) (by decide +kernel) dMo_rowFits_85 ?_
              refine xz_icmp_ge hC (tgt := 233) (nI_toInt (by omega)) (nI_toInt (by omega)) (by decide) dMo_rowFits_86 (fun h5 => ?_) (fun h5 => ?_)
              · skip
                refine xz_iload hC 1 rfl dMo_rowFits_233 ?_
                exact xz_zreturn hC (by decide) (by decide) (⟨gd, Rq, rfl, rfl, hR0, hR1, hR2, by rw [hgd, show i = 3 by omega, xm_row (fun i hi => (hq i hi).2), hR0, hR1, hR2]⟩) dMo_rowFits_235
              · skip
                refine xz_iconst hC (v := bI false) (by decide +kernel) dMo_rowFits_89 ?_
                refine xz_istore hC (lc' := [(6, .int (bI false)), (5, .int (nI i)), (4, .int (bI gd)), (0, .ref mo), (1, .int x), (2, .int y), (3, .int z)]) (by decide) rfl dMo_rowFits_90 ?_
                refine xz_iconst hC (v := nI 0) (by decide +kernel) dMo_rowFits_92 ?_
                refine xz_istore hC (lc' := [(7, .int (nI 0)), (6, .int (bI false)), (5, .int (nI i)), (4, .int (bI gd)), (0, .ref mo), (1, .int x), (2, .int y), (3, .int z)]) (by decide) rfl dMo_rowFits_93 ?_
                have lp6 : ∀ (NNlp6 : Nat) (jj : Nat) (tw : Bool), jj ≤ i → (tw = true ↔ xm_tw Rq i jj) → i - jj = NNlp6 → xz_X Γ 0 0 [(mo, .inr (6, [.int (nI mb), .ref wo, .int (nI mw), .ref le, .ref lt, .int (nI n), .ref pe, .int (nI o), .ref st, .int (nI mg), .int (nI pa), .ref pt, .int (nI (xq_pc (xq_vb q (3 * pa)))), .ref rr, .ref vl, .ref bo, .int (nI an), .ref kp, .int (nI lv)])), (pt, .inl (K 0, 12, .inl Pt)), (rr, .inl (K 0, 3, .inl Rq))] 95 [(7, .int (nI jj)), (6, .int (bI tw)), (5, .int (nI i)), (4, .int (bI gd)), (0, .ref mo), (1, .int x), (2, .int y), (3, .int z)] [] := by
                  intro NNlp6
                  induction NNlp6 using Nat.strongRecOn with
                  | _ NNlp6 ihlp6 =>
                    intro jj  tw  hjj htw hNNlp6
                    refine xz_iload hC 0 rfl dMo_rowFits_95 ?_
                    refine xz_iload hC 2 rfl dMo_rowFits_97 ?_
                    refine xz_icmp_ge hC (tgt := 137) (nI_toInt (by omega)) (nI_toInt (by omega)) (by decide) dMo_rowFits_99 (fun h7 => ?_) (fun h7 => ?_)
                    · skip
                      refine xz_aload_n hC 4 rfl rfl dMo_rowFits_137 ?_
                      refine xz_get hC 0 rfl rfl 13 (by decide) inMo tq442 rfl rfl dMo_rowFits_138 ?_
                      refine xz_iload hC 2 rfl dMo_rowFits_141 ?_
                      refine xz_iaload hC 2 0 (v := Rq i) rfl rfl (by omega) (by decide) rfl dMo_rowFits_143 ?_
                      refine xz_bipush hC (v := nI 32) (by decide +kernel) dMo_rowFits_144 ?_
                      refine xz_icmp_lt hC (tgt := 184) rfl (nI_toInt (by omega)) (by decide) dMo_rowFits_146 (fun h8 => ?_) (fun h8 => ?_)
                      · skip
                        refine xz_iconst hC (v := bI false) (by decide +kernel) dMo_rowFits_184 ?_
                        have hnits : ¬ xm_its Rq q (3 * pa) i := by first | exact fun k => absurd k.1 (by omega) | exact fun k => hnask k.2.1 | exact fun k => k.2.2 (by have hz := htw.mp htwt; rw [show jj = i by omega] at hz; exact hz)
                        refine xz_istore hC (lc' := [(7, .int (bI false)), (6, .int (bI tw)), (5, .int (nI i)), (4, .int (bI gd)), (0, .ref mo), (1, .int x), (2, .int y), (3, .int z)]) (by decide) rfl dMo_rowFits_185 ?_
                        refine xz_iload hC 3 rfl dMo_rowFits_187 ?_
                        refine xz_ifb_eq hC (tgt := 224) (by decide) dMo_rowFits_189 (fun h9 => ?_) (fun h9 => ?_)
                        · skip
                          have hgf := h9
                          refine xz_iconst hC (v := bI false) (by decide +kernel) dMo_rowFits_224 ?_
                          refine xz_istore hC (lc' := [(4, .int (bI false)), (7, .int (bI false)), (6, .int (bI tw)), (5, .int (nI i)), (0, .ref mo), (1, .int x), (2, .int y), (3, .int z)]) (by decide) rfl dMo_rowFits_225 ?_
                          refine xz_iinc hC 3 (lc' := [(5, .int (nI (i + 1))), (4, .int (bI false)), (7, .int (bI false)), (6, .int (bI tw)), (0, .ref mo), (1, .int x), (2, .int y), (3, .int z)]) rfl (xn_inc _) (by decide) rfl dMo_rowFits_227 ?_
                          refine xz_goto hC (tgt := 83) (by decide) dMo_rowFits_230 ?_
                          refine xz_lcs (lc' := [(5, .int (nI (i + 1))), (4, .int (bI false)), (0, .ref mo), (1, .int x), (2, .int y), (3, .int z)]) [0, 1, 4, 5, 6, 7] rfl ?_
                          exact ihlp4 _ (by omega) (i + 1) false (by omega) (by first | exact xt_f (fun k => absurd (hgd.mpr ⟨k.1, fun a ha => k.2 a (by omega)⟩) (by rw [hgf]; decide)) | exact xt_f (fun k => hnits ((k.2 i (by omega)).1 (by omega))) | exact xt_f (fun k => by have := (k.2 i (by omega)).2 (by omega); omega)) rfl
                        · skip
                          have hgt := h9
                          refine xz_iload hC 2 rfl dMo_rowFits_192 ?_
                          refine xz_aload_n hC 4 rfl rfl dMo_rowFits_194 ?_
                          refine xz_get hC 0 rfl rfl 12 (by decide) inMo tq441 rfl rfl dMo_rowFits_195 ?_
                          refine xz_icmp_ge hC (tgt := 209) (nI_toInt (by omega)) (nI_toInt (by omega)) (by decide) dMo_rowFits_198 (fun h10 => ?_) (fun h10 => ?_)
                          · skip
                            refine xz_aload_n hC 4 rfl rfl dMo_rowFits_209 ?_
                            refine xz_get hC 0 rfl rfl 13 (by decide) inMo tq442 rfl rfl dMo_rowFits_210 ?_
                            refine xz_iload hC 2 rfl dMo_rowFits_213 ?_
                            refine xz_iaload hC 2 0 (v := Rq i) rfl rfl (by omega) (by decide) rfl dMo_rowFits_215 ?_
                            refine xz_iconst hC (v := (-1)) (by decide +kernel) dMo_rowFits_216 ?_
                            refine xz_icmp_ne hC (tgt := 224) rfl xn_m1 (by decide) dMo_rowFits_217 (fun h11 => ?_) (fun h11 => ?_)
                            · skip
                              refine xz_iconst hC (v := bI false) (by decide +kernel) dMo_rowFits_224 ?_
                              refine xz_istore hC (lc' := [(4, .int (bI false)), (7, .int (bI false)), (6, .int (bI tw)), (5, .int (nI i)), (0, .ref mo), (1, .int x), (2, .int y), (3, .int z)]) (by decide) rfl dMo_rowFits_225 ?_
                              refine xz_iinc hC 3 (lc' := [(5, .int (nI (i + 1))), (4, .int (bI false)), (7, .int (bI false)), (6, .int (bI tw)), (0, .ref mo), (1, .int x), (2, .int y), (3, .int z)]) rfl (xn_inc _) (by decide) rfl dMo_rowFits_227 ?_
                              refine xz_goto hC (tgt := 83) (by decide) dMo_rowFits_230 ?_
                              refine xz_lcs (lc' := [(5, .int (nI (i + 1))), (4, .int (bI false)), (0, .ref mo), (1, .int x), (2, .int y), (3, .int z)]) [0, 1, 4, 5, 6, 7] rfl ?_
                              exact ihlp4 _ (by omega) (i + 1) false (by omega) (by first | exact xt_f (fun k => absurd (hgd.mpr ⟨k.1, fun a ha => k.2 a (by omega)⟩) (by rw [hgf]; decide)) | exact xt_f (fun k => hnits ((k.2 i (by omega)).1 (by omega))) | exact xt_f (fun k => by have := (k.2 i (by omega)).2 (by omega); omega)) rfl
                            · skip
                              refine xz_iconst hC (v := bI true) (by decide +kernel) dMo_rowFits_220 ?_
                              refine xz_goto hC (tgt := 225) (by decide) dMo_rowFits_221 ?_
                              refine xz_istore hC (lc' := [(4, .int (bI true)), (7, .int (bI false)), (6, .int (bI tw)), (5, .int (nI i)), (0, .ref mo), (1, .int x), (2, .int y), (3, .int z)]) (by decide) rfl dMo_rowFits_225 ?_
                              refine xz_iinc hC 3 (lc' := [(5, .int (nI (i + 1))), (4, .int (bI true)), (7, .int (bI false)), (6, .int (bI tw)), (0, .ref mo), (1, .int x), (2, .int y), (3, .int z)]) rfl (xn_inc _) (by decide) rfl dMo_rowFits_227 ?_
                              refine xz_goto hC (tgt := 83) (by decide) dMo_rowFits_230 ?_
                              refine xz_lcs (lc' := [(5, .int (nI (i + 1))), (4, .int (bI true)), (0, .ref mo), (1, .int x), (2, .int y), (3, .int z)]) [0, 1, 4, 5, 6, 7] rfl ?_
                              exact ihlp4 _ (by omega) (i + 1) true (by omega) (by first | exact xt_t ⟨(hgd.mp hgt).1, lt_s (hgd.mp hgt).2 ⟨fun _ => hits, fun k => absurd (show i < (xq_pc (xq_vb q (3 * pa))) by omega) k⟩⟩ | exact xt_t ⟨(hgd.mp hgt).1, lt_s (hgd.mp hgt).2 ⟨fun k => absurd k (by omega), fun _ => by omega⟩⟩) rfl
                          · skip
                            refine xz_iload hC 0 rfl dMo_rowFits_201 ?_
                            refine xz_ifb_eq hC (tgt := 224) (by decide) dMo_rowFits_203 (fun h12 => ?_) (fun h12 => ?_)
                            · skip
                              refine xz_iconst hC (v := bI false) (by decide +kernel) dMo_rowFits_224 ?_
                              refine xz_istore hC (lc' := [(4, .int (bI false)), (7, .int (bI false)), (6, .int (bI tw)), (5, .int (nI i)), (0, .ref mo), (1, .int x), (2, .int y), (3, .int z)]) (by decide) rfl dMo_rowFits_225 ?_
                              refine xz_iinc hC 3 (lc' := [(5, .int (nI (i + 1))), (4, .int (bI false)), (7, .int (bI false)), (6, .int (bI tw)), (0, .ref mo), (1, .int x), (2, .int y), (3, .int z)]) rfl (xn_inc _) (by decide) rfl dMo_rowFits_227 ?_
                              refine xz_goto hC (tgt := 83) (by decide) dMo_rowFits_230 ?_
                              refine xz_lcs (lc' := [(5, .int (nI (i + 1))), (4, .int (bI false)), (0, .ref mo), (1, .int x), (2, .int y), (3, .int z)]) [0, 1, 4, 5, 6, 7] rfl ?_
                              exact ihlp4 _ (by omega) (i + 1) false (by omega) (by first | exact xt_f (fun k => absurd (hgd.mpr ⟨k.1, fun a ha => k.2 a (by omega)⟩) (by rw [hgf]; decide)) | exact xt_f (fun k => hnits ((k.2 i (by omega)).1 (by omega))) | exact xt_f (fun k => by have := (k.2 i (by omega)).2 (by omega); omega)) rfl
                            · skip
                              exact absurd h12 (by decide)
                      · skip
                        refine xz_aload_n hC 4 rfl rfl dMo_rowFits_149 ?_
                        refine xz_get hC 0 rfl rfl 13 (by decide) inMo tq442 rfl rfl dMo_rowFits_150 ?_
                        refine xz_iload hC 2 rfl dMo_rowFits_153 ?_
                        refine xz_iaload hC 2 0 (v := Rq i) rfl rfl (by omega) (by decide) rfl dMo_rowFits_155 ?_
                        refine xz_bipush hC (v := nI 34) (by decide +kernel) dMo_rowFits_156 ?_
                        refine xz_icmp_gt hC (tgt := 184) rfl (nI_toInt (by omega)) (by decide) dMo_rowFits_158 (fun h13 => ?_) (fun h13 => ?_)
                        · skip
                          refine xz_iconst hC (v := bI false) (by decide +kernel) dMo_rowFits_184 ?_
                          have hnits : ¬ xm_its Rq q (3 * pa) i := by first | exact fun k => absurd k.1 (by omega) | exact fun k => hnask k.2.1 | exact fun k => k.2.2 (by have hz := htw.mp htwt; rw [show jj = i by omega] at hz; exact hz)
                          refine xz_istore hC (lc' := [(7, .int (bI false)), (6, .int (bI tw)), (5, .int (nI i)), (4, .int (bI gd)), (0, .ref mo), (1, .int x), (2, .int y), (3, .int z)]) (by decide) rfl dMo_rowFits_185 ?_
                          refine xz_iload hC 3 rfl dMo_rowFits_187 ?_
                          refine xz_ifb_eq hC (tgt := 224) (by decide) dMo_rowFits_189 (fun h14 => ?_) (fun h14 => ?_)
                          · skip
                            have hgf := h14
                            refine xz_iconst hC (v := bI false) (by decide +kernel) dMo_rowFits_224 ?_
                            refine xz_istore hC (lc' := [(4, .int (bI false)), (7, .int (bI false)), (6, .int (bI tw)), (5, .int (nI i)), (0, .ref mo), (1, .int x), (2, .int y), (3, .int z)]) (by decide) rfl dMo_rowFits_225 ?_
                            refine xz_iinc hC 3 (lc' := [(5, .int (nI (i + 1))), (4, .int (bI false)), (7, .int (bI false)), (6, .int (bI tw)), (0, .ref mo), (1, .int x), (2, .int y), (3, .int z)]) rfl (xn_inc _) (by decide) rfl dMo_rowFits_227 ?_
                            refine xz_goto hC (tgt := 83) (by decide) dMo_rowFits_230 ?_
                            refine xz_lcs (lc' := [(5, .int (nI (i + 1))), (4, .int (bI false)), (0, .ref mo), (1, .int x), (2, .int y), (3, .int z)]) [0, 1, 4, 5, 6, 7] rfl ?_
                            exact ihlp4 _ (by omega) (i + 1) false (by omega) (by first | exact xt_f (fun k => absurd (hgd.mpr ⟨k.1, fun a ha => k.2 a (by omega)⟩) (by rw [hgf]; decide)) | exact xt_f (fun k => hnits ((k.2 i (by omega)).1 (by omega))) | exact xt_f (fun k => by have := (k.2 i (by omega)).2 (by omega); omega)) rfl
                          · skip
                            have hgt := h14
                            refine xz_iload hC 2 rfl dMo_rowFits_192 ?_
                            refine xz_aload_n hC 4 rfl rfl dMo_rowFits_194 ?_
                            refine xz_get hC 0 rfl rfl 12 (by decide) inMo tq441 rfl rfl dMo_rowFits_195 ?_
                            refine xz_icmp_ge hC (tgt := 209) (nI_toInt (by omega)) (nI_toInt (by omega)) (by decide) dMo_rowFits_198 (fun h15 => ?_) (fun h15 => ?_)
                            · skip
                              refine xz_aload_n hC 4 rfl rfl dMo_rowFits_209 ?_
                              refine xz_get hC 0 rfl rfl 13 (by decide) inMo tq442 rfl rfl dMo_rowFits_210 ?_
                              refine xz_iload hC 2 rfl dMo_rowFits_213 ?_
                              refine xz_iaload hC 2 0 (v := Rq i) rfl rfl (by omega) (by decide) rfl dMo_rowFits_215 ?_
                              refine xz_iconst hC (v := (-1)) (by decide +kernel) dMo_rowFits_216 ?_
                              refine xz_icmp_ne hC (tgt := 224) rfl xn_m1 (by decide) dMo_rowFits_217 (fun h16 => ?_) (fun h16 => ?_)
                              · skip
                                refine xz_iconst hC (v := bI false) (by decide +kernel) dMo_rowFits_224 ?_
                                refine xz_istore hC (lc' := [(4, .int (bI false)), (7, .int (bI false)), (6, .int (bI tw)), (5, .int (nI i)), (0, .ref mo), (1, .int x), (2, .int y), (3, .int z)]) (by decide) rfl dMo_rowFits_225 ?_
                                refine xz_iinc hC 3 (lc' := [(5, .int (nI (i + 1))), (4, .int (bI false)), (7, .int (bI false)), (6, .int (bI tw)), (0, .ref mo), (1, .int x), (2, .int y), (3, .int z)]) rfl (xn_inc _) (by decide) rfl dMo_rowFits_227 ?_
                                refine xz_goto hC (tgt := 83) (by decide) dMo_rowFits_230 ?_
                                refine xz_lcs (lc' := [(5, .int (nI (i + 1))), (4, .int (bI false)), (0, .ref mo), (1, .int x), (2, .int y), (3, .int z)]) [0, 1, 4, 5, 6, 7] rfl ?_
                                exact ihlp4 _ (by omega) (i + 1) false (by omega) (by first | exact xt_f (fun k => absurd (hgd.mpr ⟨k.1, fun a ha => k.2 a (by omega)⟩) (by rw [hgf]; decide)) | exact xt_f (fun k => hnits ((k.2 i (by omega)).1 (by omega))) | exact xt_f (fun k => by have := (k.2 i (by omega)).2 (by omega); omega)) rfl
                              · skip
                                refine xz_iconst hC (v := bI true) (by decide +kernel) dMo_rowFits_220 ?_
                                refine xz_goto hC (tgt := 225) (by decide) dMo_rowFits_221 ?_
                                refine xz_istore hC (lc' := [(4, .int (bI true)), (7, .int (bI false)), (6, .int (bI tw)), (5, .int (nI i)), (0, .ref mo), (1, .int x), (2, .int y), (3, .int z)]) (by decide) rfl dMo_rowFits_225 ?_
                                refine xz_iinc hC 3 (lc' := [(5, .int (nI (i + 1))), (4, .int (bI true)), (7, .int (bI false)), (6, .int (bI tw)), (0, .ref mo), (1, .int x), (2, .int y), (3, .int z)]) rfl (xn_inc _) (by decide) rfl dMo_rowFits_227 ?_
                                refine xz_goto hC (tgt := 83) (by decide) dMo_rowFits_230 ?_
                                refine xz_lcs (lc' := [(5, .int (nI (i + 1))), (4, .int (bI true)), (0, .ref mo), (1, .int x), (2, .int y), (3, .int z)]) [0, 1, 4, 5, 6, 7] rfl ?_
                                exact ihlp4 _ (by omega) (i + 1) true (by omega) (by first | exact xt_t ⟨(hgd.mp hgt).1, lt_s (hgd.mp hgt).2 ⟨fun _ => hits, fun k => absurd (show i < (xq_pc (xq_vb q (3 * pa))) by omega) k⟩⟩ | exact xt_t ⟨(hgd.mp hgt).1, lt_s (hgd.mp hgt).2 ⟨fun k => absurd k (by omega), fun _ => by omega⟩⟩) rfl
                            · skip
                              refine xz_iload hC 0 rfl dMo_rowFits_201 ?_
                              refine xz_ifb_eq hC (tgt := 224) (by decide) dMo_rowFits_203 (fun h17 => ?_) (fun h17 => ?_)
                              · skip
                                refine xz_iconst hC (v := bI false) (by decide +kernel) dMo_rowFits_224 ?_
                                refine xz_istore hC (lc' := [(4, .int (bI false)), (7, .int (bI false)), (6, .int (bI tw)), (5, .int (nI i)), (0, .ref mo), (1, .int x), (2, .int y), (3, .int z)]) (by decide) rfl dMo_rowFits_225 ?_
                                refine xz_iinc hC 3 (lc' := [(5, .int (nI (i + 1))), (4, .int (bI false)), (7, .int (bI false)), (6, .int (bI tw)), (0, .ref mo), (1, .int x), (2, .int y), (3, .int z)]) rfl (xn_inc _) (by decide) rfl dMo_rowFits_227 ?_
                                refine xz_goto hC (tgt := 83) (by decide) dMo_rowFits_230 ?_
                                refine xz_lcs (lc' := [(5, .int (nI (i + 1))), (4, .int (bI false)), (0, .ref mo), (1, .int x), (2, .int y), (3, .int z)]) [0, 1, 4, 5, 6, 7] rfl ?_
                                exact ihlp4 _ (by omega) (i + 1) false (by omega) (by first | exact xt_f (fun k => absurd (hgd.mpr ⟨k.1, fun a ha => k.2 a (by omega)⟩) (by rw [hgf]; decide)) | exact xt_f (fun k => hnits ((k.2 i (by omega)).1 (by omega))) | exact xt_f (fun k => by have := (k.2 i (by omega)).2 (by omega); omega)) rfl
                              · skip
                                exact absurd h17 (by decide)
                        · skip
                          obtain ⟨tv, htv, htve⟩ := xn_of (x := Rq i) (n := 35) (by omega) (by omega)
                          have hxtv : xi (Rq i) = tv := by rw [htve]; exact xi_nI (by omega)
                          refine xz_aload_n hC 4 rfl rfl dMo_rowFits_161 ?_
                          refine xz_aload_n hC 4 rfl rfl dMo_rowFits_162 ?_
                          refine xz_get hC 0 rfl rfl 13 (by decide) inMo tq442 rfl rfl dMo_rowFits_163 ?_
                          refine xz_iload hC 2 rfl dMo_rowFits_166 ?_
                          refine xz_iaload hC 2 0 (v := Rq i) rfl rfl (by omega) (by decide) rfl dMo_rowFits_168 ?_
                          refine xz_ste (st' := [.int (nI tv), .ref mo]) (by rw [htve]) ?_
                          refine xz_callV hC (mMo_asked l D K mo wo le lt pe st pt rr vl bo kp mb mw n o mg pa (xq_pc (xq_vb q (3 * pa))) an lv Pt q tv hpa hq htv) kMo_asked tq7 tq584 tq586 tp23 0 6 rfl rfl rfl (host := "") hMo_asked (by decide) [0, 1] [2] (by decide) rfl (wr := [(rr, .inl (K 0, 3, .inl Rq))]) rfl (by decide) (by decide) (As := [.int (nI tv)]) (rest := []) rfl rfl (Nat.le_of_ble_eq_true rfl) (by decide) dMo_rowFits_169 (fun v w hq => ?_)
                          obtain ⟨ab, rfl, rfl, hab⟩ := hq
                          refine xz_ste (st' := [.int (bI ab)]) rfl ?_
                          refine xz_wss (ws' := [(mo, .inr (6, [.int (nI mb), .ref wo, .int (nI mw), .ref le, .ref lt, .int (nI n), .ref pe, .int (nI o), .ref st, .int (nI mg), .int (nI pa), .ref pt, .int (nI (xq_pc (xq_vb q (3 * pa)))), .ref rr, .ref vl, .ref bo, .int (nI an), .ref kp, .int (nI lv)])), (pt, .inl (K 0, 12, .inl Pt)), (rr, .inl (K 0, 3, .inl Rq))]) [1, 2, 0] (by decide) rfl rfl ?_
                          rw [← hxtv] at hab
                          have hab : ab = true ↔ xm_ask q (3 * pa) (xi (Rq i)) := hab
                          refine xz_ifb_eq hC (tgt := 184) (by decide) dMo_rowFits_172 (fun h18 => ?_) (fun h18 => ?_)
                          · skip
                            have hnask : ¬ xm_ask q (3 * pa) (xi (Rq i)) := fun k => absurd (hab.mpr k) (by rw [h18]; decide)
                            refine xz_iconst hC (v := bI false) (by decide +kernel) dMo_rowFits_184 ?_
                            have hnits : ¬ xm_its Rq q (3 * pa) i := by first | exact fun k => absurd k.1 (by omega) | exact fun k => hnask k.2.1 | exact fun k => k.2.2 (by have hz := htw.mp htwt; rw [show jj = i by omega] at hz; exact hz)
                            refine xz_istore hC (lc' := [(7, .int (bI false)), (6, .int (bI tw)), (5, .int (nI i)), (4, .int (bI gd)), (0, .ref mo), (1, .int x), (2, .int y), (3, .int z)]) (by decide) rfl dMo_rowFits_185 ?_
                            refine xz_iload hC 3 rfl dMo_rowFits_187 ?_
                            refine xz_ifb_eq hC (tgt := 224) (by decide) dMo_rowFits_189 (fun h19 => ?_) (fun h19 => ?_)
                            · skip
                              have hgf := h19
                              refine xz_iconst hC (v := bI false) (by decide +kernel) dMo_rowFits_224 ?_
                              refine xz_istore hC (lc' := [(4, .int (bI false)), (7, .int (bI false)), (6, .int (bI tw)), (5, .int (nI i)), (0, .ref mo), (1, .int x), (2, .int y), (3, .int z)]) (by decide) rfl dMo_rowFits_225 ?_
                              refine xz_iinc hC 3 (lc' := [(5, .int (nI (i + 1))), (4, .int (bI false)), (7, .int (bI false)), (6, .int (bI tw)), (0, .ref mo), (1, .int x), (2, .int y), (3, .int z)]) rfl (xn_inc _) (by decide) rfl dMo_rowFits_227 ?_
                              refine xz_goto hC (tgt := 83) (by decide) dMo_rowFits_230 ?_
                              refine xz_lcs (lc' := [(5, .int (nI (i + 1))), (4, .int (bI false)), (0, .ref mo), (1, .int x), (2, .int y), (3, .int z)]) [0, 1, 4, 5, 6, 7] rfl ?_
                              exact ihlp4 _ (by omega) (i + 1) false (by omega) (by first | exact xt_f (fun k => absurd (hgd.mpr ⟨k.1, fun a ha => k.2 a (by omega)⟩) (by rw [hgf]; decide)) | exact xt_f (fun k => hnits ((k.2 i (by omega)).1 (by omega))) | exact xt_f (fun k => by have := (k.2 i (by omega)).2 (by omega); omega)) rfl
                            · skip
                              have hgt := h19
                              refine xz_iload hC 2 rfl dMo_rowFits_192 ?_
                              refine xz_aload_n hC 4 rfl rfl dMo_rowFits_194 ?_
                              refine xz_get hC 0 rfl rfl 12 (by decide) inMo tq441 rfl rfl dMo_rowFits_195 ?_
                              refine xz_icmp_ge hC (tgt := 209) (nI_toInt (by omega)) (nI_toInt (by omega)) (by decide) dMo_rowFits_198 (fun h20 => ?_) (fun h20 => ?_)
                              · skip
                                refine xz_aload_n hC 4 rfl rfl dMo_rowFits_209 ?_
                                refine xz_get hC 0 rfl rfl 13 (by decide) inMo tq442 rfl rfl dMo_rowFits_210 ?_
                                refine xz_iload hC 2 rfl dMo_rowFits_213 ?_
                                refine xz_iaload hC 2 0 (v := Rq i) rfl rfl (by omega) (by decide) rfl dMo_rowFits_215 ?_
                                refine xz_iconst hC (v := (-1)) (by decide +kernel) dMo_rowFits_216 ?_
                                refine xz_icmp_ne hC (tgt := 224) rfl xn_m1 (by decide) dMo_rowFits_217 (fun h21 => ?_) (fun h21 => ?_)
                                · skip
                                  refine xz_iconst hC (v := bI false) (by decide +kernel) dMo_rowFits_224 ?_
                                  refine xz_istore hC (lc' := [(4, .int (bI false)), (7, .int (bI false)), (6, .int (bI tw)), (5, .int (nI i)), (0, .ref mo), (1, .int x), (2, .int y), (3, .int z)]) (by decide) rfl dMo_rowFits_225 ?_
                                  refine xz_iinc hC 3 (lc' := [(5, .int (nI (i + 1))), (4, .int (bI false)), (7, .int (bI false)), (6, .int (bI tw)), (0, .ref mo), (1, .int x), (2, .int y), (3, .int z)]) rfl (xn_inc _) (by decide) rfl dMo_rowFits_227 ?_
                                  refine xz_goto hC (tgt := 83) (by decide) dMo_rowFits_230 ?_
                                  refine xz_lcs (lc' := [(5, .int (nI (i + 1))), (4, .int (bI false)), (0, .ref mo), (1, .int x), (2, .int y), (3, .int z)]) [0, 1, 4, 5, 6, 7] rfl ?_
                                  exact ihlp4 _ (by omega) (i + 1) false (by omega) (by first | exact xt_f (fun k => absurd (hgd.mpr ⟨k.1, fun a ha => k.2 a (by omega)⟩) (by rw [hgf]; decide)) | exact xt_f (fun k => hnits ((k.2 i (by omega)).1 (by omega))) | exact xt_f (fun k => by have := (k.2 i (by omega)).2 (by omega); omega)) rfl
                                · skip
                                  refine xz_iconst hC (v := bI true) (by decide +kernel) dMo_rowFits_220 ?_
                                  refine xz_goto hC (tgt := 225) (by decide) dMo_rowFits_221 ?_
                                  refine xz_istore hC (lc' := [(4, .int (bI true)), (7, .int (bI false)), (6, .int (bI tw)), (5, .int (nI i)), (0, .ref mo), (1, .int x), (2, .int y), (3, .int z)]) (by decide) rfl dMo_rowFits_225 ?_
                                  refine xz_iinc hC 3 (lc' := [(5, .int (nI (i + 1))), (4, .int (bI true)), (7, .int (bI false)), (6, .int (bI tw)), (0, .ref mo), (1, .int x), (2, .int y), (3, .int z)]) rfl (xn_inc _) (by decide) rfl dMo_rowFits_227 ?_
                                  refine xz_goto hC (tgt := 83) (by decide) dMo_rowFits_230 ?_
                                  refine xz_lcs (lc' := [(5, .int (nI (i + 1))), (4, .int (bI true)), (0, .ref mo), (1, .int x), (2, .int y), (3, .int z)]) [0, 1, 4, 5, 6, 7] rfl ?_
                                  exact ihlp4 _ (by omega) (i + 1) true (by omega) (by first | exact xt_t ⟨(hgd.mp hgt).1, lt_s (hgd.mp hgt).2 ⟨fun _ => hits, fun k => absurd (show i < (xq_pc (xq_vb q (3 * pa))) by omega) k⟩⟩ | exact xt_t ⟨(hgd.mp hgt).1, lt_s (hgd.mp hgt).2 ⟨fun k => absurd k (by omega), fun _ => by omega⟩⟩) rfl
                              · skip
                                refine xz_iload hC 0 rfl dMo_rowFits_201 ?_
                                refine xz_ifb_eq hC (tgt := 224) (by decide) dMo_rowFits_203 (fun h22 => ?_) (fun h22 => ?_)
                                · skip
                                  refine xz_iconst hC (v := bI false) (by decide +kernel) dMo_rowFits_224 ?_
                                  refine xz_istore hC (lc' := [(4, .int (bI false)), (7, .int (bI false)), (6, .int (bI tw)), (5, .int (nI i)), (0, .ref mo), (1, .int x), (2, .int y), (3, .int z)]) (by decide) rfl dMo_rowFits_225 ?_
                                  refine xz_iinc hC 3 (lc' := [(5, .int (nI (i + 1))), (4, .int (bI false)), (7, .int (bI false)), (6, .int (bI tw)), (0, .ref mo), (1, .int x), (2, .int y), (3, .int z)]) rfl (xn_inc _) (by decide) rfl dMo_rowFits_227 ?_
                                  refine xz_goto hC (tgt := 83) (by decide) dMo_rowFits_230 ?_
                                  refine xz_lcs (lc' := [(5, .int (nI (i + 1))), (4, .int (bI false)), (0, .ref mo), (1, .int x), (2, .int y), (3, .int z)]) [0, 1, 4, 5, 6, 7] rfl ?_
                                  exact ihlp4 _ (by omega) (i + 1) false (by omega) (by first | exact xt_f (fun k => absurd (hgd.mpr ⟨k.1, fun a ha => k.2 a (by omega)⟩) (by rw [hgf]; decide)) | exact xt_f (fun k => hnits ((k.2 i (by omega)).1 (by omega))) | exact xt_f (fun k => by have := (k.2 i (by omega)).2 (by omega); omega)) rfl
                                · skip
                                  exact absurd h22 (by decide)
                          · skip
                            have hask := hab.mp h18
                            refine xz_iload hC 1 rfl dMo_rowFits_175 ?_
                            refine xz_ifb_ne hC (tgt := 184) (by decide) dMo_rowFits_177 (fun h23 => ?_) (fun h23 => ?_)
                            · skip
                              have htwt := h23
                              refine xz_iconst hC (v := bI false) (by decide +kernel) dMo_rowFits_184 ?_
                              have hnits : ¬ xm_its Rq q (3 * pa) i := by first | exact fun k => absurd k.1 (by omega) | exact fun k => hnask k.2.1 | exact fun k => k.2.2 (by have hz := htw.mp htwt; rw [show jj = i by omega] at hz; exact hz)
                              refine xz_istore hC (lc' := [(7, .int (bI false)), (6, .int (bI tw)), (5, .int (nI i)), (4, .int (bI gd)), (0, .ref mo), (1, .int x), (2, .int y), (3, .int z)]) (by decide) rfl dMo_rowFits_185 ?_
                              refine xz_iload hC 3 rfl dMo_rowFits_187 ?_
                              refine xz_ifb_eq hC (tgt := 224) (by decide) dMo_rowFits_189 (fun h24 => ?_) (fun h24 => ?_)
                              · skip
                                have hgf := h24
                                refine xz_iconst hC (v := bI false) (by decide +kernel) dMo_rowFits_224 ?_
                                refine xz_istore hC (lc' := [(4, .int (bI false)), (7, .int (bI false)), (6, .int (bI tw)), (5, .int (nI i)), (0, .ref mo), (1, .int x), (2, .int y), (3, .int z)]) (by decide) rfl dMo_rowFits_225 ?_
                                refine xz_iinc hC 3 (lc' := [(5, .int (nI (i + 1))), (4, .int (bI false)), (7, .int (bI false)), (6, .int (bI tw)), (0, .ref mo), (1, .int x), (2, .int y), (3, .int z)]) rfl (xn_inc _) (by decide) rfl dMo_rowFits_227 ?_
                                refine xz_goto hC (tgt := 83) (by decide) dMo_rowFits_230 ?_
                                refine xz_lcs (lc' := [(5, .int (nI (i + 1))), (4, .int (bI false)), (0, .ref mo), (1, .int x), (2, .int y), (3, .int z)]) [0, 1, 4, 5, 6, 7] rfl ?_
                                exact ihlp4 _ (by omega) (i + 1) false (by omega) (by first | exact xt_f (fun k => absurd (hgd.mpr ⟨k.1, fun a ha => k.2 a (by omega)⟩) (by rw [hgf]; decide)) | exact xt_f (fun k => hnits ((k.2 i (by omega)).1 (by omega))) | exact xt_f (fun k => by have := (k.2 i (by omega)).2 (by omega); omega)) rfl
                              · skip
                                have hgt := h24
                                refine xz_iload hC 2 rfl dMo_rowFits_192 ?_
                                refine xz_aload_n hC 4 rfl rfl dMo_rowFits_194 ?_
                                refine xz_get hC 0 rfl rfl 12 (by decide) inMo tq441 rfl rfl dMo_rowFits_195 ?_
                                refine xz_icmp_ge hC (tgt := 209) (nI_toInt (by omega)) (nI_toInt (by omega)) (by decide) dMo_rowFits_198 (fun h25 => ?_) (fun h25 => ?_)
                                · skip
                                  refine xz_aload_n hC 4 rfl rfl dMo_rowFits_209 ?_
                                  refine xz_get hC 0 rfl rfl 13 (by decide) inMo tq442 rfl rfl dMo_rowFits_210 ?_
                                  refine xz_iload hC 2 rfl dMo_rowFits_213 ?_
                                  refine xz_iaload hC 2 0 (v := Rq i) rfl rfl (by omega) (by decide) rfl dMo_rowFits_215 ?_
                                  refine xz_iconst hC (v := (-1)) (by decide +kernel) dMo_rowFits_216 ?_
                                  refine xz_icmp_ne hC (tgt := 224) rfl xn_m1 (by decide) dMo_rowFits_217 (fun h26 => ?_) (fun h26 => ?_)
                                  · skip
                                    refine xz_iconst hC (v := bI false) (by decide +kernel) dMo_rowFits_224 ?_
                                    refine xz_istore hC (lc' := [(4, .int (bI false)), (7, .int (bI false)), (6, .int (bI tw)), (5, .int (nI i)), (0, .ref mo), (1, .int x), (2, .int y), (3, .int z)]) (by decide) rfl dMo_rowFits_225 ?_
                                    refine xz_iinc hC 3 (lc' := [(5, .int (nI (i + 1))), (4, .int (bI false)), (7, .int (bI false)), (6, .int (bI tw)), (0, .ref mo), (1, .int x), (2, .int y), (3, .int z)]) rfl (xn_inc _) (by decide) rfl dMo_rowFits_227 ?_
                                    refine xz_goto hC (tgt := 83) (by decide) dMo_rowFits_230 ?_
                                    refine xz_lcs (lc' := [(5, .int (nI (i + 1))), (4, .int (bI false)), (0, .ref mo), (1, .int x), (2, .int y), (3, .int z)]) [0, 1, 4, 5, 6, 7] rfl ?_
                                    exact ihlp4 _ (by omega) (i + 1) false (by omega) (by first | exact xt_f (fun k => absurd (hgd.mpr ⟨k.1, fun a ha => k.2 a (by omega)⟩) (by rw [hgf]; decide)) | exact xt_f (fun k => hnits ((k.2 i (by omega)).1 (by omega))) | exact xt_f (fun k => by have := (k.2 i (by omega)).2 (by omega); omega)) rfl
                                  · skip
                                    refine xz_iconst hC (v := bI true) (by decide +kernel) dMo_rowFits_220 ?_
                                    refine xz_goto hC (tgt := 225) (by decide) dMo_rowFits_221 ?_
                                    refine xz_istore hC (lc' := [(4, .int (bI true)), (7, .int (bI false)), (6, .int (bI tw)), (5, .int (nI i)), (0, .ref mo), (1, .int x), (2, .int y), (3, .int z)]) (by decide) rfl dMo_rowFits_225 ?_
                                    refine xz_iinc hC 3 (lc' := [(5, .int (nI (i + 1))), (4, .int (bI true)), (7, .int (bI false)), (6, .int (bI tw)), (0, .ref mo), (1, .int x), (2, .int y), (3, .int z)]) rfl (xn_inc _) (by decide) rfl dMo_rowFits_227 ?_
                                    refine xz_goto hC (tgt := 83) (by decide) dMo_rowFits_230 ?_
                                    refine xz_lcs (lc' := [(5, .int (nI (i + 1))), (4, .int (bI true)), (0, .ref mo), (1, .int x), (2, .int y), (3, .int z)]) [0, 1, 4, 5, 6, 7] rfl ?_
                                    exact ihlp4 _ (by omega) (i + 1) true (by omega) (by first | exact xt_t ⟨(hgd.mp hgt).1, lt_s (hgd.mp hgt).2 ⟨fun _ => hits, fun k => absurd (show i < (xq_pc (xq_vb q (3 * pa))) by omega) k⟩⟩ | exact xt_t ⟨(hgd.mp hgt).1, lt_s (hgd.mp hgt).2 ⟨fun k => absurd k (by omega), fun _ => by omega⟩⟩) rfl
                                · skip
                                  refine xz_iload hC 0 rfl dMo_rowFits_201 ?_
                                  refine xz_ifb_eq hC (tgt := 224) (by decide) dMo_rowFits_203 (fun h27 => ?_) (fun h27 => ?_)
                                  · skip
                                    refine xz_iconst hC (v := bI false) (by decide +kernel) dMo_rowFits_224 ?_
                                    refine xz_istore hC (lc' := [(4, .int (bI false)), (7, .int (bI false)), (6, .int (bI tw)), (5, .int (nI i)), (0, .ref mo), (1, .int x), (2, .int y), (3, .int z)]) (by decide) rfl dMo_rowFits_225 ?_
                                    refine xz_iinc hC 3 (lc' := [(5, .int (nI (i + 1))), (4, .int (bI false)), (7, .int (bI false)), (6, .int (bI tw)), (0, .ref mo), (1, .int x), (2, .int y), (3, .int z)]) rfl (xn_inc _) (by decide) rfl dMo_rowFits_227 ?_
                                    refine xz_goto hC (tgt := 83) (by decide) dMo_rowFits_230 ?_
                                    refine xz_lcs (lc' := [(5, .int (nI (i + 1))), (4, .int (bI false)), (0, .ref mo), (1, .int x), (2, .int y), (3, .int z)]) [0, 1, 4, 5, 6, 7] rfl ?_
                                    exact ihlp4 _ (by omega) (i + 1) false (by omega) (by first | exact xt_f (fun k => absurd (hgd.mpr ⟨k.1, fun a ha => k.2 a (by omega)⟩) (by rw [hgf]; decide)) | exact xt_f (fun k => hnits ((k.2 i (by omega)).1 (by omega))) | exact xt_f (fun k => by have := (k.2 i (by omega)).2 (by omega); omega)) rfl
                                  · skip
                                    exact absurd h27 (by decide)
                            · skip
                              have htwf := h23
                              refine xz_iconst hC (v := bI true) (by decide +kernel) dMo_rowFits_180 ?_
                              refine xz_goto hC (tgt := 185) (by decide) dMo_rowFits_181 ?_
                              have hits : xm_its Rq q (3 * pa) i := ⟨⟨by omega, by omega⟩, hask, fun k => absurd (htw.mpr (by rw [show jj = i by omega]; exact k)) (by rw [htwf]; decide)⟩
                              refine xz_istore hC (lc' := [(7, .int (bI true)), (6, .int (bI tw)), (5, .int (nI i)), (4, .int (bI gd)), (0, .ref mo), (1, .int x), (2, .int y), (3, .int z)]) (by decide) rfl dMo_rowFits_185 ?_
                              refine xz_iload hC 3 rfl dMo_rowFits_187 ?_
                              refine xz_ifb_eq hC (tgt := 224) (by decide) dMo_rowFits_189 (fun h28 => ?_) (fun h28 => ?_)
                              · skip
                                have hgf := h28
                                refine xz_iconst hC (v := bI false) (by decide +kernel) dMo_rowFits_224 ?_
                                refine xz_istore hC (lc' := [(4, .int (bI false)), (7, .int (bI true)), (6, .int (bI tw)), (5, .int (nI i)), (0, .ref mo), (1, .int x), (2, .int y), (3, .int z)]) (by decide) rfl dMo_rowFits_225 ?_
                                refine xz_iinc hC 3 (lc' := [(5, .int (nI (i + 1))), (4, .int (bI false)), (7, .int (bI true)), (6, .int (bI tw)), (0, .ref mo), (1, .int x), (2, .int y), (3, .int z)]) rfl (xn_inc _) (by decide) rfl dMo_rowFits_227 ?_
                                refine xz_goto hC (tgt := 83) (by decide) dMo_rowFits_230 ?_
                                refine xz_lcs (lc' := [(5, .int (nI (i + 1))), (4, .int (bI false)), (0, .ref mo), (1, .int x), (2, .int y), (3, .int z)]) [0, 1, 4, 5, 6, 7] rfl ?_
                                exact ihlp4 _ (by omega) (i + 1) false (by omega) (by first | exact xt_f (fun k => absurd (hgd.mpr ⟨k.1, fun a ha => k.2 a (by omega)⟩) (by rw [hgf]; decide)) | exact xt_f (fun k => hnits ((k.2 i (by omega)).1 (by omega))) | exact xt_f (fun k => by have := (k.2 i (by omega)).2 (by omega); omega)) rfl
                              · skip
                                have hgt := h28
                                refine xz_iload hC 2 rfl dMo_rowFits_192 ?_
                                refine xz_aload_n hC 4 rfl rfl dMo_rowFits_194 ?_
                                refine xz_get hC 0 rfl rfl 12 (by decide) inMo tq441 rfl rfl dMo_rowFits_195 ?_
                                refine xz_icmp_ge hC (tgt := 209) (nI_toInt (by omega)) (nI_toInt (by omega)) (by decide) dMo_rowFits_198 (fun h29 => ?_) (fun h29 => ?_)
                                · skip
                                  refine xz_aload_n hC 4 rfl rfl dMo_rowFits_209 ?_
                                  refine xz_get hC 0 rfl rfl 13 (by decide) inMo tq442 rfl rfl dMo_rowFits_210 ?_
                                  refine xz_iload hC 2 rfl dMo_rowFits_213 ?_
                                  refine xz_iaload hC 2 0 (v := Rq i) rfl rfl (by omega) (by decide) rfl dMo_rowFits_215 ?_
                                  refine xz_iconst hC (v := (-1)) (by decide +kernel) dMo_rowFits_216 ?_
                                  refine xz_icmp_ne hC (tgt := 224) rfl xn_m1 (by decide) dMo_rowFits_217 (fun h30 => ?_) (fun h30 => ?_)
                                  · skip
                                    refine xz_iconst hC (v := bI false) (by decide +kernel) dMo_rowFits_224 ?_
                                    refine xz_istore hC (lc' := [(4, .int (bI false)), (7, .int (bI true)), (6, .int (bI tw)), (5, .int (nI i)), (0, .ref mo), (1, .int x), (2, .int y), (3, .int z)]) (by decide) rfl dMo_rowFits_225 ?_
                                    refine xz_iinc hC 3 (lc' := [(5, .int (nI (i + 1))), (4, .int (bI false)), (7, .int (bI true)), (6, .int (bI tw)), (0, .ref mo), (1, .int x), (2, .int y), (3, .int z)]) rfl (xn_inc _) (by decide) rfl dMo_rowFits_227 ?_
                                    refine xz_goto hC (tgt := 83) (by decide) dMo_rowFits_230 ?_
                                    refine xz_lcs (lc' := [(5, .int (nI (i + 1))), (4, .int (bI false)), (0, .ref mo), (1, .int x), (2, .int y), (3, .int z)]) [0, 1, 4, 5, 6, 7] rfl ?_
                                    exact ihlp4 _ (by omega) (i + 1) false (by omega) (by first | exact xt_f (fun k => absurd (hgd.mpr ⟨k.1, fun a ha => k.2 a (by omega)⟩) (by rw [hgf]; decide)) | exact xt_f (fun k => hnits ((k.2 i (by omega)).1 (by omega))) | exact xt_f (fun k => by have := (k.2 i (by omega)).2 (by omega); omega)) rfl
                                  · skip
                                    refine xz_iconst hC (v := bI true) (by decide +kernel) dMo_rowFits_220 ?_
                                    refine xz_goto hC (tgt := 225) (by decide) dMo_rowFits_221 ?_
                                    refine xz_istore hC (lc' := [(4, .int (bI true)), (7, .int (bI true)), (6, .int (bI tw)), (5, .int (nI i)), (0, .ref mo), (1, .int x), (2, .int y), (3, .int z)]) (by decide) rfl dMo_rowFits_225 ?_
                                    refine xz_iinc hC 3 (lc' := [(5, .int (nI (i + 1))), (4, .int (bI true)), (7, .int (bI true)), (6, .int (bI tw)), (0, .ref mo), (1, .int x), (2, .int y), (3, .int z)]) rfl (xn_inc _) (by decide) rfl dMo_rowFits_227 ?_
                                    refine xz_goto hC (tgt := 83) (by decide) dMo_rowFits_230 ?_
                                    refine xz_lcs (lc' := [(5, .int (nI (i + 1))), (4, .int (bI true)), (0, .ref mo), (1, .int x), (2, .int y), (3, .int z)]) [0, 1, 4, 5, 6, 7] rfl ?_
                                    exact ihlp4 _ (by omega) (i + 1) true (by omega) (by first | exact xt_t ⟨(hgd.mp hgt).1, lt_s (hgd.mp hgt).2 ⟨fun _ => hits, fun k => absurd (show i < (xq_pc (xq_vb q (3 * pa))) by omega) k⟩⟩ | exact xt_t ⟨(hgd.mp hgt).1, lt_s (hgd.mp hgt).2 ⟨fun k => absurd k (by omega), fun _ => by omega⟩⟩) rfl
                                · skip
                                  refine xz_iload hC 0 rfl dMo_rowFits_201 ?_
                                  refine xz_ifb_eq hC (tgt := 224) (by decide) dMo_rowFits_203 (fun h31 => ?_) (fun h31 => ?_)
                                  · skip
                                    exact absurd h31 (by decide)
                                  · skip
                                    refine xz_goto hC (tgt := 220) (by decide) dMo_rowFits_206 ?_
                                    refine xz_iconst hC (v := bI true) (by decide +kernel) dMo_rowFits_220 ?_
                                    refine xz_goto hC (tgt := 225) (by decide) dMo_rowFits_221 ?_
                                    refine xz_istore hC (lc' := [(4, .int (bI true)), (7, .int (bI true)), (6, .int (bI tw)), (5, .int (nI i)), (0, .ref mo), (1, .int x), (2, .int y), (3, .int z)]) (by decide) rfl dMo_rowFits_225 ?_
                                    refine xz_iinc hC 3 (lc' := [(5, .int (nI (i + 1))), (4, .int (bI true)), (7, .int (bI true)), (6, .int (bI tw)), (0, .ref mo), (1, .int x), (2, .int y), (3, .int z)]) rfl (xn_inc _) (by decide) rfl dMo_rowFits_227 ?_
                                    refine xz_goto hC (tgt := 83) (by decide) dMo_rowFits_230 ?_
                                    refine xz_lcs (lc' := [(5, .int (nI (i + 1))), (4, .int (bI true)), (0, .ref mo), (1, .int x), (2, .int y), (3, .int z)]) [0, 1, 4, 5, 6, 7] rfl ?_
                                    exact ihlp4 _ (by omega) (i + 1) true (by omega) (by first | exact xt_t ⟨(hgd.mp hgt).1, lt_s (hgd.mp hgt).2 ⟨fun _ => hits, fun k => absurd (show i < (xq_pc (xq_vb q (3 * pa))) by omega) k⟩⟩ | exact xt_t ⟨(hgd.mp hgt).1, lt_s (hgd.mp hgt).2 ⟨fun k => absurd k (by omega), fun _ => by omega⟩⟩) rfl
                    · skip
                      refine xz_iload hC 1 rfl dMo_rowFits_102 ?_
                      refine xz_ifb_ne hC (tgt := 124) (by decide) dMo_rowFits_104 (fun h32 => ?_) (fun h32 => ?_)
                      · skip
                        have htt := h32
                        refine xz_iconst hC (v := bI true) (by decide +kernel) dMo_rowFits_124 ?_
                        refine xz_goto hC (tgt := 129) (by decide) dMo_rowFits_125 ?_
                        refine xz_istore hC (lc' := [(6, .int (bI true)), (7, .int (nI jj)), (5, .int (nI i)), (4, .int (bI gd)), (0, .ref mo), (1, .int x), (2, .int y), (3, .int z)]) (by decide) rfl dMo_rowFits_129 ?_
                        refine xz_iinc hC 1 (lc' := [(7, .int (nI (jj + 1))), (6, .int (bI true)), (5, .int (nI i)), (4, .int (bI gd)), (0, .ref mo), (1, .int x), (2, .int y), (3, .int z)]) rfl (xn_inc _) (by decide) rfl dMo_rowFits_131 ?_
                        refine xz_goto hC (tgt := 95) (by decide) dMo_rowFits_134 ?_
                        exact ihlp6 _ (by omega) (jj + 1) true (by omega) (by first | exact xt_t ⟨jj, by omega, by omega⟩ | exact xt_t (by obtain ⟨a, ha, e⟩ := htw.mp htt; exact ⟨a, by omega, e⟩)) rfl
                      · skip
                        have htf : ¬ xm_tw Rq i jj := fun k => absurd (htw.mpr k) (by rw [h32]; decide)
                        refine xz_aload_n hC 4 rfl rfl dMo_rowFits_107 ?_
                        refine xz_get hC 0 rfl rfl 13 (by decide) inMo tq442 rfl rfl dMo_rowFits_108 ?_
                        refine xz_iload hC 0 rfl dMo_rowFits_111 ?_
                        refine xz_iaload hC 2 0 (v := Rq jj) rfl rfl (by omega) (by decide) rfl dMo_rowFits_113 ?_
                        refine xz_aload_n hC 4 rfl rfl dMo_rowFits_114 ?_
                        refine xz_get hC 0 rfl rfl 13 (by decide) inMo tq442 rfl rfl dMo_rowFits_115 ?_
                        refine xz_iload hC 2 rfl dMo_rowFits_118 ?_
                        refine xz_iaload hC 2 0 (v := Rq i) rfl rfl (by omega) (by decide) rfl dMo_rowFits_120 ?_
                        refine xz_icmp_ne hC (tgt := 128) rfl rfl (by decide) dMo_rowFits_121 (fun h33 => ?_) (fun h33 => ?_)
                        · skip
                          refine xz_iconst hC (v := bI false) (by decide +kernel) dMo_rowFits_128 ?_
                          refine xz_istore hC (lc' := [(6, .int (bI false)), (7, .int (nI jj)), (5, .int (nI i)), (4, .int (bI gd)), (0, .ref mo), (1, .int x), (2, .int y), (3, .int z)]) (by decide) rfl dMo_rowFits_129 ?_
                          refine xz_iinc hC 1 (lc' := [(7, .int (nI (jj + 1))), (6, .int (bI false)), (5, .int (nI i)), (4, .int (bI gd)), (0, .ref mo), (1, .int x), (2, .int y), (3, .int z)]) rfl (xn_inc _) (by decide) rfl dMo_rowFits_131 ?_
                          refine xz_goto hC (tgt := 95) (by decide) dMo_rowFits_134 ?_
                          exact ihlp6 _ (by omega) (jj + 1) false (by omega) (xt_f (fun ⟨a, ha, e⟩ => by by_cases k : a = jj; (subst k; omega); exact htf ⟨a, by omega, e⟩)) rfl
                        · skip
                          refine xz_iconst hC (v := bI true) (by decide +kernel) dMo_rowFits_124 ?_
                          refine xz_goto hC (tgt := 129) (by decide) dMo_rowFits_125 ?_
                          refine xz_istore hC (lc' := [(6, .int (bI true)), (7, .int (nI jj)), (5, .int (nI i)), (4, .int (bI gd)), (0, .ref mo), (1, .int x), (2, .int y), (3, .int z)]) (by decide) rfl dMo_rowFits_129 ?_
                          refine xz_iinc hC 1 (lc' := [(7, .int (nI (jj + 1))), (6, .int (bI true)), (5, .int (nI i)), (4, .int (bI gd)), (0, .ref mo), (1, .int x), (2, .int y), (3, .int z)]) rfl (xn_inc _) (by decide) rfl dMo_rowFits_131 ?_
                          refine xz_goto hC (tgt := 95) (by decide) dMo_rowFits_134 ?_
                          exact ihlp6 _ (by omega) (jj + 1) true (by omega) (by first | exact xt_t ⟨jj, by omega, by omega⟩ | exact xt_t (by obtain ⟨a, ha, e⟩ := htw.mp htt; exact ⟨a, by omega, e⟩)) rfl
                exact lp6 _ 0 false (by omega) (xt_f (fun ⟨a, ha, e⟩ => by omega)) rfl
          exact lp4 _ 0 false (by omega) (by first | exact xt_t ⟨by omega, fun a ha => absurd ha (by omega)⟩ | exact xt_f (fun k => by omega)) rfl
        · skip
          refine xz_iconst hC (v := bI true) (by decide +kernel) dMo_rowFits_73 ?_
          refine xz_goto hC (tgt := 78) (by decide) dMo_rowFits_74 ?_
          refine xz_istore hC (lc' := [(4, .int (bI true)), (0, .ref mo), (1, .int x), (2, .int y), (3, .int z)]) (by decide) rfl dMo_rowFits_78 ?_
          refine xz_iconst hC (v := nI 0) (by decide +kernel) dMo_rowFits_80 ?_
          refine xz_istore hC (lc' := [(5, .int (nI 0)), (4, .int (bI true)), (0, .ref mo), (1, .int x), (2, .int y), (3, .int z)]) (by decide) rfl dMo_rowFits_81 ?_
          have lp34 : ∀ (NNlp34 : Nat) (i : Nat) (gd : Bool), i ≤ 3 → (gd = true ↔ (0 < pa ∧ ∀ a, a < i → xm_rf Rq q (3 * pa) (xq_pc (xq_vb q (3 * pa))) a)) → 3 - i = NNlp34 → xz_X Γ 0 0 [(mo, .inr (6, [.int (nI mb), .ref wo, .int (nI mw), .ref le, .ref lt, .int (nI n), .ref pe, .int (nI o), .ref st, .int (nI mg), .int (nI pa), .ref pt, .int (nI (xq_pc (xq_vb q (3 * pa)))), .ref rr, .ref vl, .ref bo, .int (nI an), .ref kp, .int (nI lv)])), (pt, .inl (K 0, 12, .inl Pt)), (rr, .inl (K 0, 3, .inl Rq))] 83 [(5, .int (nI i)), (4, .int (bI gd)), (0, .ref mo), (1, .int x), (2, .int y), (3, .int z)] [] := by
            intro NNlp34
            induction NNlp34 using Nat.strongRecOn with
            | _ NNlp34 ihlp34 =>
              intro i  gd  hi hgd hNNlp34
              refine xz_iload hC 0 rfl dMo_rowFits_83 ?_
              refine xz_iconst hC (v := nI 3) (by decide +kernel) dMo_rowFits_85 ?_
              refine xz_icmp_ge hC (tgt := 233) (nI_toInt (by omega)) (nI_toInt (by omega)) (by decide) dMo_rowFits_86 (fun h35 => ?_) (fun h35 => ?_)
              · skip
                refine xz_iload hC 1 rfl dMo_rowFits_233 ?_
                exact xz_zreturn hC (by decide) (by decide) (⟨gd, Rq, rfl, rfl, hR0, hR1, hR2, by rw [hgd, show i = 3 by omega, xm_row (fun i hi => (hq i hi).2), hR0, hR1, hR2]⟩) dMo_rowFits_235
              · skip
                refine xz_iconst hC (v := bI false) (by decide +kernel) dMo_rowFits_89 ?_
                refine xz_istore hC (lc' := [(6, .int (bI false)), (5, .int (nI i)), (4, .int (bI gd)), (0, .ref mo), (1, .int x), (2, .int y), (3, .int z)]) (by decide) rfl dMo_rowFits_90 ?_
                refine xz_iconst hC (v := nI 0) (by decide +kernel) dMo_rowFits_92 ?_
                refine xz_istore hC (lc' := [(7, .int (nI 0)), (6, .int (bI false)), (5, .int (nI i)), (4, .int (bI gd)), (0, .ref mo), (1, .int x), (2, .int y), (3, .int z)]) (by decide) rfl dMo_rowFits_93 ?_
                have lp36 : ∀ (NNlp36 : Nat) (jj : Nat) (tw : Bool), jj ≤ i → (tw = true ↔ xm_tw Rq i jj) → i - jj = NNlp36 → xz_X Γ 0 0 [(mo, .inr (6, [.int (nI mb), .ref wo, .int (nI mw), .ref le, .ref lt, .int (nI n), .ref pe, .int (nI o), .ref st, .int (nI mg), .int (nI pa), .ref pt, .int (nI (xq_pc (xq_vb q (3 * pa)))), .ref rr, .ref vl, .ref bo, .int (nI an), .ref kp, .int (nI lv)])), (pt, .inl (K 0, 12, .inl Pt)), (rr, .inl (K 0, 3, .inl Rq))] 95 [(7, .int (nI jj)), (6, .int (bI tw)), (5, .int (nI i)), (4, .int (bI gd)), (0, .ref mo), (1, .int x), (2, .int y), (3, .int z)] [] := by
                  intro NNlp36
                  induction NNlp36 using Nat.strongRecOn with
                  | _ NNlp36 ihlp36 =>
                    intro jj  tw  hjj htw hNNlp36
                    refine xz_iload hC 0 rfl dMo_rowFits_95 ?_
                    refine xz_iload hC 2 rfl dMo_rowFits_97 ?_
                    refine xz_icmp_ge hC (tgt := 137) (nI_toInt (by omega)) (nI_toInt (by omega)) (by decide) dMo_rowFits_99 (fun h37 => ?_) (fun h37 => ?_)
                    · skip
                      refine xz_aload_n hC 4 rfl rfl dMo_rowFits_137 ?_
                      refine xz_get hC 0 rfl rfl 13 (by decide) inMo tq442 rfl rfl dMo_rowFits_138 ?_
                      refine xz_iload hC 2 rfl dMo_rowFits_141 ?_
                      refine xz_iaload hC 2 0 (v := Rq i) rfl rfl (by omega) (by decide) rfl dMo_rowFits_143 ?_
                      refine xz_bipush hC (v := nI 32) (by decide +kernel) dMo_rowFits_144 ?_
                      refine xz_icmp_lt hC (tgt := 184) rfl (nI_toInt (by omega)) (by decide) dMo_rowFits_146 (fun h38 => ?_) (fun h38 => ?_)
                      · skip
                        refine xz_iconst hC (v := bI false) (by decide +kernel) dMo_rowFits_184 ?_
                        have hnits : ¬ xm_its Rq q (3 * pa) i := by first | exact fun k => absurd k.1 (by omega) | exact fun k => hnask k.2.1 | exact fun k => k.2.2 (by have hz := htw.mp htwt; rw [show jj = i by omega] at hz; exact hz)
                        refine xz_istore hC (lc' := [(7, .int (bI false)), (6, .int (bI tw)), (5, .int (nI i)), (4, .int (bI gd)), (0, .ref mo), (1, .int x), (2, .int y), (3, .int z)]) (by decide) rfl dMo_rowFits_185 ?_
                        refine xz_iload hC 3 rfl dMo_rowFits_187 ?_
                        refine xz_ifb_eq hC (tgt := 224) (by decide) dMo_rowFits_189 (fun h39 => ?_) (fun h39 => ?_)
                        · skip
                          have hgf := h39
                          refine xz_iconst hC (v := bI false) (by decide +kernel) dMo_rowFits_224 ?_
                          refine xz_istore hC (lc' := [(4, .int (bI false)), (7, .int (bI false)), (6, .int (bI tw)), (5, .int (nI i)), (0, .ref mo), (1, .int x), (2, .int y), (3, .int z)]) (by decide) rfl dMo_rowFits_225 ?_
                          refine xz_iinc hC 3 (lc' := [(5, .int (nI (i + 1))), (4, .int (bI false)), (7, .int (bI false)), (6, .int (bI tw)), (0, .ref mo), (1, .int x), (2, .int y), (3, .int z)]) rfl (xn_inc _) (by decide) rfl dMo_rowFits_227 ?_
                          refine xz_goto hC (tgt := 83) (by decide) dMo_rowFits_230 ?_
                          refine xz_lcs (lc' := [(5, .int (nI (i + 1))), (4, .int (bI false)), (0, .ref mo), (1, .int x), (2, .int y), (3, .int z)]) [0, 1, 4, 5, 6, 7] rfl ?_
                          exact ihlp34 _ (by omega) (i + 1) false (by omega) (by first | exact xt_f (fun k => absurd (hgd.mpr ⟨k.1, fun a ha => k.2 a (by omega)⟩) (by rw [hgf]; decide)) | exact xt_f (fun k => hnits ((k.2 i (by omega)).1 (by omega))) | exact xt_f (fun k => by have := (k.2 i (by omega)).2 (by omega); omega)) rfl
                        · skip
                          have hgt := h39
                          refine xz_iload hC 2 rfl dMo_rowFits_192 ?_
                          refine xz_aload_n hC 4 rfl rfl dMo_rowFits_194 ?_
                          refine xz_get hC 0 rfl rfl 12 (by decide) inMo tq441 rfl rfl dMo_rowFits_195 ?_
                          refine xz_icmp_ge hC (tgt := 209) (nI_toInt (by omega)) (nI_toInt (by omega)) (by decide) dMo_rowFits_198 (fun h40 => ?_) (fun h40 => ?_)
                          · skip
                            refine xz_aload_n hC 4 rfl rfl dMo_rowFits_209 ?_
                            refine xz_get hC 0 rfl rfl 13 (by decide) inMo tq442 rfl rfl dMo_rowFits_210 ?_
                            refine xz_iload hC 2 rfl dMo_rowFits_213 ?_
                            refine xz_iaload hC 2 0 (v := Rq i) rfl rfl (by omega) (by decide) rfl dMo_rowFits_215 ?_
                            refine xz_iconst hC (v := (-1)) (by decide +kernel) dMo_rowFits_216 ?_
                            refine xz_icmp_ne hC (tgt := 224) rfl xn_m1 (by decide) dMo_rowFits_217 (fun h41 => ?_) (fun h41 => ?_)
                            · skip
                              refine xz_iconst hC (v := bI false) (by decide +kernel) dMo_rowFits_224 ?_
                              refine xz_istore hC (lc' := [(4, .int (bI false)), (7, .int (bI false)), (6, .int (bI tw)), (5, .int (nI i)), (0, .ref mo), (1, .int x), (2, .int y), (3, .int z)]) (by decide) rfl dMo_rowFits_225 ?_
                              refine xz_iinc hC 3 (lc' := [(5, .int (nI (i + 1))), (4, .int (bI false)), (7, .int (bI false)), (6, .int (bI tw)), (0, .ref mo), (1, .int x), (2, .int y), (3, .int z)]) rfl (xn_inc _) (by decide) rfl dMo_rowFits_227 ?_
                              refine xz_goto hC (tgt := 83) (by decide) dMo_rowFits_230 ?_
                              refine xz_lcs (lc' := [(5, .int (nI (i + 1))), (4, .int (bI false)), (0, .ref mo), (1, .int x), (2, .int y), (3, .int z)]) [0, 1, 4, 5, 6, 7] rfl ?_
                              exact ihlp34 _ (by omega) (i + 1) false (by omega) (by first | exact xt_f (fun k => absurd (hgd.mpr ⟨k.1, fun a ha => k.2 a (by omega)⟩) (by rw [hgf]; decide)) | exact xt_f (fun k => hnits ((k.2 i (by omega)).1 (by omega))) | exact xt_f (fun k => by have := (k.2 i (by omega)).2 (by omega); omega)) rfl
                            · skip
                              refine xz_iconst hC (v := bI true) (by decide +kernel) dMo_rowFits_220 ?_
                              refine xz_goto hC (tgt := 225) (by decide) dMo_rowFits_221 ?_
                              refine xz_istore hC (lc' := [(4, .int (bI true)), (7, .int (bI false)), (6, .int (bI tw)), (5, .int (nI i)), (0, .ref mo), (1, .int x), (2, .int y), (3, .int z)]) (by decide) rfl dMo_rowFits_225 ?_
                              refine xz_iinc hC 3 (lc' := [(5, .int (nI (i + 1))), (4, .int (bI true)), (7, .int (bI false)), (6, .int (bI tw)), (0, .ref mo), (1, .int x), (2, .int y), (3, .int z)]) rfl (xn_inc _) (by decide) rfl dMo_rowFits_227 ?_
                              refine xz_goto hC (tgt := 83) (by decide) dMo_rowFits_230 ?_
                              refine xz_lcs (lc' := [(5, .int (nI (i + 1))), (4, .int (bI true)), (0, .ref mo), (1, .int x), (2, .int y), (3, .int z)]) [0, 1, 4, 5, 6, 7] rfl ?_
                              exact ihlp34 _ (by omega) (i + 1) true (by omega) (by first | exact xt_t ⟨(hgd.mp hgt).1, lt_s (hgd.mp hgt).2 ⟨fun _ => hits, fun k => absurd (show i < (xq_pc (xq_vb q (3 * pa))) by omega) k⟩⟩ | exact xt_t ⟨(hgd.mp hgt).1, lt_s (hgd.mp hgt).2 ⟨fun k => absurd k (by omega), fun _ => by omega⟩⟩) rfl
                          · skip
                            refine xz_iload hC 0 rfl dMo_rowFits_201 ?_
                            refine xz_ifb_eq hC (tgt := 224) (by decide) dMo_rowFits_203 (fun h42 => ?_) (fun h42 => ?_)
                            · skip
                              refine xz_iconst hC (v := bI false) (by decide +kernel) dMo_rowFits_224 ?_
                              refine xz_istore hC (lc' := [(4, .int (bI false)), (7, .int (bI false)), (6, .int (bI tw)), (5, .int (nI i)), (0, .ref mo), (1, .int x), (2, .int y), (3, .int z)]) (by decide) rfl dMo_rowFits_225 ?_
                              refine xz_iinc hC 3 (lc' := [(5, .int (nI (i + 1))), (4, .int (bI false)), (7, .int (bI false)), (6, .int (bI tw)), (0, .ref mo), (1, .int x), (2, .int y), (3, .int z)]) rfl (xn_inc _) (by decide) rfl dMo_rowFits_227 ?_
                              refine xz_goto hC (tgt := 83) (by decide) dMo_rowFits_230 ?_
                              refine xz_lcs (lc' := [(5, .int (nI (i + 1))), (4, .int (bI false)), (0, .ref mo), (1, .int x), (2, .int y), (3, .int z)]) [0, 1, 4, 5, 6, 7] rfl ?_
                              exact ihlp34 _ (by omega) (i + 1) false (by omega) (by first | exact xt_f (fun k => absurd (hgd.mpr ⟨k.1, fun a ha => k.2 a (by omega)⟩) (by rw [hgf]; decide)) | exact xt_f (fun k => hnits ((k.2 i (by omega)).1 (by omega))) | exact xt_f (fun k => by have := (k.2 i (by omega)).2 (by omega); omega)) rfl
                            · skip
                              exact absurd h42 (by decide)
                      · skip
                        refine xz_aload_n hC 4 rfl rfl dMo_rowFits_149 ?_
                        refine xz_get hC 0 rfl rfl 13 (by decide) inMo tq442 rfl rfl dMo_rowFits_150 ?_
                        refine xz_iload hC 2 rfl dMo_rowFits_153 ?_
                        refine xz_iaload hC 2 0 (v := Rq i) rfl rfl (by omega) (by decide) rfl dMo_rowFits_155 ?_
                        refine xz_bipush hC (v := nI 34) (by decide +kernel) dMo_rowFits_156 ?_
                        refine xz_icmp_gt hC (tgt := 184) rfl (nI_toInt (by omega)) (by decide) dMo_rowFits_158 (fun h43 => ?_) (fun h43 => ?_)
                        · skip
                          refine xz_iconst hC (v := bI false) (by decide +kernel) dMo_rowFits_184 ?_
                          have hnits : ¬ xm_its Rq q (3 * pa) i := by first | exact fun k => absurd k.1 (by omega) | exact fun k => hnask k.2.1 | exact fun k => k.2.2 (by have hz := htw.mp htwt; rw [show jj = i by omega] at hz; exact hz)
                          refine xz_istore hC (lc' := [(7, .int (bI false)), (6, .int (bI tw)), (5, .int (nI i)), (4, .int (bI gd)), (0, .ref mo), (1, .int x), (2, .int y), (3, .int z)]) (by decide) rfl dMo_rowFits_185 ?_
                          refine xz_iload hC 3 rfl dMo_rowFits_187 ?_
                          refine xz_ifb_eq hC (tgt := 224) (by decide) dMo_rowFits_189 (fun h44 => ?_) (fun h44 => ?_)
                          · skip
                            have hgf := h44
                            refine xz_iconst hC (v := bI false) (by decide +kernel) dMo_rowFits_224 ?_
                            refine xz_istore hC (lc' := [(4, .int (bI false)), (7, .int (bI false)), (6, .int (bI tw)), (5, .int (nI i)), (0, .ref mo), (1, .int x), (2, .int y), (3, .int z)]) (by decide) rfl dMo_rowFits_225 ?_
                            refine xz_iinc hC 3 (lc' := [(5, .int (nI (i + 1))), (4, .int (bI false)), (7, .int (bI false)), (6, .int (bI tw)), (0, .ref mo), (1, .int x), (2, .int y), (3, .int z)]) rfl (xn_inc _) (by decide) rfl dMo_rowFits_227 ?_
                            refine xz_goto hC (tgt := 83) (by decide) dMo_rowFits_230 ?_
                            refine xz_lcs (lc' := [(5, .int (nI (i + 1))), (4, .int (bI false)), (0, .ref mo), (1, .int x), (2, .int y), (3, .int z)]) [0, 1, 4, 5, 6, 7] rfl ?_
                            exact ihlp34 _ (by omega) (i + 1) false (by omega) (by first | exact xt_f (fun k => absurd (hgd.mpr ⟨k.1, fun a ha => k.2 a (by omega)⟩) (by rw [hgf]; decide)) | exact xt_f (fun k => hnits ((k.2 i (by omega)).1 (by omega))) | exact xt_f (fun k => by have := (k.2 i (by omega)).2 (by omega); omega)) rfl
                          · skip
                            have hgt := h44
                            refine xz_iload hC 2 rfl dMo_rowFits_192 ?_
                            refine xz_aload_n hC 4 rfl rfl dMo_rowFits_194 ?_
                            refine xz_get hC 0 rfl rfl 12 (by decide) inMo tq441 rfl rfl dMo_rowFits_195 ?_
                            refine xz_icmp_ge hC (tgt := 209) (nI_toInt (by omega)) (nI_toInt (by omega)) (by decide) dMo_rowFits_198 (fun h45 => ?_) (fun h45 => ?_)
                            · skip
                              refine xz_aload_n hC 4 rfl rfl dMo_rowFits_209 ?_
                              refine xz_get hC 0 rfl rfl 13 (by decide) inMo tq442 rfl rfl dMo_rowFits_210 ?_
                              refine xz_iload hC 2 rfl dMo_rowFits_213 ?_
                              refine xz_iaload hC 2 0 (v := Rq i) rfl rfl (by omega) (by decide) rfl dMo_rowFits_215 ?_
                              refine xz_iconst hC (v := (-1)) (by decide +kernel) dMo_rowFits_216 ?_
                              refine xz_icmp_ne hC (tgt := 224) rfl xn_m1 (by decide) dMo_rowFits_217 (fun h46 => ?_) (fun h46 => ?_)
                              · skip
                                refine xz_iconst hC (v := bI false) (by decide +kernel) dMo_rowFits_224 ?_
                                refine xz_istore hC (lc' := [(4, .int (bI false)), (7, .int (bI false)), (6, .int (bI tw)), (5, .int (nI i)), (0, .ref mo), (1, .int x), (2, .int y), (3, .int z)]) (by decide) rfl dMo_rowFits_225 ?_
                                refine xz_iinc hC 3 (lc' := [(5, .int (nI (i + 1))), (4, .int (bI false)), (7, .int (bI false)), (6, .int (bI tw)), (0, .ref mo), (1, .int x), (2, .int y), (3, .int z)]) rfl (xn_inc _) (by decide) rfl dMo_rowFits_227 ?_
                                refine xz_goto hC (tgt := 83) (by decide) dMo_rowFits_230 ?_
                                refine xz_lcs (lc' := [(5, .int (nI (i + 1))), (4, .int (bI false)), (0, .ref mo), (1, .int x), (2, .int y), (3, .int z)]) [0, 1, 4, 5, 6, 7] rfl ?_
                                exact ihlp34 _ (by omega) (i + 1) false (by omega) (by first | exact xt_f (fun k => absurd (hgd.mpr ⟨k.1, fun a ha => k.2 a (by omega)⟩) (by rw [hgf]; decide)) | exact xt_f (fun k => hnits ((k.2 i (by omega)).1 (by omega))) | exact xt_f (fun k => by have := (k.2 i (by omega)).2 (by omega); omega)) rfl
                              · skip
                                refine xz_iconst hC (v := bI true) (by decide +kernel) dMo_rowFits_220 ?_
                                refine xz_goto hC (tgt := 225) (by decide) dMo_rowFits_221 ?_
                                refine xz_istore hC (lc' := [(4, .int (bI true)), (7, .int (bI false)), (6, .int (bI tw)), (5, .int (nI i)), (0, .ref mo), (1, .int x), (2, .int y), (3, .int z)]) (by decide) rfl dMo_rowFits_225 ?_
                                refine xz_iinc hC 3 (lc' := [(5, .int (nI (i + 1))), (4, .int (bI true)), (7, .int (bI false)), (6, .int (bI tw)), (0, .ref mo), (1, .int x), (2, .int y), (3, .int z)]) rfl (xn_inc _) (by decide) rfl dMo_rowFits_227 ?_
                                refine xz_goto hC (tgt := 83) (by decide) dMo_rowFits_230 ?_
                                refine xz_lcs (lc' := [(5, .int (nI (i + 1))), (4, .int (bI true)), (0, .ref mo), (1, .int x), (2, .int y), (3, .int z)]) [0, 1, 4, 5, 6, 7] rfl ?_
                                exact ihlp34 _ (by omega) (i + 1) true (by omega) (by first | exact xt_t ⟨(hgd.mp hgt).1, lt_s (hgd.mp hgt).2 ⟨fun _ => hits, fun k => absurd (show i < (xq_pc (xq_vb q (3 * pa))) by omega) k⟩⟩ | exact xt_t ⟨(hgd.mp hgt).1, lt_s (hgd.mp hgt).2 ⟨fun k => absurd k (by omega), fun _ => by omega⟩⟩) rfl
                            · skip
                              refine xz_iload hC 0 rfl dMo_rowFits_201 ?_
                              refine xz_ifb_eq hC (tgt := 224) (by decide) dMo_rowFits_203 (fun h47 => ?_) (fun h47 => ?_)
                              · skip
                                refine xz_iconst hC (v := bI false) (by decide +kernel) dMo_rowFits_224 ?_
                                refine xz_istore hC (lc' := [(4, .int (bI false)), (7, .int (bI false)), (6, .int (bI tw)), (5, .int (nI i)), (0, .ref mo), (1, .int x), (2, .int y), (3, .int z)]) (by decide) rfl dMo_rowFits_225 ?_
                                refine xz_iinc hC 3 (lc' := [(5, .int (nI (i + 1))), (4, .int (bI false)), (7, .int (bI false)), (6, .int (bI tw)), (0, .ref mo), (1, .int x), (2, .int y), (3, .int z)]) rfl (xn_inc _) (by decide) rfl dMo_rowFits_227 ?_
                                refine xz_goto hC (tgt := 83) (by decide) dMo_rowFits_230 ?_
                                refine xz_lcs (lc' := [(5, .int (nI (i + 1))), (4, .int (bI false)), (0, .ref mo), (1, .int x), (2, .int y), (3, .int z)]) [0, 1, 4, 5, 6, 7] rfl ?_
                                exact ihlp34 _ (by omega) (i + 1) false (by omega) (by first | exact xt_f (fun k => absurd (hgd.mpr ⟨k.1, fun a ha => k.2 a (by omega)⟩) (by rw [hgf]; decide)) | exact xt_f (fun k => hnits ((k.2 i (by omega)).1 (by omega))) | exact xt_f (fun k => by have := (k.2 i (by omega)).2 (by omega); omega)) rfl
                              · skip
                                exact absurd h47 (by decide)
                        · skip
                          obtain ⟨tv, htv, htve⟩ := xn_of (x := Rq i) (n := 35) (by omega) (by omega)
                          have hxtv : xi (Rq i) = tv := by rw [htve]; exact xi_nI (by omega)
                          refine xz_aload_n hC 4 rfl rfl dMo_rowFits_161 ?_
                          refine xz_aload_n hC 4 rfl rfl dMo_rowFits_162 ?_
                          refine xz_get hC 0 rfl rfl 13 (by decide) inMo tq442 rfl rfl dMo_rowFits_163 ?_
                          refine xz_iload hC 2 rfl dMo_rowFits_166 ?_
                          refine xz_iaload hC 2 0 (v := Rq i) rfl rfl (by omega) (by decide) rfl dMo_rowFits_168 ?_
                          refine xz_ste (st' := [.int (nI tv), .ref mo]) (by rw [htve]) ?_
                          refine xz_callV hC (mMo_asked l D K mo wo le lt pe st pt rr vl bo kp mb mw n o mg pa (xq_pc (xq_vb q (3 * pa))) an lv Pt q tv hpa hq htv) kMo_asked tq7 tq584 tq586 tp23 0 6 rfl rfl rfl (host := "") hMo_asked (by decide) [0, 1] [2] (by decide) rfl (wr := [(rr, .inl (K 0, 3, .inl Rq))]) rfl (by decide) (by decide) (As := [.int (nI tv)]) (rest := []) rfl rfl (Nat.le_of_ble_eq_true rfl) (by decide) dMo_rowFits_169 (fun v w hq => ?_)
                          obtain ⟨ab, rfl, rfl, hab⟩ := hq
                          refine xz_ste (st' := [.int (bI ab)]) rfl ?_
                          refine xz_wss (ws' := [(mo, .inr (6, [.int (nI mb), .ref wo, .int (nI mw), .ref le, .ref lt, .int (nI n), .ref pe, .int (nI o), .ref st, .int (nI mg), .int (nI pa), .ref pt, .int (nI (xq_pc (xq_vb q (3 * pa)))), .ref rr, .ref vl, .ref bo, .int (nI an), .ref kp, .int (nI lv)])), (pt, .inl (K 0, 12, .inl Pt)), (rr, .inl (K 0, 3, .inl Rq))]) [1, 2, 0] (by decide) rfl rfl ?_
                          rw [← hxtv] at hab
                          have hab : ab = true ↔ xm_ask q (3 * pa) (xi (Rq i)) := hab
                          refine xz_ifb_eq hC (tgt := 184) (by decide) dMo_rowFits_172 (fun h48 => ?_) (fun h48 => ?_)
                          · skip
                            have hnask : ¬ xm_ask q (3 * pa) (xi (Rq i)) := fun k => absurd (hab.mpr k) (by rw [h48]; decide)
                            refine xz_iconst hC (v := bI false) (by decide +kernel) dMo_rowFits_184 ?_
                            have hnits : ¬ xm_its Rq q (3 * pa) i := by first | exact fun k => absurd k.1 (by omega) | exact fun k => hnask k.2.1 | exact fun k => k.2.2 (by have hz := htw.mp htwt; rw [show jj = i by omega] at hz; exact hz)
                            refine xz_istore hC (lc' := [(7, .int (bI false)), (6, .int (bI tw)), (5, .int (nI i)), (4, .int (bI gd)), (0, .ref mo), (1, .int x), (2, .int y), (3, .int z)]) (by decide) rfl dMo_rowFits_185 ?_
                            refine xz_iload hC 3 rfl dMo_rowFits_187 ?_
                            refine xz_ifb_eq hC (tgt := 224) (by decide) dMo_rowFits_189 (fun h49 => ?_) (fun h49 => ?_)
                            · skip
                              have hgf := h49
                              refine xz_iconst hC (v := bI false) (by decide +kernel) dMo_rowFits_224 ?_
                              refine xz_istore hC (lc' := [(4, .int (bI false)), (7, .int (bI false)), (6, .int (bI tw)), (5, .int (nI i)), (0, .ref mo), (1, .int x), (2, .int y), (3, .int z)]) (by decide) rfl dMo_rowFits_225 ?_
                              refine xz_iinc hC 3 (lc' := [(5, .int (nI (i + 1))), (4, .int (bI false)), (7, .int (bI false)), (6, .int (bI tw)), (0, .ref mo), (1, .int x), (2, .int y), (3, .int z)]) rfl (xn_inc _) (by decide) rfl dMo_rowFits_227 ?_
                              refine xz_goto hC (tgt := 83) (by decide) dMo_rowFits_230 ?_
                              refine xz_lcs (lc' := [(5, .int (nI (i + 1))), (4, .int (bI false)), (0, .ref mo), (1, .int x), (2, .int y), (3, .int z)]) [0, 1, 4, 5, 6, 7] rfl ?_
                              exact ihlp34 _ (by omega) (i + 1) false (by omega) (by first | exact xt_f (fun k => absurd (hgd.mpr ⟨k.1, fun a ha => k.2 a (by omega)⟩) (by rw [hgf]; decide)) | exact xt_f (fun k => hnits ((k.2 i (by omega)).1 (by omega))) | exact xt_f (fun k => by have := (k.2 i (by omega)).2 (by omega); omega)) rfl
                            · skip
                              have hgt := h49
                              refine xz_iload hC 2 rfl dMo_rowFits_192 ?_
                              refine xz_aload_n hC 4 rfl rfl dMo_rowFits_194 ?_
                              refine xz_get hC 0 rfl rfl 12 (by decide) inMo tq441 rfl rfl dMo_rowFits_195 ?_
                              refine xz_icmp_ge hC (tgt := 209) (nI_toInt (by omega)) (nI_toInt (by omega)) (by decide) dMo_rowFits_198 (fun h50 => ?_) (fun h50 => ?_)
                              · skip
                                refine xz_aload_n hC 4 rfl rfl dMo_rowFits_209 ?_
                                refine xz_get hC 0 rfl rfl 13 (by decide) inMo tq442 rfl rfl dMo_rowFits_210 ?_
                                refine xz_iload hC 2 rfl dMo_rowFits_213 ?_
                                refine xz_iaload hC 2 0 (v := Rq i) rfl rfl (by omega) (by decide) rfl dMo_rowFits_215 ?_
                                refine xz_iconst hC (v := (-1)) (by decide +kernel) dMo_rowFits_216 ?_
                                refine xz_icmp_ne hC (tgt := 224) rfl xn_m1 (by decide) dMo_rowFits_217 (fun h51 => ?_) (fun h51 => ?_)
                                · skip
                                  refine xz_iconst hC (v := bI false) (by decide +kernel) dMo_rowFits_224 ?_
                                  refine xz_istore hC (lc' := [(4, .int (bI false)), (7, .int (bI false)), (6, .int (bI tw)), (5, .int (nI i)), (0, .ref mo), (1, .int x), (2, .int y), (3, .int z)]) (by decide) rfl dMo_rowFits_225 ?_
                                  refine xz_iinc hC 3 (lc' := [(5, .int (nI (i + 1))), (4, .int (bI false)), (7, .int (bI false)), (6, .int (bI tw)), (0, .ref mo), (1, .int x), (2, .int y), (3, .int z)]) rfl (xn_inc _) (by decide) rfl dMo_rowFits_227 ?_
                                  refine xz_goto hC (tgt := 83) (by decide) dMo_rowFits_230 ?_
                                  refine xz_lcs (lc' := [(5, .int (nI (i + 1))), (4, .int (bI false)), (0, .ref mo), (1, .int x), (2, .int y), (3, .int z)]) [0, 1, 4, 5, 6, 7] rfl ?_
                                  exact ihlp34 _ (by omega) (i + 1) false (by omega) (by first | exact xt_f (fun k => absurd (hgd.mpr ⟨k.1, fun a ha => k.2 a (by omega)⟩) (by rw [hgf]; decide)) | exact xt_f (fun k => hnits ((k.2 i (by omega)).1 (by omega))) | exact xt_f (fun k => by have := (k.2 i (by omega)).2 (by omega); omega)) rfl
                                · skip
                                  refine xz_iconst hC (v := bI true) (by decide +kernel) dMo_rowFits_220 ?_
                                  refine xz_goto hC (tgt := 225) (by decide) dMo_rowFits_221 ?_
                                  refine xz_istore hC (lc' := [(4, .int (bI true)), (7, .int (bI false)), (6, .int (bI tw)), (5, .int (nI i)), (0, .ref mo), (1, .int x), (2, .int y), (3, .int z)]) (by decide) rfl dMo_rowFits_225 ?_
                                  refine xz_iinc hC 3 (lc' := [(5, .int (nI (i + 1))), (4, .int (bI true)), (7, .int (bI false)), (6, .int (bI tw)), (0, .ref mo), (1, .int x), (2, .int y), (3, .int z)]) rfl (xn_inc _) (by decide) rfl dMo_rowFits_227 ?_
                                  refine xz_goto hC (tgt := 83) (by decide) dMo_rowFits_230 ?_
                                  refine xz_lcs (lc' := [(5, .int (nI (i + 1))), (4, .int (bI true)), (0, .ref mo), (1, .int x), (2, .int y), (3, .int z)]) [0, 1, 4, 5, 6, 7] rfl ?_
                                  exact ihlp34 _ (by omega) (i + 1) true (by omega) (by first | exact xt_t ⟨(hgd.mp hgt).1, lt_s (hgd.mp hgt).2 ⟨fun _ => hits, fun k => absurd (show i < (xq_pc (xq_vb q (3 * pa))) by omega) k⟩⟩ | exact xt_t ⟨(hgd.mp hgt).1, lt_s (hgd.mp hgt).2 ⟨fun k => absurd k (by omega), fun _ => by omega⟩⟩) rfl
                              · skip
                                refine xz_iload hC 0 rfl dMo_rowFits_201 ?_
                                refine xz_ifb_eq hC (tgt := 224) (by decide) dMo_rowFits_203 (fun h52 => ?_) (fun h52 => ?_)
                                · skip
                                  refine xz_iconst hC (v := bI false) (by decide +kernel) dMo_rowFits_224 ?_
                                  refine xz_istore hC (lc' := [(4, .int (bI false)), (7, .int (bI false)), (6, .int (bI tw)), (5, .int (nI i)), (0, .ref mo), (1, .int x), (2, .int y), (3, .int z)]) (by decide) rfl dMo_rowFits_225 ?_
                                  refine xz_iinc hC 3 (lc' := [(5, .int (nI (i + 1))), (4, .int (bI false)), (7, .int (bI false)), (6, .int (bI tw)), (0, .ref mo), (1, .int x), (2, .int y), (3, .int z)]) rfl (xn_inc _) (by decide) rfl dMo_rowFits_227 ?_
                                  refine xz_goto hC (tgt := 83) (by decide) dMo_rowFits_230 ?_
                                  refine xz_lcs (lc' := [(5, .int (nI (i + 1))), (4, .int (bI false)), (0, .ref mo), (1, .int x), (2, .int y), (3, .int z)]) [0, 1, 4, 5, 6, 7] rfl ?_
                                  exact ihlp34 _ (by omega) (i + 1) false (by omega) (by first | exact xt_f (fun k => absurd (hgd.mpr ⟨k.1, fun a ha => k.2 a (by omega)⟩) (by rw [hgf]; decide)) | exact xt_f (fun k => hnits ((k.2 i (by omega)).1 (by omega))) | exact xt_f (fun k => by have := (k.2 i (by omega)).2 (by omega); omega)) rfl
                                · skip
                                  exact absurd h52 (by decide)
                          · skip
                            have hask := hab.mp h48
                            refine xz_iload hC 1 rfl dMo_rowFits_175 ?_
                            refine xz_ifb_ne hC (tgt := 184) (by decide) dMo_rowFits_177 (fun h53 => ?_) (fun h53 => ?_)
                            · skip
                              have htwt := h53
                              refine xz_iconst hC (v := bI false) (by decide +kernel) dMo_rowFits_184 ?_
                              have hnits : ¬ xm_its Rq q (3 * pa) i := by first | exact fun k => absurd k.1 (by omega) | exact fun k => hnask k.2.1 | exact fun k => k.2.2 (by have hz := htw.mp htwt; rw [show jj = i by omega] at hz; exact hz)
                              refine xz_istore hC (lc' := [(7, .int (bI false)), (6, .int (bI tw)), (5, .int (nI i)), (4, .int (bI gd)), (0, .ref mo), (1, .int x), (2, .int y), (3, .int z)]) (by decide) rfl dMo_rowFits_185 ?_
                              refine xz_iload hC 3 rfl dMo_rowFits_187 ?_
                              refine xz_ifb_eq hC (tgt := 224) (by decide) dMo_rowFits_189 (fun h54 => ?_) (fun h54 => ?_)
                              · skip
                                have hgf := h54
                                refine xz_iconst hC (v := bI false) (by decide +kernel) dMo_rowFits_224 ?_
                                refine xz_istore hC (lc' := [(4, .int (bI false)), (7, .int (bI false)), (6, .int (bI tw)), (5, .int (nI i)), (0, .ref mo), (1, .int x), (2, .int y), (3, .int z)]) (by decide) rfl dMo_rowFits_225 ?_
                                refine xz_iinc hC 3 (lc' := [(5, .int (nI (i + 1))), (4, .int (bI false)), (7, .int (bI false)), (6, .int (bI tw)), (0, .ref mo), (1, .int x), (2, .int y), (3, .int z)]) rfl (xn_inc _) (by decide) rfl dMo_rowFits_227 ?_
                                refine xz_goto hC (tgt := 83) (by decide) dMo_rowFits_230 ?_
                                refine xz_lcs (lc' := [(5, .int (nI (i + 1))), (4, .int (bI false)), (0, .ref mo), (1, .int x), (2, .int y), (3, .int z)]) [0, 1, 4, 5, 6, 7] rfl ?_
                                exact ihlp34 _ (by omega) (i + 1) false (by omega) (by first | exact xt_f (fun k => absurd (hgd.mpr ⟨k.1, fun a ha => k.2 a (by omega)⟩) (by rw [hgf]; decide)) | exact xt_f (fun k => hnits ((k.2 i (by omega)).1 (by omega))) | exact xt_f (fun k => by have := (k.2 i (by omega)).2 (by omega); omega)) rfl
                              · skip
                                have hgt := h54
                                refine xz_iload hC 2 rfl dMo_rowFits_192 ?_
                                refine xz_aload_n hC 4 rfl rfl dMo_rowFits_194 ?_
                                refine xz_get hC 0 rfl rfl 12 (by decide) inMo tq441 rfl rfl dMo_rowFits_195 ?_
                                refine xz_icmp_ge hC (tgt := 209) (nI_toInt (by omega)) (nI_toInt (by omega)) (by decide) dMo_rowFits_198 (fun h55 => ?_) (fun h55 => ?_)
                                · skip
                                  refine xz_aload_n hC 4 rfl rfl dMo_rowFits_209 ?_
                                  refine xz_get hC 0 rfl rfl 13 (by decide) inMo tq442 rfl rfl dMo_rowFits_210 ?_
                                  refine xz_iload hC 2 rfl dMo_rowFits_213 ?_
                                  refine xz_iaload hC 2 0 (v := Rq i) rfl rfl (by omega) (by decide) rfl dMo_rowFits_215 ?_
                                  refine xz_iconst hC (v := (-1)) (by decide +kernel) dMo_rowFits_216 ?_
                                  refine xz_icmp_ne hC (tgt := 224) rfl xn_m1 (by decide) dMo_rowFits_217 (fun h56 => ?_) (fun h56 => ?_)
                                  · skip
                                    refine xz_iconst hC (v := bI false) (by decide +kernel) dMo_rowFits_224 ?_
                                    refine xz_istore hC (lc' := [(4, .int (bI false)), (7, .int (bI false)), (6, .int (bI tw)), (5, .int (nI i)), (0, .ref mo), (1, .int x), (2, .int y), (3, .int z)]) (by decide) rfl dMo_rowFits_225 ?_
                                    refine xz_iinc hC 3 (lc' := [(5, .int (nI (i + 1))), (4, .int (bI false)), (7, .int (bI false)), (6, .int (bI tw)), (0, .ref mo), (1, .int x), (2, .int y), (3, .int z)]) rfl (xn_inc _) (by decide) rfl dMo_rowFits_227 ?_
                                    refine xz_goto hC (tgt := 83) (by decide) dMo_rowFits_230 ?_
                                    refine xz_lcs (lc' := [(5, .int (nI (i + 1))), (4, .int (bI false)), (0, .ref mo), (1, .int x), (2, .int y), (3, .int z)]) [0, 1, 4, 5, 6, 7] rfl ?_
                                    exact ihlp34 _ (by omega) (i + 1) false (by omega) (by first | exact xt_f (fun k => absurd (hgd.mpr ⟨k.1, fun a ha => k.2 a (by omega)⟩) (by rw [hgf]; decide)) | exact xt_f (fun k => hnits ((k.2 i (by omega)).1 (by omega))) | exact xt_f (fun k => by have := (k.2 i (by omega)).2 (by omega); omega)) rfl
                                  · skip
                                    refine xz_iconst hC (v := bI true) (by decide +kernel) dMo_rowFits_220 ?_
                                    refine xz_goto hC (tgt := 225) (by decide) dMo_rowFits_221 ?_
                                    refine xz_istore hC (lc' := [(4, .int (bI true)), (7, .int (bI false)), (6, .int (bI tw)), (5, .int (nI i)), (0, .ref mo), (1, .int x), (2, .int y), (3, .int z)]) (by decide) rfl dMo_rowFits_225 ?_
                                    refine xz_iinc hC 3 (lc' := [(5, .int (nI (i + 1))), (4, .int (bI true)), (7, .int (bI false)), (6, .int (bI tw)), (0, .ref mo), (1, .int x), (2, .int y), (3, .int z)]) rfl (xn_inc _) (by decide) rfl dMo_rowFits_227 ?_
                                    refine xz_goto hC (tgt := 83) (by decide) dMo_rowFits_230 ?_
                                    refine xz_lcs (lc' := [(5, .int (nI (i + 1))), (4, .int (bI true)), (0, .ref mo), (1, .int x), (2, .int y), (3, .int z)]) [0, 1, 4, 5, 6, 7] rfl ?_
                                    exact ihlp34 _ (by omega) (i + 1) true (by omega) (by first | exact xt_t ⟨(hgd.mp hgt).1, lt_s (hgd.mp hgt).2 ⟨fun _ => hits, fun k => absurd (show i < (xq_pc (xq_vb q (3 * pa))) by omega) k⟩⟩ | exact xt_t ⟨(hgd.mp hgt).1, lt_s (hgd.mp hgt).2 ⟨fun k => absurd k (by omega), fun _ => by omega⟩⟩) rfl
                                · skip
                                  refine xz_iload hC 0 rfl dMo_rowFits_201 ?_
                                  refine xz_ifb_eq hC (tgt := 224) (by decide) dMo_rowFits_203 (fun h57 => ?_) (fun h57 => ?_)
                                  · skip
                                    refine xz_iconst hC (v := bI false) (by decide +kernel) dMo_rowFits_224 ?_
                                    refine xz_istore hC (lc' := [(4, .int (bI false)), (7, .int (bI false)), (6, .int (bI tw)), (5, .int (nI i)), (0, .ref mo), (1, .int x), (2, .int y), (3, .int z)]) (by decide) rfl dMo_rowFits_225 ?_
                                    refine xz_iinc hC 3 (lc' := [(5, .int (nI (i + 1))), (4, .int (bI false)), (7, .int (bI false)), (6, .int (bI tw)), (0, .ref mo), (1, .int x), (2, .int y), (3, .int z)]) rfl (xn_inc _) (by decide) rfl dMo_rowFits_227 ?_
                                    refine xz_goto hC (tgt := 83) (by decide) dMo_rowFits_230 ?_
                                    refine xz_lcs (lc' := [(5, .int (nI (i + 1))), (4, .int (bI false)), (0, .ref mo), (1, .int x), (2, .int y), (3, .int z)]) [0, 1, 4, 5, 6, 7] rfl ?_
                                    exact ihlp34 _ (by omega) (i + 1) false (by omega) (by first | exact xt_f (fun k => absurd (hgd.mpr ⟨k.1, fun a ha => k.2 a (by omega)⟩) (by rw [hgf]; decide)) | exact xt_f (fun k => hnits ((k.2 i (by omega)).1 (by omega))) | exact xt_f (fun k => by have := (k.2 i (by omega)).2 (by omega); omega)) rfl
                                  · skip
                                    exact absurd h57 (by decide)
                            · skip
                              have htwf := h53
                              refine xz_iconst hC (v := bI true) (by decide +kernel) dMo_rowFits_180 ?_
                              refine xz_goto hC (tgt := 185) (by decide) dMo_rowFits_181 ?_
                              have hits : xm_its Rq q (3 * pa) i := ⟨⟨by omega, by omega⟩, hask, fun k => absurd (htw.mpr (by rw [show jj = i by omega]; exact k)) (by rw [htwf]; decide)⟩
                              refine xz_istore hC (lc' := [(7, .int (bI true)), (6, .int (bI tw)), (5, .int (nI i)), (4, .int (bI gd)), (0, .ref mo), (1, .int x), (2, .int y), (3, .int z)]) (by decide) rfl dMo_rowFits_185 ?_
                              refine xz_iload hC 3 rfl dMo_rowFits_187 ?_
                              refine xz_ifb_eq hC (tgt := 224) (by decide) dMo_rowFits_189 (fun h58 => ?_) (fun h58 => ?_)
                              · skip
                                have hgf := h58
                                refine xz_iconst hC (v := bI false) (by decide +kernel) dMo_rowFits_224 ?_
                                refine xz_istore hC (lc' := [(4, .int (bI false)), (7, .int (bI true)), (6, .int (bI tw)), (5, .int (nI i)), (0, .ref mo), (1, .int x), (2, .int y), (3, .int z)]) (by decide) rfl dMo_rowFits_225 ?_
                                refine xz_iinc hC 3 (lc' := [(5, .int (nI (i + 1))), (4, .int (bI false)), (7, .int (bI true)), (6, .int (bI tw)), (0, .ref mo), (1, .int x), (2, .int y), (3, .int z)]) rfl (xn_inc _) (by decide) rfl dMo_rowFits_227 ?_
                                refine xz_goto hC (tgt := 83) (by decide) dMo_rowFits_230 ?_
                                refine xz_lcs (lc' := [(5, .int (nI (i + 1))), (4, .int (bI false)), (0, .ref mo), (1, .int x), (2, .int y), (3, .int z)]) [0, 1, 4, 5, 6, 7] rfl ?_
                                exact ihlp34 _ (by omega) (i + 1) false (by omega) (by first | exact xt_f (fun k => absurd (hgd.mpr ⟨k.1, fun a ha => k.2 a (by omega)⟩) (by rw [hgf]; decide)) | exact xt_f (fun k => hnits ((k.2 i (by omega)).1 (by omega))) | exact xt_f (fun k => by have := (k.2 i (by omega)).2 (by omega); omega)) rfl
                              · skip
                                have hgt := h58
                                refine xz_iload hC 2 rfl dMo_rowFits_192 ?_
                                refine xz_aload_n hC 4 rfl rfl dMo_rowFits_194 ?_
                                refine xz_get hC 0 rfl rfl 12 (by decide) inMo tq441 rfl rfl dMo_rowFits_195 ?_
                                refine xz_icmp_ge hC (tgt := 209) (nI_toInt (by omega)) (nI_toInt (by omega)) (by decide) dMo_rowFits_198 (fun h59 => ?_) (fun h59 => ?_)
                                · skip
                                  refine xz_aload_n hC 4 rfl rfl dMo_rowFits_209 ?_
                                  refine xz_get hC 0 rfl rfl 13 (by decide) inMo tq442 rfl rfl dMo_rowFits_210 ?_
                                  refine xz_iload hC 2 rfl dMo_rowFits_213 ?_
                                  refine xz_iaload hC 2 0 (v := Rq i) rfl rfl (by omega) (by decide) rfl dMo_rowFits_215 ?_
                                  refine xz_iconst hC (v := (-1)) (by decide +kernel) dMo_rowFits_216 ?_
                                  refine xz_icmp_ne hC (tgt := 224) rfl xn_m1 (by decide) dMo_rowFits_217 (fun h60 => ?_) (fun h60 => ?_)
                                  · skip
                                    refine xz_iconst hC (v := bI false) (by decide +kernel) dMo_rowFits_224 ?_
                                    refine xz_istore hC (lc' := [(4, .int (bI false)), (7, .int (bI true)), (6, .int (bI tw)), (5, .int (nI i)), (0, .ref mo), (1, .int x), (2, .int y), (3, .int z)]) (by decide) rfl dMo_rowFits_225 ?_
                                    refine xz_iinc hC 3 (lc' := [(5, .int (nI (i + 1))), (4, .int (bI false)), (7, .int (bI true)), (6, .int (bI tw)), (0, .ref mo), (1, .int x), (2, .int y), (3, .int z)]) rfl (xn_inc _) (by decide) rfl dMo_rowFits_227 ?_
                                    refine xz_goto hC (tgt := 83) (by decide) dMo_rowFits_230 ?_
                                    refine xz_lcs (lc' := [(5, .int (nI (i + 1))), (4, .int (bI false)), (0, .ref mo), (1, .int x), (2, .int y), (3, .int z)]) [0, 1, 4, 5, 6, 7] rfl ?_
                                    exact ihlp34 _ (by omega) (i + 1) false (by omega) (by first | exact xt_f (fun k => absurd (hgd.mpr ⟨k.1, fun a ha => k.2 a (by omega)⟩) (by rw [hgf]; decide)) | exact xt_f (fun k => hnits ((k.2 i (by omega)).1 (by omega))) | exact xt_f (fun k => by have := (k.2 i (by omega)).2 (by omega); omega)) rfl
                                  · skip
                                    refine xz_iconst hC (v := bI true) (by decide +kernel) dMo_rowFits_220 ?_
                                    refine xz_goto hC (tgt := 225) (by decide) dMo_rowFits_221 ?_
                                    refine xz_istore hC (lc' := [(4, .int (bI true)), (7, .int (bI true)), (6, .int (bI tw)), (5, .int (nI i)), (0, .ref mo), (1, .int x), (2, .int y), (3, .int z)]) (by decide) rfl dMo_rowFits_225 ?_
                                    refine xz_iinc hC 3 (lc' := [(5, .int (nI (i + 1))), (4, .int (bI true)), (7, .int (bI true)), (6, .int (bI tw)), (0, .ref mo), (1, .int x), (2, .int y), (3, .int z)]) rfl (xn_inc _) (by decide) rfl dMo_rowFits_227 ?_
                                    refine xz_goto hC (tgt := 83) (by decide) dMo_rowFits_230 ?_
                                    refine xz_lcs (lc' := [(5, .int (nI (i + 1))), (4, .int (bI true)), (0, .ref mo), (1, .int x), (2, .int y), (3, .int z)]) [0, 1, 4, 5, 6, 7] rfl ?_
                                    exact ihlp34 _ (by omega) (i + 1) true (by omega) (by first | exact xt_t ⟨(hgd.mp hgt).1, lt_s (hgd.mp hgt).2 ⟨fun _ => hits, fun k => absurd (show i < (xq_pc (xq_vb q (3 * pa))) by omega) k⟩⟩ | exact xt_t ⟨(hgd.mp hgt).1, lt_s (hgd.mp hgt).2 ⟨fun k => absurd k (by omega), fun _ => by omega⟩⟩) rfl
                                · skip
                                  refine xz_iload hC 0 rfl dMo_rowFits_201 ?_
                                  refine xz_ifb_eq hC (tgt := 224) (by decide) dMo_rowFits_203 (fun h61 => ?_) (fun h61 => ?_)
                                  · skip
                                    exact absurd h61 (by decide)
                                  · skip
                                    refine xz_goto hC (tgt := 220) (by decide) dMo_rowFits_206 ?_
                                    refine xz_iconst hC (v := bI true) (by decide +kernel) dMo_rowFits_220 ?_
                                    refine xz_goto hC (tgt := 225) (by decide) dMo_rowFits_221 ?_
                                    refine xz_istore hC (lc' := [(4, .int (bI true)), (7, .int (bI true)), (6, .int (bI tw)), (5, .int (nI i)), (0, .ref mo), (1, .int x), (2, .int y), (3, .int z)]) (by decide) rfl dMo_rowFits_225 ?_
                                    refine xz_iinc hC 3 (lc' := [(5, .int (nI (i + 1))), (4, .int (bI true)), (7, .int (bI true)), (6, .int (bI tw)), (0, .ref mo), (1, .int x), (2, .int y), (3, .int z)]) rfl (xn_inc _) (by decide) rfl dMo_rowFits_227 ?_
                                    refine xz_goto hC (tgt := 83) (by decide) dMo_rowFits_230 ?_
                                    refine xz_lcs (lc' := [(5, .int (nI (i + 1))), (4, .int (bI true)), (0, .ref mo), (1, .int x), (2, .int y), (3, .int z)]) [0, 1, 4, 5, 6, 7] rfl ?_
                                    exact ihlp34 _ (by omega) (i + 1) true (by omega) (by first | exact xt_t ⟨(hgd.mp hgt).1, lt_s (hgd.mp hgt).2 ⟨fun _ => hits, fun k => absurd (show i < (xq_pc (xq_vb q (3 * pa))) by omega) k⟩⟩ | exact xt_t ⟨(hgd.mp hgt).1, lt_s (hgd.mp hgt).2 ⟨fun k => absurd k (by omega), fun _ => by omega⟩⟩) rfl
                    · skip
                      refine xz_iload hC 1 rfl dMo_rowFits_102 ?_
                      refine xz_ifb_ne hC (tgt := 124) (by decide) dMo_rowFits_104 (fun h62 => ?_) (fun h62 => ?_)
                      · skip
                        have htt := h62
                        refine xz_iconst hC (v := bI true) (by decide +kernel) dMo_rowFits_124 ?_
                        refine xz_goto hC (tgt := 129) (by decide) dMo_rowFits_125 ?_
                        refine xz_istore hC (lc' := [(6, .int (bI true)), (7, .int (nI jj)), (5, .int (nI i)), (4, .int (bI gd)), (0, .ref mo), (1, .int x), (2, .int y), (3, .int z)]) (by decide) rfl dMo_rowFits_129 ?_
                        refine xz_iinc hC 1 (lc' := [(7, .int (nI (jj + 1))), (6, .int (bI true)), (5, .int (nI i)), (4, .int (bI gd)), (0, .ref mo), (1, .int x), (2, .int y), (3, .int z)]) rfl (xn_inc _) (by decide) rfl dMo_rowFits_131 ?_
                        refine xz_goto hC (tgt := 95) (by decide) dMo_rowFits_134 ?_
                        exact ihlp36 _ (by omega) (jj + 1) true (by omega) (by first | exact xt_t ⟨jj, by omega, by omega⟩ | exact xt_t (by obtain ⟨a, ha, e⟩ := htw.mp htt; exact ⟨a, by omega, e⟩)) rfl
                      · skip
                        have htf : ¬ xm_tw Rq i jj := fun k => absurd (htw.mpr k) (by rw [h62]; decide)
                        refine xz_aload_n hC 4 rfl rfl dMo_rowFits_107 ?_
                        refine xz_get hC 0 rfl rfl 13 (by decide) inMo tq442 rfl rfl dMo_rowFits_108 ?_
                        refine xz_iload hC 0 rfl dMo_rowFits_111 ?_
                        refine xz_iaload hC 2 0 (v := Rq jj) rfl rfl (by omega) (by decide) rfl dMo_rowFits_113 ?_
                        refine xz_aload_n hC 4 rfl rfl dMo_rowFits_114 ?_
                        refine xz_get hC 0 rfl rfl 13 (by decide) inMo tq442 rfl rfl dMo_rowFits_115 ?_
                        refine xz_iload hC 2 rfl dMo_rowFits_118 ?_
                        refine xz_iaload hC 2 0 (v := Rq i) rfl rfl (by omega) (by decide) rfl dMo_rowFits_120 ?_
                        refine xz_icmp_ne hC (tgt := 128) rfl rfl (by decide) dMo_rowFits_121 (fun h63 => ?_) (fun h63 => ?_)
                        · skip
                          refine xz_iconst hC (v := bI false) (by decide +kernel) dMo_rowFits_128 ?_
                          refine xz_istore hC (lc' := [(6, .int (bI false)), (7, .int (nI jj)), (5, .int (nI i)), (4, .int (bI gd)), (0, .ref mo), (1, .int x), (2, .int y), (3, .int z)]) (by decide) rfl dMo_rowFits_129 ?_
                          refine xz_iinc hC 1 (lc' := [(7, .int (nI (jj + 1))), (6, .int (bI false)), (5, .int (nI i)), (4, .int (bI gd)), (0, .ref mo), (1, .int x), (2, .int y), (3, .int z)]) rfl (xn_inc _) (by decide) rfl dMo_rowFits_131 ?_
                          refine xz_goto hC (tgt := 95) (by decide) dMo_rowFits_134 ?_
                          exact ihlp36 _ (by omega) (jj + 1) false (by omega) (xt_f (fun ⟨a, ha, e⟩ => by by_cases k : a = jj; (subst k; omega); exact htf ⟨a, by omega, e⟩)) rfl
                        · skip
                          refine xz_iconst hC (v := bI true) (by decide +kernel) dMo_rowFits_124 ?_
                          refine xz_goto hC (tgt := 129) (by decide) dMo_rowFits_125 ?_
                          refine xz_istore hC (lc' := [(6, .int (bI true)), (7, .int (nI jj)), (5, .int (nI i)), (4, .int (bI gd)), (0, .ref mo), (1, .int x), (2, .int y), (3, .int z)]) (by decide) rfl dMo_rowFits_129 ?_
                          refine xz_iinc hC 1 (lc' := [(7, .int (nI (jj + 1))), (6, .int (bI true)), (5, .int (nI i)), (4, .int (bI gd)), (0, .ref mo), (1, .int x), (2, .int y), (3, .int z)]) rfl (xn_inc _) (by decide) rfl dMo_rowFits_131 ?_
                          refine xz_goto hC (tgt := 95) (by decide) dMo_rowFits_134 ?_
                          exact ihlp36 _ (by omega) (jj + 1) true (by omega) (by first | exact xt_t ⟨jj, by omega, by omega⟩ | exact xt_t (by obtain ⟨a, ha, e⟩ := htw.mp htt; exact ⟨a, by omega, e⟩)) rfl
                exact lp36 _ 0 false (by omega) (xt_f (fun ⟨a, ha, e⟩ => by omega)) rfl
          exact lp34 _ 0 true (by omega) (by first | exact xt_t ⟨by omega, fun a ha => absurd ha (by omega)⟩ | exact xt_f (fun k => by omega)) rfl
      · skip
        refine xz_aload_n hC 1 rfl rfl dMo_rowFits_37 ?_
        refine xz_aload_n hC 1 rfl rfl dMo_rowFits_38 ?_
        refine xz_get hC 0 rfl rfl 12 (by decide) inMo tq441 rfl rfl dMo_rowFits_39 ?_
        refine xz_aload_n hC 1 rfl rfl dMo_rowFits_42 ?_
        refine xz_iload hC 0 rfl dMo_rowFits_43 ?_
        refine xz_callV hC (mMo_asked l D K mo wo le lt pe st pt rr vl bo kp mb mw n o mg pa (xc_n (fun v => xm_as q (3 * pa) v) j) an lv Pt q (32 + j) hpa hq (by omega)) kMo_asked tq7 tq584 tq586 tp23 0 6 rfl rfl rfl (host := "") hMo_asked (by decide) [0, 1] [2] (by decide) rfl (wr := [(rr, .inl (K 0, 3, .inl Rq))]) rfl (by decide) (by decide) (As := [.int (nI (32 + j))]) (rest := [.int (nI (xc_n (fun v => xm_as q (3 * pa) v) j)), .ref mo]) rfl rfl (Nat.le_of_ble_eq_true rfl) (by decide) dMo_rowFits_45 (fun v w hq => ?_)
        obtain ⟨ab, rfl, rfl, hab⟩ := hq
        refine xz_ste (st' := [.int (bI ab), .int (nI (xc_n (fun v => xm_as q (3 * pa) v) j)), .ref mo]) rfl ?_
        refine xz_wss (ws' := [(mo, .inr (6, [.int (nI mb), .ref wo, .int (nI mw), .ref le, .ref lt, .int (nI n), .ref pe, .int (nI o), .ref st, .int (nI mg), .int (nI pa), .ref pt, .int (nI (xc_n (fun v => xm_as q (3 * pa) v) j)), .ref rr, .ref vl, .ref bo, .int (nI an), .ref kp, .int (nI lv)])), (pt, .inl (K 0, 12, .inl Pt)), (rr, .inl (K 0, 3, .inl Rq))]) [1, 2, 0] (by decide) rfl rfl ?_
        refine xz_ifb_eq hC (tgt := 55) (by decide) dMo_rowFits_48 (fun h64 => ?_) (fun h64 => ?_)
        · skip
          have hq0 : (fun v => xm_as q (3 * pa) v) j = false := xP_f.mpr (fun k => absurd (hab.mpr k) (by rw [h64]; decide))
          refine xz_iconst hC (v := nI 0) (by decide +kernel) dMo_rowFits_55 ?_
          refine xz_iadd hC (z := nI (xc_n (fun v => xm_as q (3 * pa) v) j + 0)) (nI_add _ _) dMo_rowFits_56 ?_
          refine xz_put hC 0 rfl rfl 12 (by decide) inMo tq441 rfl tyMo tyMo_ok nmMo rfl rfl rfl (Nat.le_of_ble_eq_true rfl) (ws' := [(mo, .inr (6, [.int (nI mb), .ref wo, .int (nI mw), .ref le, .ref lt, .int (nI n), .ref pe, .int (nI o), .ref st, .int (nI mg), .int (nI pa), .ref pt, .int (nI (xc_n (fun v => xm_as q (3 * pa) v) j + 0)), .ref rr, .ref vl, .ref bo, .int (nI an), .ref kp, .int (nI lv)])), (pt, .inl (K 0, 12, .inl Pt)), (rr, .inl (K 0, 3, .inl Rq))]) rfl dMo_rowFits_57 ?_
          refine xz_wse (ws' := [(mo, .inr (6, [.int (nI mb), .ref wo, .int (nI mw), .ref le, .ref lt, .int (nI n), .ref pe, .int (nI o), .ref st, .int (nI mg), .int (nI pa), .ref pt, .int (nI (xc_n (fun v => xm_as q (3 * pa) v) (j + 1))), .ref rr, .ref vl, .ref bo, .int (nI an), .ref kp, .int (nI lv)])), (pt, .inl (K 0, 12, .inl Pt)), (rr, .inl (K 0, 3, .inl Rq))]) (by rw [xc_no (p := fun v => xm_as q (3 * pa) v) hq0]) ?_
          refine xz_iinc hC 0 (lc' := [(4, .int (nI (32 + j + 1))), (0, .ref mo), (1, .int x), (2, .int y), (3, .int z)]) rfl (xn_inc _) (by decide) rfl dMo_rowFits_60 ?_
          refine xz_goto hC (tgt := 30) (by decide) dMo_rowFits_63 ?_
          exact ihlp1 _ (by omega) (j + 1) (by omega) rfl
        · skip
          have hq0 : (fun v => xm_as q (3 * pa) v) j = true := xP_iff.mpr (hab.mp h64)
          refine xz_iconst hC (v := nI 1) (by decide +kernel) dMo_rowFits_51 ?_
          refine xz_goto hC (tgt := 56) (by decide) dMo_rowFits_52 ?_
          refine xz_iadd hC (z := nI (xc_n (fun v => xm_as q (3 * pa) v) j + 1)) (nI_add _ _) dMo_rowFits_56 ?_
          refine xz_put hC 0 rfl rfl 12 (by decide) inMo tq441 rfl tyMo tyMo_ok nmMo rfl rfl rfl (Nat.le_of_ble_eq_true rfl) (ws' := [(mo, .inr (6, [.int (nI mb), .ref wo, .int (nI mw), .ref le, .ref lt, .int (nI n), .ref pe, .int (nI o), .ref st, .int (nI mg), .int (nI pa), .ref pt, .int (nI (xc_n (fun v => xm_as q (3 * pa) v) j + 1)), .ref rr, .ref vl, .ref bo, .int (nI an), .ref kp, .int (nI lv)])), (pt, .inl (K 0, 12, .inl Pt)), (rr, .inl (K 0, 3, .inl Rq))]) rfl dMo_rowFits_57 ?_
          refine xz_wse (ws' := [(mo, .inr (6, [.int (nI mb), .ref wo, .int (nI mw), .ref le, .ref lt, .int (nI n), .ref pe, .int (nI o), .ref st, .int (nI mg), .int (nI pa), .ref pt, .int (nI (xc_n (fun v => xm_as q (3 * pa) v) (j + 1))), .ref rr, .ref vl, .ref bo, .int (nI an), .ref kp, .int (nI lv)])), (pt, .inl (K 0, 12, .inl Pt)), (rr, .inl (K 0, 3, .inl Rq))]) (by rw [xc_yes (p := fun v => xm_as q (3 * pa) v) hq0]) ?_
          refine xz_iinc hC 0 (lc' := [(4, .int (nI (32 + j + 1))), (0, .ref mo), (1, .int x), (2, .int y), (3, .int z)]) rfl (xn_inc _) (by decide) rfl dMo_rowFits_60 ?_
          refine xz_goto hC (tgt := 30) (by decide) dMo_rowFits_63 ?_
          exact ihlp1 _ (by omega) (j + 1) (by omega) rfl
  exact lp1 _ 0 (by omega) rfl
