set_option maxHeartbeats 1000000 in
set_option maxRecDepth 100000 in
theorem mMo_agreed (l : Launch) (D : va_G) (K : Nat → ClassId) (mo wo le lt pe st pt rr vl bo kp mb mw n o mg pa ma an lv : Nat) (Pe Pt Vl Bo : Nat → Int32) (pp q : Nat → Nat) (bd : Nat → Bool) (vv : Nat → Nat) (p : Nat) (hn : n ≤ 60) (hp : xo_og Pe pp n) (hpa : pa ≤ 4) (hq : xq_nu Pt q (3 * pa)) (hk : p < pa) (hbo : xm_bo Bo Vl bd vv) : xz_Met l D (tz K) yMo_agreed cMo_agreed 9 (some .boolean) { frames := 1, cells := 0, slots := 0, locals := 21 } [.ref mo, .int (nI p)] [(mo, .inr (6, [.int (nI mb), .ref wo, .int (nI mw), .ref le, .ref lt, .int (nI n), .ref pe, .int (nI o), .ref st, .int (nI mg), .int (nI pa), .ref pt, .int (nI ma), .ref rr, .ref vl, .ref bo, .int (nI an), .ref kp, .int (nI lv)])), (pe, .inl (K 0, 60, .inl Pe)), (pt, .inl (K 0, 12, .inl Pt)), (vl, .inl (K 0, 3, .inl Vl)), (bo, .inl (K 3, 3, .inl Bo))] (fun v w => ∃ b : Bool, v = some (.int (bI b)) ∧ w = [(mo, .inr (6, [.int (nI mb), .ref wo, .int (nI mw), .ref le, .ref lt, .int (nI n), .ref pe, .int (nI o), .ref st, .int (nI mg), .int (nI pa), .ref pt, .int (nI ma), .ref rr, .ref vl, .ref bo, .int (nI an), .ref kp, .int (nI lv)])), (pe, .inl (K 0, 60, .inl Pe)), (pt, .inl (K 0, 12, .inl Pt)), (vl, .inl (K 0, 3, .inl Vl)), (bo, .inl (K 3, 3, .inl Bo))] ∧ (b = true ↔ xm_ex q p bd vv pp n)) := by
  refine xz_enter (by decide +kernel) (Nat.le_of_ble_eq_true rfl) ?_
  intro Γ hC
  refine xz_lcs (lc' := [(0, .ref mo), (1, .int (nI p))]) [0, 1] rfl ?_
  refine xz_iconst hC (v := bI false) (by decide +kernel) dMo_agreed_0 ?_
  refine xz_istore_n hC (lc' := [(2, .int (bI false)), (0, .ref mo), (1, .int (nI p))]) rfl (by decide) rfl dMo_agreed_1 ?_
  refine xz_iconst hC (v := nI 0) (by decide +kernel) dMo_agreed_2 ?_
  refine xz_istore_n hC (lc' := [(3, .int (nI 0)), (2, .int (bI false)), (0, .ref mo), (1, .int (nI p))]) rfl (by decide) rfl dMo_agreed_3 ?_
  have lp1 : ∀ (NNlp1 : Nat) (k : Nat) (sm : Bool), k ≤ n → (sm = true ↔ ∃ j, j < k ∧ xq_mt q p bd vv (pp j)) → n - k = NNlp1 → xz_X Γ 0 0 [(mo, .inr (6, [.int (nI mb), .ref wo, .int (nI mw), .ref le, .ref lt, .int (nI n), .ref pe, .int (nI o), .ref st, .int (nI mg), .int (nI pa), .ref pt, .int (nI ma), .ref rr, .ref vl, .ref bo, .int (nI an), .ref kp, .int (nI lv)])), (pe, .inl (K 0, 60, .inl Pe)), (pt, .inl (K 0, 12, .inl Pt)), (vl, .inl (K 0, 3, .inl Vl)), (bo, .inl (K 3, 3, .inl Bo))] 4 [(3, .int (nI k)), (2, .int (bI sm)), (0, .ref mo), (1, .int (nI p))] [] := by
    intro NNlp1
    induction NNlp1 using Nat.strongRecOn with
    | _ NNlp1 ihlp1 =>
      intro k  sm  hk0 hsm hNNlp1
      refine xz_iload_n hC 0 rfl rfl dMo_agreed_4 ?_
      refine xz_aload_n hC 2 rfl rfl dMo_agreed_5 ?_
      refine xz_get hC 0 rfl rfl 5 (by decide) inMo tq434 rfl rfl dMo_agreed_6 ?_
      refine xz_icmp_ge hC (tgt := 194) (nI_toInt (by omega)) (nI_toInt (by omega)) (by decide) dMo_agreed_9 (fun h2 => ?_) (fun h2 => ?_)
      · skip
        refine xz_iload_n hC 1 rfl rfl dMo_agreed_194 ?_
        exact xz_zreturn hC (by decide) (by decide) (⟨sm, rfl, rfl, by rw [hsm, show k = n by omega]; rfl⟩) dMo_agreed_195
      · skip
        have hpk := (hp k (by omega)).2
        refine xz_iconst hC (v := bI true) (by decide +kernel) dMo_agreed_12 ?_
        refine xz_istore hC (lc' := [(4, .int (bI true)), (3, .int (nI k)), (2, .int (bI sm)), (0, .ref mo), (1, .int (nI p))]) (by decide) rfl dMo_agreed_13 ?_
        refine xz_iconst hC (v := nI 0) (by decide +kernel) dMo_agreed_15 ?_
        refine xz_istore hC (lc' := [(5, .int (nI 0)), (4, .int (bI true)), (3, .int (nI k)), (2, .int (bI sm)), (0, .ref mo), (1, .int (nI p))]) (by decide) rfl dMo_agreed_16 ?_
        have lp3 : ∀ (NNlp3 : Nat) (i : Nat) (on : Bool), i ≤ 3 → (on = true ↔ (∀ a, a < i → xm_m q p bd vv (pp k) a)) → 3 - i = NNlp3 → xz_X Γ 0 0 [(mo, .inr (6, [.int (nI mb), .ref wo, .int (nI mw), .ref le, .ref lt, .int (nI n), .ref pe, .int (nI o), .ref st, .int (nI mg), .int (nI pa), .ref pt, .int (nI ma), .ref rr, .ref vl, .ref bo, .int (nI an), .ref kp, .int (nI lv)])), (pe, .inl (K 0, 60, .inl Pe)), (pt, .inl (K 0, 12, .inl Pt)), (vl, .inl (K 0, 3, .inl Vl)), (bo, .inl (K 3, 3, .inl Bo))] 18 [(5, .int (nI i)), (4, .int (bI on)), (3, .int (nI k)), (2, .int (bI sm)), (0, .ref mo), (1, .int (nI p))] [] := by
          intro NNlp3
          induction NNlp3 using Nat.strongRecOn with
          | _ NNlp3 ihlp3 =>
            intro i  on  hi hon hNNlp3
            refine xz_iload hC 0 rfl dMo_agreed_18 ?_
            refine xz_iconst hC (v := nI 3) (by decide +kernel) dMo_agreed_20 ?_
            refine xz_icmp_ge hC (tgt := 173) (nI_toInt (by omega)) (nI_toInt (by omega)) (by decide) dMo_agreed_21 (fun h4 => ?_) (fun h4 => ?_)
            · skip
              have hmt : (on = true ↔ xq_mt q p bd vv (pp k)) := by rw [hon, show i = 3 by omega]; exact xm_mt
              refine xz_iload_n hC 3 rfl rfl dMo_agreed_173 ?_
              refine xz_ifb_ne hC (tgt := 182) (by decide) dMo_agreed_174 (fun h5 => ?_) (fun h5 => ?_)
              · skip
                have hsmt := h5
                refine xz_iconst hC (v := bI true) (by decide +kernel) dMo_agreed_182 ?_
                refine xz_goto hC (tgt := 187) (by decide) dMo_agreed_183 ?_
                refine xz_istore_n hC (lc' := [(2, .int (bI true)), (5, .int (nI i)), (4, .int (bI on)), (3, .int (nI k)), (0, .ref mo), (1, .int (nI p))]) rfl (by decide) rfl dMo_agreed_187 ?_
                refine xz_iinc hC 3 (lc' := [(3, .int (nI (k + 1))), (2, .int (bI true)), (5, .int (nI i)), (4, .int (bI on)), (0, .ref mo), (1, .int (nI p))]) rfl (xn_inc _) (by decide) rfl dMo_agreed_188 ?_
                refine xz_goto hC (tgt := 4) (by decide) dMo_agreed_191 ?_
                refine xz_lcs (lc' := [(3, .int (nI (k + 1))), (2, .int (bI true)), (0, .ref mo), (1, .int (nI p))]) [0, 1, 4, 5] rfl ?_
                exact ihlp1 _ (by omega) (k + 1) true (by omega) (by first | exact xt_t (by obtain ⟨j, hj, e⟩ := hsm.mp hsmt; exact ⟨j, by omega, e⟩) | exact xt_t ⟨k, by omega, hmt.mp hont⟩) rfl
              · skip
                have hsmf : ¬ ∃ j, j < k ∧ xq_mt q p bd vv (pp j) := fun z => absurd (hsm.mpr z) (by rw [h5]; decide)
                refine xz_iload hC 1 rfl dMo_agreed_177 ?_
                refine xz_ifb_eq hC (tgt := 186) (by decide) dMo_agreed_179 (fun h6 => ?_) (fun h6 => ?_)
                · skip
                  have honf := h6
                  refine xz_iconst hC (v := bI false) (by decide +kernel) dMo_agreed_186 ?_
                  refine xz_istore_n hC (lc' := [(2, .int (bI false)), (5, .int (nI i)), (4, .int (bI on)), (3, .int (nI k)), (0, .ref mo), (1, .int (nI p))]) rfl (by decide) rfl dMo_agreed_187 ?_
                  refine xz_iinc hC 3 (lc' := [(3, .int (nI (k + 1))), (2, .int (bI false)), (5, .int (nI i)), (4, .int (bI on)), (0, .ref mo), (1, .int (nI p))]) rfl (xn_inc _) (by decide) rfl dMo_agreed_188 ?_
                  refine xz_goto hC (tgt := 4) (by decide) dMo_agreed_191 ?_
                  refine xz_lcs (lc' := [(3, .int (nI (k + 1))), (2, .int (bI false)), (0, .ref mo), (1, .int (nI p))]) [0, 1, 4, 5] rfl ?_
                  exact ihlp1 _ (by omega) (k + 1) false (by omega) (xt_f (fun ⟨j, hj, e⟩ => by by_cases z : j = k; (subst z; exact absurd (hmt.mpr e) (by rw [honf]; decide)); exact hsmf ⟨j, by omega, e⟩)) rfl
                · skip
                  have hont := h6
                  refine xz_iconst hC (v := bI true) (by decide +kernel) dMo_agreed_182 ?_
                  refine xz_goto hC (tgt := 187) (by decide) dMo_agreed_183 ?_
                  refine xz_istore_n hC (lc' := [(2, .int (bI true)), (5, .int (nI i)), (4, .int (bI on)), (3, .int (nI k)), (0, .ref mo), (1, .int (nI p))]) rfl (by decide) rfl dMo_agreed_187 ?_
                  refine xz_iinc hC 3 (lc' := [(3, .int (nI (k + 1))), (2, .int (bI true)), (5, .int (nI i)), (4, .int (bI on)), (0, .ref mo), (1, .int (nI p))]) rfl (xn_inc _) (by decide) rfl dMo_agreed_188 ?_
                  refine xz_goto hC (tgt := 4) (by decide) dMo_agreed_191 ?_
                  refine xz_lcs (lc' := [(3, .int (nI (k + 1))), (2, .int (bI true)), (0, .ref mo), (1, .int (nI p))]) [0, 1, 4, 5] rfl ?_
                  exact ihlp1 _ (by omega) (k + 1) true (by omega) (by first | exact xt_t (by obtain ⟨j, hj, e⟩ := hsm.mp hsmt; exact ⟨j, by omega, e⟩) | exact xt_t ⟨k, by omega, hmt.mp hont⟩) rfl
            · skip
              have hqi := (hq (3 * p + i) (by omega)).2
              have hti := xk_pt_lt (pp k) i
              refine xz_aload_n hC 4 rfl rfl dMo_agreed_24 ?_
              refine xz_get hC 0 rfl rfl 11 (by decide) inMo tq440 rfl rfl dMo_agreed_25 ?_
              refine xz_iconst hC (v := nI 3) (by decide +kernel) dMo_agreed_28 ?_
              refine xz_iload_n hC 5 rfl rfl dMo_agreed_29 ?_
              refine xz_imul hC (z := nI (3 * p)) (pk_mul _ _) dMo_agreed_30 ?_
              refine xz_iload hC 0 rfl dMo_agreed_31 ?_
              refine xz_iadd hC (z := nI (3 * p + i)) (nI_add _ _) dMo_agreed_33 ?_
              refine xz_iaload hC 2 0 (v := nI (q (3 * p + i))) rfl rfl (by omega) (by decide) (hq (3 * p + i) (by omega)).1 dMo_agreed_34 ?_
              refine xz_istore hC (lc' := [(6, .int (nI (q (3 * p + i)))), (5, .int (nI i)), (4, .int (bI on)), (3, .int (nI k)), (2, .int (bI sm)), (0, .ref mo), (1, .int (nI p))]) (by decide) rfl dMo_agreed_35 ?_
              refine xz_aload_n hC 5 rfl rfl dMo_agreed_37 ?_
              refine xz_get hC 0 rfl rfl 6 (by decide) inMo tq435 rfl rfl dMo_agreed_38 ?_
              refine xz_iload_n hC 3 rfl rfl dMo_agreed_41 ?_
              refine xz_iaload hC 1 0 (v := nI (pp k)) rfl rfl (by omega) (by decide) (hp k (by omega)).1 dMo_agreed_42 ?_
              refine xz_iload hC 1 rfl dMo_agreed_43 ?_
              refine xz_callS hC (mMo_partOf l D K (pp k) i hpk (by omega)) kMo_partOf tq7 tq561 tq562 (host := "") (b := 0) hMo_partOf (by decide) [] [0, 1, 2, 3, 4] (by decide) rfl (wr := [(mo, .inr (6, [.int (nI mb), .ref wo, .int (nI mw), .ref le, .ref lt, .int (nI n), .ref pe, .int (nI o), .ref st, .int (nI mg), .int (nI pa), .ref pt, .int (nI ma), .ref rr, .ref vl, .ref bo, .int (nI an), .ref kp, .int (nI lv)])), (pe, .inl (K 0, 60, .inl Pe)), (pt, .inl (K 0, 12, .inl Pt)), (vl, .inl (K 0, 3, .inl Vl)), (bo, .inl (K 3, 3, .inl Bo))]) rfl (by decide) (by decide) (As := [.int (nI (pp k)), .int (nI i)]) (rest := []) rfl rfl (Nat.le_of_ble_eq_true rfl) (by decide) dMo_agreed_45 (fun v w hq => ?_)
              obtain ⟨rfl, rfl⟩ := hq
              refine xz_ste (st' := [.int (nI (xk_pt (pp k) i))]) rfl ?_
              refine xz_wss (ws' := [(mo, .inr (6, [.int (nI mb), .ref wo, .int (nI mw), .ref le, .ref lt, .int (nI n), .ref pe, .int (nI o), .ref st, .int (nI mg), .int (nI pa), .ref pt, .int (nI ma), .ref rr, .ref vl, .ref bo, .int (nI an), .ref kp, .int (nI lv)])), (pe, .inl (K 0, 60, .inl Pe)), (pt, .inl (K 0, 12, .inl Pt)), (vl, .inl (K 0, 3, .inl Vl)), (bo, .inl (K 3, 3, .inl Bo))]) [0, 1, 2, 3, 4] (by decide) rfl rfl ?_
              refine xz_istore hC (lc' := [(7, .int (nI (xk_pt (pp k) i))), (6, .int (nI (q (3 * p + i)))), (5, .int (nI i)), (4, .int (bI on)), (3, .int (nI k)), (2, .int (bI sm)), (0, .ref mo), (1, .int (nI p))]) (by decide) rfl dMo_agreed_48 ?_
              refine xz_iload hC 3 rfl dMo_agreed_50 ?_
              refine xz_ifb_eq hC (tgt := 104) (by decide) dMo_agreed_52 (fun h7 => ?_) (fun h7 => ?_)
              · skip
                have honf := h7
                refine xz_iconst hC (v := bI false) (by decide +kernel) dMo_agreed_104 ?_
                have hcc : (false = true ↔ (((∀ a, a < i → xm_m q p bd vv (pp k) a)) ∧ xm_c1 q p bd vv (pp k) i)) := by first | exact xt_f (fun z => absurd (hon.mpr z.1) (by rw [honf]; decide)) | exact xt_f (fun z => by have := z.2.1 (by omega); omega) | exact xt_f (fun z => by have := z.2.2 (by omega) hbt; omega)
                refine xz_istore hC (lc' := [(4, .int (bI false)), (7, .int (nI (xk_pt (pp k) i))), (6, .int (nI (q (3 * p + i)))), (5, .int (nI i)), (3, .int (nI k)), (2, .int (bI sm)), (0, .ref mo), (1, .int (nI p))]) (by decide) rfl dMo_agreed_105 ?_
                refine xz_iconst hC (v := nI 0) (by decide +kernel) dMo_agreed_107 ?_
                refine xz_istore hC (lc' := [(8, .int (nI 0)), (4, .int (bI false)), (7, .int (nI (xk_pt (pp k) i))), (6, .int (nI (q (3 * p + i)))), (5, .int (nI i)), (3, .int (nI k)), (2, .int (bI sm)), (0, .ref mo), (1, .int (nI p))]) (by decide) rfl dMo_agreed_108 ?_
                have lp8 : ∀ (NNlp8 : Nat) (j : Nat) (on2 : Bool), j ≤ i → (on2 = true ↔ ((((∀ a, a < i → xm_m q p bd vv (pp k) a)) ∧ xm_c1 q p bd vv (pp k) i) ∧ ∀ a, a < j → xm_c2 q p (pp k) i a)) → i - j = NNlp8 → xz_X Γ 0 0 [(mo, .inr (6, [.int (nI mb), .ref wo, .int (nI mw), .ref le, .ref lt, .int (nI n), .ref pe, .int (nI o), .ref st, .int (nI mg), .int (nI pa), .ref pt, .int (nI ma), .ref rr, .ref vl, .ref bo, .int (nI an), .ref kp, .int (nI lv)])), (pe, .inl (K 0, 60, .inl Pe)), (pt, .inl (K 0, 12, .inl Pt)), (vl, .inl (K 0, 3, .inl Vl)), (bo, .inl (K 3, 3, .inl Bo))] 110 [(8, .int (nI j)), (4, .int (bI on2)), (7, .int (nI (xk_pt (pp k) i))), (6, .int (nI (q (3 * p + i)))), (5, .int (nI i)), (3, .int (nI k)), (2, .int (bI sm)), (0, .ref mo), (1, .int (nI p))] [] := by
                  intro NNlp8
                  induction NNlp8 using Nat.strongRecOn with
                  | _ NNlp8 ihlp8 =>
                    intro j  on2  hj hon2 hNNlp8
                    refine xz_iload hC 0 rfl dMo_agreed_110 ?_
                    refine xz_iload hC 4 rfl dMo_agreed_112 ?_
                    refine xz_icmp_ge hC (tgt := 167) (nI_toInt (by omega)) (nI_toInt (by omega)) (by decide) dMo_agreed_114 (fun h9 => ?_) (fun h9 => ?_)
                    · skip
                      refine xz_iinc hC 4 (lc' := [(5, .int (nI (i + 1))), (8, .int (nI j)), (4, .int (bI on2)), (7, .int (nI (xk_pt (pp k) i))), (6, .int (nI (q (3 * p + i)))), (3, .int (nI k)), (2, .int (bI sm)), (0, .ref mo), (1, .int (nI p))]) rfl (xn_inc _) (by decide) rfl dMo_agreed_167 ?_
                      refine xz_goto hC (tgt := 18) (by decide) dMo_agreed_170 ?_
                      refine xz_lcs (lc' := [(5, .int (nI (i + 1))), (4, .int (bI on2)), (3, .int (nI k)), (2, .int (bI sm)), (0, .ref mo), (1, .int (nI p))]) [0, 2, 5, 6, 7, 8] rfl ?_
                      exact ihlp3 _ (by omega) (i + 1) on2 (by omega) (by rw [hon2, show j = i by omega]; exact xm_fold) rfl
                    · skip
                      have hqj := (hq (3 * p + j) (by omega)).2
                      have htj := xk_pt_lt (pp k) j
                      refine xz_iload hC 1 rfl dMo_agreed_117 ?_
                      refine xz_ifb_eq hC (tgt := 158) (by decide) dMo_agreed_119 (fun h10 => ?_) (fun h10 => ?_)
                      · skip
                        have h2f := h10
                        refine xz_iconst hC (v := bI false) (by decide +kernel) dMo_agreed_158 ?_
                        refine xz_istore hC (lc' := [(4, .int (bI false)), (8, .int (nI j)), (7, .int (nI (xk_pt (pp k) i))), (6, .int (nI (q (3 * p + i)))), (5, .int (nI i)), (3, .int (nI k)), (2, .int (bI sm)), (0, .ref mo), (1, .int (nI p))]) (by decide) rfl dMo_agreed_159 ?_
                        refine xz_iinc hC 1 (lc' := [(8, .int (nI (j + 1))), (4, .int (bI false)), (7, .int (nI (xk_pt (pp k) i))), (6, .int (nI (q (3 * p + i)))), (5, .int (nI i)), (3, .int (nI k)), (2, .int (bI sm)), (0, .ref mo), (1, .int (nI p))]) rfl (xn_inc _) (by decide) rfl dMo_agreed_161 ?_
                        refine xz_goto hC (tgt := 110) (by decide) dMo_agreed_164 ?_
                        exact ihlp8 _ (by omega) (j + 1) false (by omega) (by first | exact xt_f (fun z => absurd (hon2.mpr ⟨z.1, fun a ha => z.2 a (by omega)⟩) (by rw [h2f]; decide)) | exact xt_f (fun z => by have := z.2 j (by omega) (by omega); omega)) rfl
                      · skip
                        have h2t := h10
                        refine xz_aload_n hC 7 rfl rfl dMo_agreed_122 ?_
                        refine xz_get hC 0 rfl rfl 11 (by decide) inMo tq440 rfl rfl dMo_agreed_123 ?_
                        refine xz_iconst hC (v := nI 3) (by decide +kernel) dMo_agreed_126 ?_
                        refine xz_iload_n hC 8 rfl rfl dMo_agreed_127 ?_
                        refine xz_imul hC (z := nI (3 * p)) (pk_mul _ _) dMo_agreed_128 ?_
                        refine xz_iload hC 0 rfl dMo_agreed_129 ?_
                        refine xz_iadd hC (z := nI (3 * p + j)) (nI_add _ _) dMo_agreed_131 ?_
                        refine xz_iaload hC 2 0 (v := nI (q (3 * p + j))) rfl rfl (by omega) (by decide) (hq (3 * p + j) (by omega)).1 dMo_agreed_132 ?_
                        refine xz_iload hC 3 rfl dMo_agreed_133 ?_
                        refine xz_icmp_ne hC (tgt := 154) (nI_toInt (by omega)) (nI_toInt (by omega)) (by decide) dMo_agreed_135 (fun h11 => ?_) (fun h11 => ?_)
                        · skip
                          refine xz_iconst hC (v := bI true) (by decide +kernel) dMo_agreed_154 ?_
                          refine xz_goto hC (tgt := 159) (by decide) dMo_agreed_155 ?_
                          refine xz_istore hC (lc' := [(4, .int (bI true)), (8, .int (nI j)), (7, .int (nI (xk_pt (pp k) i))), (6, .int (nI (q (3 * p + i)))), (5, .int (nI i)), (3, .int (nI k)), (2, .int (bI sm)), (0, .ref mo), (1, .int (nI p))]) (by decide) rfl dMo_agreed_159 ?_
                          refine xz_iinc hC 1 (lc' := [(8, .int (nI (j + 1))), (4, .int (bI true)), (7, .int (nI (xk_pt (pp k) i))), (6, .int (nI (q (3 * p + i)))), (5, .int (nI i)), (3, .int (nI k)), (2, .int (bI sm)), (0, .ref mo), (1, .int (nI p))]) rfl (xn_inc _) (by decide) rfl dMo_agreed_161 ?_
                          refine xz_goto hC (tgt := 110) (by decide) dMo_agreed_164 ?_
                          exact ihlp8 _ (by omega) (j + 1) true (by omega) (by first | exact xt_t ⟨(hon2.mp h2t).1, lt_s (hon2.mp h2t).2 (fun z => absurd z (by omega))⟩ | exact xt_t ⟨(hon2.mp h2t).1, lt_s (hon2.mp h2t).2 (fun _ => by omega)⟩) rfl
                        · skip
                          refine xz_aload_n hC 7 rfl rfl dMo_agreed_138 ?_
                          refine xz_get hC 0 rfl rfl 6 (by decide) inMo tq435 rfl rfl dMo_agreed_139 ?_
                          refine xz_iload_n hC 5 rfl rfl dMo_agreed_142 ?_
                          refine xz_iaload hC 1 0 (v := nI (pp k)) rfl rfl (by omega) (by decide) (hp k (by omega)).1 dMo_agreed_143 ?_
                          refine xz_iload hC 0 rfl dMo_agreed_144 ?_
                          refine xz_callS hC (mMo_partOf l D K (pp k) j hpk (by omega)) kMo_partOf tq7 tq561 tq562 (host := "") (b := 0) hMo_partOf (by decide) [] [0, 1, 2, 3, 4] (by decide) rfl (wr := [(mo, .inr (6, [.int (nI mb), .ref wo, .int (nI mw), .ref le, .ref lt, .int (nI n), .ref pe, .int (nI o), .ref st, .int (nI mg), .int (nI pa), .ref pt, .int (nI ma), .ref rr, .ref vl, .ref bo, .int (nI an), .ref kp, .int (nI lv)])), (pe, .inl (K 0, 60, .inl Pe)), (pt, .inl (K 0, 12, .inl Pt)), (vl, .inl (K 0, 3, .inl Vl)), (bo, .inl (K 3, 3, .inl Bo))]) rfl (by decide) (by decide) (As := [.int (nI (pp k)), .int (nI j)]) (rest := []) rfl rfl (Nat.le_of_ble_eq_true rfl) (by decide) dMo_agreed_146 (fun v w hq => ?_)
                          obtain ⟨rfl, rfl⟩ := hq
                          refine xz_ste (st' := [.int (nI (xk_pt (pp k) j))]) rfl ?_
                          refine xz_wss (ws' := [(mo, .inr (6, [.int (nI mb), .ref wo, .int (nI mw), .ref le, .ref lt, .int (nI n), .ref pe, .int (nI o), .ref st, .int (nI mg), .int (nI pa), .ref pt, .int (nI ma), .ref rr, .ref vl, .ref bo, .int (nI an), .ref kp, .int (nI lv)])), (pe, .inl (K 0, 60, .inl Pe)), (pt, .inl (K 0, 12, .inl Pt)), (vl, .inl (K 0, 3, .inl Vl)), (bo, .inl (K 3, 3, .inl Bo))]) [0, 1, 2, 3, 4] (by decide) rfl rfl ?_
                          refine xz_iload hC 2 rfl dMo_agreed_149 ?_
                          refine xz_icmp_ne hC (tgt := 158) (nI_toInt (by omega)) (nI_toInt (by omega)) (by decide) dMo_agreed_151 (fun h12 => ?_) (fun h12 => ?_)
                          · skip
                            refine xz_iconst hC (v := bI false) (by decide +kernel) dMo_agreed_158 ?_
                            refine xz_istore hC (lc' := [(4, .int (bI false)), (8, .int (nI j)), (7, .int (nI (xk_pt (pp k) i))), (6, .int (nI (q (3 * p + i)))), (5, .int (nI i)), (3, .int (nI k)), (2, .int (bI sm)), (0, .ref mo), (1, .int (nI p))]) (by decide) rfl dMo_agreed_159 ?_
                            refine xz_iinc hC 1 (lc' := [(8, .int (nI (j + 1))), (4, .int (bI false)), (7, .int (nI (xk_pt (pp k) i))), (6, .int (nI (q (3 * p + i)))), (5, .int (nI i)), (3, .int (nI k)), (2, .int (bI sm)), (0, .ref mo), (1, .int (nI p))]) rfl (xn_inc _) (by decide) rfl dMo_agreed_161 ?_
                            refine xz_goto hC (tgt := 110) (by decide) dMo_agreed_164 ?_
                            exact ihlp8 _ (by omega) (j + 1) false (by omega) (by first | exact xt_f (fun z => absurd (hon2.mpr ⟨z.1, fun a ha => z.2 a (by omega)⟩) (by rw [h2f]; decide)) | exact xt_f (fun z => by have := z.2 j (by omega) (by omega); omega)) rfl
                          · skip
                            refine xz_iconst hC (v := bI true) (by decide +kernel) dMo_agreed_154 ?_
                            refine xz_goto hC (tgt := 159) (by decide) dMo_agreed_155 ?_
                            refine xz_istore hC (lc' := [(4, .int (bI true)), (8, .int (nI j)), (7, .int (nI (xk_pt (pp k) i))), (6, .int (nI (q (3 * p + i)))), (5, .int (nI i)), (3, .int (nI k)), (2, .int (bI sm)), (0, .ref mo), (1, .int (nI p))]) (by decide) rfl dMo_agreed_159 ?_
                            refine xz_iinc hC 1 (lc' := [(8, .int (nI (j + 1))), (4, .int (bI true)), (7, .int (nI (xk_pt (pp k) i))), (6, .int (nI (q (3 * p + i)))), (5, .int (nI i)), (3, .int (nI k)), (2, .int (bI sm)), (0, .ref mo), (1, .int (nI p))]) rfl (xn_inc _) (by decide) rfl dMo_agreed_161 ?_
                            refine xz_goto hC (tgt := 110) (by decide) dMo_agreed_164 ?_
                            exact ihlp8 _ (by omega) (j + 1) true (by omega) (by first | exact xt_t ⟨(hon2.mp h2t).1, lt_s (hon2.mp h2t).2 (fun z => absurd z (by omega))⟩ | exact xt_t ⟨(hon2.mp h2t).1, lt_s (hon2.mp h2t).2 (fun _ => by omega)⟩) rfl
                exact lp8 _ 0 false (by omega) (hcc.trans ⟨fun z => ⟨z, fun a ha => absurd ha (by omega)⟩, fun z => z.1⟩) rfl
              · skip
                have hont := h7
                refine xz_iload hC 1 rfl dMo_agreed_55 ?_
                refine xz_bipush hC (v := nI 32) (by decide +kernel) dMo_agreed_57 ?_
                refine xz_icmp_ge hC (tgt := 72) (nI_toInt (by omega)) (nI_toInt (by omega)) (by decide) dMo_agreed_59 (fun h13 => ?_) (fun h13 => ?_)
                · skip
                  refine xz_aload_n hC 6 rfl rfl dMo_agreed_72 ?_
                  refine xz_get hC 0 rfl rfl 15 (by decide) inMo tq444 rfl rfl dMo_agreed_73 ?_
                  refine xz_iload hC 1 rfl dMo_agreed_76 ?_
                  refine xz_bipush hC (v := nI 32) (by decide +kernel) dMo_agreed_78 ?_
                  refine xz_isub hC (z := nI ((q (3 * p + i)) - 32)) (pk_sub (by omega)) dMo_agreed_80 ?_
                  refine xz_baload hC 4 3 (v := bI (bd (q (3 * p + i) - 32))) rfl rfl (by omega) (by decide) (hbo _ (by omega)).1 dMo_agreed_81 ?_
                  refine xz_ifb_eq hC (tgt := 100) (by decide) dMo_agreed_82 (fun h14 => ?_) (fun h14 => ?_)
                  · skip
                    have hbf := h14
                    refine xz_iconst hC (v := bI true) (by decide +kernel) dMo_agreed_100 ?_
                    refine xz_goto hC (tgt := 105) (by decide) dMo_agreed_101 ?_
                    have hcc : (true = true ↔ (((∀ a, a < i → xm_m q p bd vv (pp k) a)) ∧ xm_c1 q p bd vv (pp k) i)) := by first | exact xt_t ⟨hon.mp hont, fun _ => by omega, fun z => absurd z (by omega)⟩ | exact xt_t ⟨hon.mp hont, fun z => absurd z (by omega), fun _ z => absurd z (by rw [hbf]; decide)⟩ | exact xt_t ⟨hon.mp hont, fun z => absurd z (by omega), fun _ _ => by omega⟩
                    refine xz_istore hC (lc' := [(4, .int (bI true)), (7, .int (nI (xk_pt (pp k) i))), (6, .int (nI (q (3 * p + i)))), (5, .int (nI i)), (3, .int (nI k)), (2, .int (bI sm)), (0, .ref mo), (1, .int (nI p))]) (by decide) rfl dMo_agreed_105 ?_
                    refine xz_iconst hC (v := nI 0) (by decide +kernel) dMo_agreed_107 ?_
                    refine xz_istore hC (lc' := [(8, .int (nI 0)), (4, .int (bI true)), (7, .int (nI (xk_pt (pp k) i))), (6, .int (nI (q (3 * p + i)))), (5, .int (nI i)), (3, .int (nI k)), (2, .int (bI sm)), (0, .ref mo), (1, .int (nI p))]) (by decide) rfl dMo_agreed_108 ?_
                    have lp15 : ∀ (NNlp15 : Nat) (j : Nat) (on2 : Bool), j ≤ i → (on2 = true ↔ ((((∀ a, a < i → xm_m q p bd vv (pp k) a)) ∧ xm_c1 q p bd vv (pp k) i) ∧ ∀ a, a < j → xm_c2 q p (pp k) i a)) → i - j = NNlp15 → xz_X Γ 0 0 [(mo, .inr (6, [.int (nI mb), .ref wo, .int (nI mw), .ref le, .ref lt, .int (nI n), .ref pe, .int (nI o), .ref st, .int (nI mg), .int (nI pa), .ref pt, .int (nI ma), .ref rr, .ref vl, .ref bo, .int (nI an), .ref kp, .int (nI lv)])), (pe, .inl (K 0, 60, .inl Pe)), (pt, .inl (K 0, 12, .inl Pt)), (vl, .inl (K 0, 3, .inl Vl)), (bo, .inl (K 3, 3, .inl Bo))] 110 [(8, .int (nI j)), (4, .int (bI on2)), (7, .int (nI (xk_pt (pp k) i))), (6, .int (nI (q (3 * p + i)))), (5, .int (nI i)), (3, .int (nI k)), (2, .int (bI sm)), (0, .ref mo), (1, .int (nI p))] [] := by
                      intro NNlp15
                      induction NNlp15 using Nat.strongRecOn with
                      | _ NNlp15 ihlp15 =>
                        intro j  on2  hj hon2 hNNlp15
                        refine xz_iload hC 0 rfl dMo_agreed_110 ?_
                        refine xz_iload hC 4 rfl dMo_agreed_112 ?_
                        refine xz_icmp_ge hC (tgt := 167) (nI_toInt (by omega)) (nI_toInt (by omega)) (by decide) dMo_agreed_114 (fun h16 => ?_) (fun h16 => ?_)
                        · skip
                          refine xz_iinc hC 4 (lc' := [(5, .int (nI (i + 1))), (8, .int (nI j)), (4, .int (bI on2)), (7, .int (nI (xk_pt (pp k) i))), (6, .int (nI (q (3 * p + i)))), (3, .int (nI k)), (2, .int (bI sm)), (0, .ref mo), (1, .int (nI p))]) rfl (xn_inc _) (by decide) rfl dMo_agreed_167 ?_
                          refine xz_goto hC (tgt := 18) (by decide) dMo_agreed_170 ?_
                          refine xz_lcs (lc' := [(5, .int (nI (i + 1))), (4, .int (bI on2)), (3, .int (nI k)), (2, .int (bI sm)), (0, .ref mo), (1, .int (nI p))]) [0, 2, 5, 6, 7, 8] rfl ?_
                          exact ihlp3 _ (by omega) (i + 1) on2 (by omega) (by rw [hon2, show j = i by omega]; exact xm_fold) rfl
                        · skip
                          have hqj := (hq (3 * p + j) (by omega)).2
                          have htj := xk_pt_lt (pp k) j
                          refine xz_iload hC 1 rfl dMo_agreed_117 ?_
                          refine xz_ifb_eq hC (tgt := 158) (by decide) dMo_agreed_119 (fun h17 => ?_) (fun h17 => ?_)
                          · skip
                            have h2f := h17
                            refine xz_iconst hC (v := bI false) (by decide +kernel) dMo_agreed_158 ?_
                            refine xz_istore hC (lc' := [(4, .int (bI false)), (8, .int (nI j)), (7, .int (nI (xk_pt (pp k) i))), (6, .int (nI (q (3 * p + i)))), (5, .int (nI i)), (3, .int (nI k)), (2, .int (bI sm)), (0, .ref mo), (1, .int (nI p))]) (by decide) rfl dMo_agreed_159 ?_
                            refine xz_iinc hC 1 (lc' := [(8, .int (nI (j + 1))), (4, .int (bI false)), (7, .int (nI (xk_pt (pp k) i))), (6, .int (nI (q (3 * p + i)))), (5, .int (nI i)), (3, .int (nI k)), (2, .int (bI sm)), (0, .ref mo), (1, .int (nI p))]) rfl (xn_inc _) (by decide) rfl dMo_agreed_161 ?_
                            refine xz_goto hC (tgt := 110) (by decide) dMo_agreed_164 ?_
                            exact ihlp15 _ (by omega) (j + 1) false (by omega) (by first | exact xt_f (fun z => absurd (hon2.mpr ⟨z.1, fun a ha => z.2 a (by omega)⟩) (by rw [h2f]; decide)) | exact xt_f (fun z => by have := z.2 j (by omega) (by omega); omega)) rfl
                          · skip
                            have h2t := h17
                            refine xz_aload_n hC 7 rfl rfl dMo_agreed_122 ?_
                            refine xz_get hC 0 rfl rfl 11 (by decide) inMo tq440 rfl rfl dMo_agreed_123 ?_
                            refine xz_iconst hC (v := nI 3) (by decide +kernel) dMo_agreed_126 ?_
                            refine xz_iload_n hC 8 rfl rfl dMo_agreed_127 ?_
                            refine xz_imul hC (z := nI (3 * p)) (pk_mul _ _) dMo_agreed_128 ?_
                            refine xz_iload hC 0 rfl dMo_agreed_129 ?_
                            refine xz_iadd hC (z := nI (3 * p + j)) (nI_add _ _) dMo_agreed_131 ?_
                            refine xz_iaload hC 2 0 (v := nI (q (3 * p + j))) rfl rfl (by omega) (by decide) (hq (3 * p + j) (by omega)).1 dMo_agreed_132 ?_
                            refine xz_iload hC 3 rfl dMo_agreed_133 ?_
                            refine xz_icmp_ne hC (tgt := 154) (nI_toInt (by omega)) (nI_toInt (by omega)) (by decide) dMo_agreed_135 (fun h18 => ?_) (fun h18 => ?_)
                            · skip
                              refine xz_iconst hC (v := bI true) (by decide +kernel) dMo_agreed_154 ?_
                              refine xz_goto hC (tgt := 159) (by decide) dMo_agreed_155 ?_
                              refine xz_istore hC (lc' := [(4, .int (bI true)), (8, .int (nI j)), (7, .int (nI (xk_pt (pp k) i))), (6, .int (nI (q (3 * p + i)))), (5, .int (nI i)), (3, .int (nI k)), (2, .int (bI sm)), (0, .ref mo), (1, .int (nI p))]) (by decide) rfl dMo_agreed_159 ?_
                              refine xz_iinc hC 1 (lc' := [(8, .int (nI (j + 1))), (4, .int (bI true)), (7, .int (nI (xk_pt (pp k) i))), (6, .int (nI (q (3 * p + i)))), (5, .int (nI i)), (3, .int (nI k)), (2, .int (bI sm)), (0, .ref mo), (1, .int (nI p))]) rfl (xn_inc _) (by decide) rfl dMo_agreed_161 ?_
                              refine xz_goto hC (tgt := 110) (by decide) dMo_agreed_164 ?_
                              exact ihlp15 _ (by omega) (j + 1) true (by omega) (by first | exact xt_t ⟨(hon2.mp h2t).1, lt_s (hon2.mp h2t).2 (fun z => absurd z (by omega))⟩ | exact xt_t ⟨(hon2.mp h2t).1, lt_s (hon2.mp h2t).2 (fun _ => by omega)⟩) rfl
                            · skip
                              refine xz_aload_n hC 7 rfl rfl dMo_agreed_138 ?_
                              refine xz_get hC 0 rfl rfl 6 (by decide) inMo tq435 rfl rfl dMo_agreed_139 ?_
                              refine xz_iload_n hC 5 rfl rfl dMo_agreed_142 ?_
                              refine xz_iaload hC 1 0 (v := nI (pp k)) rfl rfl (by omega) (by decide) (hp k (by omega)).1 dMo_agreed_143 ?_
                              refine xz_iload hC 0 rfl dMo_agreed_144 ?_
                              refine xz_callS hC (mMo_partOf l D K (pp k) j hpk (by omega)) kMo_partOf tq7 tq561 tq562 (host := "") (b := 0) hMo_partOf (by decide) [] [0, 1, 2, 3, 4] (by decide) rfl (wr := [(mo, .inr (6, [.int (nI mb), .ref wo, .int (nI mw), .ref le, .ref lt, .int (nI n), .ref pe, .int (nI o), .ref st, .int (nI mg), .int (nI pa), .ref pt, .int (nI ma), .ref rr, .ref vl, .ref bo, .int (nI an), .ref kp, .int (nI lv)])), (pe, .inl (K 0, 60, .inl Pe)), (pt, .inl (K 0, 12, .inl Pt)), (vl, .inl (K 0, 3, .inl Vl)), (bo, .inl (K 3, 3, .inl Bo))]) rfl (by decide) (by decide) (As := [.int (nI (pp k)), .int (nI j)]) (rest := []) rfl rfl (Nat.le_of_ble_eq_true rfl) (by decide) dMo_agreed_146 (fun v w hq => ?_)
                              obtain ⟨rfl, rfl⟩ := hq
                              refine xz_ste (st' := [.int (nI (xk_pt (pp k) j))]) rfl ?_
                              refine xz_wss (ws' := [(mo, .inr (6, [.int (nI mb), .ref wo, .int (nI mw), .ref le, .ref lt, .int (nI n), .ref pe, .int (nI o), .ref st, .int (nI mg), .int (nI pa), .ref pt, .int (nI ma), .ref rr, .ref vl, .ref bo, .int (nI an), .ref kp, .int (nI lv)])), (pe, .inl (K 0, 60, .inl Pe)), (pt, .inl (K 0, 12, .inl Pt)), (vl, .inl (K 0, 3, .inl Vl)), (bo, .inl (K 3, 3, .inl Bo))]) [0, 1, 2, 3, 4] (by decide) rfl rfl ?_
                              refine xz_iload hC 2 rfl dMo_agreed_149 ?_
                              refine xz_icmp_ne hC (tgt := 158) (nI_toInt (by omega)) (nI_toInt (by omega)) (by decide) dMo_agreed_151 (fun h19 => ?_) (fun h19 => ?_)
                              · skip
                                refine xz_iconst hC (v := bI false) (by decide +kernel) dMo_agreed_158 ?_
                                refine xz_istore hC (lc' := [(4, .int (bI false)), (8, .int (nI j)), (7, .int (nI (xk_pt (pp k) i))), (6, .int (nI (q (3 * p + i)))), (5, .int (nI i)), (3, .int (nI k)), (2, .int (bI sm)), (0, .ref mo), (1, .int (nI p))]) (by decide) rfl dMo_agreed_159 ?_
                                refine xz_iinc hC 1 (lc' := [(8, .int (nI (j + 1))), (4, .int (bI false)), (7, .int (nI (xk_pt (pp k) i))), (6, .int (nI (q (3 * p + i)))), (5, .int (nI i)), (3, .int (nI k)), (2, .int (bI sm)), (0, .ref mo), (1, .int (nI p))]) rfl (xn_inc _) (by decide) rfl dMo_agreed_161 ?_
                                refine xz_goto hC (tgt := 110) (by decide) dMo_agreed_164 ?_
                                exact ihlp15 _ (by omega) (j + 1) false (by omega) (by first | exact xt_f (fun z => absurd (hon2.mpr ⟨z.1, fun a ha => z.2 a (by omega)⟩) (by rw [h2f]; decide)) | exact xt_f (fun z => by have := z.2 j (by omega) (by omega); omega)) rfl
                              · skip
                                refine xz_iconst hC (v := bI true) (by decide +kernel) dMo_agreed_154 ?_
                                refine xz_goto hC (tgt := 159) (by decide) dMo_agreed_155 ?_
                                refine xz_istore hC (lc' := [(4, .int (bI true)), (8, .int (nI j)), (7, .int (nI (xk_pt (pp k) i))), (6, .int (nI (q (3 * p + i)))), (5, .int (nI i)), (3, .int (nI k)), (2, .int (bI sm)), (0, .ref mo), (1, .int (nI p))]) (by decide) rfl dMo_agreed_159 ?_
                                refine xz_iinc hC 1 (lc' := [(8, .int (nI (j + 1))), (4, .int (bI true)), (7, .int (nI (xk_pt (pp k) i))), (6, .int (nI (q (3 * p + i)))), (5, .int (nI i)), (3, .int (nI k)), (2, .int (bI sm)), (0, .ref mo), (1, .int (nI p))]) rfl (xn_inc _) (by decide) rfl dMo_agreed_161 ?_
                                refine xz_goto hC (tgt := 110) (by decide) dMo_agreed_164 ?_
                                exact ihlp15 _ (by omega) (j + 1) true (by omega) (by first | exact xt_t ⟨(hon2.mp h2t).1, lt_s (hon2.mp h2t).2 (fun z => absurd z (by omega))⟩ | exact xt_t ⟨(hon2.mp h2t).1, lt_s (hon2.mp h2t).2 (fun _ => by omega)⟩) rfl
                    exact lp15 _ 0 true (by omega) (hcc.trans ⟨fun z => ⟨z, fun a ha => absurd ha (by omega)⟩, fun z => z.1⟩) rfl
                  · skip
                    have hbt := h14
                    have hvv := ((hbo (q (3 * p + i) - 32) (by omega)).2 hbt).2
                    refine xz_aload_n hC 6 rfl rfl dMo_agreed_85 ?_
                    refine xz_get hC 0 rfl rfl 14 (by decide) inMo tq443 rfl rfl dMo_agreed_86 ?_
                    refine xz_iload hC 1 rfl dMo_agreed_89 ?_
                    refine xz_bipush hC (v := nI 32) (by decide +kernel) dMo_agreed_91 ?_
                    refine xz_isub hC (z := nI ((q (3 * p + i)) - 32)) (pk_sub (by omega)) dMo_agreed_93 ?_
                    refine xz_iaload hC 3 0 (v := nI (vv (q (3 * p + i) - 32))) rfl rfl (by omega) (by decide) ((hbo _ (by omega)).2 hbt).1 dMo_agreed_94 ?_
                    refine xz_iload hC 0 rfl dMo_agreed_95 ?_
                    refine xz_icmp_ne hC (tgt := 104) (nI_toInt (by omega)) (nI_toInt (by omega)) (by decide) dMo_agreed_97 (fun h20 => ?_) (fun h20 => ?_)
                    · skip
                      refine xz_iconst hC (v := bI false) (by decide +kernel) dMo_agreed_104 ?_
                      have hcc : (false = true ↔ (((∀ a, a < i → xm_m q p bd vv (pp k) a)) ∧ xm_c1 q p bd vv (pp k) i)) := by first | exact xt_f (fun z => absurd (hon.mpr z.1) (by rw [honf]; decide)) | exact xt_f (fun z => by have := z.2.1 (by omega); omega) | exact xt_f (fun z => by have := z.2.2 (by omega) hbt; omega)
                      refine xz_istore hC (lc' := [(4, .int (bI false)), (7, .int (nI (xk_pt (pp k) i))), (6, .int (nI (q (3 * p + i)))), (5, .int (nI i)), (3, .int (nI k)), (2, .int (bI sm)), (0, .ref mo), (1, .int (nI p))]) (by decide) rfl dMo_agreed_105 ?_
                      refine xz_iconst hC (v := nI 0) (by decide +kernel) dMo_agreed_107 ?_
                      refine xz_istore hC (lc' := [(8, .int (nI 0)), (4, .int (bI false)), (7, .int (nI (xk_pt (pp k) i))), (6, .int (nI (q (3 * p + i)))), (5, .int (nI i)), (3, .int (nI k)), (2, .int (bI sm)), (0, .ref mo), (1, .int (nI p))]) (by decide) rfl dMo_agreed_108 ?_
                      have lp21 : ∀ (NNlp21 : Nat) (j : Nat) (on2 : Bool), j ≤ i → (on2 = true ↔ ((((∀ a, a < i → xm_m q p bd vv (pp k) a)) ∧ xm_c1 q p bd vv (pp k) i) ∧ ∀ a, a < j → xm_c2 q p (pp k) i a)) → i - j = NNlp21 → xz_X Γ 0 0 [(mo, .inr (6, [.int (nI mb), .ref wo, .int (nI mw), .ref le, .ref lt, .int (nI n), .ref pe, .int (nI o), .ref st, .int (nI mg), .int (nI pa), .ref pt, .int (nI ma), .ref rr, .ref vl, .ref bo, .int (nI an), .ref kp, .int (nI lv)])), (pe, .inl (K 0, 60, .inl Pe)), (pt, .inl (K 0, 12, .inl Pt)), (vl, .inl (K 0, 3, .inl Vl)), (bo, .inl (K 3, 3, .inl Bo))] 110 [(8, .int (nI j)), (4, .int (bI on2)), (7, .int (nI (xk_pt (pp k) i))), (6, .int (nI (q (3 * p + i)))), (5, .int (nI i)), (3, .int (nI k)), (2, .int (bI sm)), (0, .ref mo), (1, .int (nI p))] [] := by
                        intro NNlp21
                        induction NNlp21 using Nat.strongRecOn with
                        | _ NNlp21 ihlp21 =>
                          intro j  on2  hj hon2 hNNlp21
                          refine xz_iload hC 0 rfl dMo_agreed_110 ?_
                          refine xz_iload hC 4 rfl dMo_agreed_112 ?_
                          refine xz_icmp_ge hC (tgt := 167) (nI_toInt (by omega)) (nI_toInt (by omega)) (by decide) dMo_agreed_114 (fun h22 => ?_) (fun h22 => ?_)
                          · skip
                            refine xz_iinc hC 4 (lc' := [(5, .int (nI (i + 1))), (8, .int (nI j)), (4, .int (bI on2)), (7, .int (nI (xk_pt (pp k) i))), (6, .int (nI (q (3 * p + i)))), (3, .int (nI k)), (2, .int (bI sm)), (0, .ref mo), (1, .int (nI p))]) rfl (xn_inc _) (by decide) rfl dMo_agreed_167 ?_
                            refine xz_goto hC (tgt := 18) (by decide) dMo_agreed_170 ?_
                            refine xz_lcs (lc' := [(5, .int (nI (i + 1))), (4, .int (bI on2)), (3, .int (nI k)), (2, .int (bI sm)), (0, .ref mo), (1, .int (nI p))]) [0, 2, 5, 6, 7, 8] rfl ?_
                            exact ihlp3 _ (by omega) (i + 1) on2 (by omega) (by rw [hon2, show j = i by omega]; exact xm_fold) rfl
                          · skip
                            have hqj := (hq (3 * p + j) (by omega)).2
                            have htj := xk_pt_lt (pp k) j
                            refine xz_iload hC 1 rfl dMo_agreed_117 ?_
                            refine xz_ifb_eq hC (tgt := 158) (by decide) dMo_agreed_119 (fun h23 => ?_) (fun h23 => ?_)
                            · skip
                              have h2f := h23
                              refine xz_iconst hC (v := bI false) (by decide +kernel) dMo_agreed_158 ?_
                              refine xz_istore hC (lc' := [(4, .int (bI false)), (8, .int (nI j)), (7, .int (nI (xk_pt (pp k) i))), (6, .int (nI (q (3 * p + i)))), (5, .int (nI i)), (3, .int (nI k)), (2, .int (bI sm)), (0, .ref mo), (1, .int (nI p))]) (by decide) rfl dMo_agreed_159 ?_
                              refine xz_iinc hC 1 (lc' := [(8, .int (nI (j + 1))), (4, .int (bI false)), (7, .int (nI (xk_pt (pp k) i))), (6, .int (nI (q (3 * p + i)))), (5, .int (nI i)), (3, .int (nI k)), (2, .int (bI sm)), (0, .ref mo), (1, .int (nI p))]) rfl (xn_inc _) (by decide) rfl dMo_agreed_161 ?_
                              refine xz_goto hC (tgt := 110) (by decide) dMo_agreed_164 ?_
                              exact ihlp21 _ (by omega) (j + 1) false (by omega) (by first | exact xt_f (fun z => absurd (hon2.mpr ⟨z.1, fun a ha => z.2 a (by omega)⟩) (by rw [h2f]; decide)) | exact xt_f (fun z => by have := z.2 j (by omega) (by omega); omega)) rfl
                            · skip
                              have h2t := h23
                              refine xz_aload_n hC 7 rfl rfl dMo_agreed_122 ?_
                              refine xz_get hC 0 rfl rfl 11 (by decide) inMo tq440 rfl rfl dMo_agreed_123 ?_
                              refine xz_iconst hC (v := nI 3) (by decide +kernel) dMo_agreed_126 ?_
                              refine xz_iload_n hC 8 rfl rfl dMo_agreed_127 ?_
                              refine xz_imul hC (z := nI (3 * p)) (pk_mul _ _) dMo_agreed_128 ?_
                              refine xz_iload hC 0 rfl dMo_agreed_129 ?_
                              refine xz_iadd hC (z := nI (3 * p + j)) (nI_add _ _) dMo_agreed_131 ?_
                              refine xz_iaload hC 2 0 (v := nI (q (3 * p + j))) rfl rfl (by omega) (by decide) (hq (3 * p + j) (by omega)).1 dMo_agreed_132 ?_
                              refine xz_iload hC 3 rfl dMo_agreed_133 ?_
                              refine xz_icmp_ne hC (tgt := 154) (nI_toInt (by omega)) (nI_toInt (by omega)) (by decide) dMo_agreed_135 (fun h24 => ?_) (fun h24 => ?_)
                              · skip
                                refine xz_iconst hC (v := bI true) (by decide +kernel) dMo_agreed_154 ?_
                                refine xz_goto hC (tgt := 159) (by decide) dMo_agreed_155 ?_
                                refine xz_istore hC (lc' := [(4, .int (bI true)), (8, .int (nI j)), (7, .int (nI (xk_pt (pp k) i))), (6, .int (nI (q (3 * p + i)))), (5, .int (nI i)), (3, .int (nI k)), (2, .int (bI sm)), (0, .ref mo), (1, .int (nI p))]) (by decide) rfl dMo_agreed_159 ?_
                                refine xz_iinc hC 1 (lc' := [(8, .int (nI (j + 1))), (4, .int (bI true)), (7, .int (nI (xk_pt (pp k) i))), (6, .int (nI (q (3 * p + i)))), (5, .int (nI i)), (3, .int (nI k)), (2, .int (bI sm)), (0, .ref mo), (1, .int (nI p))]) rfl (xn_inc _) (by decide) rfl dMo_agreed_161 ?_
                                refine xz_goto hC (tgt := 110) (by decide) dMo_agreed_164 ?_
                                exact ihlp21 _ (by omega) (j + 1) true (by omega) (by first | exact xt_t ⟨(hon2.mp h2t).1, lt_s (hon2.mp h2t).2 (fun z => absurd z (by omega))⟩ | exact xt_t ⟨(hon2.mp h2t).1, lt_s (hon2.mp h2t).2 (fun _ => by omega)⟩) rfl
                              · skip
                                refine xz_aload_n hC 7 rfl rfl dMo_agreed_138 ?_
                                refine xz_get hC 0 rfl rfl 6 (by decide) inMo tq435 rfl rfl dMo_agreed_139 ?_
                                refine xz_iload_n hC 5 rfl rfl dMo_agreed_142 ?_
                                refine xz_iaload hC 1 0 (v := nI (pp k)) rfl rfl (by omega) (by decide) (hp k (by omega)).1 dMo_agreed_143 ?_
                                refine xz_iload hC 0 rfl dMo_agreed_144 ?_
                                refine xz_callS hC (mMo_partOf l D K (pp k) j hpk (by omega)) kMo_partOf tq7 tq561 tq562 (host := "") (b := 0) hMo_partOf (by decide) [] [0, 1, 2, 3, 4] (by decide) rfl (wr := [(mo, .inr (6, [.int (nI mb), .ref wo, .int (nI mw), .ref le, .ref lt, .int (nI n), .ref pe, .int (nI o), .ref st, .int (nI mg), .int (nI pa), .ref pt, .int (nI ma), .ref rr, .ref vl, .ref bo, .int (nI an), .ref kp, .int (nI lv)])), (pe, .inl (K 0, 60, .inl Pe)), (pt, .inl (K 0, 12, .inl Pt)), (vl, .inl (K 0, 3, .inl Vl)), (bo, .inl (K 3, 3, .inl Bo))]) rfl (by decide) (by decide) (As := [.int (nI (pp k)), .int (nI j)]) (rest := []) rfl rfl (Nat.le_of_ble_eq_true rfl) (by decide) dMo_agreed_146 (fun v w hq => ?_)
                                obtain ⟨rfl, rfl⟩ := hq
                                refine xz_ste (st' := [.int (nI (xk_pt (pp k) j))]) rfl ?_
                                refine xz_wss (ws' := [(mo, .inr (6, [.int (nI mb), .ref wo, .int (nI mw), .ref le, .ref lt, .int (nI n), .ref pe, .int (nI o), .ref st, .int (nI mg), .int (nI pa), .ref pt, .int (nI ma), .ref rr, .ref vl, .ref bo, .int (nI an), .ref kp, .int (nI lv)])), (pe, .inl (K 0, 60, .inl Pe)), (pt, .inl (K 0, 12, .inl Pt)), (vl, .inl (K 0, 3, .inl Vl)), (bo, .inl (K 3, 3, .inl Bo))]) [0, 1, 2, 3, 4] (by decide) rfl rfl ?_
                                refine xz_iload hC 2 rfl dMo_agreed_149 ?_
                                refine xz_icmp_ne hC (tgt := 158) (nI_toInt (by omega)) (nI_toInt (by omega)) (by decide) dMo_agreed_151 (fun h25 => ?_) (fun h25 => ?_)
                                · skip
                                  refine xz_iconst hC (v := bI false) (by decide +kernel) dMo_agreed_158 ?_
                                  refine xz_istore hC (lc' := [(4, .int (bI false)), (8, .int (nI j)), (7, .int (nI (xk_pt (pp k) i))), (6, .int (nI (q (3 * p + i)))), (5, .int (nI i)), (3, .int (nI k)), (2, .int (bI sm)), (0, .ref mo), (1, .int (nI p))]) (by decide) rfl dMo_agreed_159 ?_
                                  refine xz_iinc hC 1 (lc' := [(8, .int (nI (j + 1))), (4, .int (bI false)), (7, .int (nI (xk_pt (pp k) i))), (6, .int (nI (q (3 * p + i)))), (5, .int (nI i)), (3, .int (nI k)), (2, .int (bI sm)), (0, .ref mo), (1, .int (nI p))]) rfl (xn_inc _) (by decide) rfl dMo_agreed_161 ?_
                                  refine xz_goto hC (tgt := 110) (by decide) dMo_agreed_164 ?_
                                  exact ihlp21 _ (by omega) (j + 1) false (by omega) (by first | exact xt_f (fun z => absurd (hon2.mpr ⟨z.1, fun a ha => z.2 a (by omega)⟩) (by rw [h2f]; decide)) | exact xt_f (fun z => by have := z.2 j (by omega) (by omega); omega)) rfl
                                · skip
                                  refine xz_iconst hC (v := bI true) (by decide +kernel) dMo_agreed_154 ?_
                                  refine xz_goto hC (tgt := 159) (by decide) dMo_agreed_155 ?_
                                  refine xz_istore hC (lc' := [(4, .int (bI true)), (8, .int (nI j)), (7, .int (nI (xk_pt (pp k) i))), (6, .int (nI (q (3 * p + i)))), (5, .int (nI i)), (3, .int (nI k)), (2, .int (bI sm)), (0, .ref mo), (1, .int (nI p))]) (by decide) rfl dMo_agreed_159 ?_
                                  refine xz_iinc hC 1 (lc' := [(8, .int (nI (j + 1))), (4, .int (bI true)), (7, .int (nI (xk_pt (pp k) i))), (6, .int (nI (q (3 * p + i)))), (5, .int (nI i)), (3, .int (nI k)), (2, .int (bI sm)), (0, .ref mo), (1, .int (nI p))]) rfl (xn_inc _) (by decide) rfl dMo_agreed_161 ?_
                                  refine xz_goto hC (tgt := 110) (by decide) dMo_agreed_164 ?_
                                  exact ihlp21 _ (by omega) (j + 1) true (by omega) (by first | exact xt_t ⟨(hon2.mp h2t).1, lt_s (hon2.mp h2t).2 (fun z => absurd z (by omega))⟩ | exact xt_t ⟨(hon2.mp h2t).1, lt_s (hon2.mp h2t).2 (fun _ => by omega)⟩) rfl
                      exact lp21 _ 0 false (by omega) (hcc.trans ⟨fun z => ⟨z, fun a ha => absurd ha (by omega)⟩, fun z => z.1⟩) rfl
                    · skip
                      refine xz_iconst hC (v := bI true) (by decide +kernel) dMo_agreed_100 ?_
                      refine xz_goto hC (tgt := 105) (by decide) dMo_agreed_101 ?_
                      have hcc : (true = true ↔ (((∀ a, a < i → xm_m q p bd vv (pp k) a)) ∧ xm_c1 q p bd vv (pp k) i)) := by first | exact xt_t ⟨hon.mp hont, fun _ => by omega, fun z => absurd z (by omega)⟩ | exact xt_t ⟨hon.mp hont, fun z => absurd z (by omega), fun _ z => absurd z (by rw [hbf]; decide)⟩ | exact xt_t ⟨hon.mp hont, fun z => absurd z (by omega), fun _ _ => by omega⟩
                      refine xz_istore hC (lc' := [(4, .int (bI true)), (7, .int (nI (xk_pt (pp k) i))), (6, .int (nI (q (3 * p + i)))), (5, .int (nI i)), (3, .int (nI k)), (2, .int (bI sm)), (0, .ref mo), (1, .int (nI p))]) (by decide) rfl dMo_agreed_105 ?_
                      refine xz_iconst hC (v := nI 0) (by decide +kernel) dMo_agreed_107 ?_
                      refine xz_istore hC (lc' := [(8, .int (nI 0)), (4, .int (bI true)), (7, .int (nI (xk_pt (pp k) i))), (6, .int (nI (q (3 * p + i)))), (5, .int (nI i)), (3, .int (nI k)), (2, .int (bI sm)), (0, .ref mo), (1, .int (nI p))]) (by decide) rfl dMo_agreed_108 ?_
                      have lp26 : ∀ (NNlp26 : Nat) (j : Nat) (on2 : Bool), j ≤ i → (on2 = true ↔ ((((∀ a, a < i → xm_m q p bd vv (pp k) a)) ∧ xm_c1 q p bd vv (pp k) i) ∧ ∀ a, a < j → xm_c2 q p (pp k) i a)) → i - j = NNlp26 → xz_X Γ 0 0 [(mo, .inr (6, [.int (nI mb), .ref wo, .int (nI mw), .ref le, .ref lt, .int (nI n), .ref pe, .int (nI o), .ref st, .int (nI mg), .int (nI pa), .ref pt, .int (nI ma), .ref rr, .ref vl, .ref bo, .int (nI an), .ref kp, .int (nI lv)])), (pe, .inl (K 0, 60, .inl Pe)), (pt, .inl (K 0, 12, .inl Pt)), (vl, .inl (K 0, 3, .inl Vl)), (bo, .inl (K 3, 3, .inl Bo))] 110 [(8, .int (nI j)), (4, .int (bI on2)), (7, .int (nI (xk_pt (pp k) i))), (6, .int (nI (q (3 * p + i)))), (5, .int (nI i)), (3, .int (nI k)), (2, .int (bI sm)), (0, .ref mo), (1, .int (nI p))] [] := by
                        intro NNlp26
                        induction NNlp26 using Nat.strongRecOn with
                        | _ NNlp26 ihlp26 =>
                          intro j  on2  hj hon2 hNNlp26
                          refine xz_iload hC 0 rfl dMo_agreed_110 ?_
                          refine xz_iload hC 4 rfl dMo_agreed_112 ?_
                          refine xz_icmp_ge hC (tgt := 167) (nI_toInt (by omega)) (nI_toInt (by omega)) (by decide) dMo_agreed_114 (fun h27 => ?_) (fun h27 => ?_)
                          · skip
                            refine xz_iinc hC 4 (lc' := [(5, .int (nI (i + 1))), (8, .int (nI j)), (4, .int (bI on2)), (7, .int (nI (xk_pt (pp k) i))), (6, .int (nI (q (3 * p + i)))), (3, .int (nI k)), (2, .int (bI sm)), (0, .ref mo), (1, .int (nI p))]) rfl (xn_inc _) (by decide) rfl dMo_agreed_167 ?_
                            refine xz_goto hC (tgt := 18) (by decide) dMo_agreed_170 ?_
                            refine xz_lcs (lc' := [(5, .int (nI (i + 1))), (4, .int (bI on2)), (3, .int (nI k)), (2, .int (bI sm)), (0, .ref mo), (1, .int (nI p))]) [0, 2, 5, 6, 7, 8] rfl ?_
                            exact ihlp3 _ (by omega) (i + 1) on2 (by omega) (by rw [hon2, show j = i by omega]; exact xm_fold) rfl
                          · skip
                            have hqj := (hq (3 * p + j) (by omega)).2
                            have htj := xk_pt_lt (pp k) j
                            refine xz_iload hC 1 rfl dMo_agreed_117 ?_
                            refine xz_ifb_eq hC (tgt := 158) (by decide) dMo_agreed_119 (fun h28 => ?_) (fun h28 => ?_)
                            · skip
                              have h2f := h28
                              refine xz_iconst hC (v := bI false) (by decide +kernel) dMo_agreed_158 ?_
                              refine xz_istore hC (lc' := [(4, .int (bI false)), (8, .int (nI j)), (7, .int (nI (xk_pt (pp k) i))), (6, .int (nI (q (3 * p + i)))), (5, .int (nI i)), (3, .int (nI k)), (2, .int (bI sm)), (0, .ref mo), (1, .int (nI p))]) (by decide) rfl dMo_agreed_159 ?_
                              refine xz_iinc hC 1 (lc' := [(8, .int (nI (j + 1))), (4, .int (bI false)), (7, .int (nI (xk_pt (pp k) i))), (6, .int (nI (q (3 * p + i)))), (5, .int (nI i)), (3, .int (nI k)), (2, .int (bI sm)), (0, .ref mo), (1, .int (nI p))]) rfl (xn_inc _) (by decide) rfl dMo_agreed_161 ?_
                              refine xz_goto hC (tgt := 110) (by decide) dMo_agreed_164 ?_
                              exact ihlp26 _ (by omega) (j + 1) false (by omega) (by first | exact xt_f (fun z => absurd (hon2.mpr ⟨z.1, fun a ha => z.2 a (by omega)⟩) (by rw [h2f]; decide)) | exact xt_f (fun z => by have := z.2 j (by omega) (by omega); omega)) rfl
                            · skip
                              have h2t := h28
                              refine xz_aload_n hC 7 rfl rfl dMo_agreed_122 ?_
                              refine xz_get hC 0 rfl rfl 11 (by decide) inMo tq440 rfl rfl dMo_agreed_123 ?_
                              refine xz_iconst hC (v := nI 3) (by decide +kernel) dMo_agreed_126 ?_
                              refine xz_iload_n hC 8 rfl rfl dMo_agreed_127 ?_
                              refine xz_imul hC (z := nI (3 * p)) (pk_mul _ _) dMo_agreed_128 ?_
                              refine xz_iload hC 0 rfl dMo_agreed_129 ?_
                              refine xz_iadd hC (z := nI (3 * p + j)) (nI_add _ _) dMo_agreed_131 ?_
                              refine xz_iaload hC 2 0 (v := nI (q (3 * p + j))) rfl rfl (by omega) (by decide) (hq (3 * p + j) (by omega)).1 dMo_agreed_132 ?_
                              refine xz_iload hC 3 rfl dMo_agreed_133 ?_
                              refine xz_icmp_ne hC (tgt := 154) (nI_toInt (by omega)) (nI_toInt (by omega)) (by decide) dMo_agreed_135 (fun h29 => ?_) (fun h29 => ?_)
                              · skip
                                refine xz_iconst hC (v := bI true) (by decide +kernel) dMo_agreed_154 ?_
                                refine xz_goto hC (tgt := 159) (by decide) dMo_agreed_155 ?_
                                refine xz_istore hC (lc' := [(4, .int (bI true)), (8, .int (nI j)), (7, .int (nI (xk_pt (pp k) i))), (6, .int (nI (q (3 * p + i)))), (5, .int (nI i)), (3, .int (nI k)), (2, .int (bI sm)), (0, .ref mo), (1, .int (nI p))]) (by decide) rfl dMo_agreed_159 ?_
                                refine xz_iinc hC 1 (lc' := [(8, .int (nI (j + 1))), (4, .int (bI true)), (7, .int (nI (xk_pt (pp k) i))), (6, .int (nI (q (3 * p + i)))), (5, .int (nI i)), (3, .int (nI k)), (2, .int (bI sm)), (0, .ref mo), (1, .int (nI p))]) rfl (xn_inc _) (by decide) rfl dMo_agreed_161 ?_
                                refine xz_goto hC (tgt := 110) (by decide) dMo_agreed_164 ?_
                                exact ihlp26 _ (by omega) (j + 1) true (by omega) (by first | exact xt_t ⟨(hon2.mp h2t).1, lt_s (hon2.mp h2t).2 (fun z => absurd z (by omega))⟩ | exact xt_t ⟨(hon2.mp h2t).1, lt_s (hon2.mp h2t).2 (fun _ => by omega)⟩) rfl
                              · skip
                                refine xz_aload_n hC 7 rfl rfl dMo_agreed_138 ?_
                                refine xz_get hC 0 rfl rfl 6 (by decide) inMo tq435 rfl rfl dMo_agreed_139 ?_
                                refine xz_iload_n hC 5 rfl rfl dMo_agreed_142 ?_
                                refine xz_iaload hC 1 0 (v := nI (pp k)) rfl rfl (by omega) (by decide) (hp k (by omega)).1 dMo_agreed_143 ?_
                                refine xz_iload hC 0 rfl dMo_agreed_144 ?_
                                refine xz_callS hC (mMo_partOf l D K (pp k) j hpk (by omega)) kMo_partOf tq7 tq561 tq562 (host := "") (b := 0) hMo_partOf (by decide) [] [0, 1, 2, 3, 4] (by decide) rfl (wr := [(mo, .inr (6, [.int (nI mb), .ref wo, .int (nI mw), .ref le, .ref lt, .int (nI n), .ref pe, .int (nI o), .ref st, .int (nI mg), .int (nI pa), .ref pt, .int (nI ma), .ref rr, .ref vl, .ref bo, .int (nI an), .ref kp, .int (nI lv)])), (pe, .inl (K 0, 60, .inl Pe)), (pt, .inl (K 0, 12, .inl Pt)), (vl, .inl (K 0, 3, .inl Vl)), (bo, .inl (K 3, 3, .inl Bo))]) rfl (by decide) (by decide) (As := [.int (nI (pp k)), .int (nI j)]) (rest := []) rfl rfl (Nat.le_of_ble_eq_true rfl) (by decide) dMo_agreed_146 (fun v w hq => ?_)
                                obtain ⟨rfl, rfl⟩ := hq
                                refine xz_ste (st' := [.int (nI (xk_pt (pp k) j))]) rfl ?_
                                refine xz_wss (ws' := [(mo, .inr (6, [.int (nI mb), .ref wo, .int (nI mw), .ref le, .ref lt, .int (nI n), .ref pe, .int (nI o), .ref st, .int (nI mg), .int (nI pa), .ref pt, .int (nI ma), .ref rr, .ref vl, .ref bo, .int (nI an), .ref kp, .int (nI lv)])), (pe, .inl (K 0, 60, .inl Pe)), (pt, .inl (K 0, 12, .inl Pt)), (vl, .inl (K 0, 3, .inl Vl)), (bo, .inl (K 3, 3, .inl Bo))]) [0, 1, 2, 3, 4] (by decide) rfl rfl ?_
                                refine xz_iload hC 2 rfl dMo_agreed_149 ?_
                                refine xz_icmp_ne hC (tgt := 158) (nI_toInt (by omega)) (nI_toInt (by omega)) (by decide) dMo_agreed_151 (fun h30 => ?_) (fun h30 => ?_)
                                · skip
                                  refine xz_iconst hC (v := bI false) (by decide +kernel) dMo_agreed_158 ?_
                                  refine xz_istore hC (lc' := [(4, .int (bI false)), (8, .int (nI j)), (7, .int (nI (xk_pt (pp k) i))), (6, .int (nI (q (3 * p + i)))), (5, .int (nI i)), (3, .int (nI k)), (2, .int (bI sm)), (0, .ref mo), (1, .int (nI p))]) (by decide) rfl dMo_agreed_159 ?_
                                  refine xz_iinc hC 1 (lc' := [(8, .int (nI (j + 1))), (4, .int (bI false)), (7, .int (nI (xk_pt (pp k) i))), (6, .int (nI (q (3 * p + i)))), (5, .int (nI i)), (3, .int (nI k)), (2, .int (bI sm)), (0, .ref mo), (1, .int (nI p))]) rfl (xn_inc _) (by decide) rfl dMo_agreed_161 ?_
                                  refine xz_goto hC (tgt := 110) (by decide) dMo_agreed_164 ?_
                                  exact ihlp26 _ (by omega) (j + 1) false (by omega) (by first | exact xt_f (fun z => absurd (hon2.mpr ⟨z.1, fun a ha => z.2 a (by omega)⟩) (by rw [h2f]; decide)) | exact xt_f (fun z => by have := z.2 j (by omega) (by omega); omega)) rfl
                                · skip
                                  refine xz_iconst hC (v := bI true) (by decide +kernel) dMo_agreed_154 ?_
                                  refine xz_goto hC (tgt := 159) (by decide) dMo_agreed_155 ?_
                                  refine xz_istore hC (lc' := [(4, .int (bI true)), (8, .int (nI j)), (7, .int (nI (xk_pt (pp k) i))), (6, .int (nI (q (3 * p + i)))), (5, .int (nI i)), (3, .int (nI k)), (2, .int (bI sm)), (0, .ref mo), (1, .int (nI p))]) (by decide) rfl dMo_agreed_159 ?_
                                  refine xz_iinc hC 1 (lc' := [(8, .int (nI (j + 1))), (4, .int (bI true)), (7, .int (nI (xk_pt (pp k) i))), (6, .int (nI (q (3 * p + i)))), (5, .int (nI i)), (3, .int (nI k)), (2, .int (bI sm)), (0, .ref mo), (1, .int (nI p))]) rfl (xn_inc _) (by decide) rfl dMo_agreed_161 ?_
                                  refine xz_goto hC (tgt := 110) (by decide) dMo_agreed_164 ?_
                                  exact ihlp26 _ (by omega) (j + 1) true (by omega) (by first | exact xt_t ⟨(hon2.mp h2t).1, lt_s (hon2.mp h2t).2 (fun z => absurd z (by omega))⟩ | exact xt_t ⟨(hon2.mp h2t).1, lt_s (hon2.mp h2t).2 (fun _ => by omega)⟩) rfl
                      exact lp26 _ 0 true (by omega) (hcc.trans ⟨fun z => ⟨z, fun a ha => absurd ha (by omega)⟩, fun z => z.1⟩) rfl
                · skip
                  refine xz_iload hC 1 rfl dMo_agreed_62 ?_
                  refine xz_iload hC 0 rfl dMo_agreed_64 ?_
                  refine xz_icmp_ne hC (tgt := 104) (nI_toInt (by omega)) (nI_toInt (by omega)) (by decide) dMo_agreed_66 (fun h31 => ?_) (fun h31 => ?_)
                  · skip
                    refine xz_iconst hC (v := bI false) (by decide +kernel) dMo_agreed_104 ?_
                    have hcc : (false = true ↔ (((∀ a, a < i → xm_m q p bd vv (pp k) a)) ∧ xm_c1 q p bd vv (pp k) i)) := by first | exact xt_f (fun z => absurd (hon.mpr z.1) (by rw [honf]; decide)) | exact xt_f (fun z => by have := z.2.1 (by omega); omega) | exact xt_f (fun z => by have := z.2.2 (by omega) hbt; omega)
                    refine xz_istore hC (lc' := [(4, .int (bI false)), (7, .int (nI (xk_pt (pp k) i))), (6, .int (nI (q (3 * p + i)))), (5, .int (nI i)), (3, .int (nI k)), (2, .int (bI sm)), (0, .ref mo), (1, .int (nI p))]) (by decide) rfl dMo_agreed_105 ?_
                    refine xz_iconst hC (v := nI 0) (by decide +kernel) dMo_agreed_107 ?_
                    refine xz_istore hC (lc' := [(8, .int (nI 0)), (4, .int (bI false)), (7, .int (nI (xk_pt (pp k) i))), (6, .int (nI (q (3 * p + i)))), (5, .int (nI i)), (3, .int (nI k)), (2, .int (bI sm)), (0, .ref mo), (1, .int (nI p))]) (by decide) rfl dMo_agreed_108 ?_
                    have lp32 : ∀ (NNlp32 : Nat) (j : Nat) (on2 : Bool), j ≤ i → (on2 = true ↔ ((((∀ a, a < i → xm_m q p bd vv (pp k) a)) ∧ xm_c1 q p bd vv (pp k) i) ∧ ∀ a, a < j → xm_c2 q p (pp k) i a)) → i - j = NNlp32 → xz_X Γ 0 0 [(mo, .inr (6, [.int (nI mb), .ref wo, .int (nI mw), .ref le, .ref lt, .int (nI n), .ref pe, .int (nI o), .ref st, .int (nI mg), .int (nI pa), .ref pt, .int (nI ma), .ref rr, .ref vl, .ref bo, .int (nI an), .ref kp, .int (nI lv)])), (pe, .inl (K 0, 60, .inl Pe)), (pt, .inl (K 0, 12, .inl Pt)), (vl, .inl (K 0, 3, .inl Vl)), (bo, .inl (K 3, 3, .inl Bo))] 110 [(8, .int (nI j)), (4, .int (bI on2)), (7, .int (nI (xk_pt (pp k) i))), (6, .int (nI (q (3 * p + i)))), (5, .int (nI i)), (3, .int (nI k)), (2, .int (bI sm)), (0, .ref mo), (1, .int (nI p))] [] := by
                      intro NNlp32
                      induction NNlp32 using Nat.strongRecOn with
                      | _ NNlp32 ihlp32 =>
                        intro j  on2  hj hon2 hNNlp32
                        refine xz_iload hC 0 rfl dMo_agreed_110 ?_
                        refine xz_iload hC 4 rfl dMo_agreed_112 ?_
                        refine xz_icmp_ge hC (tgt := 167) (nI_toInt (by omega)) (nI_toInt (by omega)) (by decide) dMo_agreed_114 (fun h33 => ?_) (fun h33 => ?_)
                        · skip
                          refine xz_iinc hC 4 (lc' := [(5, .int (nI (i + 1))), (8, .int (nI j)), (4, .int (bI on2)), (7, .int (nI (xk_pt (pp k) i))), (6, .int (nI (q (3 * p + i)))), (3, .int (nI k)), (2, .int (bI sm)), (0, .ref mo), (1, .int (nI p))]) rfl (xn_inc _) (by decide) rfl dMo_agreed_167 ?_
                          refine xz_goto hC (tgt := 18) (by decide) dMo_agreed_170 ?_
                          refine xz_lcs (lc' := [(5, .int (nI (i + 1))), (4, .int (bI on2)), (3, .int (nI k)), (2, .int (bI sm)), (0, .ref mo), (1, .int (nI p))]) [0, 2, 5, 6, 7, 8] rfl ?_
                          exact ihlp3 _ (by omega) (i + 1) on2 (by omega) (by rw [hon2, show j = i by omega]; exact xm_fold) rfl
                        · skip
                          have hqj := (hq (3 * p + j) (by omega)).2
                          have htj := xk_pt_lt (pp k) j
                          refine xz_iload hC 1 rfl dMo_agreed_117 ?_
                          refine xz_ifb_eq hC (tgt := 158) (by decide) dMo_agreed_119 (fun h34 => ?_) (fun h34 => ?_)
                          · skip
                            have h2f := h34
                            refine xz_iconst hC (v := bI false) (by decide +kernel) dMo_agreed_158 ?_
                            refine xz_istore hC (lc' := [(4, .int (bI false)), (8, .int (nI j)), (7, .int (nI (xk_pt (pp k) i))), (6, .int (nI (q (3 * p + i)))), (5, .int (nI i)), (3, .int (nI k)), (2, .int (bI sm)), (0, .ref mo), (1, .int (nI p))]) (by decide) rfl dMo_agreed_159 ?_
                            refine xz_iinc hC 1 (lc' := [(8, .int (nI (j + 1))), (4, .int (bI false)), (7, .int (nI (xk_pt (pp k) i))), (6, .int (nI (q (3 * p + i)))), (5, .int (nI i)), (3, .int (nI k)), (2, .int (bI sm)), (0, .ref mo), (1, .int (nI p))]) rfl (xn_inc _) (by decide) rfl dMo_agreed_161 ?_
                            refine xz_goto hC (tgt := 110) (by decide) dMo_agreed_164 ?_
                            exact ihlp32 _ (by omega) (j + 1) false (by omega) (by first | exact xt_f (fun z => absurd (hon2.mpr ⟨z.1, fun a ha => z.2 a (by omega)⟩) (by rw [h2f]; decide)) | exact xt_f (fun z => by have := z.2 j (by omega) (by omega); omega)) rfl
                          · skip
                            have h2t := h34
                            refine xz_aload_n hC 7 rfl rfl dMo_agreed_122 ?_
                            refine xz_get hC 0 rfl rfl 11 (by decide) inMo tq440 rfl rfl dMo_agreed_123 ?_
                            refine xz_iconst hC (v := nI 3) (by decide +kernel) dMo_agreed_126 ?_
                            refine xz_iload_n hC 8 rfl rfl dMo_agreed_127 ?_
                            refine xz_imul hC (z := nI (3 * p)) (pk_mul _ _) dMo_agreed_128 ?_
                            refine xz_iload hC 0 rfl dMo_agreed_129 ?_
                            refine xz_iadd hC (z := nI (3 * p + j)) (nI_add _ _) dMo_agreed_131 ?_
                            refine xz_iaload hC 2 0 (v := nI (q (3 * p + j))) rfl rfl (by omega) (by decide) (hq (3 * p + j) (by omega)).1 dMo_agreed_132 ?_
                            refine xz_iload hC 3 rfl dMo_agreed_133 ?_
                            refine xz_icmp_ne hC (tgt := 154) (nI_toInt (by omega)) (nI_toInt (by omega)) (by decide) dMo_agreed_135 (fun h35 => ?_) (fun h35 => ?_)
                            · skip
                              refine xz_iconst hC (v := bI true) (by decide +kernel) dMo_agreed_154 ?_
                              refine xz_goto hC (tgt := 159) (by decide) dMo_agreed_155 ?_
                              refine xz_istore hC (lc' := [(4, .int (bI true)), (8, .int (nI j)), (7, .int (nI (xk_pt (pp k) i))), (6, .int (nI (q (3 * p + i)))), (5, .int (nI i)), (3, .int (nI k)), (2, .int (bI sm)), (0, .ref mo), (1, .int (nI p))]) (by decide) rfl dMo_agreed_159 ?_
                              refine xz_iinc hC 1 (lc' := [(8, .int (nI (j + 1))), (4, .int (bI true)), (7, .int (nI (xk_pt (pp k) i))), (6, .int (nI (q (3 * p + i)))), (5, .int (nI i)), (3, .int (nI k)), (2, .int (bI sm)), (0, .ref mo), (1, .int (nI p))]) rfl (xn_inc _) (by decide) rfl dMo_agreed_161 ?_
                              refine xz_goto hC (tgt := 110) (by decide) dMo_agreed_164 ?_
                              exact ihlp32 _ (by omega) (j + 1) true (by omega) (by first | exact xt_t ⟨(hon2.mp h2t).1, lt_s (hon2.mp h2t).2 (fun z => absurd z (by omega))⟩ | exact xt_t ⟨(hon2.mp h2t).1, lt_s (hon2.mp h2t).2 (fun _ => by omega)⟩) rfl
                            · skip
                              refine xz_aload_n hC 7 rfl rfl dMo_agreed_138 ?_
                              refine xz_get hC 0 rfl rfl 6 (by decide) inMo tq435 rfl rfl dMo_agreed_139 ?_
                              refine xz_iload_n hC 5 rfl rfl dMo_agreed_142 ?_
                              refine xz_iaload hC 1 0 (v := nI (pp k)) rfl rfl (by omega) (by decide) (hp k (by omega)).1 dMo_agreed_143 ?_
                              refine xz_iload hC 0 rfl dMo_agreed_144 ?_
                              refine xz_callS hC (mMo_partOf l D K (pp k) j hpk (by omega)) kMo_partOf tq7 tq561 tq562 (host := "") (b := 0) hMo_partOf (by decide) [] [0, 1, 2, 3, 4] (by decide) rfl (wr := [(mo, .inr (6, [.int (nI mb), .ref wo, .int (nI mw), .ref le, .ref lt, .int (nI n), .ref pe, .int (nI o), .ref st, .int (nI mg), .int (nI pa), .ref pt, .int (nI ma), .ref rr, .ref vl, .ref bo, .int (nI an), .ref kp, .int (nI lv)])), (pe, .inl (K 0, 60, .inl Pe)), (pt, .inl (K 0, 12, .inl Pt)), (vl, .inl (K 0, 3, .inl Vl)), (bo, .inl (K 3, 3, .inl Bo))]) rfl (by decide) (by decide) (As := [.int (nI (pp k)), .int (nI j)]) (rest := []) rfl rfl (Nat.le_of_ble_eq_true rfl) (by decide) dMo_agreed_146 (fun v w hq => ?_)
                              obtain ⟨rfl, rfl⟩ := hq
                              refine xz_ste (st' := [.int (nI (xk_pt (pp k) j))]) rfl ?_
                              refine xz_wss (ws' := [(mo, .inr (6, [.int (nI mb), .ref wo, .int (nI mw), .ref le, .ref lt, .int (nI n), .ref pe, .int (nI o), .ref st, .int (nI mg), .int (nI pa), .ref pt, .int (nI ma), .ref rr, .ref vl, .ref bo, .int (nI an), .ref kp, .int (nI lv)])), (pe, .inl (K 0, 60, .inl Pe)), (pt, .inl (K 0, 12, .inl Pt)), (vl, .inl (K 0, 3, .inl Vl)), (bo, .inl (K 3, 3, .inl Bo))]) [0, 1, 2, 3, 4] (by decide) rfl rfl ?_
                              refine xz_iload hC 2 rfl dMo_agreed_149 ?_
                              refine xz_icmp_ne hC (tgt := 158) (nI_toInt (by omega)) (nI_toInt (by omega)) (by decide) dMo_agreed_151 (fun h36 => ?_) (fun h36 => ?_)
                              · skip
                                refine xz_iconst hC (v := bI false) (by decide +kernel) dMo_agreed_158 ?_
                                refine xz_istore hC (lc' := [(4, .int (bI false)), (8, .int (nI j)), (7, .int (nI (xk_pt (pp k) i))), (6, .int (nI (q (3 * p + i)))), (5, .int (nI i)), (3, .int (nI k)), (2, .int (bI sm)), (0, .ref mo), (1, .int (nI p))]) (by decide) rfl dMo_agreed_159 ?_
                                refine xz_iinc hC 1 (lc' := [(8, .int (nI (j + 1))), (4, .int (bI false)), (7, .int (nI (xk_pt (pp k) i))), (6, .int (nI (q (3 * p + i)))), (5, .int (nI i)), (3, .int (nI k)), (2, .int (bI sm)), (0, .ref mo), (1, .int (nI p))]) rfl (xn_inc _) (by decide) rfl dMo_agreed_161 ?_
                                refine xz_goto hC (tgt := 110) (by decide) dMo_agreed_164 ?_
                                exact ihlp32 _ (by omega) (j + 1) false (by omega) (by first | exact xt_f (fun z => absurd (hon2.mpr ⟨z.1, fun a ha => z.2 a (by omega)⟩) (by rw [h2f]; decide)) | exact xt_f (fun z => by have := z.2 j (by omega) (by omega); omega)) rfl
                              · skip
                                refine xz_iconst hC (v := bI true) (by decide +kernel) dMo_agreed_154 ?_
                                refine xz_goto hC (tgt := 159) (by decide) dMo_agreed_155 ?_
                                refine xz_istore hC (lc' := [(4, .int (bI true)), (8, .int (nI j)), (7, .int (nI (xk_pt (pp k) i))), (6, .int (nI (q (3 * p + i)))), (5, .int (nI i)), (3, .int (nI k)), (2, .int (bI sm)), (0, .ref mo), (1, .int (nI p))]) (by decide) rfl dMo_agreed_159 ?_
                                refine xz_iinc hC 1 (lc' := [(8, .int (nI (j + 1))), (4, .int (bI true)), (7, .int (nI (xk_pt (pp k) i))), (6, .int (nI (q (3 * p + i)))), (5, .int (nI i)), (3, .int (nI k)), (2, .int (bI sm)), (0, .ref mo), (1, .int (nI p))]) rfl (xn_inc _) (by decide) rfl dMo_agreed_161 ?_
                                refine xz_goto hC (tgt := 110) (by decide) dMo_agreed_164 ?_
                                exact ihlp32 _ (by omega) (j + 1) true (by omega) (by first | exact xt_t ⟨(hon2.mp h2t).1, lt_s (hon2.mp h2t).2 (fun z => absurd z (by omega))⟩ | exact xt_t ⟨(hon2.mp h2t).1, lt_s (hon2.mp h2t).2 (fun _ => by omega)⟩) rfl
                    exact lp32 _ 0 false (by omega) (hcc.trans ⟨fun z => ⟨z, fun a ha => absurd ha (by omega)⟩, fun z => z.1⟩) rfl
                  · skip
                    refine xz_goto hC (tgt := 100) (by decide) dMo_agreed_69 ?_
                    refine xz_iconst hC (v := bI true) (by decide +kernel) dMo_agreed_100 ?_
                    refine xz_goto hC (tgt := 105) (by decide) dMo_agreed_101 ?_
                    have hcc : (true = true ↔ (((∀ a, a < i → xm_m q p bd vv (pp k) a)) ∧ xm_c1 q p bd vv (pp k) i)) := by first | exact xt_t ⟨hon.mp hont, fun _ => by omega, fun z => absurd z (by omega)⟩ | exact xt_t ⟨hon.mp hont, fun z => absurd z (by omega), fun _ z => absurd z (by rw [hbf]; decide)⟩ | exact xt_t ⟨hon.mp hont, fun z => absurd z (by omega), fun _ _ => by omega⟩
                    refine xz_istore hC (lc' := [(4, .int (bI true)), (7, .int (nI (xk_pt (pp k) i))), (6, .int (nI (q (3 * p + i)))), (5, .int (nI i)), (3, .int (nI k)), (2, .int (bI sm)), (0, .ref mo), (1, .int (nI p))]) (by decide) rfl dMo_agreed_105 ?_
                    refine xz_iconst hC (v := nI 0) (by decide +kernel) dMo_agreed_107 ?_
                    refine xz_istore hC (lc' := [(8, .int (nI 0)), (4, .int (bI true)), (7, .int (nI (xk_pt (pp k) i))), (6, .int (nI (q (3 * p + i)))), (5, .int (nI i)), (3, .int (nI k)), (2, .int (bI sm)), (0, .ref mo), (1, .int (nI p))]) (by decide) rfl dMo_agreed_108 ?_
                    have lp37 : ∀ (NNlp37 : Nat) (j : Nat) (on2 : Bool), j ≤ i → (on2 = true ↔ ((((∀ a, a < i → xm_m q p bd vv (pp k) a)) ∧ xm_c1 q p bd vv (pp k) i) ∧ ∀ a, a < j → xm_c2 q p (pp k) i a)) → i - j = NNlp37 → xz_X Γ 0 0 [(mo, .inr (6, [.int (nI mb), .ref wo, .int (nI mw), .ref le, .ref lt, .int (nI n), .ref pe, .int (nI o), .ref st, .int (nI mg), .int (nI pa), .ref pt, .int (nI ma), .ref rr, .ref vl, .ref bo, .int (nI an), .ref kp, .int (nI lv)])), (pe, .inl (K 0, 60, .inl Pe)), (pt, .inl (K 0, 12, .inl Pt)), (vl, .inl (K 0, 3, .inl Vl)), (bo, .inl (K 3, 3, .inl Bo))] 110 [(8, .int (nI j)), (4, .int (bI on2)), (7, .int (nI (xk_pt (pp k) i))), (6, .int (nI (q (3 * p + i)))), (5, .int (nI i)), (3, .int (nI k)), (2, .int (bI sm)), (0, .ref mo), (1, .int (nI p))] [] := by
                      intro NNlp37
                      induction NNlp37 using Nat.strongRecOn with
                      | _ NNlp37 ihlp37 =>
                        intro j  on2  hj hon2 hNNlp37
                        refine xz_iload hC 0 rfl dMo_agreed_110 ?_
                        refine xz_iload hC 4 rfl dMo_agreed_112 ?_
                        refine xz_icmp_ge hC (tgt := 167) (nI_toInt (by omega)) (nI_toInt (by omega)) (by decide) dMo_agreed_114 (fun h38 => ?_) (fun h38 => ?_)
                        · skip
                          refine xz_iinc hC 4 (lc' := [(5, .int (nI (i + 1))), (8, .int (nI j)), (4, .int (bI on2)), (7, .int (nI (xk_pt (pp k) i))), (6, .int (nI (q (3 * p + i)))), (3, .int (nI k)), (2, .int (bI sm)), (0, .ref mo), (1, .int (nI p))]) rfl (xn_inc _) (by decide) rfl dMo_agreed_167 ?_
                          refine xz_goto hC (tgt := 18) (by decide) dMo_agreed_170 ?_
                          refine xz_lcs (lc' := [(5, .int (nI (i + 1))), (4, .int (bI on2)), (3, .int (nI k)), (2, .int (bI sm)), (0, .ref mo), (1, .int (nI p))]) [0, 2, 5, 6, 7, 8] rfl ?_
                          exact ihlp3 _ (by omega) (i + 1) on2 (by omega) (by rw [hon2, show j = i by omega]; exact xm_fold) rfl
                        · skip
                          have hqj := (hq (3 * p + j) (by omega)).2
                          have htj := xk_pt_lt (pp k) j
                          refine xz_iload hC 1 rfl dMo_agreed_117 ?_
                          refine xz_ifb_eq hC (tgt := 158) (by decide) dMo_agreed_119 (fun h39 => ?_) (fun h39 => ?_)
                          · skip
                            have h2f := h39
                            refine xz_iconst hC (v := bI false) (by decide +kernel) dMo_agreed_158 ?_
                            refine xz_istore hC (lc' := [(4, .int (bI false)), (8, .int (nI j)), (7, .int (nI (xk_pt (pp k) i))), (6, .int (nI (q (3 * p + i)))), (5, .int (nI i)), (3, .int (nI k)), (2, .int (bI sm)), (0, .ref mo), (1, .int (nI p))]) (by decide) rfl dMo_agreed_159 ?_
                            refine xz_iinc hC 1 (lc' := [(8, .int (nI (j + 1))), (4, .int (bI false)), (7, .int (nI (xk_pt (pp k) i))), (6, .int (nI (q (3 * p + i)))), (5, .int (nI i)), (3, .int (nI k)), (2, .int (bI sm)), (0, .ref mo), (1, .int (nI p))]) rfl (xn_inc _) (by decide) rfl dMo_agreed_161 ?_
                            refine xz_goto hC (tgt := 110) (by decide) dMo_agreed_164 ?_
                            exact ihlp37 _ (by omega) (j + 1) false (by omega) (by first | exact xt_f (fun z => absurd (hon2.mpr ⟨z.1, fun a ha => z.2 a (by omega)⟩) (by rw [h2f]; decide)) | exact xt_f (fun z => by have := z.2 j (by omega) (by omega); omega)) rfl
                          · skip
                            have h2t := h39
                            refine xz_aload_n hC 7 rfl rfl dMo_agreed_122 ?_
                            refine xz_get hC 0 rfl rfl 11 (by decide) inMo tq440 rfl rfl dMo_agreed_123 ?_
                            refine xz_iconst hC (v := nI 3) (by decide +kernel) dMo_agreed_126 ?_
                            refine xz_iload_n hC 8 rfl rfl dMo_agreed_127 ?_
                            refine xz_imul hC (z := nI (3 * p)) (pk_mul _ _) dMo_agreed_128 ?_
                            refine xz_iload hC 0 rfl dMo_agreed_129 ?_
                            refine xz_iadd hC (z := nI (3 * p + j)) (nI_add _ _) dMo_agreed_131 ?_
                            refine xz_iaload hC 2 0 (v := nI (q (3 * p + j))) rfl rfl (by omega) (by decide) (hq (3 * p + j) (by omega)).1 dMo_agreed_132 ?_
                            refine xz_iload hC 3 rfl dMo_agreed_133 ?_
                            refine xz_icmp_ne hC (tgt := 154) (nI_toInt (by omega)) (nI_toInt (by omega)) (by decide) dMo_agreed_135 (fun h40 => ?_) (fun h40 => ?_)
                            · skip
                              refine xz_iconst hC (v := bI true) (by decide +kernel) dMo_agreed_154 ?_
                              refine xz_goto hC (tgt := 159) (by decide) dMo_agreed_155 ?_
                              refine xz_istore hC (lc' := [(4, .int (bI true)), (8, .int (nI j)), (7, .int (nI (xk_pt (pp k) i))), (6, .int (nI (q (3 * p + i)))), (5, .int (nI i)), (3, .int (nI k)), (2, .int (bI sm)), (0, .ref mo), (1, .int (nI p))]) (by decide) rfl dMo_agreed_159 ?_
                              refine xz_iinc hC 1 (lc' := [(8, .int (nI (j + 1))), (4, .int (bI true)), (7, .int (nI (xk_pt (pp k) i))), (6, .int (nI (q (3 * p + i)))), (5, .int (nI i)), (3, .int (nI k)), (2, .int (bI sm)), (0, .ref mo), (1, .int (nI p))]) rfl (xn_inc _) (by decide) rfl dMo_agreed_161 ?_
                              refine xz_goto hC (tgt := 110) (by decide) dMo_agreed_164 ?_
                              exact ihlp37 _ (by omega) (j + 1) true (by omega) (by first | exact xt_t ⟨(hon2.mp h2t).1, lt_s (hon2.mp h2t).2 (fun z => absurd z (by omega))⟩ | exact xt_t ⟨(hon2.mp h2t).1, lt_s (hon2.mp h2t).2 (fun _ => by omega)⟩) rfl
                            · skip
                              refine xz_aload_n hC 7 rfl rfl dMo_agreed_138 ?_
                              refine xz_get hC 0 rfl rfl 6 (by decide) inMo tq435 rfl rfl dMo_agreed_139 ?_
                              refine xz_iload_n hC 5 rfl rfl dMo_agreed_142 ?_
                              refine xz_iaload hC 1 0 (v := nI (pp k)) rfl rfl (by omega) (by decide) (hp k (by omega)).1 dMo_agreed_143 ?_
                              refine xz_iload hC 0 rfl dMo_agreed_144 ?_
                              refine xz_callS hC (mMo_partOf l D K (pp k) j hpk (by omega)) kMo_partOf tq7 tq561 tq562 (host := "") (b := 0) hMo_partOf (by decide) [] [0, 1, 2, 3, 4] (by decide) rfl (wr := [(mo, .inr (6, [.int (nI mb), .ref wo, .int (nI mw), .ref le, .ref lt, .int (nI n), .ref pe, .int (nI o), .ref st, .int (nI mg), .int (nI pa), .ref pt, .int (nI ma), .ref rr, .ref vl, .ref bo, .int (nI an), .ref kp, .int (nI lv)])), (pe, .inl (K 0, 60, .inl Pe)), (pt, .inl (K 0, 12, .inl Pt)), (vl, .inl (K 0, 3, .inl Vl)), (bo, .inl (K 3, 3, .inl Bo))]) rfl (by decide) (by decide) (As := [.int (nI (pp k)), .int (nI j)]) (rest := []) rfl rfl (Nat.le_of_ble_eq_true rfl) (by decide) dMo_agreed_146 (fun v w hq => ?_)
                              obtain ⟨rfl, rfl⟩ := hq
                              refine xz_ste (st' := [.int (nI (xk_pt (pp k) j))]) rfl ?_
                              refine xz_wss (ws' := [(mo, .inr (6, [.int (nI mb), .ref wo, .int (nI mw), .ref le, .ref lt, .int (nI n), .ref pe, .int (nI o), .ref st, .int (nI mg), .int (nI pa), .ref pt, .int (nI ma), .ref rr, .ref vl, .ref bo, .int (nI an), .ref kp, .int (nI lv)])), (pe, .inl (K 0, 60, .inl Pe)), (pt, .inl (K 0, 12, .inl Pt)), (vl, .inl (K 0, 3, .inl Vl)), (bo, .inl (K 3, 3, .inl Bo))]) [0, 1, 2, 3, 4] (by decide) rfl rfl ?_
                              refine xz_iload hC 2 rfl dMo_agreed_149 ?_
                              refine xz_icmp_ne hC (tgt := 158) (nI_toInt (by omega)) (nI_toInt (by omega)) (by decide) dMo_agreed_151 (fun h41 => ?_) (fun h41 => ?_)
                              · skip
                                refine xz_iconst hC (v := bI false) (by decide +kernel) dMo_agreed_158 ?_
                                refine xz_istore hC (lc' := [(4, .int (bI false)), (8, .int (nI j)), (7, .int (nI (xk_pt (pp k) i))), (6, .int (nI (q (3 * p + i)))), (5, .int (nI i)), (3, .int (nI k)), (2, .int (bI sm)), (0, .ref mo), (1, .int (nI p))]) (by decide) rfl dMo_agreed_159 ?_
                                refine xz_iinc hC 1 (lc' := [(8, .int (nI (j + 1))), (4, .int (bI false)), (7, .int (nI (xk_pt (pp k) i))), (6, .int (nI (q (3 * p + i)))), (5, .int (nI i)), (3, .int (nI k)), (2, .int (bI sm)), (0, .ref mo), (1, .int (nI p))]) rfl (xn_inc _) (by decide) rfl dMo_agreed_161 ?_
                                refine xz_goto hC (tgt := 110) (by decide) dMo_agreed_164 ?_
                                exact ihlp37 _ (by omega) (j + 1) false (by omega) (by first | exact xt_f (fun z => absurd (hon2.mpr ⟨z.1, fun a ha => z.2 a (by omega)⟩) (by rw [h2f]; decide)) | exact xt_f (fun z => by have := z.2 j (by omega) (by omega); omega)) rfl
                              · skip
                                refine xz_iconst hC (v := bI true) (by decide +kernel) dMo_agreed_154 ?_
                                refine xz_goto hC (tgt := 159) (by decide) dMo_agreed_155 ?_
                                refine xz_istore hC (lc' := [(4, .int (bI true)), (8, .int (nI j)), (7, .int (nI (xk_pt (pp k) i))), (6, .int (nI (q (3 * p + i)))), (5, .int (nI i)), (3, .int (nI k)), (2, .int (bI sm)), (0, .ref mo), (1, .int (nI p))]) (by decide) rfl dMo_agreed_159 ?_
                                refine xz_iinc hC 1 (lc' := [(8, .int (nI (j + 1))), (4, .int (bI true)), (7, .int (nI (xk_pt (pp k) i))), (6, .int (nI (q (3 * p + i)))), (5, .int (nI i)), (3, .int (nI k)), (2, .int (bI sm)), (0, .ref mo), (1, .int (nI p))]) rfl (xn_inc _) (by decide) rfl dMo_agreed_161 ?_
                                refine xz_goto hC (tgt := 110) (by decide) dMo_agreed_164 ?_
                                exact ihlp37 _ (by omega) (j + 1) true (by omega) (by first | exact xt_t ⟨(hon2.mp h2t).1, lt_s (hon2.mp h2t).2 (fun z => absurd z (by omega))⟩ | exact xt_t ⟨(hon2.mp h2t).1, lt_s (hon2.mp h2t).2 (fun _ => by omega)⟩) rfl
                    exact lp37 _ 0 true (by omega) (hcc.trans ⟨fun z => ⟨z, fun a ha => absurd ha (by omega)⟩, fun z => z.1⟩) rfl
        exact lp3 _ 0 true (by omega) (xt_t (fun a ha => absurd ha (by omega))) rfl
  exact lp1 _ 0 false (by omega) (xt_f (fun ⟨j, hj, e⟩ => by omega)) rfl
set_option maxHeartbeats 1000000 in
set_option maxRecDepth 100000 in
theorem mMo_isLive (l : Launch) (D : va_G) (K : Nat → ClassId) (mo wo le lt pe st pt rr vl bo kp mb mw n o mg pa ma an lv : Nat) (Pe Pt Vl Bo : Nat → Int32) (pp q : Nat → Nat) (bd : Nat → Bool) (vv : Nat → Nat) (hn : n ≤ 60) (hp : xo_og Pe pp n) (hpa : pa ≤ 4) (hq : xq_nu Pt q (3 * pa)) (hbo : xm_bo Bo Vl bd vv) : xz_Met l D (tz K) yMo_isLive cMo_isLive 2 (some .boolean) { frames := 2, cells := 0, slots := 0, locals := 49 } [.ref mo] [(mo, .inr (6, [.int (nI mb), .ref wo, .int (nI mw), .ref le, .ref lt, .int (nI n), .ref pe, .int (nI o), .ref st, .int (nI mg), .int (nI pa), .ref pt, .int (nI ma), .ref rr, .ref vl, .ref bo, .int (nI an), .ref kp, .int (nI lv)])), (pe, .inl (K 0, 60, .inl Pe)), (pt, .inl (K 0, 12, .inl Pt)), (vl, .inl (K 0, 3, .inl Vl)), (bo, .inl (K 3, 3, .inl Bo))] (fun v w => ∃ b : Bool, v = some (.int (bI b)) ∧ w = [(mo, .inr (6, [.int (nI mb), .ref wo, .int (nI mw), .ref le, .ref lt, .int (nI n), .ref pe, .int (nI o), .ref st, .int (nI mg), .int (nI pa), .ref pt, .int (nI ma), .ref rr, .ref vl, .ref bo, .int (nI an), .ref kp, .int (nI lv)])), (pe, .inl (K 0, 60, .inl Pe)), (pt, .inl (K 0, 12, .inl Pt)), (vl, .inl (K 0, 3, .inl Vl)), (bo, .inl (K 3, 3, .inl Bo))] ∧ (b = true ↔ ∀ k, k < pa → xm_cn q k bd → xm_ex q k bd vv pp n)) := by
  refine xz_enter (by decide +kernel) (Nat.le_of_ble_eq_true rfl) ?_
  intro Γ hC
  refine xz_lcs (lc' := [(0, .ref mo)]) [0] rfl ?_
  refine xz_iconst hC (v := nI 0) (by decide +kernel) dMo_isLive_0 ?_
  refine xz_istore_n hC (lc' := [(1, .int (nI 0)), (0, .ref mo)]) rfl (by decide) rfl dMo_isLive_1 ?_
  have lp1 : ∀ (NNlp1 : Nat) (k : Nat), k ≤ pa → (∀ j, j < k → xm_cn q j bd → xm_ex q j bd vv pp n) → pa - k = NNlp1 → xz_X Γ 0 0 [(mo, .inr (6, [.int (nI mb), .ref wo, .int (nI mw), .ref le, .ref lt, .int (nI n), .ref pe, .int (nI o), .ref st, .int (nI mg), .int (nI pa), .ref pt, .int (nI ma), .ref rr, .ref vl, .ref bo, .int (nI an), .ref kp, .int (nI lv)])), (pe, .inl (K 0, 60, .inl Pe)), (pt, .inl (K 0, 12, .inl Pt)), (vl, .inl (K 0, 3, .inl Vl)), (bo, .inl (K 3, 3, .inl Bo))] 2 [(1, .int (nI k)), (0, .ref mo)] [] := by
    intro NNlp1
    induction NNlp1 using Nat.strongRecOn with
    | _ NNlp1 ihlp1 =>
      intro k  hk0 hall hNNlp1
      refine xz_iload_n hC 0 rfl rfl dMo_isLive_2 ?_
      refine xz_aload_n hC 1 rfl rfl dMo_isLive_3 ?_
      refine xz_get hC 0 rfl rfl 10 (by decide) inMo tq439 rfl rfl dMo_isLive_4 ?_
      refine xz_icmp_ge hC (tgt := 34) (nI_toInt (by omega)) (nI_toInt (by omega)) (by decide) dMo_isLive_7 (fun h2 => ?_) (fun h2 => ?_)
      · skip
        refine xz_iconst hC (v := bI true) (by decide +kernel) dMo_isLive_34 ?_
        exact xz_zreturn hC (by decide) (by decide) (⟨_, rfl, rfl, xt_t (fun j hj => hall j (by omega))⟩) dMo_isLive_35
      · skip
        refine xz_aload_n hC 1 rfl rfl dMo_isLive_10 ?_
        refine xz_iload_n hC 0 rfl rfl dMo_isLive_11 ?_
        refine xz_callV hC (mMo_counts l D K mo wo le lt pe st pt rr vl bo kp mb mw n o mg pa ma an lv Pt Vl Bo q bd vv k hpa hq (by omega) hbo) kMo_counts tq7 tq600 tq602 tp27 0 6 rfl rfl rfl (host := "") hMo_counts (by decide) [0, 2, 4] [1, 3] (by decide) rfl (wr := [(pe, .inl (K 0, 60, .inl Pe)), (vl, .inl (K 0, 3, .inl Vl))]) rfl (by decide) (by decide) (As := [.int (nI k)]) (rest := []) rfl rfl (Nat.le_of_ble_eq_true rfl) (by decide) dMo_isLive_12 (fun v w hq => ?_)
        obtain ⟨b, rfl, rfl, hb⟩ := hq
        refine xz_ste (st' := [.int (bI b)]) rfl ?_
        refine xz_wss (ws' := [(mo, .inr (6, [.int (nI mb), .ref wo, .int (nI mw), .ref le, .ref lt, .int (nI n), .ref pe, .int (nI o), .ref st, .int (nI mg), .int (nI pa), .ref pt, .int (nI ma), .ref rr, .ref vl, .ref bo, .int (nI an), .ref kp, .int (nI lv)])), (pe, .inl (K 0, 60, .inl Pe)), (pt, .inl (K 0, 12, .inl Pt)), (vl, .inl (K 0, 3, .inl Vl)), (bo, .inl (K 3, 3, .inl Bo))]) [2, 0, 3, 1, 4] (by decide) rfl rfl ?_
        refine xz_ifb_eq hC (tgt := 28) (by decide) dMo_isLive_15 (fun h3 => ?_) (fun h3 => ?_)
        · skip
          have hnow : xm_cn q k bd → xm_ex q k bd vv pp n := fun z => absurd (hb.mpr z) (by rw [h3]; decide)
          refine xz_iinc hC 0 (lc' := [(1, .int (nI (k + 1))), (0, .ref mo)]) rfl (xn_inc _) (by decide) rfl dMo_isLive_28 ?_
          refine xz_goto hC (tgt := 2) (by decide) dMo_isLive_31 ?_
          exact ihlp1 _ (by omega) (k + 1) (by omega) (lt_s hall hnow) rfl
        · skip
          have hcn := hb.mp h3
          refine xz_aload_n hC 1 rfl rfl dMo_isLive_18 ?_
          refine xz_iload_n hC 0 rfl rfl dMo_isLive_19 ?_
          refine xz_callV hC (mMo_agreed l D K mo wo le lt pe st pt rr vl bo kp mb mw n o mg pa ma an lv Pe Pt Vl Bo pp q bd vv k hn hp hpa hq (by omega) hbo) kMo_agreed tq7 tq604 tq606 tp28 0 6 rfl rfl rfl (host := "") hMo_agreed (by decide) [0, 1, 2, 3, 4] [] (by decide) rfl (wr := []) rfl (by decide) (by decide) (As := [.int (nI k)]) (rest := []) rfl rfl (Nat.le_of_ble_eq_true rfl) (by decide) dMo_isLive_20 (fun v w hq => ?_)
          obtain ⟨b2, rfl, rfl, hb2⟩ := hq
          refine xz_ste (st' := [.int (bI b2)]) rfl ?_
          refine xz_wss (ws' := [(mo, .inr (6, [.int (nI mb), .ref wo, .int (nI mw), .ref le, .ref lt, .int (nI n), .ref pe, .int (nI o), .ref st, .int (nI mg), .int (nI pa), .ref pt, .int (nI ma), .ref rr, .ref vl, .ref bo, .int (nI an), .ref kp, .int (nI lv)])), (pe, .inl (K 0, 60, .inl Pe)), (pt, .inl (K 0, 12, .inl Pt)), (vl, .inl (K 0, 3, .inl Vl)), (bo, .inl (K 3, 3, .inl Bo))]) [0, 1, 2, 3, 4] (by decide) rfl rfl ?_
          refine xz_ifb_ne hC (tgt := 28) (by decide) dMo_isLive_23 (fun h4 => ?_) (fun h4 => ?_)
          · skip
            have hnow : xm_cn q k bd → xm_ex q k bd vv pp n := fun _ => hb2.mp h4
            refine xz_iinc hC 0 (lc' := [(1, .int (nI (k + 1))), (0, .ref mo)]) rfl (xn_inc _) (by decide) rfl dMo_isLive_28 ?_
            refine xz_goto hC (tgt := 2) (by decide) dMo_isLive_31 ?_
            exact ihlp1 _ (by omega) (k + 1) (by omega) (lt_s hall hnow) rfl
          · skip
            have hnex : ¬ xm_ex q k bd vv pp n := fun z => absurd (hb2.mpr z) (by rw [h4]; decide)
            refine xz_iconst hC (v := bI false) (by decide +kernel) dMo_isLive_26 ?_
            exact xz_zreturn hC (by decide) (by decide) (⟨_, rfl, rfl, xt_f (fun z => hnex (z k (by omega) hcn))⟩) dMo_isLive_27
  exact lp1 _ 0 (by omega) (fun j hj => absurd hj (by omega)) rfl
