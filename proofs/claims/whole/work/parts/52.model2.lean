set_option maxHeartbeats 1000000 in
set_option maxRecDepth 100000 in
theorem mMo_pending (l : Launch) (D : va_G) (K : Nat → ClassId) (mo wo le lt pe st pt rr vl bo kp mb mw n o mg pa ma an lv : Nat) (Pe St : Nat → Int32) (p s0 : Nat → Nat) (hn : n ≤ 60) (ho : o ≤ 60) (hp : xo_og Pe p n) (hs : xo_og St s0 o) : xz_Met l D (tz K) yMo_pending cMo_pending 3 (some .int) { frames := 1, cells := 0, slots := 0, locals := 23 } [.ref mo] [(mo, .inr (6, [.int (nI mb), .ref wo, .int (nI mw), .ref le, .ref lt, .int (nI n), .ref pe, .int (nI o), .ref st, .int (nI mg), .int (nI pa), .ref pt, .int (nI ma), .ref rr, .ref vl, .ref bo, .int (nI an), .ref kp, .int (nI lv)])), (pe, .inl (K 0, 60, .inl Pe)), (st, .inl (K 0, 60, .inl St))] (fun v w => v = some (.int (nI (xo_pd p n s0 o))) ∧ w = [(mo, .inr (6, [.int (nI mb), .ref wo, .int (nI mw), .ref le, .ref lt, .int (nI n), .ref pe, .int (nI o), .ref st, .int (nI mg), .int (nI pa), .ref pt, .int (nI ma), .ref rr, .ref vl, .ref bo, .int (nI an), .ref kp, .int (nI lv)])), (pe, .inl (K 0, 60, .inl Pe)), (st, .inl (K 0, 60, .inl St))]) := by
  refine xz_enter (by decide +kernel) (Nat.le_of_ble_eq_true rfl) ?_
  intro Γ hC
  refine xz_lcs (lc' := [(0, .ref mo)]) [0] rfl ?_
  refine xz_iconst hC (v := nI 0) (by decide +kernel) dMo_pending_0 ?_
  refine xz_istore_n hC (lc' := [(1, .int (nI 0)), (0, .ref mo)]) rfl (by decide) rfl dMo_pending_1 ?_
  refine xz_iconst hC (v := nI 0) (by decide +kernel) dMo_pending_2 ?_
  refine xz_istore_n hC (lc' := [(2, .int (nI 0)), (1, .int (nI 0)), (0, .ref mo)]) rfl (by decide) rfl dMo_pending_3 ?_
  have lp1 : ∀ (NNlp1 : Nat) (i : Nat), i ≤ n → n - i = NNlp1 → xz_X Γ 0 0 [(mo, .inr (6, [.int (nI mb), .ref wo, .int (nI mw), .ref le, .ref lt, .int (nI n), .ref pe, .int (nI o), .ref st, .int (nI mg), .int (nI pa), .ref pt, .int (nI ma), .ref rr, .ref vl, .ref bo, .int (nI an), .ref kp, .int (nI lv)])), (pe, .inl (K 0, 60, .inl Pe)), (st, .inl (K 0, 60, .inl St))] 4 [(2, .int (nI i)), (1, .int (nI (xc_n (fun i => !xo_mb s0 (p i) o) i))), (0, .ref mo)] [] := by
    intro NNlp1
    induction NNlp1 using Nat.strongRecOn with
    | _ NNlp1 ihlp1 =>
      intro i  hi hNNlp1
      refine xz_iload_n hC 0 rfl rfl dMo_pending_4 ?_
      refine xz_aload_n hC 2 rfl rfl dMo_pending_5 ?_
      refine xz_get hC 0 rfl rfl 5 (by decide) inMo tq434 rfl rfl dMo_pending_6 ?_
      refine xz_icmp_ge hC (tgt := 39) (nI_toInt (by omega)) (nI_toInt (by omega)) (by decide) dMo_pending_9 (fun h2 => ?_) (fun h2 => ?_)
      · skip
        refine xz_iconst hC (v := nI 0) (by decide +kernel) dMo_pending_39 ?_
        refine xz_istore_n hC (lc' := [(2, .int (nI 0)), (1, .int (nI (xc_n (fun i => !xo_mb s0 (p i) o) i))), (0, .ref mo)]) rfl (by decide) rfl dMo_pending_40 ?_
        refine xz_lce (lc' := [(2, .int (nI 0)), (1, .int (nI (xc_n (fun i => !xo_mb s0 (p i) o) n + xc_n (fun i => !xo_mb p (s0 i) n) 0))), (0, .ref mo)]) (by rw [show xc_n (fun i => !xo_mb p (s0 i) n) 0 = 0 from rfl, Nat.add_zero, show i = n by omega]) ?_
        have lp3 : ∀ (NNlp3 : Nat) (k : Nat), k ≤ o → o - k = NNlp3 → xz_X Γ 0 0 [(mo, .inr (6, [.int (nI mb), .ref wo, .int (nI mw), .ref le, .ref lt, .int (nI n), .ref pe, .int (nI o), .ref st, .int (nI mg), .int (nI pa), .ref pt, .int (nI ma), .ref rr, .ref vl, .ref bo, .int (nI an), .ref kp, .int (nI lv)])), (pe, .inl (K 0, 60, .inl Pe)), (st, .inl (K 0, 60, .inl St))] 41 [(2, .int (nI k)), (1, .int (nI (xc_n (fun i => !xo_mb s0 (p i) o) n + xc_n (fun i => !xo_mb p (s0 i) n) k))), (0, .ref mo)] [] := by
          intro NNlp3
          induction NNlp3 using Nat.strongRecOn with
          | _ NNlp3 ihlp3 =>
            intro k  hk hNNlp3
            refine xz_iload_n hC 0 rfl rfl dMo_pending_41 ?_
            refine xz_aload_n hC 2 rfl rfl dMo_pending_42 ?_
            refine xz_get hC 0 rfl rfl 7 (by decide) inMo tq436 rfl rfl dMo_pending_43 ?_
            refine xz_icmp_ge hC (tgt := 76) (nI_toInt (by omega)) (nI_toInt (by omega)) (by decide) dMo_pending_46 (fun h4 => ?_) (fun h4 => ?_)
            · skip
              refine xz_iload_n hC 1 rfl rfl dMo_pending_76 ?_
              exact xz_ireturn hC (by decide) (by decide) (⟨by rw [show k = o by omega]; rfl, rfl⟩) dMo_pending_77
            · skip
              have hsk := (hs k (by omega)).2
              refine xz_iload_n hC 1 rfl rfl dMo_pending_49 ?_
              refine xz_aload_n hC 2 rfl rfl dMo_pending_50 ?_
              refine xz_aload_n hC 2 rfl rfl dMo_pending_51 ?_
              refine xz_get hC 0 rfl rfl 8 (by decide) inMo tq437 rfl rfl dMo_pending_52 ?_
              refine xz_iload_n hC 0 rfl rfl dMo_pending_55 ?_
              refine xz_iaload hC 2 0 (v := nI (s0 k)) rfl rfl (by omega) (by decide) (hs k (by omega)).1 dMo_pending_56 ?_
              refine xz_callV hC (mMo_place l D K mo wo le lt pe st pt rr vl bo kp mb mw n o mg pa ma an lv Pe p (s0 k) hn hp hsk) kMo_place tq7 tq517 tq519 tp18 0 6 rfl rfl rfl (host := "") hMo_place (by decide) [0, 1] [2] (by decide) rfl (wr := [(st, .inl (K 0, 60, .inl St))]) rfl (by decide) (by decide) (As := [.int (nI (s0 k))]) (rest := [.int (nI (xc_n (fun i => !xo_mb s0 (p i) o) n + xc_n (fun i => !xo_mb p (s0 i) n) k))]) rfl rfl (Nat.le_of_ble_eq_true rfl) (by decide) dMo_pending_57 (fun v w hq => ?_)
              rcases hq with ⟨j, hj, rfl, rfl, hpj⟩ | ⟨rfl, rfl, hnm⟩
              · skip
                refine xz_ste (st' := [.int (nI j), .int (nI (xc_n (fun i => !xo_mb s0 (p i) o) n + xc_n (fun i => !xo_mb p (s0 i) n) k))]) rfl ?_
                refine xz_wss (ws' := [(mo, .inr (6, [.int (nI mb), .ref wo, .int (nI mw), .ref le, .ref lt, .int (nI n), .ref pe, .int (nI o), .ref st, .int (nI mg), .int (nI pa), .ref pt, .int (nI ma), .ref rr, .ref vl, .ref bo, .int (nI an), .ref kp, .int (nI lv)])), (pe, .inl (K 0, 60, .inl Pe)), (st, .inl (K 0, 60, .inl St))]) [1, 2, 0] (by decide) rfl rfl ?_
                have hq0 : (fun i => !xo_mb p (s0 i) n) k = false := by
                  show (!xo_mb p (s0 k) n) = false
                  rw [xo_mb_iff.mpr ⟨j, hj, hpj⟩]; rfl
                refine xz_if_ge hC (tgt := 67) (nI_toInt (by omega)) (by decide) dMo_pending_60 (fun h5 => ?_) (fun h5 => ?_)
                · skip
                  refine xz_iconst hC (v := nI 0) (by decide +kernel) dMo_pending_67 ?_
                  refine xz_iadd hC (z := nI (xc_n (fun i => !xo_mb s0 (p i) o) n + xc_n (fun i => !xo_mb p (s0 i) n) k + 0)) (nI_add _ _) dMo_pending_68 ?_
                  refine xz_istore_n hC (lc' := [(1, .int (nI (xc_n (fun i => !xo_mb s0 (p i) o) n + xc_n (fun i => !xo_mb p (s0 i) n) k + 0))), (2, .int (nI k)), (0, .ref mo)]) rfl (by decide) rfl dMo_pending_69 ?_
                  refine xz_lce (lc' := [(1, .int (nI (xc_n (fun i => !xo_mb s0 (p i) o) n + xc_n (fun i => !xo_mb p (s0 i) n) (k + 1)))), (2, .int (nI k)), (0, .ref mo)]) (by rw [xc_no (p := fun i => !xo_mb p (s0 i) n) hq0, ← Nat.add_assoc]) ?_
                  refine xz_iinc hC 1 (lc' := [(2, .int (nI (k + 1))), (1, .int (nI (xc_n (fun i => !xo_mb s0 (p i) o) n + xc_n (fun i => !xo_mb p (s0 i) n) (k + 1)))), (0, .ref mo)]) rfl (xn_inc _) (by decide) rfl dMo_pending_70 ?_
                  refine xz_goto hC (tgt := 41) (by decide) dMo_pending_73 ?_
                  exact ihlp3 _ (by omega) (k + 1) (by omega) rfl
                · skip
                  exfalso; omega
              · skip
                refine xz_ste (st' := [.int (-1), .int (nI (xc_n (fun i => !xo_mb s0 (p i) o) n + xc_n (fun i => !xo_mb p (s0 i) n) k))]) rfl ?_
                refine xz_wss (ws' := [(mo, .inr (6, [.int (nI mb), .ref wo, .int (nI mw), .ref le, .ref lt, .int (nI n), .ref pe, .int (nI o), .ref st, .int (nI mg), .int (nI pa), .ref pt, .int (nI ma), .ref rr, .ref vl, .ref bo, .int (nI an), .ref kp, .int (nI lv)])), (pe, .inl (K 0, 60, .inl Pe)), (st, .inl (K 0, 60, .inl St))]) [1, 2, 0] (by decide) rfl rfl ?_
                have hq0 : (fun i => !xo_mb p (s0 i) n) k = true := by
                  show (!xo_mb p (s0 k) n) = true
                  rw [xo_mb_f.mpr hnm]; rfl
                refine xz_if_ge hC (tgt := 67) (show (-1 : Int32).toInt = -1 from by decide +kernel) (by decide) dMo_pending_60 (fun h6 => ?_) (fun h6 => ?_)
                · skip
                  exfalso; omega
                · skip
                  refine xz_iconst hC (v := nI 1) (by decide +kernel) dMo_pending_63 ?_
                  refine xz_goto hC (tgt := 68) (by decide) dMo_pending_64 ?_
                  refine xz_iadd hC (z := nI (xc_n (fun i => !xo_mb s0 (p i) o) n + xc_n (fun i => !xo_mb p (s0 i) n) k + 1)) (nI_add _ _) dMo_pending_68 ?_
                  refine xz_istore_n hC (lc' := [(1, .int (nI (xc_n (fun i => !xo_mb s0 (p i) o) n + xc_n (fun i => !xo_mb p (s0 i) n) k + 1))), (2, .int (nI k)), (0, .ref mo)]) rfl (by decide) rfl dMo_pending_69 ?_
                  refine xz_lce (lc' := [(1, .int (nI (xc_n (fun i => !xo_mb s0 (p i) o) n + xc_n (fun i => !xo_mb p (s0 i) n) (k + 1)))), (2, .int (nI k)), (0, .ref mo)]) (by rw [xc_yes (p := fun i => !xo_mb p (s0 i) n) hq0, ← Nat.add_assoc]) ?_
                  refine xz_iinc hC 1 (lc' := [(2, .int (nI (k + 1))), (1, .int (nI (xc_n (fun i => !xo_mb s0 (p i) o) n + xc_n (fun i => !xo_mb p (s0 i) n) (k + 1)))), (0, .ref mo)]) rfl (xn_inc _) (by decide) rfl dMo_pending_70 ?_
                  refine xz_goto hC (tgt := 41) (by decide) dMo_pending_73 ?_
                  exact ihlp3 _ (by omega) (k + 1) (by omega) rfl
        exact lp3 _ 0 (by omega) rfl
      · skip
        have hpi := (hp i (by omega)).2
        refine xz_iload_n hC 1 rfl rfl dMo_pending_12 ?_
        refine xz_aload_n hC 2 rfl rfl dMo_pending_13 ?_
        refine xz_aload_n hC 2 rfl rfl dMo_pending_14 ?_
        refine xz_get hC 0 rfl rfl 6 (by decide) inMo tq435 rfl rfl dMo_pending_15 ?_
        refine xz_iload_n hC 0 rfl rfl dMo_pending_18 ?_
        refine xz_iaload hC 1 0 (v := nI (p i)) rfl rfl (by omega) (by decide) (hp i (by omega)).1 dMo_pending_19 ?_
        refine xz_callV hC (mMo_wasSettled l D K mo wo le lt pe st pt rr vl bo kp mb mw n o mg pa ma an lv St s0 (p i) ho hs hpi) kMo_wasSettled tq7 tq513 tq515 tp17 0 6 rfl rfl rfl (host := "") hMo_wasSettled (by decide) [0, 2] [1] (by decide) rfl (wr := [(pe, .inl (K 0, 60, .inl Pe))]) rfl (by decide) (by decide) (As := [.int (nI (p i))]) (rest := [.int (nI (xc_n (fun i => !xo_mb s0 (p i) o) i))]) rfl rfl (Nat.le_of_ble_eq_true rfl) (by decide) dMo_pending_20 (fun v w hq => ?_)
        obtain ⟨b, rfl, rfl, hb⟩ := hq
        refine xz_ste (st' := [.int (bI b), .int (nI (xc_n (fun i => !xo_mb s0 (p i) o) i))]) rfl ?_
        refine xz_wss (ws' := [(mo, .inr (6, [.int (nI mb), .ref wo, .int (nI mw), .ref le, .ref lt, .int (nI n), .ref pe, .int (nI o), .ref st, .int (nI mg), .int (nI pa), .ref pt, .int (nI ma), .ref rr, .ref vl, .ref bo, .int (nI an), .ref kp, .int (nI lv)])), (pe, .inl (K 0, 60, .inl Pe)), (st, .inl (K 0, 60, .inl St))]) [1, 0, 2] (by decide) rfl rfl ?_
        refine xz_ifb_eq hC (tgt := 30) (by decide) dMo_pending_23 (fun h7 => ?_) (fun h7 => ?_)
        · skip
          have hq0 : (fun i => !xo_mb s0 (p i) o) i = true := by
            show (!xo_mb s0 (p i) o) = true
            rw [xo_mb_f.mpr (fun k => absurd (hb.mpr k) (by rw [h7]; decide))]; rfl
          refine xz_iconst hC (v := nI 1) (by decide +kernel) dMo_pending_30 ?_
          refine xz_iadd hC (z := nI (xc_n (fun i => !xo_mb s0 (p i) o) i + 1)) (nI_add _ _) dMo_pending_31 ?_
          refine xz_istore_n hC (lc' := [(1, .int (nI (xc_n (fun i => !xo_mb s0 (p i) o) i + 1))), (2, .int (nI i)), (0, .ref mo)]) rfl (by decide) rfl dMo_pending_32 ?_
          refine xz_lce (lc' := [(1, .int (nI (xc_n (fun i => !xo_mb s0 (p i) o) (i + 1)))), (2, .int (nI i)), (0, .ref mo)]) (by rw [xc_yes (by first | exact hq0 | rfl)]) ?_
          refine xz_iinc hC 1 (lc' := [(2, .int (nI (i + 1))), (1, .int (nI (xc_n (fun i => !xo_mb s0 (p i) o) (i + 1)))), (0, .ref mo)]) rfl (xn_inc _) (by decide) rfl dMo_pending_33 ?_
          refine xz_goto hC (tgt := 4) (by decide) dMo_pending_36 ?_
          exact ihlp1 _ (by omega) (i + 1) (by omega) rfl
        · skip
          have hq0 : (fun i => !xo_mb s0 (p i) o) i = false := by
            show (!xo_mb s0 (p i) o) = false
            rw [xo_mb_iff.mpr (hb.mp h7)]; rfl
          refine xz_iconst hC (v := nI 0) (by decide +kernel) dMo_pending_26 ?_
          refine xz_goto hC (tgt := 31) (by decide) dMo_pending_27 ?_
          refine xz_iadd hC (z := nI (xc_n (fun i => !xo_mb s0 (p i) o) i + 0)) (nI_add _ _) dMo_pending_31 ?_
          refine xz_istore_n hC (lc' := [(1, .int (nI (xc_n (fun i => !xo_mb s0 (p i) o) i + 0))), (2, .int (nI i)), (0, .ref mo)]) rfl (by decide) rfl dMo_pending_32 ?_
          refine xz_lce (lc' := [(1, .int (nI (xc_n (fun i => !xo_mb s0 (p i) o) (i + 1)))), (2, .int (nI i)), (0, .ref mo)]) (by rw [xc_no (by first | exact hq0 | rfl)]) ?_
          refine xz_iinc hC 1 (lc' := [(2, .int (nI (i + 1))), (1, .int (nI (xc_n (fun i => !xo_mb s0 (p i) o) (i + 1)))), (0, .ref mo)]) rfl (xn_inc _) (by decide) rfl dMo_pending_33 ?_
          refine xz_goto hC (tgt := 4) (by decide) dMo_pending_36 ?_
          exact ihlp1 _ (by omega) (i + 1) (by omega) rfl
  exact lp1 _ 0 (by omega) rfl
set_option maxHeartbeats 1000000 in
set_option maxRecDepth 100000 in
theorem mMo_merge (l : Launch) (D : va_G) (K : Nat → ClassId) (mo wo le lt pe st pt rr vl bo kp mb mw n o mg pa ma an lv : Nat) (Pe St : Nat → Int32) (p s0 : Nat → Nat) (hn : n ≤ 60) (ho : o ≤ 60) (hp : xo_og Pe p n) (hs : xo_og St s0 o) : xz_Met l D (tz K) yMo_merge cMo_merge 3 (some .int) { frames := 2, cells := 0, slots := 0, locals := 45 } [.ref mo] [(mo, .inr (6, [.int (nI mb), .ref wo, .int (nI mw), .ref le, .ref lt, .int (nI n), .ref pe, .int (nI o), .ref st, .int (nI mg), .int (nI pa), .ref pt, .int (nI ma), .ref rr, .ref vl, .ref bo, .int (nI an), .ref kp, .int (nI lv)])), (pe, .inl (K 0, 60, .inl Pe)), (st, .inl (K 0, 60, .inl St))] (fun v w => ∃ St' : Nat → Int32, v = some (.int (nI (xo_pd p n s0 o))) ∧ w = [(mo, .inr (6, [.int (nI mb), .ref wo, .int (nI mw), .ref le, .ref lt, .int (nI n), .ref pe, .int (nI n), .ref st, .int (nI (mg + 1)), .int (nI pa), .ref pt, .int (nI ma), .ref rr, .ref vl, .ref bo, .int (nI an), .ref kp, .int (nI lv)])), (pe, .inl (K 0, 60, .inl Pe)), (st, .inl (K 0, 60, .inl St'))] ∧ xo_og St' p n) := by
  refine xz_enter (by decide +kernel) (Nat.le_of_ble_eq_true rfl) ?_
  intro Γ hC
  refine xz_lcs (lc' := [(0, .ref mo)]) [0] rfl ?_
  refine xz_aload_n hC 0 rfl rfl dMo_merge_0 ?_
  refine xz_callV hC (mMo_pending l D K mo wo le lt pe st pt rr vl bo kp mb mw n o mg pa ma an lv Pe St p s0 hn ho hp hs) kMo_pending tq7 tq525 tq510 tq511 0 6 rfl rfl rfl (host := "") hMo_pending (by decide) [0, 1, 2] [] (by decide) rfl (wr := []) rfl (by decide) (by decide) (As := []) (rest := []) rfl rfl (Nat.le_of_ble_eq_true rfl) (by decide) dMo_merge_1 (fun v w hq => ?_)
  obtain ⟨rfl, rfl⟩ := hq
  refine xz_ste (st' := [.int (nI (xo_pd p n s0 o))]) rfl ?_
  refine xz_wss (ws' := [(mo, .inr (6, [.int (nI mb), .ref wo, .int (nI mw), .ref le, .ref lt, .int (nI n), .ref pe, .int (nI o), .ref st, .int (nI mg), .int (nI pa), .ref pt, .int (nI ma), .ref rr, .ref vl, .ref bo, .int (nI an), .ref kp, .int (nI lv)])), (pe, .inl (K 0, 60, .inl Pe)), (st, .inl (K 0, 60, .inl St))]) [0, 1, 2] (by decide) rfl rfl ?_
  refine xz_istore_n hC (lc' := [(1, .int (nI (xo_pd p n s0 o))), (0, .ref mo)]) rfl (by decide) rfl dMo_merge_4 ?_
  refine xz_iconst hC (v := nI 0) (by decide +kernel) dMo_merge_5 ?_
  refine xz_istore_n hC (lc' := [(2, .int (nI 0)), (1, .int (nI (xo_pd p n s0 o))), (0, .ref mo)]) rfl (by decide) rfl dMo_merge_6 ?_
  have lp1 : ∀ (NNlp1 : Nat) (k : Nat) (St' : Nat → Int32), k ≤ n → xo_og St' p k → n - k = NNlp1 → xz_X Γ 0 0 [(mo, .inr (6, [.int (nI mb), .ref wo, .int (nI mw), .ref le, .ref lt, .int (nI n), .ref pe, .int (nI o), .ref st, .int (nI mg), .int (nI pa), .ref pt, .int (nI ma), .ref rr, .ref vl, .ref bo, .int (nI an), .ref kp, .int (nI lv)])), (pe, .inl (K 0, 60, .inl Pe)), (st, .inl (K 0, 60, .inl St'))] 7 [(2, .int (nI k)), (1, .int (nI (xo_pd p n s0 o))), (0, .ref mo)] [] := by
    intro NNlp1
    induction NNlp1 using Nat.strongRecOn with
    | _ NNlp1 ihlp1 =>
      intro k  St'  hk hcp hNNlp1
      refine xz_iload_n hC 0 rfl rfl dMo_merge_7 ?_
      refine xz_aload_n hC 2 rfl rfl dMo_merge_8 ?_
      refine xz_get hC 0 rfl rfl 5 (by decide) inMo tq434 rfl rfl dMo_merge_9 ?_
      refine xz_icmp_ge hC (tgt := 33) (nI_toInt (by omega)) (nI_toInt (by omega)) (by decide) dMo_merge_12 (fun h2 => ?_) (fun h2 => ?_)
      · skip
        refine xz_aload_n hC 2 rfl rfl dMo_merge_33 ?_
        refine xz_aload_n hC 2 rfl rfl dMo_merge_34 ?_
        refine xz_get hC 0 rfl rfl 5 (by decide) inMo tq434 rfl rfl dMo_merge_35 ?_
        refine xz_put hC 0 rfl rfl 7 (by decide) inMo tq436 rfl tyMo tyMo_ok nmMo rfl rfl rfl (Nat.le_of_ble_eq_true rfl) (ws' := [(mo, .inr (6, [.int (nI mb), .ref wo, .int (nI mw), .ref le, .ref lt, .int (nI n), .ref pe, .int (nI n), .ref st, .int (nI mg), .int (nI pa), .ref pt, .int (nI ma), .ref rr, .ref vl, .ref bo, .int (nI an), .ref kp, .int (nI lv)])), (pe, .inl (K 0, 60, .inl Pe)), (st, .inl (K 0, 60, .inl St'))]) rfl dMo_merge_38 ?_
        refine xz_aload_n hC 2 rfl rfl dMo_merge_41 ?_
        refine xz_dup hC rfl dMo_merge_42 ?_
        refine xz_get hC 0 rfl rfl 9 (by decide) inMo tq438 rfl rfl dMo_merge_43 ?_
        refine xz_iconst hC (v := nI 1) (by decide +kernel) dMo_merge_46 ?_
        refine xz_iadd hC (z := nI (mg + 1)) (nI_add _ _) dMo_merge_47 ?_
        refine xz_put hC 0 rfl rfl 9 (by decide) inMo tq438 rfl tyMo tyMo_ok nmMo rfl rfl rfl (Nat.le_of_ble_eq_true rfl) (ws' := [(mo, .inr (6, [.int (nI mb), .ref wo, .int (nI mw), .ref le, .ref lt, .int (nI n), .ref pe, .int (nI n), .ref st, .int (nI (mg + 1)), .int (nI pa), .ref pt, .int (nI ma), .ref rr, .ref vl, .ref bo, .int (nI an), .ref kp, .int (nI lv)])), (pe, .inl (K 0, 60, .inl Pe)), (st, .inl (K 0, 60, .inl St'))]) rfl dMo_merge_48 ?_
        refine xz_iload_n hC 1 rfl rfl dMo_merge_51 ?_
        exact xz_ireturn hC (by decide) (by decide) (⟨St', rfl, rfl, by rw [show n = k by omega]; exact hcp⟩) dMo_merge_52
      · skip
        refine xz_aload_n hC 2 rfl rfl dMo_merge_15 ?_
        refine xz_get hC 0 rfl rfl 8 (by decide) inMo tq437 rfl rfl dMo_merge_16 ?_
        refine xz_iload_n hC 0 rfl rfl dMo_merge_19 ?_
        refine xz_aload_n hC 2 rfl rfl dMo_merge_20 ?_
        refine xz_get hC 0 rfl rfl 6 (by decide) inMo tq435 rfl rfl dMo_merge_21 ?_
        refine xz_iload_n hC 0 rfl rfl dMo_merge_24 ?_
        refine xz_iaload hC 1 0 (v := nI (p k)) rfl rfl (by omega) (by decide) (hp k (by omega)).1 dMo_merge_25 ?_
        refine xz_iastore hC 2 0 (ws' := [(mo, .inr (6, [.int (nI mb), .ref wo, .int (nI mw), .ref le, .ref lt, .int (nI n), .ref pe, .int (nI o), .ref st, .int (nI mg), .int (nI pa), .ref pt, .int (nI ma), .ref rr, .ref vl, .ref bo, .int (nI an), .ref kp, .int (nI lv)])), (pe, .inl (K 0, 60, .inl Pe)), (st, .inl (K 0, 60, .inl (upd St' k (nI (p k)))))]) rfl rfl (by omega) (by decide) rfl dMo_merge_26 ?_
        refine xz_iinc hC 0 (lc' := [(2, .int (nI (k + 1))), (1, .int (nI (xo_pd p n s0 o))), (0, .ref mo)]) rfl (xn_inc _) (by decide) rfl dMo_merge_27 ?_
        refine xz_goto hC (tgt := 7) (by decide) dMo_merge_30 ?_
        exact ihlp1 _ (by omega) (k + 1) (upd St' k (nI (p k))) (by omega) (fun j hj => by by_cases z : j = k; (rw [z, pk_us]; exact ⟨rfl, (hp k (by omega)).2⟩); (rw [pk_un z]; exact hcp j (by omega))) rfl
  exact lp1 _ 0 St (by omega) (fun j hj => absurd hj (by omega)) rfl
set_option maxHeartbeats 1000000 in
set_option maxRecDepth 100000 in
theorem mMo_ready (l : Launch) (D : va_G) (K : Nat → ClassId) (mo wo le lt pe st pt rr vl bo kp mb mw n o mg pa ma an lv : Nat) (Pe St : Nat → Int32) (p s0 : Nat → Nat) (hn : n ≤ 60) (ho : o ≤ 60) (hp : xo_og Pe p n) (hs : xo_og St s0 o) : xz_Met l D (tz K) yMo_ready cMo_ready 1 none { frames := 3, cells := 0, slots := 0, locals := 67 } [.ref mo] [(mo, .inr (6, [.int (nI mb), .ref wo, .int (nI mw), .ref le, .ref lt, .int (nI n), .ref pe, .int (nI o), .ref st, .int (nI mg), .int (nI pa), .ref pt, .int (nI ma), .ref rr, .ref vl, .ref bo, .int (nI an), .ref kp, .int (nI lv)])), (pe, .inl (K 0, 60, .inl Pe)), (st, .inl (K 0, 60, .inl St))] (fun v w => (xo_pd p n s0 o ≠ 12 ∧ v = none ∧ w = [(mo, .inr (6, [.int (nI mb), .ref wo, .int (nI mw), .ref le, .ref lt, .int (nI n), .ref pe, .int (nI o), .ref st, .int (nI mg), .int (nI pa), .ref pt, .int (nI ma), .ref rr, .ref vl, .ref bo, .int (nI an), .ref kp, .int (nI lv)])), (pe, .inl (K 0, 60, .inl Pe)), (st, .inl (K 0, 60, .inl St))]) ∨ (xo_pd p n s0 o = 12 ∧ ∃ St' : Nat → Int32, v = none ∧ w = [(mo, .inr (6, [.int (nI mb), .ref wo, .int (nI mw), .ref le, .ref lt, .int (nI n), .ref pe, .int (nI n), .ref st, .int (nI (mg + 1)), .int (nI pa), .ref pt, .int (nI ma), .ref rr, .ref vl, .ref bo, .int (nI an), .ref kp, .int (nI lv)])), (pe, .inl (K 0, 60, .inl Pe)), (st, .inl (K 0, 60, .inl St'))] ∧ xo_og St' p n)) := by
  refine xz_enter (by decide +kernel) (Nat.le_of_ble_eq_true rfl) ?_
  intro Γ hC
  refine xz_lcs (lc' := [(0, .ref mo)]) [0] rfl ?_
  refine xz_aload_n hC 0 rfl rfl dMo_ready_0 ?_
  refine xz_callV hC (mMo_pending l D K mo wo le lt pe st pt rr vl bo kp mb mw n o mg pa ma an lv Pe St p s0 hn ho hp hs) kMo_pending tq7 tq525 tq510 tq511 0 6 rfl rfl rfl (host := "") hMo_pending (by decide) [0, 1, 2] [] (by decide) rfl (wr := []) rfl (by decide) (by decide) (As := []) (rest := []) rfl rfl (Nat.le_of_ble_eq_true rfl) (by decide) dMo_ready_1 (fun v w hq => ?_)
  obtain ⟨rfl, rfl⟩ := hq
  refine xz_ste (st' := [.int (nI (xo_pd p n s0 o))]) rfl ?_
  refine xz_wss (ws' := [(mo, .inr (6, [.int (nI mb), .ref wo, .int (nI mw), .ref le, .ref lt, .int (nI n), .ref pe, .int (nI o), .ref st, .int (nI mg), .int (nI pa), .ref pt, .int (nI ma), .ref rr, .ref vl, .ref bo, .int (nI an), .ref kp, .int (nI lv)])), (pe, .inl (K 0, 60, .inl Pe)), (st, .inl (K 0, 60, .inl St))]) [0, 1, 2] (by decide) rfl rfl ?_
  have hpl : xo_pd p n s0 o ≤ 120 := by have := xc_le (fun i => !xo_mb s0 (p i) o) n; have := xc_le (fun i => !xo_mb p (s0 i) n) o; unfold xo_pd; omega
  refine xz_bipush hC (v := nI 12) (by decide +kernel) dMo_ready_4 ?_
  refine xz_icmp_ne hC (tgt := 14) (nI_toInt (by omega)) (nI_toInt (by omega)) (by decide) dMo_ready_6 (fun h1 => ?_) (fun h1 => ?_)
  · skip
    exact xz_return hC (by decide) (by decide) (by first | exact Or.inl ⟨by omega, rfl, rfl⟩ | exact Or.inr ⟨by omega, St', rfl, rfl, hst⟩) dMo_ready_14
  · skip
    refine xz_aload_n hC 0 rfl rfl dMo_ready_9 ?_
    refine xz_callV hC (mMo_merge l D K mo wo le lt pe st pt rr vl bo kp mb mw n o mg pa ma an lv Pe St p s0 hn ho hp hs) kMo_merge tq7 tq541 tq522 tq523 0 6 rfl rfl rfl (host := "") hMo_merge (by decide) [0, 1, 2] [] (by decide) rfl (wr := []) rfl (by decide) (by decide) (As := []) (rest := []) rfl rfl (Nat.le_of_ble_eq_true rfl) (by decide) dMo_ready_10 (fun v w hq => ?_)
    obtain ⟨St', rfl, rfl, hst⟩ := hq
    refine xz_ste (st' := [.int (nI (xo_pd p n s0 o))]) rfl ?_
    refine xz_wss (ws' := [(mo, .inr (6, [.int (nI mb), .ref wo, .int (nI mw), .ref le, .ref lt, .int (nI n), .ref pe, .int (nI n), .ref st, .int (nI (mg + 1)), .int (nI pa), .ref pt, .int (nI ma), .ref rr, .ref vl, .ref bo, .int (nI an), .ref kp, .int (nI lv)])), (pe, .inl (K 0, 60, .inl Pe)), (st, .inl (K 0, 60, .inl St'))]) [0, 1, 2] (by decide) rfl rfl ?_
    refine xz_pop hC rfl dMo_ready_13 ?_
    exact xz_return hC (by decide) (by decide) (by first | exact Or.inl ⟨by omega, rfl, rfl⟩ | exact Or.inr ⟨by omega, St', rfl, rfl, hst⟩) dMo_ready_14
set_option maxHeartbeats 1000000 in
set_option maxRecDepth 100000 in
theorem mMo_size (l : Launch) (D : va_G) (K : Nat → ClassId) (mo wo le lt pe st pt rr vl bo kp mb mw n o mg pa ma an lv : Nat)  : xz_Met l D (tz K) yMo_size cMo_size 1 (some .int) { frames := 0, cells := 0, slots := 0, locals := 0 } [.ref mo] [(mo, .inr (6, [.int (nI mb), .ref wo, .int (nI mw), .ref le, .ref lt, .int (nI n), .ref pe, .int (nI o), .ref st, .int (nI mg), .int (nI pa), .ref pt, .int (nI ma), .ref rr, .ref vl, .ref bo, .int (nI an), .ref kp, .int (nI lv)]))] (fun v w => v = some (.int (nI n)) ∧ w = [(mo, .inr (6, [.int (nI mb), .ref wo, .int (nI mw), .ref le, .ref lt, .int (nI n), .ref pe, .int (nI o), .ref st, .int (nI mg), .int (nI pa), .ref pt, .int (nI ma), .ref rr, .ref vl, .ref bo, .int (nI an), .ref kp, .int (nI lv)]))]) := by
  refine xz_enter (by decide +kernel) (Nat.le_of_ble_eq_true rfl) ?_
  intro Γ hC
  refine xz_lcs (lc' := [(0, .ref mo)]) [0] rfl ?_
  refine xz_aload_n hC 0 rfl rfl dMo_size_0 ?_
  refine xz_get hC 0 rfl rfl 5 (by decide) inMo tq434 rfl rfl dMo_size_1 ?_
  exact xz_ireturn hC (by decide) (by decide) (⟨rfl, rfl⟩) dMo_size_4
set_option maxHeartbeats 1000000 in
set_option maxRecDepth 100000 in
theorem mMo_merges (l : Launch) (D : va_G) (K : Nat → ClassId) (mo wo le lt pe st pt rr vl bo kp mb mw n o mg pa ma an lv : Nat)  : xz_Met l D (tz K) yMo_merges cMo_merges 1 (some .int) { frames := 0, cells := 0, slots := 0, locals := 0 } [.ref mo] [(mo, .inr (6, [.int (nI mb), .ref wo, .int (nI mw), .ref le, .ref lt, .int (nI n), .ref pe, .int (nI o), .ref st, .int (nI mg), .int (nI pa), .ref pt, .int (nI ma), .ref rr, .ref vl, .ref bo, .int (nI an), .ref kp, .int (nI lv)]))] (fun v w => v = some (.int (nI mg)) ∧ w = [(mo, .inr (6, [.int (nI mb), .ref wo, .int (nI mw), .ref le, .ref lt, .int (nI n), .ref pe, .int (nI o), .ref st, .int (nI mg), .int (nI pa), .ref pt, .int (nI ma), .ref rr, .ref vl, .ref bo, .int (nI an), .ref kp, .int (nI lv)]))]) := by
  refine xz_enter (by decide +kernel) (Nat.le_of_ble_eq_true rfl) ?_
  intro Γ hC
  refine xz_lcs (lc' := [(0, .ref mo)]) [0] rfl ?_
  refine xz_aload_n hC 0 rfl rfl dMo_merges_0 ?_
  refine xz_get hC 0 rfl rfl 9 (by decide) inMo tq438 rfl rfl dMo_merges_1 ?_
  exact xz_ireturn hC (by decide) (by decide) (⟨rfl, rfl⟩) dMo_merges_4
set_option maxHeartbeats 1000000 in
set_option maxRecDepth 100000 in
theorem mMo_insert (l : Launch) (D : va_G) (K : Nat → ClassId) (mo wo le lt pe st pt rr vl bo kp mb mw n o mg pa ma an lv : Nat) (Pe St : Nat → Int32) (p s0 : Nat → Nat) (x y z : Int32) (hmw : mw ≤ 24) (hn : n ≤ 60) (ho : o ≤ 60) (hp : xo_og Pe p n) (hs : xo_og St s0 o) : xz_Met l D (tz K) yMo_insert cMo_insert 5 (some .int) { frames := 4, cells := 0, slots := 0, locals := 87 } [.ref mo, .int x, .int y, .int z] [(mo, .inr (6, [.int (nI mb), .ref wo, .int (nI mw), .ref le, .ref lt, .int (nI n), .ref pe, .int (nI o), .ref st, .int (nI mg), .int (nI pa), .ref pt, .int (nI ma), .ref rr, .ref vl, .ref bo, .int (nI an), .ref kp, .int (nI lv)])), (pe, .inl (K 0, 60, .inl Pe)), (st, .inl (K 0, 60, .inl St))] (fun v w => (¬ ((0 ≤ x.toInt ∧ x.toInt < mw) ∧ (0 ≤ y.toInt ∧ y.toInt < mw) ∧ (0 ≤ z.toInt ∧ z.toInt < mw)) ∧ v = some (.int (-1)) ∧ w = [(mo, .inr (6, [.int (nI mb), .ref wo, .int (nI mw), .ref le, .ref lt, .int (nI n), .ref pe, .int (nI o), .ref st, .int (nI mg), .int (nI pa), .ref pt, .int (nI ma), .ref rr, .ref vl, .ref bo, .int (nI an), .ref kp, .int (nI lv)])), (pe, .inl (K 0, 60, .inl Pe)), (st, .inl (K 0, 60, .inl St))]) ∨ (((0 ≤ x.toInt ∧ x.toInt < mw) ∧ (0 ≤ y.toInt ∧ y.toInt < mw) ∧ (0 ≤ z.toInt ∧ z.toInt < mw)) ∧ xo_mem p n (xk_cd (xi x) (xi y) (xi z)) ∧ v = some (.int (nI 0)) ∧ w = [(mo, .inr (6, [.int (nI mb), .ref wo, .int (nI mw), .ref le, .ref lt, .int (nI n), .ref pe, .int (nI o), .ref st, .int (nI mg), .int (nI pa), .ref pt, .int (nI ma), .ref rr, .ref vl, .ref bo, .int (nI an), .ref kp, .int (nI lv)])), (pe, .inl (K 0, 60, .inl Pe)), (st, .inl (K 0, 60, .inl St))]) ∨ (((0 ≤ x.toInt ∧ x.toInt < mw) ∧ (0 ≤ y.toInt ∧ y.toInt < mw) ∧ (0 ≤ z.toInt ∧ z.toInt < mw)) ∧ ¬ xo_mem p n (xk_cd (xi x) (xi y) (xi z)) ∧ n = 60 ∧ v = some (.int (-2)) ∧ w = [(mo, .inr (6, [.int (nI mb), .ref wo, .int (nI mw), .ref le, .ref lt, .int (nI n), .ref pe, .int (nI o), .ref st, .int (nI mg), .int (nI pa), .ref pt, .int (nI ma), .ref rr, .ref vl, .ref bo, .int (nI an), .ref kp, .int (nI lv)])), (pe, .inl (K 0, 60, .inl Pe)), (st, .inl (K 0, 60, .inl St))]) ∨ (((0 ≤ x.toInt ∧ x.toInt < mw) ∧ (0 ≤ y.toInt ∧ y.toInt < mw) ∧ (0 ≤ z.toInt ∧ z.toInt < mw)) ∧ ¬ xo_mem p n (xk_cd (xi x) (xi y) (xi z)) ∧ n < 60 ∧ v = some (.int (nI 1)) ∧ ((xo_pd p n s0 o ≠ 12 ∧ w = [(mo, .inr (6, [.int (nI mb), .ref wo, .int (nI mw), .ref le, .ref lt, .int (nI (n + 1)), .ref pe, .int (nI o), .ref st, .int (nI mg), .int (nI pa), .ref pt, .int (nI ma), .ref rr, .ref vl, .ref bo, .int (nI an), .ref kp, .int (nI lv)])), (pe, .inl (K 0, 60, .inl (upd Pe n (nI (xk_cd (xi x) (xi y) (xi z)))))), (st, .inl (K 0, 60, .inl St))]) ∨ (xo_pd p n s0 o = 12 ∧ ∃ St' : Nat → Int32, w = [(mo, .inr (6, [.int (nI mb), .ref wo, .int (nI mw), .ref le, .ref lt, .int (nI (n + 1)), .ref pe, .int (nI n), .ref st, .int (nI (mg + 1)), .int (nI pa), .ref pt, .int (nI ma), .ref rr, .ref vl, .ref bo, .int (nI an), .ref kp, .int (nI lv)])), (pe, .inl (K 0, 60, .inl (upd Pe n (nI (xk_cd (xi x) (xi y) (xi z)))))), (st, .inl (K 0, 60, .inl St'))] ∧ xo_og St' p n)))) := by
  refine xz_enter (by decide +kernel) (Nat.le_of_ble_eq_true rfl) ?_
  intro Γ hC
  refine xz_lcs (lc' := [(0, .ref mo), (1, .int x), (2, .int y), (3, .int z)]) [0, 1, 2, 3] rfl ?_
  refine xz_aload_n hC 0 rfl rfl dMo_insert_0 ?_
  refine xz_iload_n hC 1 rfl rfl dMo_insert_1 ?_
  refine xz_callV hC (mMo_term l D K mo wo le lt pe st pt rr vl bo kp mb mw n o mg pa ma an lv x hmw) kMo_term tq7 tq530 tq532 tp19 0 6 rfl rfl rfl (host := "") hMo_term (by decide) [0] [1, 2] (by decide) rfl (wr := [(pe, .inl (K 0, 60, .inl Pe)), (st, .inl (K 0, 60, .inl St))]) rfl (by decide) (by decide) (As := [.int x]) (rest := []) rfl rfl (Nat.le_of_ble_eq_true rfl) (by decide) dMo_insert_2 (fun v w hq => ?_)
  obtain ⟨qx, rfl, rfl, hbx⟩ := hq
  refine xz_ste (st' := [.int (bI qx)]) rfl ?_
  refine xz_wss (ws' := [(mo, .inr (6, [.int (nI mb), .ref wo, .int (nI mw), .ref le, .ref lt, .int (nI n), .ref pe, .int (nI o), .ref st, .int (nI mg), .int (nI pa), .ref pt, .int (nI ma), .ref rr, .ref vl, .ref bo, .int (nI an), .ref kp, .int (nI lv)])), (pe, .inl (K 0, 60, .inl Pe)), (st, .inl (K 0, 60, .inl St))]) [2, 0, 1] (by decide) rfl rfl ?_
  refine xz_ifb_eq hC (tgt := 24) (by decide) dMo_insert_5 (fun h1 => ?_) (fun h1 => ?_)
  · skip
    have hnx : ¬ (0 ≤ x.toInt ∧ x.toInt < mw) := fun k => absurd (hbx.mpr k) (by rw [h1]; decide)
    refine xz_iconst hC (v := (-1)) (by decide +kernel) dMo_insert_24 ?_
    exact xz_ireturn hC (by decide) (by decide) (Or.inl ⟨by first | exact fun k => hnx k.1 | exact fun k => hny k.2.1 | exact fun k => hnz k.2.2, rfl, rfl⟩) dMo_insert_25
  · skip
    have hyx := hbx.mp h1
    refine xz_aload_n hC 0 rfl rfl dMo_insert_8 ?_
    refine xz_iload_n hC 2 rfl rfl dMo_insert_9 ?_
    refine xz_callV hC (mMo_term l D K mo wo le lt pe st pt rr vl bo kp mb mw n o mg pa ma an lv y hmw) kMo_term tq7 tq530 tq532 tp19 0 6 rfl rfl rfl (host := "") hMo_term (by decide) [0] [1, 2] (by decide) rfl (wr := [(pe, .inl (K 0, 60, .inl Pe)), (st, .inl (K 0, 60, .inl St))]) rfl (by decide) (by decide) (As := [.int y]) (rest := []) rfl rfl (Nat.le_of_ble_eq_true rfl) (by decide) dMo_insert_10 (fun v w hq => ?_)
    obtain ⟨qy, rfl, rfl, hby⟩ := hq
    refine xz_ste (st' := [.int (bI qy)]) rfl ?_
    refine xz_wss (ws' := [(mo, .inr (6, [.int (nI mb), .ref wo, .int (nI mw), .ref le, .ref lt, .int (nI n), .ref pe, .int (nI o), .ref st, .int (nI mg), .int (nI pa), .ref pt, .int (nI ma), .ref rr, .ref vl, .ref bo, .int (nI an), .ref kp, .int (nI lv)])), (pe, .inl (K 0, 60, .inl Pe)), (st, .inl (K 0, 60, .inl St))]) [2, 0, 1] (by decide) rfl rfl ?_
    refine xz_ifb_eq hC (tgt := 24) (by decide) dMo_insert_13 (fun h2 => ?_) (fun h2 => ?_)
    · skip
      have hny : ¬ (0 ≤ y.toInt ∧ y.toInt < mw) := fun k => absurd (hby.mpr k) (by rw [h2]; decide)
      refine xz_iconst hC (v := (-1)) (by decide +kernel) dMo_insert_24 ?_
      exact xz_ireturn hC (by decide) (by decide) (Or.inl ⟨by first | exact fun k => hnx k.1 | exact fun k => hny k.2.1 | exact fun k => hnz k.2.2, rfl, rfl⟩) dMo_insert_25
    · skip
      have hyy := hby.mp h2
      refine xz_aload_n hC 0 rfl rfl dMo_insert_16 ?_
      refine xz_iload_n hC 3 rfl rfl dMo_insert_17 ?_
      refine xz_callV hC (mMo_term l D K mo wo le lt pe st pt rr vl bo kp mb mw n o mg pa ma an lv z hmw) kMo_term tq7 tq530 tq532 tp19 0 6 rfl rfl rfl (host := "") hMo_term (by decide) [0] [1, 2] (by decide) rfl (wr := [(pe, .inl (K 0, 60, .inl Pe)), (st, .inl (K 0, 60, .inl St))]) rfl (by decide) (by decide) (As := [.int z]) (rest := []) rfl rfl (Nat.le_of_ble_eq_true rfl) (by decide) dMo_insert_18 (fun v w hq => ?_)
      obtain ⟨qz, rfl, rfl, hbz⟩ := hq
      refine xz_ste (st' := [.int (bI qz)]) rfl ?_
      refine xz_wss (ws' := [(mo, .inr (6, [.int (nI mb), .ref wo, .int (nI mw), .ref le, .ref lt, .int (nI n), .ref pe, .int (nI o), .ref st, .int (nI mg), .int (nI pa), .ref pt, .int (nI ma), .ref rr, .ref vl, .ref bo, .int (nI an), .ref kp, .int (nI lv)])), (pe, .inl (K 0, 60, .inl Pe)), (st, .inl (K 0, 60, .inl St))]) [2, 0, 1] (by decide) rfl rfl ?_
      refine xz_ifb_ne hC (tgt := 26) (by decide) dMo_insert_21 (fun h3 => ?_) (fun h3 => ?_)
      · skip
        have hyz := hbz.mp h3
        have hT : ((0 ≤ x.toInt ∧ x.toInt < mw) ∧ (0 ≤ y.toInt ∧ y.toInt < mw) ∧ (0 ≤ z.toInt ∧ z.toInt < mw)) := ⟨hyx, hyy, hyz⟩
        obtain ⟨tx, htx, rfl⟩ := xn_of hyx.1 hyx.2
        have hix : xi (nI tx) = tx := xi_nI (by omega)
        obtain ⟨ty, hty, rfl⟩ := xn_of hyy.1 hyy.2
        have hiy : xi (nI ty) = ty := xi_nI (by omega)
        obtain ⟨tz0, htz0, rfl⟩ := xn_of hyz.1 hyz.2
        have hiz : xi (nI tz0) = tz0 := xi_nI (by omega)
        have hcl : xk_cd tx ty tz0 < 32768 := xk_cd_lt (by omega) (by omega) (by omega)
        have hce : xk_cd (xi (nI tx)) (xi (nI ty)) (xi (nI tz0)) = xk_cd tx ty tz0 := by rw [hix, hiy, hiz]
        refine xz_iload_n hC 1 rfl rfl dMo_insert_26 ?_
        refine xz_iload_n hC 2 rfl rfl dMo_insert_27 ?_
        refine xz_iload_n hC 3 rfl rfl dMo_insert_28 ?_
        refine xz_callS hC (mMo_code l D K tx ty tz0) kMo_code tq7 tq534 tq535 (host := "") (b := 0) hMo_code (by decide) [] [0, 1, 2] (by decide) rfl (wr := [(mo, .inr (6, [.int (nI mb), .ref wo, .int (nI mw), .ref le, .ref lt, .int (nI n), .ref pe, .int (nI o), .ref st, .int (nI mg), .int (nI pa), .ref pt, .int (nI ma), .ref rr, .ref vl, .ref bo, .int (nI an), .ref kp, .int (nI lv)])), (pe, .inl (K 0, 60, .inl Pe)), (st, .inl (K 0, 60, .inl St))]) rfl (by decide) (by decide) (As := [.int (nI tx), .int (nI ty), .int (nI tz0)]) (rest := []) rfl rfl (Nat.le_of_ble_eq_true rfl) (by decide) dMo_insert_29 (fun v w hq => ?_)
        obtain ⟨rfl, rfl⟩ := hq
        refine xz_ste (st' := [.int (nI (xk_cd tx ty tz0))]) rfl ?_
        refine xz_wss (ws' := [(mo, .inr (6, [.int (nI mb), .ref wo, .int (nI mw), .ref le, .ref lt, .int (nI n), .ref pe, .int (nI o), .ref st, .int (nI mg), .int (nI pa), .ref pt, .int (nI ma), .ref rr, .ref vl, .ref bo, .int (nI an), .ref kp, .int (nI lv)])), (pe, .inl (K 0, 60, .inl Pe)), (st, .inl (K 0, 60, .inl St))]) [0, 1, 2] (by decide) rfl rfl ?_
        refine xz_istore hC (lc' := [(4, .int (nI (xk_cd tx ty tz0))), (0, .ref mo), (1, .int (nI tx)), (2, .int (nI ty)), (3, .int (nI tz0))]) (by decide) rfl dMo_insert_32 ?_
        refine xz_aload_n hC 1 rfl rfl dMo_insert_34 ?_
        refine xz_iload hC 0 rfl dMo_insert_35 ?_
        refine xz_callV hC (mMo_place l D K mo wo le lt pe st pt rr vl bo kp mb mw n o mg pa ma an lv Pe p (xk_cd tx ty tz0) hn hp hcl) kMo_place tq7 tq517 tq519 tp18 0 6 rfl rfl rfl (host := "") hMo_place (by decide) [0, 1] [2] (by decide) rfl (wr := [(st, .inl (K 0, 60, .inl St))]) rfl (by decide) (by decide) (As := [.int (nI (xk_cd tx ty tz0))]) (rest := []) rfl rfl (Nat.le_of_ble_eq_true rfl) (by decide) dMo_insert_37 (fun v w hq => ?_)
        rcases hq with ⟨j, hj, rfl, rfl, hpj⟩ | ⟨rfl, rfl, hnm⟩
        · skip
          refine xz_ste (st' := [.int (nI j)]) rfl ?_
          refine xz_wss (ws' := [(mo, .inr (6, [.int (nI mb), .ref wo, .int (nI mw), .ref le, .ref lt, .int (nI n), .ref pe, .int (nI o), .ref st, .int (nI mg), .int (nI pa), .ref pt, .int (nI ma), .ref rr, .ref vl, .ref bo, .int (nI an), .ref kp, .int (nI lv)])), (pe, .inl (K 0, 60, .inl Pe)), (st, .inl (K 0, 60, .inl St))]) [1, 2, 0] (by decide) rfl rfl ?_
          refine xz_if_lt hC (tgt := 45) (nI_toInt (by omega)) (by decide) dMo_insert_40 (fun h4 => ?_) (fun h4 => ?_)
          · skip
            exfalso; omega
          · skip
            refine xz_iconst hC (v := nI 0) (by decide +kernel) dMo_insert_43 ?_
            exact xz_ireturn hC (by decide) (by decide) (Or.inr (Or.inl ⟨hT, by rw [hce]; exact ⟨j, hj, hpj⟩, rfl, rfl⟩)) dMo_insert_44
        · skip
          refine xz_ste (st' := [.int (-1)]) rfl ?_
          refine xz_wss (ws' := [(mo, .inr (6, [.int (nI mb), .ref wo, .int (nI mw), .ref le, .ref lt, .int (nI n), .ref pe, .int (nI o), .ref st, .int (nI mg), .int (nI pa), .ref pt, .int (nI ma), .ref rr, .ref vl, .ref bo, .int (nI an), .ref kp, .int (nI lv)])), (pe, .inl (K 0, 60, .inl Pe)), (st, .inl (K 0, 60, .inl St))]) [1, 2, 0] (by decide) rfl rfl ?_
          refine xz_if_lt hC (tgt := 45) (show (-1 : Int32).toInt = -1 from by decide +kernel) (by decide) dMo_insert_40 (fun h5 => ?_) (fun h5 => ?_)
          · skip
            refine xz_aload_n hC 1 rfl rfl dMo_insert_45 ?_
            refine xz_get hC 0 rfl rfl 5 (by decide) inMo tq434 rfl rfl dMo_insert_46 ?_
            refine xz_bipush hC (v := nI 60) (by decide +kernel) dMo_insert_49 ?_
            refine xz_icmp_ne hC (tgt := 57) (nI_toInt (by omega)) (nI_toInt (by omega)) (by decide) dMo_insert_51 (fun h6 => ?_) (fun h6 => ?_)
            · skip
              refine xz_aload_n hC 1 rfl rfl dMo_insert_57 ?_
              refine xz_callV hC (mMo_ready l D K mo wo le lt pe st pt rr vl bo kp mb mw n o mg pa ma an lv Pe St p s0 hn ho hp hs) kMo_ready tq7 tq537 tq539 tp20 0 6 rfl rfl rfl (host := "") hMo_ready (by decide) [0, 1, 2] [] (by decide) rfl (wr := []) rfl (by decide) (by decide) (As := []) (rest := []) rfl rfl (Nat.le_of_ble_eq_true rfl) (by decide) dMo_insert_58 (fun v w hq => ?_)
              rcases hq with ⟨hd, rfl, rfl⟩ | ⟨hd, St', rfl, rfl, hst⟩
              · skip
                refine xz_ste (st' := []) rfl ?_
                refine xz_wss (ws' := [(mo, .inr (6, [.int (nI mb), .ref wo, .int (nI mw), .ref le, .ref lt, .int (nI n), .ref pe, .int (nI o), .ref st, .int (nI mg), .int (nI pa), .ref pt, .int (nI ma), .ref rr, .ref vl, .ref bo, .int (nI an), .ref kp, .int (nI lv)])), (pe, .inl (K 0, 60, .inl Pe)), (st, .inl (K 0, 60, .inl St))]) [0, 1, 2] (by decide) rfl rfl ?_
                refine xz_aload_n hC 1 rfl rfl dMo_insert_61 ?_
                refine xz_get hC 0 rfl rfl 6 (by decide) inMo tq435 rfl rfl dMo_insert_62 ?_
                refine xz_aload_n hC 1 rfl rfl dMo_insert_65 ?_
                refine xz_get hC 0 rfl rfl 5 (by decide) inMo tq434 rfl rfl dMo_insert_66 ?_
                refine xz_iload hC 0 rfl dMo_insert_69 ?_
                refine xz_iastore hC 1 0 (ws' := [(mo, .inr (6, [.int (nI mb), .ref wo, .int (nI mw), .ref le, .ref lt, .int (nI n), .ref pe, .int (nI o), .ref st, .int (nI mg), .int (nI pa), .ref pt, .int (nI ma), .ref rr, .ref vl, .ref bo, .int (nI an), .ref kp, .int (nI lv)])), (pe, .inl (K 0, 60, .inl (upd Pe n (nI (xk_cd tx ty tz0))))), (st, .inl (K 0, 60, .inl St))]) rfl rfl (by omega) (by decide) rfl dMo_insert_71 ?_
                refine xz_aload_n hC 1 rfl rfl dMo_insert_72 ?_
                refine xz_dup hC rfl dMo_insert_73 ?_
                refine xz_get hC 0 rfl rfl 5 (by decide) inMo tq434 rfl rfl dMo_insert_74 ?_
                refine xz_iconst hC (v := nI 1) (by decide +kernel) dMo_insert_77 ?_
                refine xz_iadd hC (z := nI (n + 1)) (nI_add _ _) dMo_insert_78 ?_
                refine xz_put hC 0 rfl rfl 5 (by decide) inMo tq434 rfl tyMo tyMo_ok nmMo rfl rfl rfl (Nat.le_of_ble_eq_true rfl) (ws' := [(mo, .inr (6, [.int (nI mb), .ref wo, .int (nI mw), .ref le, .ref lt, .int (nI (n + 1)), .ref pe, .int (nI o), .ref st, .int (nI mg), .int (nI pa), .ref pt, .int (nI ma), .ref rr, .ref vl, .ref bo, .int (nI an), .ref kp, .int (nI lv)])), (pe, .inl (K 0, 60, .inl (upd Pe n (nI (xk_cd tx ty tz0))))), (st, .inl (K 0, 60, .inl St))]) rfl dMo_insert_79 ?_
                refine xz_iconst hC (v := nI 1) (by decide +kernel) dMo_insert_82 ?_
                exact xz_ireturn hC (by decide) (by decide) (Or.inr (Or.inr (Or.inr ⟨hT, by rw [hce]; exact hnm, by omega, rfl, by rw [hce]; first | exact Or.inl ⟨hd, rfl⟩ | exact Or.inr ⟨hd, St', rfl, hst⟩⟩))) dMo_insert_83
              · skip
                refine xz_ste (st' := []) rfl ?_
                refine xz_wss (ws' := [(mo, .inr (6, [.int (nI mb), .ref wo, .int (nI mw), .ref le, .ref lt, .int (nI n), .ref pe, .int (nI n), .ref st, .int (nI (mg + 1)), .int (nI pa), .ref pt, .int (nI ma), .ref rr, .ref vl, .ref bo, .int (nI an), .ref kp, .int (nI lv)])), (pe, .inl (K 0, 60, .inl Pe)), (st, .inl (K 0, 60, .inl St'))]) [0, 1, 2] (by decide) rfl rfl ?_
                refine xz_aload_n hC 1 rfl rfl dMo_insert_61 ?_
                refine xz_get hC 0 rfl rfl 6 (by decide) inMo tq435 rfl rfl dMo_insert_62 ?_
                refine xz_aload_n hC 1 rfl rfl dMo_insert_65 ?_
                refine xz_get hC 0 rfl rfl 5 (by decide) inMo tq434 rfl rfl dMo_insert_66 ?_
                refine xz_iload hC 0 rfl dMo_insert_69 ?_
                refine xz_iastore hC 1 0 (ws' := [(mo, .inr (6, [.int (nI mb), .ref wo, .int (nI mw), .ref le, .ref lt, .int (nI n), .ref pe, .int (nI n), .ref st, .int (nI (mg + 1)), .int (nI pa), .ref pt, .int (nI ma), .ref rr, .ref vl, .ref bo, .int (nI an), .ref kp, .int (nI lv)])), (pe, .inl (K 0, 60, .inl (upd Pe n (nI (xk_cd tx ty tz0))))), (st, .inl (K 0, 60, .inl St'))]) rfl rfl (by omega) (by decide) rfl dMo_insert_71 ?_
                refine xz_aload_n hC 1 rfl rfl dMo_insert_72 ?_
                refine xz_dup hC rfl dMo_insert_73 ?_
                refine xz_get hC 0 rfl rfl 5 (by decide) inMo tq434 rfl rfl dMo_insert_74 ?_
                refine xz_iconst hC (v := nI 1) (by decide +kernel) dMo_insert_77 ?_
                refine xz_iadd hC (z := nI (n + 1)) (nI_add _ _) dMo_insert_78 ?_
                refine xz_put hC 0 rfl rfl 5 (by decide) inMo tq434 rfl tyMo tyMo_ok nmMo rfl rfl rfl (Nat.le_of_ble_eq_true rfl) (ws' := [(mo, .inr (6, [.int (nI mb), .ref wo, .int (nI mw), .ref le, .ref lt, .int (nI (n + 1)), .ref pe, .int (nI n), .ref st, .int (nI (mg + 1)), .int (nI pa), .ref pt, .int (nI ma), .ref rr, .ref vl, .ref bo, .int (nI an), .ref kp, .int (nI lv)])), (pe, .inl (K 0, 60, .inl (upd Pe n (nI (xk_cd tx ty tz0))))), (st, .inl (K 0, 60, .inl St'))]) rfl dMo_insert_79 ?_
                refine xz_iconst hC (v := nI 1) (by decide +kernel) dMo_insert_82 ?_
                exact xz_ireturn hC (by decide) (by decide) (Or.inr (Or.inr (Or.inr ⟨hT, by rw [hce]; exact hnm, by omega, rfl, by rw [hce]; first | exact Or.inl ⟨hd, rfl⟩ | exact Or.inr ⟨hd, St', rfl, hst⟩⟩))) dMo_insert_83
            · skip
              refine xz_bipush hC (v := (-2)) (by decide +kernel) dMo_insert_54 ?_
              exact xz_ireturn hC (by decide) (by decide) (Or.inr (Or.inr (Or.inl ⟨hT, by rw [hce]; exact hnm, by omega, rfl, rfl⟩))) dMo_insert_56
          · skip
            exfalso; omega
      · skip
        have hnz : ¬ (0 ≤ z.toInt ∧ z.toInt < mw) := fun k => absurd (hbz.mpr k) (by rw [h3]; decide)
        refine xz_iconst hC (v := (-1)) (by decide +kernel) dMo_insert_24 ?_
        exact xz_ireturn hC (by decide) (by decide) (Or.inl ⟨by first | exact fun k => hnx k.1 | exact fun k => hny k.2.1 | exact fun k => hnz k.2.2, rfl, rfl⟩) dMo_insert_25
set_option maxHeartbeats 1000000 in
set_option maxRecDepth 100000 in
theorem mMo_remove (l : Launch) (D : va_G) (K : Nat → ClassId) (mo wo le lt pe st pt rr vl bo kp mb mw n o mg pa ma an lv : Nat) (Pe St : Nat → Int32) (p s0 : Nat → Nat) (x y z : Int32) (hmw : mw ≤ 24) (hn : n ≤ 60) (ho : o ≤ 60) (hp : xo_og Pe p n) (hs : xo_og St s0 o) : xz_Met l D (tz K) yMo_remove cMo_remove 5 (some .int) { frames := 4, cells := 0, slots := 0, locals := 87 } [.ref mo, .int x, .int y, .int z] [(mo, .inr (6, [.int (nI mb), .ref wo, .int (nI mw), .ref le, .ref lt, .int (nI n), .ref pe, .int (nI o), .ref st, .int (nI mg), .int (nI pa), .ref pt, .int (nI ma), .ref rr, .ref vl, .ref bo, .int (nI an), .ref kp, .int (nI lv)])), (pe, .inl (K 0, 60, .inl Pe)), (st, .inl (K 0, 60, .inl St))] (fun v w => (¬ ((0 ≤ x.toInt ∧ x.toInt < mw) ∧ (0 ≤ y.toInt ∧ y.toInt < mw) ∧ (0 ≤ z.toInt ∧ z.toInt < mw)) ∧ v = some (.int (-1)) ∧ w = [(mo, .inr (6, [.int (nI mb), .ref wo, .int (nI mw), .ref le, .ref lt, .int (nI n), .ref pe, .int (nI o), .ref st, .int (nI mg), .int (nI pa), .ref pt, .int (nI ma), .ref rr, .ref vl, .ref bo, .int (nI an), .ref kp, .int (nI lv)])), (pe, .inl (K 0, 60, .inl Pe)), (st, .inl (K 0, 60, .inl St))]) ∨ (((0 ≤ x.toInt ∧ x.toInt < mw) ∧ (0 ≤ y.toInt ∧ y.toInt < mw) ∧ (0 ≤ z.toInt ∧ z.toInt < mw)) ∧ ¬ xo_mem p n (xk_cd (xi x) (xi y) (xi z)) ∧ v = some (.int (nI 0)) ∧ w = [(mo, .inr (6, [.int (nI mb), .ref wo, .int (nI mw), .ref le, .ref lt, .int (nI n), .ref pe, .int (nI o), .ref st, .int (nI mg), .int (nI pa), .ref pt, .int (nI ma), .ref rr, .ref vl, .ref bo, .int (nI an), .ref kp, .int (nI lv)])), (pe, .inl (K 0, 60, .inl Pe)), (st, .inl (K 0, 60, .inl St))]) ∨ (((0 ≤ x.toInt ∧ x.toInt < mw) ∧ (0 ≤ y.toInt ∧ y.toInt < mw) ∧ (0 ≤ z.toInt ∧ z.toInt < mw)) ∧ ∃ k, k < n ∧ p k = xk_cd (xi x) (xi y) (xi z) ∧ v = some (.int (nI 1)) ∧ ((xo_pd p n s0 o ≠ 12 ∧ w = [(mo, .inr (6, [.int (nI mb), .ref wo, .int (nI mw), .ref le, .ref lt, .int (nI (n - 1)), .ref pe, .int (nI o), .ref st, .int (nI mg), .int (nI pa), .ref pt, .int (nI ma), .ref rr, .ref vl, .ref bo, .int (nI an), .ref kp, .int (nI lv)])), (pe, .inl (K 0, 60, .inl (upd Pe k (nI (p (n - 1)))))), (st, .inl (K 0, 60, .inl St))]) ∨ (xo_pd p n s0 o = 12 ∧ ∃ St' : Nat → Int32, w = [(mo, .inr (6, [.int (nI mb), .ref wo, .int (nI mw), .ref le, .ref lt, .int (nI (n - 1)), .ref pe, .int (nI n), .ref st, .int (nI (mg + 1)), .int (nI pa), .ref pt, .int (nI ma), .ref rr, .ref vl, .ref bo, .int (nI an), .ref kp, .int (nI lv)])), (pe, .inl (K 0, 60, .inl (upd Pe k (nI (p (n - 1)))))), (st, .inl (K 0, 60, .inl St'))] ∧ xo_og St' p n)))) := by
  refine xz_enter (by decide +kernel) (Nat.le_of_ble_eq_true rfl) ?_
  intro Γ hC
  refine xz_lcs (lc' := [(0, .ref mo), (1, .int x), (2, .int y), (3, .int z)]) [0, 1, 2, 3] rfl ?_
  refine xz_aload_n hC 0 rfl rfl dMo_remove_0 ?_
  refine xz_iload_n hC 1 rfl rfl dMo_remove_1 ?_
  refine xz_callV hC (mMo_term l D K mo wo le lt pe st pt rr vl bo kp mb mw n o mg pa ma an lv x hmw) kMo_term tq7 tq530 tq532 tp19 0 6 rfl rfl rfl (host := "") hMo_term (by decide) [0] [1, 2] (by decide) rfl (wr := [(pe, .inl (K 0, 60, .inl Pe)), (st, .inl (K 0, 60, .inl St))]) rfl (by decide) (by decide) (As := [.int x]) (rest := []) rfl rfl (Nat.le_of_ble_eq_true rfl) (by decide) dMo_remove_2 (fun v w hq => ?_)
  obtain ⟨qx, rfl, rfl, hbx⟩ := hq
  refine xz_ste (st' := [.int (bI qx)]) rfl ?_
  refine xz_wss (ws' := [(mo, .inr (6, [.int (nI mb), .ref wo, .int (nI mw), .ref le, .ref lt, .int (nI n), .ref pe, .int (nI o), .ref st, .int (nI mg), .int (nI pa), .ref pt, .int (nI ma), .ref rr, .ref vl, .ref bo, .int (nI an), .ref kp, .int (nI lv)])), (pe, .inl (K 0, 60, .inl Pe)), (st, .inl (K 0, 60, .inl St))]) [2, 0, 1] (by decide) rfl rfl ?_
  refine xz_ifb_eq hC (tgt := 24) (by decide) dMo_remove_5 (fun h1 => ?_) (fun h1 => ?_)
  · skip
    have hnx : ¬ (0 ≤ x.toInt ∧ x.toInt < mw) := fun k => absurd (hbx.mpr k) (by rw [h1]; decide)
    refine xz_iconst hC (v := (-1)) (by decide +kernel) dMo_remove_24 ?_
    exact xz_ireturn hC (by decide) (by decide) (Or.inl ⟨by first | exact fun k => hnx k.1 | exact fun k => hny k.2.1 | exact fun k => hnz k.2.2, rfl, rfl⟩) dMo_remove_25
  · skip
    have hyx := hbx.mp h1
    refine xz_aload_n hC 0 rfl rfl dMo_remove_8 ?_
    refine xz_iload_n hC 2 rfl rfl dMo_remove_9 ?_
    refine xz_callV hC (mMo_term l D K mo wo le lt pe st pt rr vl bo kp mb mw n o mg pa ma an lv y hmw) kMo_term tq7 tq530 tq532 tp19 0 6 rfl rfl rfl (host := "") hMo_term (by decide) [0] [1, 2] (by decide) rfl (wr := [(pe, .inl (K 0, 60, .inl Pe)), (st, .inl (K 0, 60, .inl St))]) rfl (by decide) (by decide) (As := [.int y]) (rest := []) rfl rfl (Nat.le_of_ble_eq_true rfl) (by decide) dMo_remove_10 (fun v w hq => ?_)
    obtain ⟨qy, rfl, rfl, hby⟩ := hq
    refine xz_ste (st' := [.int (bI qy)]) rfl ?_
    refine xz_wss (ws' := [(mo, .inr (6, [.int (nI mb), .ref wo, .int (nI mw), .ref le, .ref lt, .int (nI n), .ref pe, .int (nI o), .ref st, .int (nI mg), .int (nI pa), .ref pt, .int (nI ma), .ref rr, .ref vl, .ref bo, .int (nI an), .ref kp, .int (nI lv)])), (pe, .inl (K 0, 60, .inl Pe)), (st, .inl (K 0, 60, .inl St))]) [2, 0, 1] (by decide) rfl rfl ?_
    refine xz_ifb_eq hC (tgt := 24) (by decide) dMo_remove_13 (fun h2 => ?_) (fun h2 => ?_)
    · skip
      have hny : ¬ (0 ≤ y.toInt ∧ y.toInt < mw) := fun k => absurd (hby.mpr k) (by rw [h2]; decide)
      refine xz_iconst hC (v := (-1)) (by decide +kernel) dMo_remove_24 ?_
      exact xz_ireturn hC (by decide) (by decide) (Or.inl ⟨by first | exact fun k => hnx k.1 | exact fun k => hny k.2.1 | exact fun k => hnz k.2.2, rfl, rfl⟩) dMo_remove_25
    · skip
      have hyy := hby.mp h2
      refine xz_aload_n hC 0 rfl rfl dMo_remove_16 ?_
      refine xz_iload_n hC 3 rfl rfl dMo_remove_17 ?_
      refine xz_callV hC (mMo_term l D K mo wo le lt pe st pt rr vl bo kp mb mw n o mg pa ma an lv z hmw) kMo_term tq7 tq530 tq532 tp19 0 6 rfl rfl rfl (host := "") hMo_term (by decide) [0] [1, 2] (by decide) rfl (wr := [(pe, .inl (K 0, 60, .inl Pe)), (st, .inl (K 0, 60, .inl St))]) rfl (by decide) (by decide) (As := [.int z]) (rest := []) rfl rfl (Nat.le_of_ble_eq_true rfl) (by decide) dMo_remove_18 (fun v w hq => ?_)
      obtain ⟨qz, rfl, rfl, hbz⟩ := hq
      refine xz_ste (st' := [.int (bI qz)]) rfl ?_
      refine xz_wss (ws' := [(mo, .inr (6, [.int (nI mb), .ref wo, .int (nI mw), .ref le, .ref lt, .int (nI n), .ref pe, .int (nI o), .ref st, .int (nI mg), .int (nI pa), .ref pt, .int (nI ma), .ref rr, .ref vl, .ref bo, .int (nI an), .ref kp, .int (nI lv)])), (pe, .inl (K 0, 60, .inl Pe)), (st, .inl (K 0, 60, .inl St))]) [2, 0, 1] (by decide) rfl rfl ?_
      refine xz_ifb_ne hC (tgt := 26) (by decide) dMo_remove_21 (fun h3 => ?_) (fun h3 => ?_)
      · skip
        have hyz := hbz.mp h3
        have hT : ((0 ≤ x.toInt ∧ x.toInt < mw) ∧ (0 ≤ y.toInt ∧ y.toInt < mw) ∧ (0 ≤ z.toInt ∧ z.toInt < mw)) := ⟨hyx, hyy, hyz⟩
        obtain ⟨tx, htx, rfl⟩ := xn_of hyx.1 hyx.2
        have hix : xi (nI tx) = tx := xi_nI (by omega)
        obtain ⟨ty, hty, rfl⟩ := xn_of hyy.1 hyy.2
        have hiy : xi (nI ty) = ty := xi_nI (by omega)
        obtain ⟨tz0, htz0, rfl⟩ := xn_of hyz.1 hyz.2
        have hiz : xi (nI tz0) = tz0 := xi_nI (by omega)
        have hcl : xk_cd tx ty tz0 < 32768 := xk_cd_lt (by omega) (by omega) (by omega)
        have hce : xk_cd (xi (nI tx)) (xi (nI ty)) (xi (nI tz0)) = xk_cd tx ty tz0 := by rw [hix, hiy, hiz]
        refine xz_aload_n hC 0 rfl rfl dMo_remove_26 ?_
        refine xz_iload_n hC 1 rfl rfl dMo_remove_27 ?_
        refine xz_iload_n hC 2 rfl rfl dMo_remove_28 ?_
        refine xz_iload_n hC 3 rfl rfl dMo_remove_29 ?_
        refine xz_callS hC (mMo_code l D K tx ty tz0) kMo_code tq7 tq534 tq535 (host := "") (b := 0) hMo_code (by decide) [] [0, 1, 2] (by decide) rfl (wr := [(mo, .inr (6, [.int (nI mb), .ref wo, .int (nI mw), .ref le, .ref lt, .int (nI n), .ref pe, .int (nI o), .ref st, .int (nI mg), .int (nI pa), .ref pt, .int (nI ma), .ref rr, .ref vl, .ref bo, .int (nI an), .ref kp, .int (nI lv)])), (pe, .inl (K 0, 60, .inl Pe)), (st, .inl (K 0, 60, .inl St))]) rfl (by decide) (by decide) (As := [.int (nI tx), .int (nI ty), .int (nI tz0)]) (rest := [.ref mo]) rfl rfl (Nat.le_of_ble_eq_true rfl) (by decide) dMo_remove_30 (fun v w hq => ?_)
        obtain ⟨rfl, rfl⟩ := hq
        refine xz_ste (st' := [.int (nI (xk_cd tx ty tz0)), .ref mo]) rfl ?_
        refine xz_wss (ws' := [(mo, .inr (6, [.int (nI mb), .ref wo, .int (nI mw), .ref le, .ref lt, .int (nI n), .ref pe, .int (nI o), .ref st, .int (nI mg), .int (nI pa), .ref pt, .int (nI ma), .ref rr, .ref vl, .ref bo, .int (nI an), .ref kp, .int (nI lv)])), (pe, .inl (K 0, 60, .inl Pe)), (st, .inl (K 0, 60, .inl St))]) [0, 1, 2] (by decide) rfl rfl ?_
        refine xz_callV hC (mMo_place l D K mo wo le lt pe st pt rr vl bo kp mb mw n o mg pa ma an lv Pe p (xk_cd tx ty tz0) hn hp hcl) kMo_place tq7 tq517 tq519 tp18 0 6 rfl rfl rfl (host := "") hMo_place (by decide) [0, 1] [2] (by decide) rfl (wr := [(st, .inl (K 0, 60, .inl St))]) rfl (by decide) (by decide) (As := [.int (nI (xk_cd tx ty tz0))]) (rest := []) rfl rfl (Nat.le_of_ble_eq_true rfl) (by decide) dMo_remove_33 (fun v w hq => ?_)
        rcases hq with ⟨j, hj, rfl, rfl, hpj⟩ | ⟨rfl, rfl, hnm⟩
        · skip
          refine xz_ste (st' := [.int (nI j)]) rfl ?_
          refine xz_wss (ws' := [(mo, .inr (6, [.int (nI mb), .ref wo, .int (nI mw), .ref le, .ref lt, .int (nI n), .ref pe, .int (nI o), .ref st, .int (nI mg), .int (nI pa), .ref pt, .int (nI ma), .ref rr, .ref vl, .ref bo, .int (nI an), .ref kp, .int (nI lv)])), (pe, .inl (K 0, 60, .inl Pe)), (st, .inl (K 0, 60, .inl St))]) [1, 2, 0] (by decide) rfl rfl ?_
          refine xz_istore hC (lc' := [(4, .int (nI j)), (0, .ref mo), (1, .int (nI tx)), (2, .int (nI ty)), (3, .int (nI tz0))]) (by decide) rfl dMo_remove_36 ?_
          refine xz_iload hC 0 rfl dMo_remove_38 ?_
          refine xz_if_ge hC (tgt := 45) (nI_toInt (by omega)) (by decide) dMo_remove_40 (fun h4 => ?_) (fun h4 => ?_)
          · skip
            refine xz_aload_n hC 1 rfl rfl dMo_remove_45 ?_
            refine xz_callV hC (mMo_ready l D K mo wo le lt pe st pt rr vl bo kp mb mw n o mg pa ma an lv Pe St p s0 hn ho hp hs) kMo_ready tq7 tq537 tq539 tp20 0 6 rfl rfl rfl (host := "") hMo_ready (by decide) [0, 1, 2] [] (by decide) rfl (wr := []) rfl (by decide) (by decide) (As := []) (rest := []) rfl rfl (Nat.le_of_ble_eq_true rfl) (by decide) dMo_remove_46 (fun v w hq => ?_)
            rcases hq with ⟨hd, rfl, rfl⟩ | ⟨hd, St', rfl, rfl, hst⟩
            · skip
              refine xz_ste (st' := []) rfl ?_
              refine xz_wss (ws' := [(mo, .inr (6, [.int (nI mb), .ref wo, .int (nI mw), .ref le, .ref lt, .int (nI n), .ref pe, .int (nI o), .ref st, .int (nI mg), .int (nI pa), .ref pt, .int (nI ma), .ref rr, .ref vl, .ref bo, .int (nI an), .ref kp, .int (nI lv)])), (pe, .inl (K 0, 60, .inl Pe)), (st, .inl (K 0, 60, .inl St))]) [0, 1, 2] (by decide) rfl rfl ?_
              refine xz_aload_n hC 1 rfl rfl dMo_remove_49 ?_
              refine xz_dup hC rfl dMo_remove_50 ?_
              refine xz_get hC 0 rfl rfl 5 (by decide) inMo tq434 rfl rfl dMo_remove_51 ?_
              refine xz_iconst hC (v := nI 1) (by decide +kernel) dMo_remove_54 ?_
              refine xz_isub hC (z := nI (n - 1)) (pk_sub (by omega)) dMo_remove_55 ?_
              refine xz_put hC 0 rfl rfl 5 (by decide) inMo tq434 rfl tyMo tyMo_ok nmMo rfl rfl rfl (Nat.le_of_ble_eq_true rfl) (ws' := [(mo, .inr (6, [.int (nI mb), .ref wo, .int (nI mw), .ref le, .ref lt, .int (nI (n - 1)), .ref pe, .int (nI o), .ref st, .int (nI mg), .int (nI pa), .ref pt, .int (nI ma), .ref rr, .ref vl, .ref bo, .int (nI an), .ref kp, .int (nI lv)])), (pe, .inl (K 0, 60, .inl Pe)), (st, .inl (K 0, 60, .inl St))]) rfl dMo_remove_56 ?_
              refine xz_aload_n hC 1 rfl rfl dMo_remove_59 ?_
              refine xz_get hC 0 rfl rfl 6 (by decide) inMo tq435 rfl rfl dMo_remove_60 ?_
              refine xz_iload hC 0 rfl dMo_remove_63 ?_
              refine xz_aload_n hC 1 rfl rfl dMo_remove_65 ?_
              refine xz_get hC 0 rfl rfl 6 (by decide) inMo tq435 rfl rfl dMo_remove_66 ?_
              refine xz_aload_n hC 1 rfl rfl dMo_remove_69 ?_
              refine xz_get hC 0 rfl rfl 5 (by decide) inMo tq434 rfl rfl dMo_remove_70 ?_
              refine xz_iaload hC 1 0 (v := nI (p (n - 1))) rfl rfl (by omega) (by decide) (hp (n - 1) (by omega)).1 dMo_remove_73 ?_
              refine xz_iastore hC 1 0 (ws' := [(mo, .inr (6, [.int (nI mb), .ref wo, .int (nI mw), .ref le, .ref lt, .int (nI (n - 1)), .ref pe, .int (nI o), .ref st, .int (nI mg), .int (nI pa), .ref pt, .int (nI ma), .ref rr, .ref vl, .ref bo, .int (nI an), .ref kp, .int (nI lv)])), (pe, .inl (K 0, 60, .inl (upd Pe j (nI (p (n - 1)))))), (st, .inl (K 0, 60, .inl St))]) rfl rfl (by omega) (by decide) rfl dMo_remove_74 ?_
              refine xz_iconst hC (v := nI 1) (by decide +kernel) dMo_remove_75 ?_
              exact xz_ireturn hC (by decide) (by decide) (Or.inr (Or.inr ⟨hT, j, hj, by rw [hce]; exact hpj, rfl, by first | exact Or.inl ⟨hd, rfl⟩ | exact Or.inr ⟨hd, St', rfl, hst⟩⟩)) dMo_remove_76
            · skip
              refine xz_ste (st' := []) rfl ?_
              refine xz_wss (ws' := [(mo, .inr (6, [.int (nI mb), .ref wo, .int (nI mw), .ref le, .ref lt, .int (nI n), .ref pe, .int (nI n), .ref st, .int (nI (mg + 1)), .int (nI pa), .ref pt, .int (nI ma), .ref rr, .ref vl, .ref bo, .int (nI an), .ref kp, .int (nI lv)])), (pe, .inl (K 0, 60, .inl Pe)), (st, .inl (K 0, 60, .inl St'))]) [0, 1, 2] (by decide) rfl rfl ?_
              refine xz_aload_n hC 1 rfl rfl dMo_remove_49 ?_
              refine xz_dup hC rfl dMo_remove_50 ?_
              refine xz_get hC 0 rfl rfl 5 (by decide) inMo tq434 rfl rfl dMo_remove_51 ?_
              refine xz_iconst hC (v := nI 1) (by decide +kernel) dMo_remove_54 ?_
              refine xz_isub hC (z := nI (n - 1)) (pk_sub (by omega)) dMo_remove_55 ?_
              refine xz_put hC 0 rfl rfl 5 (by decide) inMo tq434 rfl tyMo tyMo_ok nmMo rfl rfl rfl (Nat.le_of_ble_eq_true rfl) (ws' := [(mo, .inr (6, [.int (nI mb), .ref wo, .int (nI mw), .ref le, .ref lt, .int (nI (n - 1)), .ref pe, .int (nI n), .ref st, .int (nI (mg + 1)), .int (nI pa), .ref pt, .int (nI ma), .ref rr, .ref vl, .ref bo, .int (nI an), .ref kp, .int (nI lv)])), (pe, .inl (K 0, 60, .inl Pe)), (st, .inl (K 0, 60, .inl St'))]) rfl dMo_remove_56 ?_
              refine xz_aload_n hC 1 rfl rfl dMo_remove_59 ?_
              refine xz_get hC 0 rfl rfl 6 (by decide) inMo tq435 rfl rfl dMo_remove_60 ?_
              refine xz_iload hC 0 rfl dMo_remove_63 ?_
              refine xz_aload_n hC 1 rfl rfl dMo_remove_65 ?_
              refine xz_get hC 0 rfl rfl 6 (by decide) inMo tq435 rfl rfl dMo_remove_66 ?_
              refine xz_aload_n hC 1 rfl rfl dMo_remove_69 ?_
              refine xz_get hC 0 rfl rfl 5 (by decide) inMo tq434 rfl rfl dMo_remove_70 ?_
              refine xz_iaload hC 1 0 (v := nI (p (n - 1))) rfl rfl (by omega) (by decide) (hp (n - 1) (by omega)).1 dMo_remove_73 ?_
              refine xz_iastore hC 1 0 (ws' := [(mo, .inr (6, [.int (nI mb), .ref wo, .int (nI mw), .ref le, .ref lt, .int (nI (n - 1)), .ref pe, .int (nI n), .ref st, .int (nI (mg + 1)), .int (nI pa), .ref pt, .int (nI ma), .ref rr, .ref vl, .ref bo, .int (nI an), .ref kp, .int (nI lv)])), (pe, .inl (K 0, 60, .inl (upd Pe j (nI (p (n - 1)))))), (st, .inl (K 0, 60, .inl St'))]) rfl rfl (by omega) (by decide) rfl dMo_remove_74 ?_
              refine xz_iconst hC (v := nI 1) (by decide +kernel) dMo_remove_75 ?_
              exact xz_ireturn hC (by decide) (by decide) (Or.inr (Or.inr ⟨hT, j, hj, by rw [hce]; exact hpj, rfl, by first | exact Or.inl ⟨hd, rfl⟩ | exact Or.inr ⟨hd, St', rfl, hst⟩⟩)) dMo_remove_76
          · skip
            exfalso; omega
        · skip
          refine xz_ste (st' := [.int (-1)]) rfl ?_
          refine xz_wss (ws' := [(mo, .inr (6, [.int (nI mb), .ref wo, .int (nI mw), .ref le, .ref lt, .int (nI n), .ref pe, .int (nI o), .ref st, .int (nI mg), .int (nI pa), .ref pt, .int (nI ma), .ref rr, .ref vl, .ref bo, .int (nI an), .ref kp, .int (nI lv)])), (pe, .inl (K 0, 60, .inl Pe)), (st, .inl (K 0, 60, .inl St))]) [1, 2, 0] (by decide) rfl rfl ?_
          refine xz_istore hC (lc' := [(4, .int (-1)), (0, .ref mo), (1, .int (nI tx)), (2, .int (nI ty)), (3, .int (nI tz0))]) (by decide) rfl dMo_remove_36 ?_
          refine xz_iload hC 0 rfl dMo_remove_38 ?_
          refine xz_if_ge hC (tgt := 45) (show (-1 : Int32).toInt = -1 from by decide +kernel) (by decide) dMo_remove_40 (fun h5 => ?_) (fun h5 => ?_)
          · skip
            exfalso; omega
          · skip
            refine xz_iconst hC (v := nI 0) (by decide +kernel) dMo_remove_43 ?_
            exact xz_ireturn hC (by decide) (by decide) (Or.inr (Or.inl ⟨hT, by rw [hce]; exact hnm, rfl, rfl⟩)) dMo_remove_44
      · skip
        have hnz : ¬ (0 ≤ z.toInt ∧ z.toInt < mw) := fun k => absurd (hbz.mpr k) (by rw [h3]; decide)
        refine xz_iconst hC (v := (-1)) (by decide +kernel) dMo_remove_24 ?_
        exact xz_ireturn hC (by decide) (by decide) (Or.inl ⟨by first | exact fun k => hnx k.1 | exact fun k => hny k.2.1 | exact fun k => hnz k.2.2, rfl, rfl⟩) dMo_remove_25
