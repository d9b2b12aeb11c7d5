set_option maxHeartbeats 1000000 in
set_option maxRecDepth 100000 in
theorem mSe_findAll (l : Launch) (D : va_G) (K : Nat → ClassId) (se rw pl ho ag bi an rl wn pn fd lv : Nat) (Rw Pl : Nat → Int32) (Ho Ag : Nat → Int64) (Bi An : Nat → Int32) (q r g : Nat → Nat) (n : Nat) (hpn : pn ≤ 4) (hn : n ≤ 60) (hwn : wn ≤ 24) (hr : xs_rw r rl) (hrw : ∀ j, j < rl → Rw j = nI (r j)) (hpl : xs_pl Pl q pn) (hho : xs_ho Ho g n) (hq : ∀ i, i < 3 * pn → q i < 35) (hag : ∀ j, j < pn → xs_ag (Ag j) q j r [] g n) (hbd : xs_bd Bi r rl []) : xz_Met l D (tz K) ySe_findAll cSe_findAll 1 none { frames := 9, cells := 0, slots := 0, locals := 234 } [.ref se] [(se, .inr (3, [.ref rw, .int (nI rl), .int (nI wn), .int (nI pn), .ref pl, .ref ho, .ref ag, .ref bi, .ref an, .int (nI 0), .int (nI 0)])), (rw, .inl (K 0, 3, .inl Rw)), (pl, .inl (K 0, 12, .inl Pl)), (ho, .inl (K 1, 72, .inr (.inl Ho))), (ag, .inl (K 1, 16, .inr (.inl Ag))), (bi, .inl (K 0, 3, .inl Bi)), (an, .inl (K 0, 600, .inl An))] (fun v w => ∃ (Ag' : Nat → Int64) (Bi' An' : Nat → Int32) (fd' lv' : Nat), v = none ∧ w = [(se, .inr (3, [.ref rw, .int (nI rl), .int (nI wn), .int (nI pn), .ref pl, .ref ho, .ref ag, .ref bi, .ref an, .int (nI fd'), .int (nI lv')])), (rw, .inl (K 0, 3, .inl Rw)), (pl, .inl (K 0, 12, .inl Pl)), (ho, .inl (K 1, 72, .inr (.inl Ho))), (ag, .inl (K 1, 16, .inr (.inl Ag'))), (bi, .inl (K 0, 3, .inl Bi')), (an, .inl (K 0, 600, .inl An'))] ∧ fd' = (xr_F (xq_live q pn r (xo_mem g n)) wn rl).length ∧ lv' = xr_sm (fun j => (xr_F (xq_live q pn r (xo_mem g n)) wn (1 + j)).length) rl ∧ xs_kp An' (xr_F (xq_live q pn r (xo_mem g n)) wn rl) (xq_vl r)) := by
  refine xz_enter (by decide +kernel) (Nat.le_of_ble_eq_true rfl) ?_
  intro Γ hC
  refine xz_lcs (lc' := [(0, .ref se)]) [0] rfl ?_
  refine xz_aload_n hC 0 rfl rfl dSe_findAll_0 ?_
  refine xz_callV hC (mSe_fixedPatternsHold l D K se rw pl ho ag bi an rl wn pn 0 0 Pl Ag q r g n hpn hn hpl hq hag) kSe_fixedPatternsHold tq6 tq386 tq388 tp10 0 3 rfl rfl rfl (host := "") hSe_fixedPatternsHold (by decide) [0, 2, 4] [1, 3, 5, 6] (by decide) rfl (wr := [(rw, .inl (K 0, 3, .inl Rw)), (ho, .inl (K 1, 72, .inr (.inl Ho))), (bi, .inl (K 0, 3, .inl Bi)), (an, .inl (K 0, 600, .inl An))]) rfl (by decide) (by decide) (As := []) (rest := []) rfl rfl (Nat.le_of_ble_eq_true rfl) (by decide) dSe_findAll_1 (fun v w hq => ?_)
  obtain ⟨b, rfl, rfl, hb⟩ := hq
  refine xz_ste (st' := [.int (bI b)]) rfl ?_
  refine xz_wss (ws' := [(se, .inr (3, [.ref rw, .int (nI rl), .int (nI wn), .int (nI pn), .ref pl, .ref ho, .ref ag, .ref bi, .ref an, .int (nI 0), .int (nI 0)])), (rw, .inl (K 0, 3, .inl Rw)), (pl, .inl (K 0, 12, .inl Pl)), (ho, .inl (K 1, 72, .inr (.inl Ho))), (ag, .inl (K 1, 16, .inr (.inl Ag))), (bi, .inl (K 0, 3, .inl Bi)), (an, .inl (K 0, 600, .inl An))]) [4, 0, 5, 1, 6, 2, 3] (by decide) rfl rfl ?_
  rw [← xq_live_nil] at hb
  refine xz_ifb_eq hC (tgt := 12) (by decide) dSe_findAll_4 (fun h1 => ?_) (fun h1 => ?_)
  · skip
    have hnl : xq_live q pn r (xo_mem g n) [] = false := by cases z : xq_live q pn r (xo_mem g n) []; rfl; exact absurd (hb.mpr z) (by rw [h1]; decide)
    exact xz_return hC (by decide) (by decide) (⟨Ag, Bi, An, 0, 0, rfl, rfl, by rw [(xr_fin_no xq_live_pre wn rl hnl).1]; rfl, by rw [(xr_fin_no xq_live_pre wn rl hnl).2], by rw [(xr_fin_no xq_live_pre wn rl hnl).1]; exact xs_kp_0⟩) dSe_findAll_12
  · skip
    have hyl := hb.mp h1
    have hr3 := hr.1
    refine xz_aload_n hC 0 rfl rfl dSe_findAll_7 ?_
    refine xz_iconst hC (v := nI 0) (by decide +kernel) dSe_findAll_8 ?_
    rcases (show rl = 0 ∨ rl = 1 ∨ rl = 2 ∨ rl = 3 by omega) with rfl | rfl | rfl | rfl
    · skip
      refine xz_callV hC (mSe_walk0 l D K se rw pl ho ag bi an 0 wn pn 0 0 Rw Pl Ho Ag Bi An q r g n 0 [] [] hpn hn hwn hr hrw hpl hho rfl rfl (fun j hj => by rw [Nat.zero_mul, Nat.zero_add]; exact hag j hj) hyl hbd rfl (by decide) xs_kp_0) kSe_walk tq6 tq394 tq396 tp12 0 3 rfl rfl rfl (host := "") hSe_walk (by decide) [0, 1, 2, 3, 4, 5, 6] [] (by decide) rfl (wr := []) rfl (by decide) (by decide) (As := [.int (nI 0)]) (rest := []) rfl rfl (Nat.le_of_ble_eq_true rfl) (by decide) dSe_findAll_9 (fun v w hq => ?_)
      obtain ⟨Ag2, Bi2, An2, fd2, lv2, rfl, rfl, hlow2, hbd2, hfd2, hlv2, hkp2⟩ := hq
      refine xz_ste (st' := []) rfl ?_
      refine xz_wss (ws' := [(se, .inr (3, [.ref rw, .int (nI 0), .int (nI wn), .int (nI pn), .ref pl, .ref ho, .ref ag, .ref bi, .ref an, .int (nI fd2), .int (nI lv2)])), (rw, .inl (K 0, 3, .inl Rw)), (pl, .inl (K 0, 12, .inl Pl)), (ho, .inl (K 1, 72, .inr (.inl Ho))), (ag, .inl (K 1, 16, .inr (.inl Ag2))), (bi, .inl (K 0, 3, .inl Bi2)), (an, .inl (K 0, 600, .inl An2))]) [0, 1, 2, 3, 4, 5, 6] (by decide) rfl rfl ?_
      exact xz_return hC (by decide) (by decide) (⟨Ag2, Bi2, An2, fd2, lv2, rfl, rfl, by rw [hfd2, List.nil_append, (xr_fin_yes xq_live_pre wn 0 hyl).1], by rw [hlv2, (xr_fin_yes xq_live_pre wn 0 hyl).2, Nat.zero_add], by rw [← (xr_fin_yes xq_live_pre wn 0 hyl).1]; exact hkp2⟩) dSe_findAll_12
    · skip
      refine xz_callV hC (mSe_walk1 l D K se rw pl ho ag bi an 1 wn pn 0 0 Rw Pl Ho Ag Bi An q r g n 0 [] [] hpn hn hwn hr hrw hpl hho rfl rfl (fun j hj => by rw [Nat.zero_mul, Nat.zero_add]; exact hag j hj) hyl hbd rfl (by decide) xs_kp_0) kSe_walk tq6 tq394 tq396 tp12 0 3 rfl rfl rfl (host := "") hSe_walk (by decide) [0, 1, 2, 3, 4, 5, 6] [] (by decide) rfl (wr := []) rfl (by decide) (by decide) (As := [.int (nI 0)]) (rest := []) rfl rfl (Nat.le_of_ble_eq_true rfl) (by decide) dSe_findAll_9 (fun v w hq => ?_)
      obtain ⟨Ag2, Bi2, An2, fd2, lv2, rfl, rfl, hlow2, hbd2, hfd2, hlv2, hkp2⟩ := hq
      refine xz_ste (st' := []) rfl ?_
      refine xz_wss (ws' := [(se, .inr (3, [.ref rw, .int (nI 1), .int (nI wn), .int (nI pn), .ref pl, .ref ho, .ref ag, .ref bi, .ref an, .int (nI fd2), .int (nI lv2)])), (rw, .inl (K 0, 3, .inl Rw)), (pl, .inl (K 0, 12, .inl Pl)), (ho, .inl (K 1, 72, .inr (.inl Ho))), (ag, .inl (K 1, 16, .inr (.inl Ag2))), (bi, .inl (K 0, 3, .inl Bi2)), (an, .inl (K 0, 600, .inl An2))]) [0, 1, 2, 3, 4, 5, 6] (by decide) rfl rfl ?_
      exact xz_return hC (by decide) (by decide) (⟨Ag2, Bi2, An2, fd2, lv2, rfl, rfl, by rw [hfd2, List.nil_append, (xr_fin_yes xq_live_pre wn 1 hyl).1], by rw [hlv2, (xr_fin_yes xq_live_pre wn 1 hyl).2, Nat.zero_add], by rw [← (xr_fin_yes xq_live_pre wn 1 hyl).1]; exact hkp2⟩) dSe_findAll_12
    · skip
      refine xz_callV hC (mSe_walk2 l D K se rw pl ho ag bi an 2 wn pn 0 0 Rw Pl Ho Ag Bi An q r g n 0 [] [] hpn hn hwn hr hrw hpl hho rfl rfl (fun j hj => by rw [Nat.zero_mul, Nat.zero_add]; exact hag j hj) hyl hbd rfl (by decide) xs_kp_0) kSe_walk tq6 tq394 tq396 tp12 0 3 rfl rfl rfl (host := "") hSe_walk (by decide) [0, 1, 2, 3, 4, 5, 6] [] (by decide) rfl (wr := []) rfl (by decide) (by decide) (As := [.int (nI 0)]) (rest := []) rfl rfl (Nat.le_of_ble_eq_true rfl) (by decide) dSe_findAll_9 (fun v w hq => ?_)
      obtain ⟨Ag2, Bi2, An2, fd2, lv2, rfl, rfl, hlow2, hbd2, hfd2, hlv2, hkp2⟩ := hq
      refine xz_ste (st' := []) rfl ?_
      refine xz_wss (ws' := [(se, .inr (3, [.ref rw, .int (nI 2), .int (nI wn), .int (nI pn), .ref pl, .ref ho, .ref ag, .ref bi, .ref an, .int (nI fd2), .int (nI lv2)])), (rw, .inl (K 0, 3, .inl Rw)), (pl, .inl (K 0, 12, .inl Pl)), (ho, .inl (K 1, 72, .inr (.inl Ho))), (ag, .inl (K 1, 16, .inr (.inl Ag2))), (bi, .inl (K 0, 3, .inl Bi2)), (an, .inl (K 0, 600, .inl An2))]) [0, 1, 2, 3, 4, 5, 6] (by decide) rfl rfl ?_
      exact xz_return hC (by decide) (by decide) (⟨Ag2, Bi2, An2, fd2, lv2, rfl, rfl, by rw [hfd2, List.nil_append, (xr_fin_yes xq_live_pre wn 2 hyl).1], by rw [hlv2, (xr_fin_yes xq_live_pre wn 2 hyl).2, Nat.zero_add], by rw [← (xr_fin_yes xq_live_pre wn 2 hyl).1]; exact hkp2⟩) dSe_findAll_12
    · skip
      refine xz_callV hC (mSe_walk3 l D K se rw pl ho ag bi an 3 wn pn 0 0 Rw Pl Ho Ag Bi An q r g n 0 [] [] hpn hn hwn hr hrw hpl hho rfl rfl (fun j hj => by rw [Nat.zero_mul, Nat.zero_add]; exact hag j hj) hyl hbd rfl (by decide) xs_kp_0) kSe_walk tq6 tq394 tq396 tp12 0 3 rfl rfl rfl (host := "") hSe_walk (by decide) [0, 1, 2, 3, 4, 5, 6] [] (by decide) rfl (wr := []) rfl (by decide) (by decide) (As := [.int (nI 0)]) (rest := []) rfl rfl (Nat.le_of_ble_eq_true rfl) (by decide) dSe_findAll_9 (fun v w hq => ?_)
      obtain ⟨Ag2, Bi2, An2, fd2, lv2, rfl, rfl, hlow2, hbd2, hfd2, hlv2, hkp2⟩ := hq
      refine xz_ste (st' := []) rfl ?_
      refine xz_wss (ws' := [(se, .inr (3, [.ref rw, .int (nI 3), .int (nI wn), .int (nI pn), .ref pl, .ref ho, .ref ag, .ref bi, .ref an, .int (nI fd2), .int (nI lv2)])), (rw, .inl (K 0, 3, .inl Rw)), (pl, .inl (K 0, 12, .inl Pl)), (ho, .inl (K 1, 72, .inr (.inl Ho))), (ag, .inl (K 1, 16, .inr (.inl Ag2))), (bi, .inl (K 0, 3, .inl Bi2)), (an, .inl (K 0, 600, .inl An2))]) [0, 1, 2, 3, 4, 5, 6] (by decide) rfl rfl ?_
      exact xz_return hC (by decide) (by decide) (⟨Ag2, Bi2, An2, fd2, lv2, rfl, rfl, by rw [hfd2, List.nil_append, (xr_fin_yes xq_live_pre wn 3 hyl).1], by rw [hlv2, (xr_fin_yes xq_live_pre wn 3 hyl).2, Nat.zero_add], by rw [← (xr_fin_yes xq_live_pre wn 3 hyl).1]; exact hkp2⟩) dSe_findAll_12
