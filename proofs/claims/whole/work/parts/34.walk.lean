set_option maxHeartbeats 1000000 in
set_option maxRecDepth 100000 in
theorem mSe_walk0 (l : Launch) (D : va_G) (K : Nat → ClassId) (se rw pl ho ag bi an rl wn pn fd lv : Nat) (Rw Pl : Nat → Int32) (Ho Ag : Nat → Int64) (Bi An : Nat → Int32) (q r g : Nat → Nat) (n d : Nat) (ts : List Nat) (Ls : List (List Nat)) (hpn : pn ≤ 4) (hn : n ≤ 60) (hwn : wn ≤ 24) (hr : xs_rw r rl) (hrw : ∀ j, j < rl → Rw j = nI (r j)) (hpl : xs_pl Pl q pn) (hho : xs_ho Ho g n) (hd : d + 0 = rl) (hts : ts.length = d) (hag : ∀ j, j < pn → xs_ag (Ag (d * 4 + j)) q j r ts g n) (hlive : xq_live q pn r (xo_mem g n) ts = true) (hbd : xs_bd Bi r rl ts) (hfd : fd = Ls.length) (hfb : fd + 1 ≤ 90000) (hkp : xs_kp An Ls (xq_vl r)) : xz_Met l D (tz K) ySe_walk cSe_walk 3 none { frames := 2, cells := 0, slots := 0, locals := 80 } [.ref se, .int (nI d)] [(se, .inr (3, [.ref rw, .int (nI rl), .int (nI wn), .int (nI pn), .ref pl, .ref ho, .ref ag, .ref bi, .ref an, .int (nI fd), .int (nI lv)])), (rw, .inl (K 0, 3, .inl Rw)), (pl, .inl (K 0, 12, .inl Pl)), (ho, .inl (K 1, 72, .inr (.inl Ho))), (ag, .inl (K 1, 16, .inr (.inl Ag))), (bi, .inl (K 0, 3, .inl Bi)), (an, .inl (K 0, 600, .inl An))] (fun v w => ∃ (Ag' : Nat → Int64) (Bi' An' : Nat → Int32) (fd' lv' : Nat), v = none ∧ w = [(se, .inr (3, [.ref rw, .int (nI rl), .int (nI wn), .int (nI pn), .ref pl, .ref ho, .ref ag, .ref bi, .ref an, .int (nI fd'), .int (nI lv')])), (rw, .inl (K 0, 3, .inl Rw)), (pl, .inl (K 0, 12, .inl Pl)), (ho, .inl (K 1, 72, .inr (.inl Ho))), (ag, .inl (K 1, 16, .inr (.inl Ag'))), (bi, .inl (K 0, 3, .inl Bi')), (an, .inl (K 0, 600, .inl An'))] ∧ (∀ i, i < d * 4 + 4 → Ag' i = Ag i) ∧ xs_bd Bi' r rl ts ∧ fd' = (Ls ++ xr_lv (xq_live q pn r (xo_mem g n)) wn 0 ts).length ∧ lv' = lv + xr_ct (xq_live q pn r (xo_mem g n)) wn 0 ts ∧ xs_kp An' (Ls ++ xr_lv (xq_live q pn r (xo_mem g n)) wn 0 ts) (xq_vl r)) := by
  refine xz_enter (by decide +kernel) (Nat.le_of_ble_eq_true rfl) ?_
  intro Γ hC
  refine xz_lcs (lc' := [(0, .ref se), (1, .int (nI d))]) [0, 1] rfl ?_
  have hr3 := hr.1
  refine xz_iload_n hC 1 rfl rfl dSe_walk_0 ?_
  refine xz_aload_n hC 0 rfl rfl dSe_walk_1 ?_
  refine xz_get hC 0 rfl rfl 1 (by decide) inSe tq114 rfl rfl dSe_walk_2 ?_
  refine xz_icmp_lt hC (tgt := 13) (nI_toInt (by omega)) (nI_toInt (by omega)) (by decide) dSe_walk_5 (fun h1 => ?_) (fun h1 => ?_)
  · skip
    exfalso; omega
  · skip
    refine xz_aload_n hC 0 rfl rfl dSe_walk_8 ?_
    refine xz_callV hC (mSe_keepAnswer l D K se rw pl ho ag bi an rl wn pn fd lv Bi An Ls (xq_vl r) ts hfd (by omega) hkp (xs_bd_leaf (by rw [hts, show d = rl by omega]; exact hbd) (by have := hr.1; omega))) kSe_keepAnswer tq6 tq398 tq400 tp13 0 3 rfl rfl rfl (host := "") hSe_keepAnswer (by decide) [0, 5, 6] [1, 2, 3, 4] (by decide) rfl (wr := [(rw, .inl (K 0, 3, .inl Rw)), (pl, .inl (K 0, 12, .inl Pl)), (ho, .inl (K 1, 72, .inr (.inl Ho))), (ag, .inl (K 1, 16, .inr (.inl Ag)))]) rfl (by decide) (by decide) (As := []) (rest := []) rfl rfl (Nat.le_of_ble_eq_true rfl) (by decide) dSe_walk_9 (fun v w hq => ?_)
    obtain ⟨An', rfl, rfl, hk'⟩ := hq
    refine xz_ste (st' := []) rfl ?_
    refine xz_wss (ws' := [(se, .inr (3, [.ref rw, .int (nI rl), .int (nI wn), .int (nI pn), .ref pl, .ref ho, .ref ag, .ref bi, .ref an, .int (nI (fd + 1)), .int (nI lv)])), (rw, .inl (K 0, 3, .inl Rw)), (pl, .inl (K 0, 12, .inl Pl)), (ho, .inl (K 1, 72, .inr (.inl Ho))), (ag, .inl (K 1, 16, .inr (.inl Ag))), (bi, .inl (K 0, 3, .inl Bi)), (an, .inl (K 0, 600, .inl An'))]) [4, 0, 1, 2, 3, 5, 6] (by decide) rfl rfl ?_
    exact xz_return hC (by decide) (by decide) (⟨Ag, Bi, An', fd + 1, lv, rfl, rfl, fun i _ => rfl, hbd, by rw [hfd, List.length_append]; rfl, rfl, hk'⟩) dSe_walk_12
set_option maxHeartbeats 1000000 in
set_option maxRecDepth 100000 in
theorem mSe_bind1 (l : Launch) (D : va_G) (K : Nat → ClassId) (se rw pl ho ag bi an rl wn pn fd lv : Nat) (Rw Pl : Nat → Int32) (Ho Ag : Nat → Int64) (Bi An : Nat → Int32) (q r g : Nat → Nat) (n d : Nat) (ts : List Nat) (Ls : List (List Nat)) (t : Nat) (hpn : pn ≤ 4) (hn : n ≤ 60) (hwn : wn ≤ 24) (hr : xs_rw r rl) (hrw : ∀ j, j < rl → Rw j = nI (r j)) (hpl : xs_pl Pl q pn) (hho : xs_ho Ho g n) (hd : d + 1 = rl) (hts : ts.length = d) (hag : ∀ j, j < pn → xs_ag (Ag (d * 4 + j)) q j r ts g n) (hlive : xq_live q pn r (xo_mem g n) ts = true) (hbd : xs_bd Bi r rl ts) (hfd : fd = Ls.length) (hfb : fd + 1 ≤ 90000) (hkp : xs_kp An Ls (xq_vl r)) (ht : t < wn) : xz_Met l D (tz K) ySe_bind cSe_bind 3 none { frames := 3, cells := 0, slots := 0, locals := 102 } [.ref se, .int (nI d), .int (nI t)] [(se, .inr (3, [.ref rw, .int (nI rl), .int (nI wn), .int (nI pn), .ref pl, .ref ho, .ref ag, .ref bi, .ref an, .int (nI fd), .int (nI lv)])), (rw, .inl (K 0, 3, .inl Rw)), (pl, .inl (K 0, 12, .inl Pl)), (ho, .inl (K 1, 72, .inr (.inl Ho))), (ag, .inl (K 1, 16, .inr (.inl Ag))), (bi, .inl (K 0, 3, .inl Bi)), (an, .inl (K 0, 600, .inl An))] (fun v w => ∃ (Ag' : Nat → Int64) (Bi' An' : Nat → Int32) (fd' lv' : Nat), v = none ∧ w = [(se, .inr (3, [.ref rw, .int (nI rl), .int (nI wn), .int (nI pn), .ref pl, .ref ho, .ref ag, .ref bi, .ref an, .int (nI fd'), .int (nI lv')])), (rw, .inl (K 0, 3, .inl Rw)), (pl, .inl (K 0, 12, .inl Pl)), (ho, .inl (K 1, 72, .inr (.inl Ho))), (ag, .inl (K 1, 16, .inr (.inl Ag'))), (bi, .inl (K 0, 3, .inl Bi')), (an, .inl (K 0, 600, .inl An'))] ∧ (∀ i, i < d * 4 + 4 → Ag' i = Ag i) ∧ xs_bd Bi' r rl ts ∧ fd' = (Ls ++ (if xq_live q pn r (xo_mem g n) (ts ++ [t]) = true then xr_lv (xq_live q pn r (xo_mem g n)) wn 0 (ts ++ [t]) else [])).length ∧ lv' = lv + (if xq_live q pn r (xo_mem g n) (ts ++ [t]) = true then 1 + xr_ct (xq_live q pn r (xo_mem g n)) wn 0 (ts ++ [t]) else 0) ∧ xs_kp An' (Ls ++ (if xq_live q pn r (xo_mem g n) (ts ++ [t]) = true then xr_lv (xq_live q pn r (xo_mem g n)) wn 0 (ts ++ [t]) else [])) (xq_vl r)) := by
  refine xz_enter (by decide +kernel) (Nat.le_of_ble_eq_true rfl) ?_
  intro Γ hC
  refine xz_lcs (lc' := [(0, .ref se), (1, .int (nI d)), (2, .int (nI t))]) [0, 1, 2] rfl ?_
  have hr3 := hr.1
  refine xz_aload_n hC 0 rfl rfl dSe_bind_0 ?_
  refine xz_iload_n hC 1 rfl rfl dSe_bind_1 ?_
  refine xz_iload_n hC 2 rfl rfl dSe_bind_2 ?_
  refine xz_callV hC (mSe_narrow l D K se rw pl ho ag bi an rl wn pn fd lv Rw Pl Ho Ag q r g n d t ts hpn hn (by omega) (by omega) hts (hrw d (by omega)) (hr.2.1 d (by omega)) hpl hho hag) kSe_narrow tq6 tq407 tq409 tp15 0 3 rfl rfl rfl (host := "") hSe_narrow (by decide) [0, 1, 2, 3, 4] [5, 6] (by decide) rfl (wr := [(bi, .inl (K 0, 3, .inl Bi)), (an, .inl (K 0, 600, .inl An))]) rfl (by decide) (by decide) (As := [.int (nI d), .int (nI t)]) (rest := []) rfl rfl (Nat.le_of_ble_eq_true rfl) (by decide) dSe_bind_3 (fun v w hq => ?_)
  obtain ⟨b, Ag1, rfl, rfl, hlow1, hb, hb2⟩ := hq
  refine xz_ste (st' := [.int (bI b)]) rfl ?_
  refine xz_wss (ws' := [(se, .inr (3, [.ref rw, .int (nI rl), .int (nI wn), .int (nI pn), .ref pl, .ref ho, .ref ag, .ref bi, .ref an, .int (nI fd), .int (nI lv)])), (rw, .inl (K 0, 3, .inl Rw)), (pl, .inl (K 0, 12, .inl Pl)), (ho, .inl (K 1, 72, .inr (.inl Ho))), (ag, .inl (K 1, 16, .inr (.inl Ag1))), (bi, .inl (K 0, 3, .inl Bi)), (an, .inl (K 0, 600, .inl An))]) [2, 3, 4, 5, 6, 0, 1] (by decide) rfl rfl ?_
  rw [xs_live_step hlive hts] at hb
  refine xz_ifb_eq hC (tgt := 38) (by decide) dSe_bind_6 (fun h1 => ?_) (fun h1 => ?_)
  · skip
    have hnl : xq_live q pn r (xo_mem g n) (ts ++ [t]) ≠ true := fun z => absurd (hb.mpr z) (by rw [h1]; decide)
    exact xz_return hC (by decide) (by decide) (by first | exact ⟨Ag1, Bi, An, fd, lv, rfl, rfl, hlow1, hbd, by rw [if_neg hnl, List.append_nil]; exact hfd, by rw [if_neg hnl]; rfl, by rw [if_neg hnl, List.append_nil]; exact hkp⟩ | exact ⟨Ag2, Bi2, An2, fd2, lv2, rfl, rfl, fun i hi => (hlow2 i (by omega)).trans (hlow1 i hi), xs_bd_pre hbd2, by rw [if_pos hyl]; exact hfd2, by rw [if_pos hyl]; omega, by rw [if_pos hyl]; exact hkp2⟩) dSe_bind_38
  · skip
    have hyl := hb.mp h1
    have hag1 := hb2 h1
    have hrd := hr.2.1 d (by omega)
    refine xz_aload_n hC 0 rfl rfl dSe_bind_9 ?_
    refine xz_get hC 0 rfl rfl 7 (by decide) inSe tq120 rfl rfl dSe_bind_10 ?_
    refine xz_aload_n hC 0 rfl rfl dSe_bind_13 ?_
    refine xz_get hC 0 rfl rfl 0 (by decide) inSe tq113 rfl rfl dSe_bind_14 ?_
    refine xz_iload_n hC 1 rfl rfl dSe_bind_17 ?_
    refine xz_iaload hC 1 0 (v := nI (r d)) rfl rfl (by omega) (by decide) (hrw d (by omega)) dSe_bind_18 ?_
    refine xz_iload_n hC 2 rfl rfl dSe_bind_19 ?_
    refine xz_iastore hC 5 0 (ws' := [(se, .inr (3, [.ref rw, .int (nI rl), .int (nI wn), .int (nI pn), .ref pl, .ref ho, .ref ag, .ref bi, .ref an, .int (nI fd), .int (nI lv)])), (rw, .inl (K 0, 3, .inl Rw)), (pl, .inl (K 0, 12, .inl Pl)), (ho, .inl (K 1, 72, .inr (.inl Ho))), (ag, .inl (K 1, 16, .inr (.inl Ag1))), (bi, .inl (K 0, 3, .inl (upd Bi (r d) (nI t)))), (an, .inl (K 0, 600, .inl An))]) rfl rfl (by omega) (by decide) rfl dSe_bind_20 ?_
    refine xz_aload_n hC 0 rfl rfl dSe_bind_21 ?_
    refine xz_dup hC rfl dSe_bind_22 ?_
    refine xz_get hC 0 rfl rfl 10 (by decide) inSe tq124 rfl rfl dSe_bind_23 ?_
    refine xz_iconst hC (v := nI 1) (by decide +kernel) dSe_bind_26 ?_
    refine xz_iadd hC (z := nI (lv + 1)) (nI_add _ _) dSe_bind_27 ?_
    refine xz_put hC 0 rfl rfl 10 (by decide) inSe tq124 rfl tySe tySe_ok nmSe rfl rfl rfl (Nat.le_of_ble_eq_true rfl) (ws' := [(se, .inr (3, [.ref rw, .int (nI rl), .int (nI wn), .int (nI pn), .ref pl, .ref ho, .ref ag, .ref bi, .ref an, .int (nI fd), .int (nI (lv + 1))])), (rw, .inl (K 0, 3, .inl Rw)), (pl, .inl (K 0, 12, .inl Pl)), (ho, .inl (K 1, 72, .inr (.inl Ho))), (ag, .inl (K 1, 16, .inr (.inl Ag1))), (bi, .inl (K 0, 3, .inl (upd Bi (r d) (nI t)))), (an, .inl (K 0, 600, .inl An))]) rfl dSe_bind_28 ?_
    refine xz_aload_n hC 0 rfl rfl dSe_bind_31 ?_
    refine xz_iload_n hC 1 rfl rfl dSe_bind_32 ?_
    refine xz_iconst hC (v := nI 1) (by decide +kernel) dSe_bind_33 ?_
    refine xz_iadd hC (z := nI (d + 1)) (nI_add _ _) dSe_bind_34 ?_
    refine xz_callV hC (mSe_walk0 l D K se rw pl ho ag bi an rl wn pn fd (lv + 1) Rw Pl Ho Ag1 (upd Bi (r d) (nI t)) An q r g n (d + 1) (ts ++ [t]) Ls hpn hn hwn hr hrw hpl hho (by omega) (by rw [List.length_append, hts]; rfl) (fun j hj => by rw [show (d + 1) * 4 + j = d * 4 + 4 + j by omega]; exact hag1 j hj) hyl (by have := xs_bd_step (t := t) hbd hr (by omega); rw [hts] at this; exact this) hfd (by omega) hkp) kSe_walk tq6 tq394 tq396 tp12 0 3 rfl rfl rfl (host := "") hSe_walk (by decide) [0, 1, 2, 3, 4, 5, 6] [] (by decide) rfl (wr := []) rfl (by decide) (by decide) (As := [.int (nI (d + 1))]) (rest := []) rfl rfl (Nat.le_of_ble_eq_true rfl) (by decide) dSe_bind_35 (fun v w hq => ?_)
    obtain ⟨Ag2, Bi2, An2, fd2, lv2, rfl, rfl, hlow2, hbd2, hfd2, hlv2, hkp2⟩ := hq
    refine xz_ste (st' := []) rfl ?_
    refine xz_wss (ws' := [(se, .inr (3, [.ref rw, .int (nI rl), .int (nI wn), .int (nI pn), .ref pl, .ref ho, .ref ag, .ref bi, .ref an, .int (nI fd2), .int (nI lv2)])), (rw, .inl (K 0, 3, .inl Rw)), (pl, .inl (K 0, 12, .inl Pl)), (ho, .inl (K 1, 72, .inr (.inl Ho))), (ag, .inl (K 1, 16, .inr (.inl Ag2))), (bi, .inl (K 0, 3, .inl Bi2)), (an, .inl (K 0, 600, .inl An2))]) [0, 1, 2, 3, 4, 5, 6] (by decide) rfl rfl ?_
    exact xz_return hC (by decide) (by decide) (by first | exact ⟨Ag1, Bi, An, fd, lv, rfl, rfl, hlow1, hbd, by rw [if_neg hnl, List.append_nil]; exact hfd, by rw [if_neg hnl]; rfl, by rw [if_neg hnl, List.append_nil]; exact hkp⟩ | exact ⟨Ag2, Bi2, An2, fd2, lv2, rfl, rfl, fun i hi => (hlow2 i (by omega)).trans (hlow1 i hi), xs_bd_pre hbd2, by rw [if_pos hyl]; exact hfd2, by rw [if_pos hyl]; omega, by rw [if_pos hyl]; exact hkp2⟩) dSe_bind_38
set_option maxHeartbeats 1000000 in
set_option maxRecDepth 100000 in
theorem mSe_walk1 (l : Launch) (D : va_G) (K : Nat → ClassId) (se rw pl ho ag bi an rl wn pn fd lv : Nat) (Rw Pl : Nat → Int32) (Ho Ag : Nat → Int64) (Bi An : Nat → Int32) (q r g : Nat → Nat) (n d : Nat) (ts : List Nat) (Ls : List (List Nat)) (hpn : pn ≤ 4) (hn : n ≤ 60) (hwn : wn ≤ 24) (hr : xs_rw r rl) (hrw : ∀ j, j < rl → Rw j = nI (r j)) (hpl : xs_pl Pl q pn) (hho : xs_ho Ho g n) (hd : d + 1 = rl) (hts : ts.length = d) (hag : ∀ j, j < pn → xs_ag (Ag (d * 4 + j)) q j r ts g n) (hlive : xq_live q pn r (xo_mem g n) ts = true) (hbd : xs_bd Bi r rl ts) (hfd : fd = Ls.length) (hfb : fd + 24 ≤ 90000) (hkp : xs_kp An Ls (xq_vl r)) : xz_Met l D (tz K) ySe_walk cSe_walk 3 none { frames := 4, cells := 0, slots := 0, locals := 124 } [.ref se, .int (nI d)] [(se, .inr (3, [.ref rw, .int (nI rl), .int (nI wn), .int (nI pn), .ref pl, .ref ho, .ref ag, .ref bi, .ref an, .int (nI fd), .int (nI lv)])), (rw, .inl (K 0, 3, .inl Rw)), (pl, .inl (K 0, 12, .inl Pl)), (ho, .inl (K 1, 72, .inr (.inl Ho))), (ag, .inl (K 1, 16, .inr (.inl Ag))), (bi, .inl (K 0, 3, .inl Bi)), (an, .inl (K 0, 600, .inl An))] (fun v w => ∃ (Ag' : Nat → Int64) (Bi' An' : Nat → Int32) (fd' lv' : Nat), v = none ∧ w = [(se, .inr (3, [.ref rw, .int (nI rl), .int (nI wn), .int (nI pn), .ref pl, .ref ho, .ref ag, .ref bi, .ref an, .int (nI fd'), .int (nI lv')])), (rw, .inl (K 0, 3, .inl Rw)), (pl, .inl (K 0, 12, .inl Pl)), (ho, .inl (K 1, 72, .inr (.inl Ho))), (ag, .inl (K 1, 16, .inr (.inl Ag'))), (bi, .inl (K 0, 3, .inl Bi')), (an, .inl (K 0, 600, .inl An'))] ∧ (∀ i, i < d * 4 + 4 → Ag' i = Ag i) ∧ xs_bd Bi' r rl ts ∧ fd' = (Ls ++ xr_lv (xq_live q pn r (xo_mem g n)) wn 1 ts).length ∧ lv' = lv + xr_ct (xq_live q pn r (xo_mem g n)) wn 1 ts ∧ xs_kp An' (Ls ++ xr_lv (xq_live q pn r (xo_mem g n)) wn 1 ts) (xq_vl r)) := by
  refine xz_enter (by decide +kernel) (Nat.le_of_ble_eq_true rfl) ?_
  intro Γ hC
  refine xz_lcs (lc' := [(0, .ref se), (1, .int (nI d))]) [0, 1] rfl ?_
  have hr3 := hr.1
  refine xz_iload_n hC 1 rfl rfl dSe_walk_0 ?_
  refine xz_aload_n hC 0 rfl rfl dSe_walk_1 ?_
  refine xz_get hC 0 rfl rfl 1 (by decide) inSe tq114 rfl rfl dSe_walk_2 ?_
  refine xz_icmp_lt hC (tgt := 13) (nI_toInt (by omega)) (nI_toInt (by omega)) (by decide) dSe_walk_5 (fun h1 => ?_) (fun h1 => ?_)
  · skip
    refine xz_iconst hC (v := nI 0) (by decide +kernel) dSe_walk_13 ?_
    refine xz_istore_n hC (lc' := [(2, .int (nI 0)), (0, .ref se), (1, .int (nI d))]) rfl (by decide) rfl dSe_walk_14 ?_
    have lp2 : ∀ (NNlp2 : Nat) (T : Nat) (Ag' : Nat → Int64) (Bi' : Nat → Int32) (An' : Nat → Int32) (fd' : Nat) (lv' : Nat), T ≤ wn → (∀ i, i < d * 4 + 4 → Ag' i = Ag i) → xs_bd Bi' r rl ts → fd' = (Ls ++ xr_up (xq_live q pn r (xo_mem g n)) (xr_lv (xq_live q pn r (xo_mem g n)) wn 0) ts T).length → lv' = lv + xr_us (xq_live q pn r (xo_mem g n)) (xr_ct (xq_live q pn r (xo_mem g n)) wn 0) ts T → xs_kp An' (Ls ++ xr_up (xq_live q pn r (xo_mem g n)) (xr_lv (xq_live q pn r (xo_mem g n)) wn 0) ts T) (xq_vl r) → wn - T = NNlp2 → xz_X Γ 0 0 [(se, .inr (3, [.ref rw, .int (nI rl), .int (nI wn), .int (nI pn), .ref pl, .ref ho, .ref ag, .ref bi, .ref an, .int (nI fd'), .int (nI lv')])), (rw, .inl (K 0, 3, .inl Rw)), (pl, .inl (K 0, 12, .inl Pl)), (ho, .inl (K 1, 72, .inr (.inl Ho))), (ag, .inl (K 1, 16, .inr (.inl Ag'))), (bi, .inl (K 0, 3, .inl Bi')), (an, .inl (K 0, 600, .inl An'))] 15 [(2, .int (nI T)), (0, .ref se), (1, .int (nI d))] [] := by
      intro NNlp2
      induction NNlp2 using Nat.strongRecOn with
      | _ NNlp2 ihlp2 =>
        intro T  Ag'  Bi'  An'  fd'  lv'  hT hlow hbd1 hfd1 hlv hkp1 hNNlp2
        refine xz_iload_n hC 0 rfl rfl dSe_walk_15 ?_
        refine xz_aload_n hC 1 rfl rfl dSe_walk_16 ?_
        refine xz_get hC 0 rfl rfl 2 (by decide) inSe tq115 rfl rfl dSe_walk_17 ?_
        refine xz_icmp_ge hC (tgt := 35) (nI_toInt (by omega)) (nI_toInt (by omega)) (by decide) dSe_walk_20 (fun h3 => ?_) (fun h3 => ?_)
        · skip
          exact xz_return hC (by decide) (by decide) (by
      obtain rfl : T = wn := by omega
      exact ⟨Ag', Bi', An', fd', lv', rfl, rfl, hlow, hbd1, hfd1, hlv, hkp1⟩) dSe_walk_35
        · skip
          have hlen := xr_up_len (live := (xq_live q pn r (xo_mem g n))) (M := 1) (xr_lv_24 (live := (xq_live q pn r (xo_mem g n))) hwn 0) ts T
          have hfl : fd' ≤ fd + T * 1 := by rw [hfd1, List.length_append, hfd]; omega
          refine xz_aload_n hC 1 rfl rfl dSe_walk_23 ?_
          refine xz_iload_n hC 2 rfl rfl dSe_walk_24 ?_
          refine xz_iload_n hC 0 rfl rfl dSe_walk_25 ?_
          refine xz_callV hC (mSe_bind1 l D K se rw pl ho ag bi an rl wn pn fd' lv' Rw Pl Ho Ag' Bi' An' q r g n d ts (Ls ++ xr_up (xq_live q pn r (xo_mem g n)) (xr_lv (xq_live q pn r (xo_mem g n)) wn 0) ts T) T hpn hn hwn hr hrw hpl hho hd hts (fun j hj => by rw [hlow _ (by omega)]; exact hag j hj) hlive hbd1 hfd1 (by omega) hkp1 (by omega)) kSe_bind tq6 tq403 tq405 tp14 0 3 rfl rfl rfl (host := "") hSe_bind (by decide) [0, 1, 2, 3, 4, 5, 6] [] (by decide) rfl (wr := []) rfl (by decide) (by decide) (As := [.int (nI d), .int (nI T)]) (rest := []) rfl rfl (Nat.le_of_ble_eq_true rfl) (by decide) dSe_walk_26 (fun v w hq => ?_)
          obtain ⟨Ag2, Bi2, An2, fd2, lv2, rfl, rfl, hlow2, hbd2, hfd2, hlv2, hkp2⟩ := hq
          refine xz_ste (st' := []) rfl ?_
          refine xz_wss (ws' := [(se, .inr (3, [.ref rw, .int (nI rl), .int (nI wn), .int (nI pn), .ref pl, .ref ho, .ref ag, .ref bi, .ref an, .int (nI fd2), .int (nI lv2)])), (rw, .inl (K 0, 3, .inl Rw)), (pl, .inl (K 0, 12, .inl Pl)), (ho, .inl (K 1, 72, .inr (.inl Ho))), (ag, .inl (K 1, 16, .inr (.inl Ag2))), (bi, .inl (K 0, 3, .inl Bi2)), (an, .inl (K 0, 600, .inl An2))]) [0, 1, 2, 3, 4, 5, 6] (by decide) rfl rfl ?_
          refine xz_iinc hC 0 (lc' := [(2, .int (nI (T + 1))), (0, .ref se), (1, .int (nI d))]) rfl (xn_inc _) (by decide) rfl dSe_walk_29 ?_
          refine xz_goto hC (tgt := 15) (by decide) dSe_walk_32 ?_
          exact ihlp2 _ (by omega) (T + 1) Ag2 Bi2 An2 fd2 lv2 (by omega) (fun i hi => (hlow2 i hi).trans (hlow i hi)) hbd2 (by rw [hfd2, xr_up_succ, List.append_assoc]) (by rw [hlv2, hlv, xr_us_succ]; omega) (by rw [xr_up_succ, ← List.append_assoc]; exact hkp2) rfl
    exact lp2 _ 0 Ag Bi An fd lv (by omega) (fun i _ => rfl) hbd (by rw [show xr_up (xq_live q pn r (xo_mem g n)) (xr_lv (xq_live q pn r (xo_mem g n)) wn 0) ts 0 = [] from rfl, List.append_nil]; exact hfd) (by rfl) (by rw [show xr_up (xq_live q pn r (xo_mem g n)) (xr_lv (xq_live q pn r (xo_mem g n)) wn 0) ts 0 = [] from rfl, List.append_nil]; exact hkp) rfl
  · skip
    exfalso; omega
set_option maxHeartbeats 1000000 in
set_option maxRecDepth 100000 in
theorem mSe_bind2 (l : Launch) (D : va_G) (K : Nat → ClassId) (se rw pl ho ag bi an rl wn pn fd lv : Nat) (Rw Pl : Nat → Int32) (Ho Ag : Nat → Int64) (Bi An : Nat → Int32) (q r g : Nat → Nat) (n d : Nat) (ts : List Nat) (Ls : List (List Nat)) (t : Nat) (hpn : pn ≤ 4) (hn : n ≤ 60) (hwn : wn ≤ 24) (hr : xs_rw r rl) (hrw : ∀ j, j < rl → Rw j = nI (r j)) (hpl : xs_pl Pl q pn) (hho : xs_ho Ho g n) (hd : d + 2 = rl) (hts : ts.length = d) (hag : ∀ j, j < pn → xs_ag (Ag (d * 4 + j)) q j r ts g n) (hlive : xq_live q pn r (xo_mem g n) ts = true) (hbd : xs_bd Bi r rl ts) (hfd : fd = Ls.length) (hfb : fd + 24 ≤ 90000) (hkp : xs_kp An Ls (xq_vl r)) (ht : t < wn) : xz_Met l D (tz K) ySe_bind cSe_bind 3 none { frames := 5, cells := 0, slots := 0, locals := 146 } [.ref se, .int (nI d), .int (nI t)] [(se, .inr (3, [.ref rw, .int (nI rl), .int (nI wn), .int (nI pn), .ref pl, .ref ho, .ref ag, .ref bi, .ref an, .int (nI fd), .int (nI lv)])), (rw, .inl (K 0, 3, .inl Rw)), (pl, .inl (K 0, 12, .inl Pl)), (ho, .inl (K 1, 72, .inr (.inl Ho))), (ag, .inl (K 1, 16, .inr (.inl Ag))), (bi, .inl (K 0, 3, .inl Bi)), (an, .inl (K 0, 600, .inl An))] (fun v w => ∃ (Ag' : Nat → Int64) (Bi' An' : Nat → Int32) (fd' lv' : Nat), v = none ∧ w = [(se, .inr (3, [.ref rw, .int (nI rl), .int (nI wn), .int (nI pn), .ref pl, .ref ho, .ref ag, .ref bi, .ref an, .int (nI fd'), .int (nI lv')])), (rw, .inl (K 0, 3, .inl Rw)), (pl, .inl (K 0, 12, .inl Pl)), (ho, .inl (K 1, 72, .inr (.inl Ho))), (ag, .inl (K 1, 16, .inr (.inl Ag'))), (bi, .inl (K 0, 3, .inl Bi')), (an, .inl (K 0, 600, .inl An'))] ∧ (∀ i, i < d * 4 + 4 → Ag' i = Ag i) ∧ xs_bd Bi' r rl ts ∧ fd' = (Ls ++ (if xq_live q pn r (xo_mem g n) (ts ++ [t]) = true then xr_lv (xq_live q pn r (xo_mem g n)) wn 1 (ts ++ [t]) else [])).length ∧ lv' = lv + (if xq_live q pn r (xo_mem g n) (ts ++ [t]) = true then 1 + xr_ct (xq_live q pn r (xo_mem g n)) wn 1 (ts ++ [t]) else 0) ∧ xs_kp An' (Ls ++ (if xq_live q pn r (xo_mem g n) (ts ++ [t]) = true then xr_lv (xq_live q pn r (xo_mem g n)) wn 1 (ts ++ [t]) else [])) (xq_vl r)) := by
  refine xz_enter (by decide +kernel) (Nat.le_of_ble_eq_true rfl) ?_
  intro Γ hC
  refine xz_lcs (lc' := [(0, .ref se), (1, .int (nI d)), (2, .int (nI t))]) [0, 1, 2] rfl ?_
  have hr3 := hr.1
  refine xz_aload_n hC 0 rfl rfl dSe_bind_0 ?_
  refine xz_iload_n hC 1 rfl rfl dSe_bind_1 ?_
  refine xz_iload_n hC 2 rfl rfl dSe_bind_2 ?_
  refine xz_callV hC (mSe_narrow l D K se rw pl ho ag bi an rl wn pn fd lv Rw Pl Ho Ag q r g n d t ts hpn hn (by omega) (by omega) hts (hrw d (by omega)) (hr.2.1 d (by omega)) hpl hho hag) kSe_narrow tq6 tq407 tq409 tp15 0 3 rfl rfl rfl (host := "") hSe_narrow (by decide) [0, 1, 2, 3, 4] [5, 6] (by decide) rfl (wr := [(bi, .inl (K 0, 3, .inl Bi)), (an, .inl (K 0, 600, .inl An))]) rfl (by decide) (by decide) (As := [.int (nI d), .int (nI t)]) (rest := []) rfl rfl (Nat.le_of_ble_eq_true rfl) (by decide) dSe_bind_3 (fun v w hq => ?_)
  obtain ⟨b, Ag1, rfl, rfl, hlow1, hb, hb2⟩ := hq
  refine xz_ste (st' := [.int (bI b)]) rfl ?_
  refine xz_wss (ws' := [(se, .inr (3, [.ref rw, .int (nI rl), .int (nI wn), .int (nI pn), .ref pl, .ref ho, .ref ag, .ref bi, .ref an, .int (nI fd), .int (nI lv)])), (rw, .inl (K 0, 3, .inl Rw)), (pl, .inl (K 0, 12, .inl Pl)), (ho, .inl (K 1, 72, .inr (.inl Ho))), (ag, .inl (K 1, 16, .inr (.inl Ag1))), (bi, .inl (K 0, 3, .inl Bi)), (an, .inl (K 0, 600, .inl An))]) [2, 3, 4, 5, 6, 0, 1] (by decide) rfl rfl ?_
  rw [xs_live_step hlive hts] at hb
  refine xz_ifb_eq hC (tgt := 38) (by decide) dSe_bind_6 (fun h1 => ?_) (fun h1 => ?_)
  · skip
    have hnl : xq_live q pn r (xo_mem g n) (ts ++ [t]) ≠ true := fun z => absurd (hb.mpr z) (by rw [h1]; decide)
    exact xz_return hC (by decide) (by decide) (by first | exact ⟨Ag1, Bi, An, fd, lv, rfl, rfl, hlow1, hbd, by rw [if_neg hnl, List.append_nil]; exact hfd, by rw [if_neg hnl]; rfl, by rw [if_neg hnl, List.append_nil]; exact hkp⟩ | exact ⟨Ag2, Bi2, An2, fd2, lv2, rfl, rfl, fun i hi => (hlow2 i (by omega)).trans (hlow1 i hi), xs_bd_pre hbd2, by rw [if_pos hyl]; exact hfd2, by rw [if_pos hyl]; omega, by rw [if_pos hyl]; exact hkp2⟩) dSe_bind_38
  · skip
    have hyl := hb.mp h1
    have hag1 := hb2 h1
    have hrd := hr.2.1 d (by omega)
    refine xz_aload_n hC 0 rfl rfl dSe_bind_9 ?_
    refine xz_get hC 0 rfl rfl 7 (by decide) inSe tq120 rfl rfl dSe_bind_10 ?_
    refine xz_aload_n hC 0 rfl rfl dSe_bind_13 ?_
    refine xz_get hC 0 rfl rfl 0 (by decide) inSe tq113 rfl rfl dSe_bind_14 ?_
    refine xz_iload_n hC 1 rfl rfl dSe_bind_17 ?_
    refine xz_iaload hC 1 0 (v := nI (r d)) rfl rfl (by omega) (by decide) (hrw d (by omega)) dSe_bind_18 ?_
    refine xz_iload_n hC 2 rfl rfl dSe_bind_19 ?_
    refine xz_iastore hC 5 0 (ws' := [(se, .inr (3, [.ref rw, .int (nI rl), .int (nI wn), .int (nI pn), .ref pl, .ref ho, .ref ag, .ref bi, .ref an, .int (nI fd), .int (nI lv)])), (rw, .inl (K 0, 3, .inl Rw)), (pl, .inl (K 0, 12, .inl Pl)), (ho, .inl (K 1, 72, .inr (.inl Ho))), (ag, .inl (K 1, 16, .inr (.inl Ag1))), (bi, .inl (K 0, 3, .inl (upd Bi (r d) (nI t)))), (an, .inl (K 0, 600, .inl An))]) rfl rfl (by omega) (by decide) rfl dSe_bind_20 ?_
    refine xz_aload_n hC 0 rfl rfl dSe_bind_21 ?_
    refine xz_dup hC rfl dSe_bind_22 ?_
    refine xz_get hC 0 rfl rfl 10 (by decide) inSe tq124 rfl rfl dSe_bind_23 ?_
    refine xz_iconst hC (v := nI 1) (by decide +kernel) dSe_bind_26 ?_
    refine xz_iadd hC (z := nI (lv + 1)) (nI_add _ _) dSe_bind_27 ?_
    refine xz_put hC 0 rfl rfl 10 (by decide) inSe tq124 rfl tySe tySe_ok nmSe rfl rfl rfl (Nat.le_of_ble_eq_true rfl) (ws' := [(se, .inr (3, [.ref rw, .int (nI rl), .int (nI wn), .int (nI pn), .ref pl, .ref ho, .ref ag, .ref bi, .ref an, .int (nI fd), .int (nI (lv + 1))])), (rw, .inl (K 0, 3, .inl Rw)), (pl, .inl (K 0, 12, .inl Pl)), (ho, .inl (K 1, 72, .inr (.inl Ho))), (ag, .inl (K 1, 16, .inr (.inl Ag1))), (bi, .inl (K 0, 3, .inl (upd Bi (r d) (nI t)))), (an, .inl (K 0, 600, .inl An))]) rfl dSe_bind_28 ?_
    refine xz_aload_n hC 0 rfl rfl dSe_bind_31 ?_
    refine xz_iload_n hC 1 rfl rfl dSe_bind_32 ?_
    refine xz_iconst hC (v := nI 1) (by decide +kernel) dSe_bind_33 ?_
    refine xz_iadd hC (z := nI (d + 1)) (nI_add _ _) dSe_bind_34 ?_
    refine xz_callV hC (mSe_walk1 l D K se rw pl ho ag bi an rl wn pn fd (lv + 1) Rw Pl Ho Ag1 (upd Bi (r d) (nI t)) An q r g n (d + 1) (ts ++ [t]) Ls hpn hn hwn hr hrw hpl hho (by omega) (by rw [List.length_append, hts]; rfl) (fun j hj => by rw [show (d + 1) * 4 + j = d * 4 + 4 + j by omega]; exact hag1 j hj) hyl (by have := xs_bd_step (t := t) hbd hr (by omega); rw [hts] at this; exact this) hfd (by omega) hkp) kSe_walk tq6 tq394 tq396 tp12 0 3 rfl rfl rfl (host := "") hSe_walk (by decide) [0, 1, 2, 3, 4, 5, 6] [] (by decide) rfl (wr := []) rfl (by decide) (by decide) (As := [.int (nI (d + 1))]) (rest := []) rfl rfl (Nat.le_of_ble_eq_true rfl) (by decide) dSe_bind_35 (fun v w hq => ?_)
    obtain ⟨Ag2, Bi2, An2, fd2, lv2, rfl, rfl, hlow2, hbd2, hfd2, hlv2, hkp2⟩ := hq
    refine xz_ste (st' := []) rfl ?_
    refine xz_wss (ws' := [(se, .inr (3, [.ref rw, .int (nI rl), .int (nI wn), .int (nI pn), .ref pl, .ref ho, .ref ag, .ref bi, .ref an, .int (nI fd2), .int (nI lv2)])), (rw, .inl (K 0, 3, .inl Rw)), (pl, .inl (K 0, 12, .inl Pl)), (ho, .inl (K 1, 72, .inr (.inl Ho))), (ag, .inl (K 1, 16, .inr (.inl Ag2))), (bi, .inl (K 0, 3, .inl Bi2)), (an, .inl (K 0, 600, .inl An2))]) [0, 1, 2, 3, 4, 5, 6] (by decide) rfl rfl ?_
    exact xz_return hC (by decide) (by decide) (by first | exact ⟨Ag1, Bi, An, fd, lv, rfl, rfl, hlow1, hbd, by rw [if_neg hnl, List.append_nil]; exact hfd, by rw [if_neg hnl]; rfl, by rw [if_neg hnl, List.append_nil]; exact hkp⟩ | exact ⟨Ag2, Bi2, An2, fd2, lv2, rfl, rfl, fun i hi => (hlow2 i (by omega)).trans (hlow1 i hi), xs_bd_pre hbd2, by rw [if_pos hyl]; exact hfd2, by rw [if_pos hyl]; omega, by rw [if_pos hyl]; exact hkp2⟩) dSe_bind_38
set_option maxHeartbeats 1000000 in
set_option maxRecDepth 100000 in
theorem mSe_walk2 (l : Launch) (D : va_G) (K : Nat → ClassId) (se rw pl ho ag bi an rl wn pn fd lv : Nat) (Rw Pl : Nat → Int32) (Ho Ag : Nat → Int64) (Bi An : Nat → Int32) (q r g : Nat → Nat) (n d : Nat) (ts : List Nat) (Ls : List (List Nat)) (hpn : pn ≤ 4) (hn : n ≤ 60) (hwn : wn ≤ 24) (hr : xs_rw r rl) (hrw : ∀ j, j < rl → Rw j = nI (r j)) (hpl : xs_pl Pl q pn) (hho : xs_ho Ho g n) (hd : d + 2 = rl) (hts : ts.length = d) (hag : ∀ j, j < pn → xs_ag (Ag (d * 4 + j)) q j r ts g n) (hlive : xq_live q pn r (xo_mem g n) ts = true) (hbd : xs_bd Bi r rl ts) (hfd : fd = Ls.length) (hfb : fd + 576 ≤ 90000) (hkp : xs_kp An Ls (xq_vl r)) : xz_Met l D (tz K) ySe_walk cSe_walk 3 none { frames := 6, cells := 0, slots := 0, locals := 168 } [.ref se, .int (nI d)] [(se, .inr (3, [.ref rw, .int (nI rl), .int (nI wn), .int (nI pn), .ref pl, .ref ho, .ref ag, .ref bi, .ref an, .int (nI fd), .int (nI lv)])), (rw, .inl (K 0, 3, .inl Rw)), (pl, .inl (K 0, 12, .inl Pl)), (ho, .inl (K 1, 72, .inr (.inl Ho))), (ag, .inl (K 1, 16, .inr (.inl Ag))), (bi, .inl (K 0, 3, .inl Bi)), (an, .inl (K 0, 600, .inl An))] (fun v w => ∃ (Ag' : Nat → Int64) (Bi' An' : Nat → Int32) (fd' lv' : Nat), v = none ∧ w = [(se, .inr (3, [.ref rw, .int (nI rl), .int (nI wn), .int (nI pn), .ref pl, .ref ho, .ref ag, .ref bi, .ref an, .int (nI fd'), .int (nI lv')])), (rw, .inl (K 0, 3, .inl Rw)), (pl, .inl (K 0, 12, .inl Pl)), (ho, .inl (K 1, 72, .inr (.inl Ho))), (ag, .inl (K 1, 16, .inr (.inl Ag'))), (bi, .inl (K 0, 3, .inl Bi')), (an, .inl (K 0, 600, .inl An'))] ∧ (∀ i, i < d * 4 + 4 → Ag' i = Ag i) ∧ xs_bd Bi' r rl ts ∧ fd' = (Ls ++ xr_lv (xq_live q pn r (xo_mem g n)) wn 2 ts).length ∧ lv' = lv + xr_ct (xq_live q pn r (xo_mem g n)) wn 2 ts ∧ xs_kp An' (Ls ++ xr_lv (xq_live q pn r (xo_mem g n)) wn 2 ts) (xq_vl r)) := by
  refine xz_enter (by decide +kernel) (Nat.le_of_ble_eq_true rfl) ?_
  intro Γ hC
  refine xz_lcs (lc' := [(0, .ref se), (1, .int (nI d))]) [0, 1] rfl ?_
  have hr3 := hr.1
  refine xz_iload_n hC 1 rfl rfl dSe_walk_0 ?_
  refine xz_aload_n hC 0 rfl rfl dSe_walk_1 ?_
  refine xz_get hC 0 rfl rfl 1 (by decide) inSe tq114 rfl rfl dSe_walk_2 ?_
  refine xz_icmp_lt hC (tgt := 13) (nI_toInt (by omega)) (nI_toInt (by omega)) (by decide) dSe_walk_5 (fun h1 => ?_) (fun h1 => ?_)
  · skip
    refine xz_iconst hC (v := nI 0) (by decide +kernel) dSe_walk_13 ?_
    refine xz_istore_n hC (lc' := [(2, .int (nI 0)), (0, .ref se), (1, .int (nI d))]) rfl (by decide) rfl dSe_walk_14 ?_
    have lp2 : ∀ (NNlp2 : Nat) (T : Nat) (Ag' : Nat → Int64) (Bi' : Nat → Int32) (An' : Nat → Int32) (fd' : Nat) (lv' : Nat), T ≤ wn → (∀ i, i < d * 4 + 4 → Ag' i = Ag i) → xs_bd Bi' r rl ts → fd' = (Ls ++ xr_up (xq_live q pn r (xo_mem g n)) (xr_lv (xq_live q pn r (xo_mem g n)) wn 1) ts T).length → lv' = lv + xr_us (xq_live q pn r (xo_mem g n)) (xr_ct (xq_live q pn r (xo_mem g n)) wn 1) ts T → xs_kp An' (Ls ++ xr_up (xq_live q pn r (xo_mem g n)) (xr_lv (xq_live q pn r (xo_mem g n)) wn 1) ts T) (xq_vl r) → wn - T = NNlp2 → xz_X Γ 0 0 [(se, .inr (3, [.ref rw, .int (nI rl), .int (nI wn), .int (nI pn), .ref pl, .ref ho, .ref ag, .ref bi, .ref an, .int (nI fd'), .int (nI lv')])), (rw, .inl (K 0, 3, .inl Rw)), (pl, .inl (K 0, 12, .inl Pl)), (ho, .inl (K 1, 72, .inr (.inl Ho))), (ag, .inl (K 1, 16, .inr (.inl Ag'))), (bi, .inl (K 0, 3, .inl Bi')), (an, .inl (K 0, 600, .inl An'))] 15 [(2, .int (nI T)), (0, .ref se), (1, .int (nI d))] [] := by
      intro NNlp2
      induction NNlp2 using Nat.strongRecOn with
      | _ NNlp2 ihlp2 =>
        intro T  Ag'  Bi'  An'  fd'  lv'  hT hlow hbd1 hfd1 hlv hkp1 hNNlp2
        refine xz_iload_n hC 0 rfl rfl dSe_walk_15 ?_
        refine xz_aload_n hC 1 rfl rfl dSe_walk_16 ?_
        refine xz_get hC 0 rfl rfl 2 (by decide) inSe tq115 rfl rfl dSe_walk_17 ?_
        refine xz_icmp_ge hC (tgt := 35) (nI_toInt (by omega)) (nI_toInt (by omega)) (by decide) dSe_walk_20 (fun h3 => ?_) (fun h3 => ?_)
        · skip
          exact xz_return hC (by decide) (by decide) (by
      obtain rfl : T = wn := by omega
      exact ⟨Ag', Bi', An', fd', lv', rfl, rfl, hlow, hbd1, hfd1, hlv, hkp1⟩) dSe_walk_35
        · skip
          have hlen := xr_up_len (live := (xq_live q pn r (xo_mem g n))) (M := 24) (xr_lv_24 (live := (xq_live q pn r (xo_mem g n))) hwn 1) ts T
          have hfl : fd' ≤ fd + T * 24 := by rw [hfd1, List.length_append, hfd]; omega
          refine xz_aload_n hC 1 rfl rfl dSe_walk_23 ?_
          refine xz_iload_n hC 2 rfl rfl dSe_walk_24 ?_
          refine xz_iload_n hC 0 rfl rfl dSe_walk_25 ?_
          refine xz_callV hC (mSe_bind2 l D K se rw pl ho ag bi an rl wn pn fd' lv' Rw Pl Ho Ag' Bi' An' q r g n d ts (Ls ++ xr_up (xq_live q pn r (xo_mem g n)) (xr_lv (xq_live q pn r (xo_mem g n)) wn 1) ts T) T hpn hn hwn hr hrw hpl hho hd hts (fun j hj => by rw [hlow _ (by omega)]; exact hag j hj) hlive hbd1 hfd1 (by omega) hkp1 (by omega)) kSe_bind tq6 tq403 tq405 tp14 0 3 rfl rfl rfl (host := "") hSe_bind (by decide) [0, 1, 2, 3, 4, 5, 6] [] (by decide) rfl (wr := []) rfl (by decide) (by decide) (As := [.int (nI d), .int (nI T)]) (rest := []) rfl rfl (Nat.le_of_ble_eq_true rfl) (by decide) dSe_walk_26 (fun v w hq => ?_)
          obtain ⟨Ag2, Bi2, An2, fd2, lv2, rfl, rfl, hlow2, hbd2, hfd2, hlv2, hkp2⟩ := hq
          refine xz_ste (st' := []) rfl ?_
          refine xz_wss (ws' := [(se, .inr (3, [.ref rw, .int (nI rl), .int (nI wn), .int (nI pn), .ref pl, .ref ho, .ref ag, .ref bi, .ref an, .int (nI fd2), .int (nI lv2)])), (rw, .inl (K 0, 3, .inl Rw)), (pl, .inl (K 0, 12, .inl Pl)), (ho, .inl (K 1, 72, .inr (.inl Ho))), (ag, .inl (K 1, 16, .inr (.inl Ag2))), (bi, .inl (K 0, 3, .inl Bi2)), (an, .inl (K 0, 600, .inl An2))]) [0, 1, 2, 3, 4, 5, 6] (by decide) rfl rfl ?_
          refine xz_iinc hC 0 (lc' := [(2, .int (nI (T + 1))), (0, .ref se), (1, .int (nI d))]) rfl (xn_inc _) (by decide) rfl dSe_walk_29 ?_
          refine xz_goto hC (tgt := 15) (by decide) dSe_walk_32 ?_
          exact ihlp2 _ (by omega) (T + 1) Ag2 Bi2 An2 fd2 lv2 (by omega) (fun i hi => (hlow2 i hi).trans (hlow i hi)) hbd2 (by rw [hfd2, xr_up_succ, List.append_assoc]) (by rw [hlv2, hlv, xr_us_succ]; omega) (by rw [xr_up_succ, ← List.append_assoc]; exact hkp2) rfl
    exact lp2 _ 0 Ag Bi An fd lv (by omega) (fun i _ => rfl) hbd (by rw [show xr_up (xq_live q pn r (xo_mem g n)) (xr_lv (xq_live q pn r (xo_mem g n)) wn 1) ts 0 = [] from rfl, List.append_nil]; exact hfd) (by rfl) (by rw [show xr_up (xq_live q pn r (xo_mem g n)) (xr_lv (xq_live q pn r (xo_mem g n)) wn 1) ts 0 = [] from rfl, List.append_nil]; exact hkp) rfl
  · skip
    exfalso; omega
set_option maxHeartbeats 1000000 in
set_option maxRecDepth 100000 in
theorem mSe_bind3 (l : Launch) (D : va_G) (K : Nat → ClassId) (se rw pl ho ag bi an rl wn pn fd lv : Nat) (Rw Pl : Nat → Int32) (Ho Ag : Nat → Int64) (Bi An : Nat → Int32) (q r g : Nat → Nat) (n d : Nat) (ts : List Nat) (Ls : List (List Nat)) (t : Nat) (hpn : pn ≤ 4) (hn : n ≤ 60) (hwn : wn ≤ 24) (hr : xs_rw r rl) (hrw : ∀ j, j < rl → Rw j = nI (r j)) (hpl : xs_pl Pl q pn) (hho : xs_ho Ho g n) (hd : d + 3 = rl) (hts : ts.length = d) (hag : ∀ j, j < pn → xs_ag (Ag (d * 4 + j)) q j r ts g n) (hlive : xq_live q pn r (xo_mem g n) ts = true) (hbd : xs_bd Bi r rl ts) (hfd : fd = Ls.length) (hfb : fd + 576 ≤ 90000) (hkp : xs_kp An Ls (xq_vl r)) (ht : t < wn) : xz_Met l D (tz K) ySe_bind cSe_bind 3 none { frames := 7, cells := 0, slots := 0, locals := 190 } [.ref se, .int (nI d), .int (nI t)] [(se, .inr (3, [.ref rw, .int (nI rl), .int (nI wn), .int (nI pn), .ref pl, .ref ho, .ref ag, .ref bi, .ref an, .int (nI fd), .int (nI lv)])), (rw, .inl (K 0, 3, .inl Rw)), (pl, .inl (K 0, 12, .inl Pl)), (ho, .inl (K 1, 72, .inr (.inl Ho))), (ag, .inl (K 1, 16, .inr (.inl Ag))), (bi, .inl (K 0, 3, .inl Bi)), (an, .inl (K 0, 600, .inl An))] (fun v w => ∃ (Ag' : Nat → Int64) (Bi' An' : Nat → Int32) (fd' lv' : Nat), v = none ∧ w = [(se, .inr (3, [.ref rw, .int (nI rl), .int (nI wn), .int (nI pn), .ref pl, .ref ho, .ref ag, .ref bi, .ref an, .int (nI fd'), .int (nI lv')])), (rw, .inl (K 0, 3, .inl Rw)), (pl, .inl (K 0, 12, .inl Pl)), (ho, .inl (K 1, 72, .inr (.inl Ho))), (ag, .inl (K 1, 16, .inr (.inl Ag'))), (bi, .inl (K 0, 3, .inl Bi')), (an, .inl (K 0, 600, .inl An'))] ∧ (∀ i, i < d * 4 + 4 → Ag' i = Ag i) ∧ xs_bd Bi' r rl ts ∧ fd' = (Ls ++ (if xq_live q pn r (xo_mem g n) (ts ++ [t]) = true then xr_lv (xq_live q pn r (xo_mem g n)) wn 2 (ts ++ [t]) else [])).length ∧ lv' = lv + (if xq_live q pn r (xo_mem g n) (ts ++ [t]) = true then 1 + xr_ct (xq_live q pn r (xo_mem g n)) wn 2 (ts ++ [t]) else 0) ∧ xs_kp An' (Ls ++ (if xq_live q pn r (xo_mem g n) (ts ++ [t]) = true then xr_lv (xq_live q pn r (xo_mem g n)) wn 2 (ts ++ [t]) else [])) (xq_vl r)) := by
  refine xz_enter (by decide +kernel) (Nat.le_of_ble_eq_true rfl) ?_
  intro Γ hC
  refine xz_lcs (lc' := [(0, .ref se), (1, .int (nI d)), (2, .int (nI t))]) [0, 1, 2] rfl ?_
  have hr3 := hr.1
  refine xz_aload_n hC 0 rfl rfl dSe_bind_0 ?_
  refine xz_iload_n hC 1 rfl rfl dSe_bind_1 ?_
  refine xz_iload_n hC 2 rfl rfl dSe_bind_2 ?_
  refine xz_callV hC (mSe_narrow l D K se rw pl ho ag bi an rl wn pn fd lv Rw Pl Ho Ag q r g n d t ts hpn hn (by omega) (by omega) hts (hrw d (by omega)) (hr.2.1 d (by omega)) hpl hho hag) kSe_narrow tq6 tq407 tq409 tp15 0 3 rfl rfl rfl (host := "") hSe_narrow (by decide) [0, 1, 2, 3, 4] [5, 6] (by decide) rfl (wr := [(bi, .inl (K 0, 3, .inl Bi)), (an, .inl (K 0, 600, .inl An))]) rfl (by decide) (by decide) (As := [.int (nI d), .int (nI t)]) (rest := []) rfl rfl (Nat.le_of_ble_eq_true rfl) (by decide) dSe_bind_3 (fun v w hq => ?_)
  obtain ⟨b, Ag1, rfl, rfl, hlow1, hb, hb2⟩ := hq
  refine xz_ste (st' := [.int (bI b)]) rfl ?_
  refine xz_wss (ws' := [(se, .inr (3, [.ref rw, .int (nI rl), .int (nI wn), .int (nI pn), .ref pl, .ref ho, .ref ag, .ref bi, .ref an, .int (nI fd), .int (nI lv)])), (rw, .inl (K 0, 3, .inl Rw)), (pl, .inl (K 0, 12, .inl Pl)), (ho, .inl (K 1, 72, .inr (.inl Ho))), (ag, .inl (K 1, 16, .inr (.inl Ag1))), (bi, .inl (K 0, 3, .inl Bi)), (an, .inl (K 0, 600, .inl An))]) [2, 3, 4, 5, 6, 0, 1] (by decide) rfl rfl ?_
  rw [xs_live_step hlive hts] at hb
  refine xz_ifb_eq hC (tgt := 38) (by decide) dSe_bind_6 (fun h1 => ?_) (fun h1 => ?_)
  · skip
    have hnl : xq_live q pn r (xo_mem g n) (ts ++ [t]) ≠ true := fun z => absurd (hb.mpr z) (by rw [h1]; decide)
    exact xz_return hC (by decide) (by decide) (by first | exact ⟨Ag1, Bi, An, fd, lv, rfl, rfl, hlow1, hbd, by rw [if_neg hnl, List.append_nil]; exact hfd, by rw [if_neg hnl]; rfl, by rw [if_neg hnl, List.append_nil]; exact hkp⟩ | exact ⟨Ag2, Bi2, An2, fd2, lv2, rfl, rfl, fun i hi => (hlow2 i (by omega)).trans (hlow1 i hi), xs_bd_pre hbd2, by rw [if_pos hyl]; exact hfd2, by rw [if_pos hyl]; omega, by rw [if_pos hyl]; exact hkp2⟩) dSe_bind_38
  · skip
    have hyl := hb.mp h1
    have hag1 := hb2 h1
    have hrd := hr.2.1 d (by omega)
    refine xz_aload_n hC 0 rfl rfl dSe_bind_9 ?_
    refine xz_get hC 0 rfl rfl 7 (by decide) inSe tq120 rfl rfl dSe_bind_10 ?_
    refine xz_aload_n hC 0 rfl rfl dSe_bind_13 ?_
    refine xz_get hC 0 rfl rfl 0 (by decide) inSe tq113 rfl rfl dSe_bind_14 ?_
    refine xz_iload_n hC 1 rfl rfl dSe_bind_17 ?_
    refine xz_iaload hC 1 0 (v := nI (r d)) rfl rfl (by omega) (by decide) (hrw d (by omega)) dSe_bind_18 ?_
    refine xz_iload_n hC 2 rfl rfl dSe_bind_19 ?_
    refine xz_iastore hC 5 0 (ws' := [(se, .inr (3, [.ref rw, .int (nI rl), .int (nI wn), .int (nI pn), .ref pl, .ref ho, .ref ag, .ref bi, .ref an, .int (nI fd), .int (nI lv)])), (rw, .inl (K 0, 3, .inl Rw)), (pl, .inl (K 0, 12, .inl Pl)), (ho, .inl (K 1, 72, .inr (.inl Ho))), (ag, .inl (K 1, 16, .inr (.inl Ag1))), (bi, .inl (K 0, 3, .inl (upd Bi (r d) (nI t)))), (an, .inl (K 0, 600, .inl An))]) rfl rfl (by omega) (by decide) rfl dSe_bind_20 ?_
    refine xz_aload_n hC 0 rfl rfl dSe_bind_21 ?_
    refine xz_dup hC rfl dSe_bind_22 ?_
    refine xz_get hC 0 rfl rfl 10 (by decide) inSe tq124 rfl rfl dSe_bind_23 ?_
    refine xz_iconst hC (v := nI 1) (by decide +kernel) dSe_bind_26 ?_
    refine xz_iadd hC (z := nI (lv + 1)) (nI_add _ _) dSe_bind_27 ?_
    refine xz_put hC 0 rfl rfl 10 (by decide) inSe tq124 rfl tySe tySe_ok nmSe rfl rfl rfl (Nat.le_of_ble_eq_true rfl) (ws' := [(se, .inr (3, [.ref rw, .int (nI rl), .int (nI wn), .int (nI pn), .ref pl, .ref ho, .ref ag, .ref bi, .ref an, .int (nI fd), .int (nI (lv + 1))])), (rw, .inl (K 0, 3, .inl Rw)), (pl, .inl (K 0, 12, .inl Pl)), (ho, .inl (K 1, 72, .inr (.inl Ho))), (ag, .inl (K 1, 16, .inr (.inl Ag1))), (bi, .inl (K 0, 3, .inl (upd Bi (r d) (nI t)))), (an, .inl (K 0, 600, .inl An))]) rfl dSe_bind_28 ?_
    refine xz_aload_n hC 0 rfl rfl dSe_bind_31 ?_
    refine xz_iload_n hC 1 rfl rfl dSe_bind_32 ?_
    refine xz_iconst hC (v := nI 1) (by decide +kernel) dSe_bind_33 ?_
    refine xz_iadd hC (z := nI (d + 1)) (nI_add _ _) dSe_bind_34 ?_
    refine xz_callV hC (mSe_walk2 l D K se rw pl ho ag bi an rl wn pn fd (lv + 1) Rw Pl Ho Ag1 (upd Bi (r d) (nI t)) An q r g n (d + 1) (ts ++ [t]) Ls hpn hn hwn hr hrw hpl hho (by omega) (by rw [List.length_append, hts]; rfl) (fun j hj => by rw [show (d + 1) * 4 + j = d * 4 + 4 + j by omega]; exact hag1 j hj) hyl (by have := xs_bd_step (t := t) hbd hr (by omega); rw [hts] at this; exact this) hfd (by omega) hkp) kSe_walk tq6 tq394 tq396 tp12 0 3 rfl rfl rfl (host := "") hSe_walk (by decide) [0, 1, 2, 3, 4, 5, 6] [] (by decide) rfl (wr := []) rfl (by decide) (by decide) (As := [.int (nI (d + 1))]) (rest := []) rfl rfl (Nat.le_of_ble_eq_true rfl) (by decide) dSe_bind_35 (fun v w hq => ?_)
    obtain ⟨Ag2, Bi2, An2, fd2, lv2, rfl, rfl, hlow2, hbd2, hfd2, hlv2, hkp2⟩ := hq
    refine xz_ste (st' := []) rfl ?_
    refine xz_wss (ws' := [(se, .inr (3, [.ref rw, .int (nI rl), .int (nI wn), .int (nI pn), .ref pl, .ref ho, .ref ag, .ref bi, .ref an, .int (nI fd2), .int (nI lv2)])), (rw, .inl (K 0, 3, .inl Rw)), (pl, .inl (K 0, 12, .inl Pl)), (ho, .inl (K 1, 72, .inr (.inl Ho))), (ag, .inl (K 1, 16, .inr (.inl Ag2))), (bi, .inl (K 0, 3, .inl Bi2)), (an, .inl (K 0, 600, .inl An2))]) [0, 1, 2, 3, 4, 5, 6] (by decide) rfl rfl ?_
    exact xz_return hC (by decide) (by decide) (by first | exact ⟨Ag1, Bi, An, fd, lv, rfl, rfl, hlow1, hbd, by rw [if_neg hnl, List.append_nil]; exact hfd, by rw [if_neg hnl]; rfl, by rw [if_neg hnl, List.append_nil]; exact hkp⟩ | exact ⟨Ag2, Bi2, An2, fd2, lv2, rfl, rfl, fun i hi => (hlow2 i (by omega)).trans (hlow1 i hi), xs_bd_pre hbd2, by rw [if_pos hyl]; exact hfd2, by rw [if_pos hyl]; omega, by rw [if_pos hyl]; exact hkp2⟩) dSe_bind_38
set_option maxHeartbeats 1000000 in
set_option maxRecDepth 100000 in
theorem mSe_walk3 (l : Launch) (D : va_G) (K : Nat → ClassId) (se rw pl ho ag bi an rl wn pn fd lv : Nat) (Rw Pl : Nat → Int32) (Ho Ag : Nat → Int64) (Bi An : Nat → Int32) (q r g : Nat → Nat) (n d : Nat) (ts : List Nat) (Ls : List (List Nat)) (hpn : pn ≤ 4) (hn : n ≤ 60) (hwn : wn ≤ 24) (hr : xs_rw r rl) (hrw : ∀ j, j < rl → Rw j = nI (r j)) (hpl : xs_pl Pl q pn) (hho : xs_ho Ho g n) (hd : d + 3 = rl) (hts : ts.length = d) (hag : ∀ j, j < pn → xs_ag (Ag (d * 4 + j)) q j r ts g n) (hlive : xq_live q pn r (xo_mem g n) ts = true) (hbd : xs_bd Bi r rl ts) (hfd : fd = Ls.length) (hfb : fd + 13824 ≤ 90000) (hkp : xs_kp An Ls (xq_vl r)) : xz_Met l D (tz K) ySe_walk cSe_walk 3 none { frames := 8, cells := 0, slots := 0, locals := 212 } [.ref se, .int (nI d)] [(se, .inr (3, [.ref rw, .int (nI rl), .int (nI wn), .int (nI pn), .ref pl, .ref ho, .ref ag, .ref bi, .ref an, .int (nI fd), .int (nI lv)])), (rw, .inl (K 0, 3, .inl Rw)), (pl, .inl (K 0, 12, .inl Pl)), (ho, .inl (K 1, 72, .inr (.inl Ho))), (ag, .inl (K 1, 16, .inr (.inl Ag))), (bi, .inl (K 0, 3, .inl Bi)), (an, .inl (K 0, 600, .inl An))] (fun v w => ∃ (Ag' : Nat → Int64) (Bi' An' : Nat → Int32) (fd' lv' : Nat), v = none ∧ w = [(se, .inr (3, [.ref rw, .int (nI rl), .int (nI wn), .int (nI pn), .ref pl, .ref ho, .ref ag, .ref bi, .ref an, .int (nI fd'), .int (nI lv')])), (rw, .inl (K 0, 3, .inl Rw)), (pl, .inl (K 0, 12, .inl Pl)), (ho, .inl (K 1, 72, .inr (.inl Ho))), (ag, .inl (K 1, 16, .inr (.inl Ag'))), (bi, .inl (K 0, 3, .inl Bi')), (an, .inl (K 0, 600, .inl An'))] ∧ (∀ i, i < d * 4 + 4 → Ag' i = Ag i) ∧ xs_bd Bi' r rl ts ∧ fd' = (Ls ++ xr_lv (xq_live q pn r (xo_mem g n)) wn 3 ts).length ∧ lv' = lv + xr_ct (xq_live q pn r (xo_mem g n)) wn 3 ts ∧ xs_kp An' (Ls ++ xr_lv (xq_live q pn r (xo_mem g n)) wn 3 ts) (xq_vl r)) := by
  refine xz_enter (by decide +kernel) (Nat.le_of_ble_eq_true rfl) ?_
  intro Γ hC
  refine xz_lcs (lc' := [(0, .ref se), (1, .int (nI d))]) [0, 1] rfl ?_
  have hr3 := hr.1
  refine xz_iload_n hC 1 rfl rfl dSe_walk_0 ?_
  refine xz_aload_n hC 0 rfl rfl dSe_walk_1 ?_
  refine xz_get hC 0 rfl rfl 1 (by decide) inSe tq114 rfl rfl dSe_walk_2 ?_
  refine xz_icmp_lt hC (tgt := 13) (nI_toInt (by omega)) (nI_toInt (by omega)) (by decide) dSe_walk_5 (fun h1 => ?_) (fun h1 => ?_)
  · skip
    refine xz_iconst hC (v := nI 0) (by decide +kernel) dSe_walk_13 ?_
    refine xz_istore_n hC (lc' := [(2, .int (nI 0)), (0, .ref se), (1, .int (nI d))]) rfl (by decide) rfl dSe_walk_14 ?_
    have lp2 : ∀ (NNlp2 : Nat) (T : Nat) (Ag' : Nat → Int64) (Bi' : Nat → Int32) (An' : Nat → Int32) (fd' : Nat) (lv' : Nat), T ≤ wn → (∀ i, i < d * 4 + 4 → Ag' i = Ag i) → xs_bd Bi' r rl ts → fd' = (Ls ++ xr_up (xq_live q pn r (xo_mem g n)) (xr_lv (xq_live q pn r (xo_mem g n)) wn 2) ts T).length → lv' = lv + xr_us (xq_live q pn r (xo_mem g n)) (xr_ct (xq_live q pn r (xo_mem g n)) wn 2) ts T → xs_kp An' (Ls ++ xr_up (xq_live q pn r (xo_mem g n)) (xr_lv (xq_live q pn r (xo_mem g n)) wn 2) ts T) (xq_vl r) → wn - T = NNlp2 → xz_X Γ 0 0 [(se, .inr (3, [.ref rw, .int (nI rl), .int (nI wn), .int (nI pn), .ref pl, .ref ho, .ref ag, .ref bi, .ref an, .int (nI fd'), .int (nI lv')])), (rw, .inl (K 0, 3, .inl Rw)), (pl, .inl (K 0, 12, .inl Pl)), (ho, .inl (K 1, 72, .inr (.inl Ho))), (ag, .inl (K 1, 16, .inr (.inl Ag'))), (bi, .inl (K 0, 3, .inl Bi')), (an, .inl (K 0, 600, .inl An'))] 15 [(2, .int (nI T)), (0, .ref se), (1, .int (nI d))] [] := by
      intro NNlp2
      induction NNlp2 using Nat.strongRecOn with
      | _ NNlp2 ihlp2 =>
        intro T  Ag'  Bi'  An'  fd'  lv'  hT hlow hbd1 hfd1 hlv hkp1 hNNlp2
        refine xz_iload_n hC 0 rfl rfl dSe_walk_15 ?_
        refine xz_aload_n hC 1 rfl rfl dSe_walk_16 ?_
        refine xz_get hC 0 rfl rfl 2 (by decide) inSe tq115 rfl rfl dSe_walk_17 ?_
        refine xz_icmp_ge hC (tgt := 35) (nI_toInt (by omega)) (nI_toInt (by omega)) (by decide) dSe_walk_20 (fun h3 => ?_) (fun h3 => ?_)
        · skip
          exact xz_return hC (by decide) (by decide) (by
      obtain rfl : T = wn := by omega
      exact ⟨Ag', Bi', An', fd', lv', rfl, rfl, hlow, hbd1, hfd1, hlv, hkp1⟩) dSe_walk_35
        · skip
          have hlen := xr_up_len (live := (xq_live q pn r (xo_mem g n))) (M := 576) (xr_lv_24 (live := (xq_live q pn r (xo_mem g n))) hwn 2) ts T
          have hfl : fd' ≤ fd + T * 576 := by rw [hfd1, List.length_append, hfd]; omega
          refine xz_aload_n hC 1 rfl rfl dSe_walk_23 ?_
          refine xz_iload_n hC 2 rfl rfl dSe_walk_24 ?_
          refine xz_iload_n hC 0 rfl rfl dSe_walk_25 ?_
          refine xz_callV hC (mSe_bind3 l D K se rw pl ho ag bi an rl wn pn fd' lv' Rw Pl Ho Ag' Bi' An' q r g n d ts (Ls ++ xr_up (xq_live q pn r (xo_mem g n)) (xr_lv (xq_live q pn r (xo_mem g n)) wn 2) ts T) T hpn hn hwn hr hrw hpl hho hd hts (fun j hj => by rw [hlow _ (by omega)]; exact hag j hj) hlive hbd1 hfd1 (by omega) hkp1 (by omega)) kSe_bind tq6 tq403 tq405 tp14 0 3 rfl rfl rfl (host := "") hSe_bind (by decide) [0, 1, 2, 3, 4, 5, 6] [] (by decide) rfl (wr := []) rfl (by decide) (by decide) (As := [.int (nI d), .int (nI T)]) (rest := []) rfl rfl (Nat.le_of_ble_eq_true rfl) (by decide) dSe_walk_26 (fun v w hq => ?_)
          obtain ⟨Ag2, Bi2, An2, fd2, lv2, rfl, rfl, hlow2, hbd2, hfd2, hlv2, hkp2⟩ := hq
          refine xz_ste (st' := []) rfl ?_
          refine xz_wss (ws' := [(se, .inr (3, [.ref rw, .int (nI rl), .int (nI wn), .int (nI pn), .ref pl, .ref ho, .ref ag, .ref bi, .ref an, .int (nI fd2), .int (nI lv2)])), (rw, .inl (K 0, 3, .inl Rw)), (pl, .inl (K 0, 12, .inl Pl)), (ho, .inl (K 1, 72, .inr (.inl Ho))), (ag, .inl (K 1, 16, .inr (.inl Ag2))), (bi, .inl (K 0, 3, .inl Bi2)), (an, .inl (K 0, 600, .inl An2))]) [0, 1, 2, 3, 4, 5, 6] (by decide) rfl rfl ?_
          refine xz_iinc hC 0 (lc' := [(2, .int (nI (T + 1))), (0, .ref se), (1, .int (nI d))]) rfl (xn_inc _) (by decide) rfl dSe_walk_29 ?_
          refine xz_goto hC (tgt := 15) (by decide) dSe_walk_32 ?_
          exact ihlp2 _ (by omega) (T + 1) Ag2 Bi2 An2 fd2 lv2 (by omega) (fun i hi => (hlow2 i hi).trans (hlow i hi)) hbd2 (by rw [hfd2, xr_up_succ, List.append_assoc]) (by rw [hlv2, hlv, xr_us_succ]; omega) (by rw [xr_up_succ, ← List.append_assoc]; exact hkp2) rfl
    exact lp2 _ 0 Ag Bi An fd lv (by omega) (fun i _ => rfl) hbd (by rw [show xr_up (xq_live q pn r (xo_mem g n)) (xr_lv (xq_live q pn r (xo_mem g n)) wn 2) ts 0 = [] from rfl, List.append_nil]; exact hfd) (by rfl) (by rw [show xr_up (xq_live q pn r (xo_mem g n)) (xr_lv (xq_live q pn r (xo_mem g n)) wn 2) ts 0 = [] from rfl, List.append_nil]; exact hkp) rfl
  · skip
    exfalso; omega
