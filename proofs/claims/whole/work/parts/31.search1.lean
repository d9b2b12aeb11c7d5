set_option maxHeartbeats 1000000 in
set_option maxRecDepth 100000 in
theorem mSe_lengthenRow (l : Launch) (D : va_G) (K : Nat → ClassId) (se rw pl ho ag bi an rl wn pn fd lv : Nat) (Rw : Nat → Int32) (x : Int32) (hrl : rl ≤ 3) : xz_Met l D (tz K) ySe_lengthenRow cSe_lengthenRow 2 none { frames := 1, cells := 0, slots := 0, locals := 20 } [.ref se, .int x] [(se, .inr (3, [.ref rw, .int (nI rl), .int (nI wn), .int (nI pn), .ref pl, .ref ho, .ref ag, .ref bi, .ref an, .int (nI fd), .int (nI lv)])), (rw, .inl (K 0, 3, .inl Rw))] (fun v w => (xq_ev x < 3 ∧ rl < 3 ∧ v = none ∧ w = [(se, .inr (3, [.ref rw, .int (nI (rl + 1)), .int (nI wn), .int (nI pn), .ref pl, .ref ho, .ref ag, .ref bi, .ref an, .int (nI fd), .int (nI lv)])), (rw, .inl (K 0, 3, .inl (upd Rw rl (nI (xq_ev x)))))]) ∨ (¬ (xq_ev x < 3 ∧ rl < 3) ∧ v = none ∧ w = [(se, .inr (3, [.ref rw, .int (nI rl), .int (nI wn), .int (nI pn), .ref pl, .ref ho, .ref ag, .ref bi, .ref an, .int (nI fd), .int (nI lv)])), (rw, .inl (K 0, 3, .inl Rw))])) := by
  refine xz_enter (by decide +kernel) (Nat.le_of_ble_eq_true rfl) ?_
  intro Γ hC
  refine xz_lcs (lc' := [(0, .ref se), (1, .int x)]) [0, 1] rfl ?_
  refine xz_iload_n hC 1 rfl rfl dSe_lengthenRow_0 ?_
  refine xz_callSN hC (mSx_isVariable l D K x) kSx_isVariable tq1 tq353 tq315 (b := 0) hSx_isVariable (by decide) [] [0, 1] (by decide) rfl (wr := [(se, .inr (3, [.ref rw, .int (nI rl), .int (nI wn), .int (nI pn), .ref pl, .ref ho, .ref ag, .ref bi, .ref an, .int (nI fd), .int (nI lv)])), (rw, .inl (K 0, 3, .inl Rw))]) rfl (by decide) (by decide) (As := [.int x]) (rest := []) rfl rfl (Nat.le_of_ble_eq_true rfl) (by decide) dSe_lengthenRow_1 (fun v w hq => ?_)
  obtain ⟨b, rfl, rfl, hb⟩ := hq
  refine xz_ste (st' := [.int (bI b)]) rfl ?_
  refine xz_wss (ws' := [(se, .inr (3, [.ref rw, .int (nI rl), .int (nI wn), .int (nI pn), .ref pl, .ref ho, .ref ag, .ref bi, .ref an, .int (nI fd), .int (nI lv)])), (rw, .inl (K 0, 3, .inl Rw))]) [0, 1] (by decide) rfl rfl ?_
  rw [← xq_ev3] at hb
  refine xz_ifb_eq hC (tgt := 38) (by decide) dSe_lengthenRow_4 (fun h1 => ?_) (fun h1 => ?_)
  · skip
    have hnv : ¬ xq_ev x < 3 := fun z => absurd (hb.mpr z) (by rw [h1]; decide)
    exact xz_return hC (by decide) (by decide) (by first | exact Or.inl ⟨hv, by omega, rfl, rfl⟩ | exact Or.inr ⟨by omega, rfl, rfl⟩) dSe_lengthenRow_38
  · skip
    have hv : xq_ev x < 3 := hb.mp h1
    have hv2 := xq_ev3.mp hv
    refine xz_aload_n hC 0 rfl rfl dSe_lengthenRow_7 ?_
    refine xz_get hC 0 rfl rfl 1 (by decide) inSe tq114 rfl rfl dSe_lengthenRow_8 ?_
    refine xz_iconst hC (v := nI 3) (by decide +kernel) dSe_lengthenRow_11 ?_
    refine xz_icmp_ge hC (tgt := 38) (nI_toInt (by omega)) (nI_toInt (by omega)) (by decide) dSe_lengthenRow_12 (fun h2 => ?_) (fun h2 => ?_)
    · skip
      exact xz_return hC (by decide) (by decide) (by first | exact Or.inl ⟨hv, by omega, rfl, rfl⟩ | exact Or.inr ⟨by omega, rfl, rfl⟩) dSe_lengthenRow_38
    · skip
      obtain ⟨t, ht, rfl⟩ := xn_of (x := x) (n := 35) (by omega) (by omega)
      have htt : (nI t).toInt = (t : Int) := nI_toInt (by omega)
      refine xz_aload_n hC 0 rfl rfl dSe_lengthenRow_15 ?_
      refine xz_get hC 0 rfl rfl 0 (by decide) inSe tq113 rfl rfl dSe_lengthenRow_16 ?_
      refine xz_aload_n hC 0 rfl rfl dSe_lengthenRow_19 ?_
      refine xz_get hC 0 rfl rfl 1 (by decide) inSe tq114 rfl rfl dSe_lengthenRow_20 ?_
      refine xz_iload_n hC 1 rfl rfl dSe_lengthenRow_23 ?_
      refine xz_bipush hC (v := nI 32) (by decide +kernel) dSe_lengthenRow_24 ?_
      refine xz_isub hC (z := nI (xq_ev (nI t))) ((pk_sub (by omega)).trans (congrArg nI (xq_ev_t (by omega) ht))) dSe_lengthenRow_26 ?_
      refine xz_iastore hC 1 0 (ws' := [(se, .inr (3, [.ref rw, .int (nI rl), .int (nI wn), .int (nI pn), .ref pl, .ref ho, .ref ag, .ref bi, .ref an, .int (nI fd), .int (nI lv)])), (rw, .inl (K 0, 3, .inl (upd Rw rl (nI (xq_ev (nI t))))))]) rfl rfl (by omega) (by decide) rfl dSe_lengthenRow_27 ?_
      refine xz_aload_n hC 0 rfl rfl dSe_lengthenRow_28 ?_
      refine xz_dup hC rfl dSe_lengthenRow_29 ?_
      refine xz_get hC 0 rfl rfl 1 (by decide) inSe tq114 rfl rfl dSe_lengthenRow_30 ?_
      refine xz_iconst hC (v := nI 1) (by decide +kernel) dSe_lengthenRow_33 ?_
      refine xz_iadd hC (z := nI (rl + 1)) (nI_add _ _) dSe_lengthenRow_34 ?_
      refine xz_put hC 0 rfl rfl 1 (by decide) inSe tq114 rfl tySe tySe_ok nmSe rfl rfl rfl (Nat.le_of_ble_eq_true rfl) (ws' := [(se, .inr (3, [.ref rw, .int (nI (rl + 1)), .int (nI wn), .int (nI pn), .ref pl, .ref ho, .ref ag, .ref bi, .ref an, .int (nI fd), .int (nI lv)])), (rw, .inl (K 0, 3, .inl (upd Rw rl (nI (xq_ev (nI t))))))]) rfl dSe_lengthenRow_35 ?_
      exact xz_return hC (by decide) (by decide) (by first | exact Or.inl ⟨hv, by omega, rfl, rfl⟩ | exact Or.inr ⟨by omega, rfl, rfl⟩) dSe_lengthenRow_38
set_option maxHeartbeats 1000000 in
set_option maxRecDepth 100000 in
theorem mSe_begin (l : Launch) (D : va_G) (K : Nat → ClassId) (se rw pl ho ag bi an rl wn pn fd lv : Nat) (Rw Bi : Nat → Int32) (x y z : Int32) (d : Nat) (hx : (0 < d ∧ xq_ev x < 3) ∨ (d = 0 ∧ ¬ xq_ev x < 3)) (hy : (1 < d ∧ xq_ev y < 3) ∨ (d ≤ 1 ∧ ¬ xq_ev y < 3)) (hz : (d = 3 ∧ xq_ev z < 3) ∨ (d ≤ 2 ∧ ¬ xq_ev z < 3)) : xz_Met l D (tz K) ySe_begin cSe_begin 5 none { frames := 2, cells := 0, slots := 0, locals := 41 } [.ref se, .int x, .int y, .int z] [(se, .inr (3, [.ref rw, .int (nI rl), .int (nI wn), .int (nI pn), .ref pl, .ref ho, .ref ag, .ref bi, .ref an, .int (nI fd), .int (nI lv)])), (rw, .inl (K 0, 3, .inl Rw)), (bi, .inl (K 0, 3, .inl Bi))] (fun v w => ∃ Rw' Bi' : Nat → Int32, v = none ∧ w = [(se, .inr (3, [.ref rw, .int (nI d), .int (nI wn), .int (nI pn), .ref pl, .ref ho, .ref ag, .ref bi, .ref an, .int (nI 0), .int (nI 0)])), (rw, .inl (K 0, 3, .inl Rw')), (bi, .inl (K 0, 3, .inl Bi'))] ∧ (0 < d → Rw' 0 = nI (xq_ev x)) ∧ (1 < d → Rw' 1 = nI (xq_ev y)) ∧ (2 < d → Rw' 2 = nI (xq_ev z)) ∧ ∀ v, v < 3 → Bi' v = -1) := by
  refine xz_enter (by decide +kernel) (Nat.le_of_ble_eq_true rfl) ?_
  intro Γ hC
  refine xz_lcs (lc' := [(0, .ref se), (1, .int x), (2, .int y), (3, .int z)]) [0, 1, 2, 3] rfl ?_
  refine xz_aload_n hC 0 rfl rfl dSe_begin_0 ?_
  refine xz_iconst hC (v := nI 0) (by decide +kernel) dSe_begin_1 ?_
  refine xz_put hC 0 rfl rfl 1 (by decide) inSe tq114 rfl tySe tySe_ok nmSe rfl rfl rfl (Nat.le_of_ble_eq_true rfl) (ws' := [(se, .inr (3, [.ref rw, .int (nI 0), .int (nI wn), .int (nI pn), .ref pl, .ref ho, .ref ag, .ref bi, .ref an, .int (nI fd), .int (nI lv)])), (rw, .inl (K 0, 3, .inl Rw)), (bi, .inl (K 0, 3, .inl Bi))]) rfl dSe_begin_2 ?_
  refine xz_aload_n hC 0 rfl rfl dSe_begin_5 ?_
  refine xz_iload_n hC 1 rfl rfl dSe_begin_6 ?_
  refine xz_callV hC (mSe_lengthenRow l D K se rw pl ho ag bi an 0 wn pn fd lv (Rw) x (by decide)) kSe_lengthenRow tq6 tq349 tq351 tp7 0 3 rfl rfl rfl (host := "") hSe_lengthenRow (by decide) [0, 1] [2] (by decide) rfl (wr := [(bi, .inl (K 0, 3, .inl Bi))]) rfl (by decide) (by decide) (As := [.int x]) (rest := []) rfl rfl (Nat.le_of_ble_eq_true rfl) (by decide) dSe_begin_7 (fun v w hq => ?_)
  rcases hq with ⟨hcx, hrx, rfl, rfl⟩ | ⟨hcx, rfl, rfl⟩
  · skip
    refine xz_ste (st' := []) rfl ?_
    refine xz_wss (ws' := [(se, .inr (3, [.ref rw, .int (nI 1), .int (nI wn), .int (nI pn), .ref pl, .ref ho, .ref ag, .ref bi, .ref an, .int (nI fd), .int (nI lv)])), (rw, .inl (K 0, 3, .inl (upd (Rw) 0 (nI (xq_ev x))))), (bi, .inl (K 0, 3, .inl Bi))]) [1, 2, 0] (by decide) rfl rfl ?_
    refine xz_aload_n hC 0 rfl rfl dSe_begin_10 ?_
    refine xz_iload_n hC 2 rfl rfl dSe_begin_11 ?_
    refine xz_callV hC (mSe_lengthenRow l D K se rw pl ho ag bi an 1 wn pn fd lv (upd (Rw) 0 (nI (xq_ev x))) y (by decide)) kSe_lengthenRow tq6 tq349 tq351 tp7 0 3 rfl rfl rfl (host := "") hSe_lengthenRow (by decide) [0, 1] [2] (by decide) rfl (wr := [(bi, .inl (K 0, 3, .inl Bi))]) rfl (by decide) (by decide) (As := [.int y]) (rest := []) rfl rfl (Nat.le_of_ble_eq_true rfl) (by decide) dSe_begin_12 (fun v w hq => ?_)
    rcases hq with ⟨hcy, hry, rfl, rfl⟩ | ⟨hcy, rfl, rfl⟩
    · skip
      refine xz_ste (st' := []) rfl ?_
      refine xz_wss (ws' := [(se, .inr (3, [.ref rw, .int (nI 2), .int (nI wn), .int (nI pn), .ref pl, .ref ho, .ref ag, .ref bi, .ref an, .int (nI fd), .int (nI lv)])), (rw, .inl (K 0, 3, .inl (upd (upd (Rw) 0 (nI (xq_ev x))) 1 (nI (xq_ev y))))), (bi, .inl (K 0, 3, .inl Bi))]) [1, 2, 0] (by decide) rfl rfl ?_
      refine xz_aload_n hC 0 rfl rfl dSe_begin_15 ?_
      refine xz_iload_n hC 3 rfl rfl dSe_begin_16 ?_
      refine xz_callV hC (mSe_lengthenRow l D K se rw pl ho ag bi an 2 wn pn fd lv (upd (upd (Rw) 0 (nI (xq_ev x))) 1 (nI (xq_ev y))) z (by decide)) kSe_lengthenRow tq6 tq349 tq351 tp7 0 3 rfl rfl rfl (host := "") hSe_lengthenRow (by decide) [0, 1] [2] (by decide) rfl (wr := [(bi, .inl (K 0, 3, .inl Bi))]) rfl (by decide) (by decide) (As := [.int z]) (rest := []) rfl rfl (Nat.le_of_ble_eq_true rfl) (by decide) dSe_begin_17 (fun v w hq => ?_)
      rcases hq with ⟨hcz, hrz, rfl, rfl⟩ | ⟨hcz, rfl, rfl⟩
      · skip
        refine xz_ste (st' := []) rfl ?_
        refine xz_wss (ws' := [(se, .inr (3, [.ref rw, .int (nI 3), .int (nI wn), .int (nI pn), .ref pl, .ref ho, .ref ag, .ref bi, .ref an, .int (nI fd), .int (nI lv)])), (rw, .inl (K 0, 3, .inl (upd (upd (upd (Rw) 0 (nI (xq_ev x))) 1 (nI (xq_ev y))) 2 (nI (xq_ev z))))), (bi, .inl (K 0, 3, .inl Bi))]) [1, 2, 0] (by decide) rfl rfl ?_
        obtain rfl : d = 3 := by omega
        refine xz_iconst hC (v := nI 0) (by decide +kernel) dSe_begin_20 ?_
        refine xz_istore hC (lc' := [(4, .int (nI 0)), (0, .ref se), (1, .int x), (2, .int y), (3, .int z)]) (by decide) rfl dSe_begin_21 ?_
        refine xz_iload hC 0 rfl dSe_begin_23 ?_
        refine xz_iconst hC (v := nI 3) (by decide +kernel) dSe_begin_25 ?_
        refine xz_icmp_ge hC (tgt := 43) (nI_toInt (by omega)) (nI_toInt (by omega)) (by decide) dSe_begin_26 (fun h1 => ?_) (fun h1 => ?_)
        · skip
          exfalso; omega
        · skip
          refine xz_aload_n hC 1 rfl rfl dSe_begin_29 ?_
          refine xz_get hC 0 rfl rfl 7 (by decide) inSe tq120 rfl rfl dSe_begin_30 ?_
          refine xz_iload hC 0 rfl dSe_begin_33 ?_
          refine xz_iconst hC (v := (-1)) (by decide +kernel) dSe_begin_35 ?_
          refine xz_iastore hC 2 0 (ws' := [(se, .inr (3, [.ref rw, .int (nI 3), .int (nI wn), .int (nI pn), .ref pl, .ref ho, .ref ag, .ref bi, .ref an, .int (nI fd), .int (nI lv)])), (rw, .inl (K 0, 3, .inl (upd (upd (upd (Rw) 0 (nI (xq_ev x))) 1 (nI (xq_ev y))) 2 (nI (xq_ev z))))), (bi, .inl (K 0, 3, .inl (upd Bi 0 (-1))))]) rfl rfl (by omega) (by decide) rfl dSe_begin_36 ?_
          refine xz_iinc hC 0 (lc' := [(4, .int (nI 1)), (0, .ref se), (1, .int x), (2, .int y), (3, .int z)]) rfl (xn_inc _) (by decide) rfl dSe_begin_37 ?_
          refine xz_goto hC (tgt := 23) (by decide) dSe_begin_40 ?_
          refine xz_iload hC 0 rfl dSe_begin_23 ?_
          refine xz_iconst hC (v := nI 3) (by decide +kernel) dSe_begin_25 ?_
          refine xz_icmp_ge hC (tgt := 43) (nI_toInt (by omega)) (nI_toInt (by omega)) (by decide) dSe_begin_26 (fun h2 => ?_) (fun h2 => ?_)
          · skip
            exfalso; omega
          · skip
            refine xz_aload_n hC 1 rfl rfl dSe_begin_29 ?_
            refine xz_get hC 0 rfl rfl 7 (by decide) inSe tq120 rfl rfl dSe_begin_30 ?_
            refine xz_iload hC 0 rfl dSe_begin_33 ?_
            refine xz_iconst hC (v := (-1)) (by decide +kernel) dSe_begin_35 ?_
            refine xz_iastore hC 2 0 (ws' := [(se, .inr (3, [.ref rw, .int (nI 3), .int (nI wn), .int (nI pn), .ref pl, .ref ho, .ref ag, .ref bi, .ref an, .int (nI fd), .int (nI lv)])), (rw, .inl (K 0, 3, .inl (upd (upd (upd (Rw) 0 (nI (xq_ev x))) 1 (nI (xq_ev y))) 2 (nI (xq_ev z))))), (bi, .inl (K 0, 3, .inl (upd (upd Bi 0 (-1)) 1 (-1))))]) rfl rfl (by omega) (by decide) rfl dSe_begin_36 ?_
            refine xz_iinc hC 0 (lc' := [(4, .int (nI 2)), (0, .ref se), (1, .int x), (2, .int y), (3, .int z)]) rfl (xn_inc _) (by decide) rfl dSe_begin_37 ?_
            refine xz_goto hC (tgt := 23) (by decide) dSe_begin_40 ?_
            refine xz_iload hC 0 rfl dSe_begin_23 ?_
            refine xz_iconst hC (v := nI 3) (by decide +kernel) dSe_begin_25 ?_
            refine xz_icmp_ge hC (tgt := 43) (nI_toInt (by omega)) (nI_toInt (by omega)) (by decide) dSe_begin_26 (fun h3 => ?_) (fun h3 => ?_)
            · skip
              exfalso; omega
            · skip
              refine xz_aload_n hC 1 rfl rfl dSe_begin_29 ?_
              refine xz_get hC 0 rfl rfl 7 (by decide) inSe tq120 rfl rfl dSe_begin_30 ?_
              refine xz_iload hC 0 rfl dSe_begin_33 ?_
              refine xz_iconst hC (v := (-1)) (by decide +kernel) dSe_begin_35 ?_
              refine xz_iastore hC 2 0 (ws' := [(se, .inr (3, [.ref rw, .int (nI 3), .int (nI wn), .int (nI pn), .ref pl, .ref ho, .ref ag, .ref bi, .ref an, .int (nI fd), .int (nI lv)])), (rw, .inl (K 0, 3, .inl (upd (upd (upd (Rw) 0 (nI (xq_ev x))) 1 (nI (xq_ev y))) 2 (nI (xq_ev z))))), (bi, .inl (K 0, 3, .inl (upd (upd (upd Bi 0 (-1)) 1 (-1)) 2 (-1))))]) rfl rfl (by omega) (by decide) rfl dSe_begin_36 ?_
              refine xz_iinc hC 0 (lc' := [(4, .int (nI 3)), (0, .ref se), (1, .int x), (2, .int y), (3, .int z)]) rfl (xn_inc _) (by decide) rfl dSe_begin_37 ?_
              refine xz_goto hC (tgt := 23) (by decide) dSe_begin_40 ?_
              refine xz_iload hC 0 rfl dSe_begin_23 ?_
              refine xz_iconst hC (v := nI 3) (by decide +kernel) dSe_begin_25 ?_
              refine xz_icmp_ge hC (tgt := 43) (nI_toInt (by omega)) (nI_toInt (by omega)) (by decide) dSe_begin_26 (fun h4 => ?_) (fun h4 => ?_)
              · skip
                refine xz_aload_n hC 1 rfl rfl dSe_begin_43 ?_
                refine xz_iconst hC (v := nI 0) (by decide +kernel) dSe_begin_44 ?_
                refine xz_put hC 0 rfl rfl 9 (by decide) inSe tq122 rfl tySe tySe_ok nmSe rfl rfl rfl (Nat.le_of_ble_eq_true rfl) (ws' := [(se, .inr (3, [.ref rw, .int (nI 3), .int (nI wn), .int (nI pn), .ref pl, .ref ho, .ref ag, .ref bi, .ref an, .int (nI 0), .int (nI lv)])), (rw, .inl (K 0, 3, .inl (upd (upd (upd (Rw) 0 (nI (xq_ev x))) 1 (nI (xq_ev y))) 2 (nI (xq_ev z))))), (bi, .inl (K 0, 3, .inl (upd (upd (upd Bi 0 (-1)) 1 (-1)) 2 (-1))))]) rfl dSe_begin_45 ?_
                refine xz_aload_n hC 1 rfl rfl dSe_begin_48 ?_
                refine xz_iconst hC (v := nI 0) (by decide +kernel) dSe_begin_49 ?_
                refine xz_put hC 0 rfl rfl 10 (by decide) inSe tq124 rfl tySe tySe_ok nmSe rfl rfl rfl (Nat.le_of_ble_eq_true rfl) (ws' := [(se, .inr (3, [.ref rw, .int (nI 3), .int (nI wn), .int (nI pn), .ref pl, .ref ho, .ref ag, .ref bi, .ref an, .int (nI 0), .int (nI 0)])), (rw, .inl (K 0, 3, .inl (upd (upd (upd (Rw) 0 (nI (xq_ev x))) 1 (nI (xq_ev y))) 2 (nI (xq_ev z))))), (bi, .inl (K 0, 3, .inl (upd (upd (upd Bi 0 (-1)) 1 (-1)) 2 (-1))))]) rfl dSe_begin_50 ?_
                exact xz_return hC (by decide) (by decide) (⟨_, _, rfl, rfl, fun h => by first | rfl | exact absurd h (by decide), fun h => by first | rfl | exact absurd h (by decide), fun h => by first | rfl | exact absurd h (by decide), fun v hv => by rcases (show v = 0 ∨ v = 1 ∨ v = 2 by omega) with rfl | rfl | rfl <;> rfl⟩) dSe_begin_53
              · skip
                exfalso; omega
      · skip
        refine xz_ste (st' := []) rfl ?_
        refine xz_wss (ws' := [(se, .inr (3, [.ref rw, .int (nI 2), .int (nI wn), .int (nI pn), .ref pl, .ref ho, .ref ag, .ref bi, .ref an, .int (nI fd), .int (nI lv)])), (rw, .inl (K 0, 3, .inl (upd (upd (Rw) 0 (nI (xq_ev x))) 1 (nI (xq_ev y))))), (bi, .inl (K 0, 3, .inl Bi))]) [1, 2, 0] (by decide) rfl rfl ?_
        obtain rfl : d = 2 := by omega
        refine xz_iconst hC (v := nI 0) (by decide +kernel) dSe_begin_20 ?_
        refine xz_istore hC (lc' := [(4, .int (nI 0)), (0, .ref se), (1, .int x), (2, .int y), (3, .int z)]) (by decide) rfl dSe_begin_21 ?_
        refine xz_iload hC 0 rfl dSe_begin_23 ?_
        refine xz_iconst hC (v := nI 3) (by decide +kernel) dSe_begin_25 ?_
        refine xz_icmp_ge hC (tgt := 43) (nI_toInt (by omega)) (nI_toInt (by omega)) (by decide) dSe_begin_26 (fun h5 => ?_) (fun h5 => ?_)
        · skip
          exfalso; omega
        · skip
          refine xz_aload_n hC 1 rfl rfl dSe_begin_29 ?_
          refine xz_get hC 0 rfl rfl 7 (by decide) inSe tq120 rfl rfl dSe_begin_30 ?_
          refine xz_iload hC 0 rfl dSe_begin_33 ?_
          refine xz_iconst hC (v := (-1)) (by decide +kernel) dSe_begin_35 ?_
          refine xz_iastore hC 2 0 (ws' := [(se, .inr (3, [.ref rw, .int (nI 2), .int (nI wn), .int (nI pn), .ref pl, .ref ho, .ref ag, .ref bi, .ref an, .int (nI fd), .int (nI lv)])), (rw, .inl (K 0, 3, .inl (upd (upd (Rw) 0 (nI (xq_ev x))) 1 (nI (xq_ev y))))), (bi, .inl (K 0, 3, .inl (upd Bi 0 (-1))))]) rfl rfl (by omega) (by decide) rfl dSe_begin_36 ?_
          refine xz_iinc hC 0 (lc' := [(4, .int (nI 1)), (0, .ref se), (1, .int x), (2, .int y), (3, .int z)]) rfl (xn_inc _) (by decide) rfl dSe_begin_37 ?_
          refine xz_goto hC (tgt := 23) (by decide) dSe_begin_40 ?_
          refine xz_iload hC 0 rfl dSe_begin_23 ?_
          refine xz_iconst hC (v := nI 3) (by decide +kernel) dSe_begin_25 ?_
          refine xz_icmp_ge hC (tgt := 43) (nI_toInt (by omega)) (nI_toInt (by omega)) (by decide) dSe_begin_26 (fun h6 => ?_) (fun h6 => ?_)
          · skip
            exfalso; omega
          · skip
            refine xz_aload_n hC 1 rfl rfl dSe_begin_29 ?_
            refine xz_get hC 0 rfl rfl 7 (by decide) inSe tq120 rfl rfl dSe_begin_30 ?_
            refine xz_iload hC 0 rfl dSe_begin_33 ?_
            refine xz_iconst hC (v := (-1)) (by decide +kernel) dSe_begin_35 ?_
            refine xz_iastore hC 2 0 (ws' := [(se, .inr (3, [.ref rw, .int (nI 2), .int (nI wn), .int (nI pn), .ref pl, .ref ho, .ref ag, .ref bi, .ref an, .int (nI fd), .int (nI lv)])), (rw, .inl (K 0, 3, .inl (upd (upd (Rw) 0 (nI (xq_ev x))) 1 (nI (xq_ev y))))), (bi, .inl (K 0, 3, .inl (upd (upd Bi 0 (-1)) 1 (-1))))]) rfl rfl (by omega) (by decide) rfl dSe_begin_36 ?_
            refine xz_iinc hC 0 (lc' := [(4, .int (nI 2)), (0, .ref se), (1, .int x), (2, .int y), (3, .int z)]) rfl (xn_inc _) (by decide) rfl dSe_begin_37 ?_
            refine xz_goto hC (tgt := 23) (by decide) dSe_begin_40 ?_
            refine xz_iload hC 0 rfl dSe_begin_23 ?_
            refine xz_iconst hC (v := nI 3) (by decide +kernel) dSe_begin_25 ?_
            refine xz_icmp_ge hC (tgt := 43) (nI_toInt (by omega)) (nI_toInt (by omega)) (by decide) dSe_begin_26 (fun h7 => ?_) (fun h7 => ?_)
            · skip
              exfalso; omega
            · skip
              refine xz_aload_n hC 1 rfl rfl dSe_begin_29 ?_
              refine xz_get hC 0 rfl rfl 7 (by decide) inSe tq120 rfl rfl dSe_begin_30 ?_
              refine xz_iload hC 0 rfl dSe_begin_33 ?_
              refine xz_iconst hC (v := (-1)) (by decide +kernel) dSe_begin_35 ?_
              refine xz_iastore hC 2 0 (ws' := [(se, .inr (3, [.ref rw, .int (nI 2), .int (nI wn), .int (nI pn), .ref pl, .ref ho, .ref ag, .ref bi, .ref an, .int (nI fd), .int (nI lv)])), (rw, .inl (K 0, 3, .inl (upd (upd (Rw) 0 (nI (xq_ev x))) 1 (nI (xq_ev y))))), (bi, .inl (K 0, 3, .inl (upd (upd (upd Bi 0 (-1)) 1 (-1)) 2 (-1))))]) rfl rfl (by omega) (by decide) rfl dSe_begin_36 ?_
              refine xz_iinc hC 0 (lc' := [(4, .int (nI 3)), (0, .ref se), (1, .int x), (2, .int y), (3, .int z)]) rfl (xn_inc _) (by decide) rfl dSe_begin_37 ?_
              refine xz_goto hC (tgt := 23) (by decide) dSe_begin_40 ?_
              refine xz_iload hC 0 rfl dSe_begin_23 ?_
              refine xz_iconst hC (v := nI 3) (by decide +kernel) dSe_begin_25 ?_
              refine xz_icmp_ge hC (tgt := 43) (nI_toInt (by omega)) (nI_toInt (by omega)) (by decide) dSe_begin_26 (fun h8 => ?_) (fun h8 => ?_)
              · skip
                refine xz_aload_n hC 1 rfl rfl dSe_begin_43 ?_
                refine xz_iconst hC (v := nI 0) (by decide +kernel) dSe_begin_44 ?_
                refine xz_put hC 0 rfl rfl 9 (by decide) inSe tq122 rfl tySe tySe_ok nmSe rfl rfl rfl (Nat.le_of_ble_eq_true rfl) (ws' := [(se, .inr (3, [.ref rw, .int (nI 2), .int (nI wn), .int (nI pn), .ref pl, .ref ho, .ref ag, .ref bi, .ref an, .int (nI 0), .int (nI lv)])), (rw, .inl (K 0, 3, .inl (upd (upd (Rw) 0 (nI (xq_ev x))) 1 (nI (xq_ev y))))), (bi, .inl (K 0, 3, .inl (upd (upd (upd Bi 0 (-1)) 1 (-1)) 2 (-1))))]) rfl dSe_begin_45 ?_
                refine xz_aload_n hC 1 rfl rfl dSe_begin_48 ?_
                refine xz_iconst hC (v := nI 0) (by decide +kernel) dSe_begin_49 ?_
                refine xz_put hC 0 rfl rfl 10 (by decide) inSe tq124 rfl tySe tySe_ok nmSe rfl rfl rfl (Nat.le_of_ble_eq_true rfl) (ws' := [(se, .inr (3, [.ref rw, .int (nI 2), .int (nI wn), .int (nI pn), .ref pl, .ref ho, .ref ag, .ref bi, .ref an, .int (nI 0), .int (nI 0)])), (rw, .inl (K 0, 3, .inl (upd (upd (Rw) 0 (nI (xq_ev x))) 1 (nI (xq_ev y))))), (bi, .inl (K 0, 3, .inl (upd (upd (upd Bi 0 (-1)) 1 (-1)) 2 (-1))))]) rfl dSe_begin_50 ?_
                exact xz_return hC (by decide) (by decide) (⟨_, _, rfl, rfl, fun h => by first | rfl | exact absurd h (by decide), fun h => by first | rfl | exact absurd h (by decide), fun h => by first | rfl | exact absurd h (by decide), fun v hv => by rcases (show v = 0 ∨ v = 1 ∨ v = 2 by omega) with rfl | rfl | rfl <;> rfl⟩) dSe_begin_53
              · skip
                exfalso; omega
    · skip
      refine xz_ste (st' := []) rfl ?_
      refine xz_wss (ws' := [(se, .inr (3, [.ref rw, .int (nI 1), .int (nI wn), .int (nI pn), .ref pl, .ref ho, .ref ag, .ref bi, .ref an, .int (nI fd), .int (nI lv)])), (rw, .inl (K 0, 3, .inl (upd (Rw) 0 (nI (xq_ev x))))), (bi, .inl (K 0, 3, .inl Bi))]) [1, 2, 0] (by decide) rfl rfl ?_
      refine xz_aload_n hC 0 rfl rfl dSe_begin_15 ?_
      refine xz_iload_n hC 3 rfl rfl dSe_begin_16 ?_
      refine xz_callV hC (mSe_lengthenRow l D K se rw pl ho ag bi an 1 wn pn fd lv (upd (Rw) 0 (nI (xq_ev x))) z (by decide)) kSe_lengthenRow tq6 tq349 tq351 tp7 0 3 rfl rfl rfl (host := "") hSe_lengthenRow (by decide) [0, 1] [2] (by decide) rfl (wr := [(bi, .inl (K 0, 3, .inl Bi))]) rfl (by decide) (by decide) (As := [.int z]) (rest := []) rfl rfl (Nat.le_of_ble_eq_true rfl) (by decide) dSe_begin_17 (fun v w hq => ?_)
      rcases hq with ⟨hcz, hrz, rfl, rfl⟩ | ⟨hcz, rfl, rfl⟩
      · skip
        refine xz_ste (st' := []) rfl ?_
        refine xz_wss (ws' := [(se, .inr (3, [.ref rw, .int (nI 2), .int (nI wn), .int (nI pn), .ref pl, .ref ho, .ref ag, .ref bi, .ref an, .int (nI fd), .int (nI lv)])), (rw, .inl (K 0, 3, .inl (upd (upd (Rw) 0 (nI (xq_ev x))) 1 (nI (xq_ev z))))), (bi, .inl (K 0, 3, .inl Bi))]) [1, 2, 0] (by decide) rfl rfl ?_
        exfalso; omega
      · skip
        refine xz_ste (st' := []) rfl ?_
        refine xz_wss (ws' := [(se, .inr (3, [.ref rw, .int (nI 1), .int (nI wn), .int (nI pn), .ref pl, .ref ho, .ref ag, .ref bi, .ref an, .int (nI fd), .int (nI lv)])), (rw, .inl (K 0, 3, .inl (upd (Rw) 0 (nI (xq_ev x))))), (bi, .inl (K 0, 3, .inl Bi))]) [1, 2, 0] (by decide) rfl rfl ?_
        obtain rfl : d = 1 := by omega
        refine xz_iconst hC (v := nI 0) (by decide +kernel) dSe_begin_20 ?_
        refine xz_istore hC (lc' := [(4, .int (nI 0)), (0, .ref se), (1, .int x), (2, .int y), (3, .int z)]) (by decide) rfl dSe_begin_21 ?_
        refine xz_iload hC 0 rfl dSe_begin_23 ?_
        refine xz_iconst hC (v := nI 3) (by decide +kernel) dSe_begin_25 ?_
        refine xz_icmp_ge hC (tgt := 43) (nI_toInt (by omega)) (nI_toInt (by omega)) (by decide) dSe_begin_26 (fun h9 => ?_) (fun h9 => ?_)
        · skip
          exfalso; omega
        · skip
          refine xz_aload_n hC 1 rfl rfl dSe_begin_29 ?_
          refine xz_get hC 0 rfl rfl 7 (by decide) inSe tq120 rfl rfl dSe_begin_30 ?_
          refine xz_iload hC 0 rfl dSe_begin_33 ?_
          refine xz_iconst hC (v := (-1)) (by decide +kernel) dSe_begin_35 ?_
          refine xz_iastore hC 2 0 (ws' := [(se, .inr (3, [.ref rw, .int (nI 1), .int (nI wn), .int (nI pn), .ref pl, .ref ho, .ref ag, .ref bi, .ref an, .int (nI fd), .int (nI lv)])), (rw, .inl (K 0, 3, .inl (upd (Rw) 0 (nI (xq_ev x))))), (bi, .inl (K 0, 3, .inl (upd Bi 0 (-1))))]) rfl rfl (by omega) (by decide) rfl dSe_begin_36 ?_
          refine xz_iinc hC 0 (lc' := [(4, .int (nI 1)), (0, .ref se), (1, .int x), (2, .int y), (3, .int z)]) rfl (xn_inc _) (by decide) rfl dSe_begin_37 ?_
          refine xz_goto hC (tgt := 23) (by decide) dSe_begin_40 ?_
          refine xz_iload hC 0 rfl dSe_begin_23 ?_
          refine xz_iconst hC (v := nI 3) (by decide +kernel) dSe_begin_25 ?_
          refine xz_icmp_ge hC (tgt := 43) (nI_toInt (by omega)) (nI_toInt (by omega)) (by decide) dSe_begin_26 (fun h10 => ?_) (fun h10 => ?_)
          · skip
            exfalso; omega
          · skip
            refine xz_aload_n hC 1 rfl rfl dSe_begin_29 ?_
            refine xz_get hC 0 rfl rfl 7 (by decide) inSe tq120 rfl rfl dSe_begin_30 ?_
            refine xz_iload hC 0 rfl dSe_begin_33 ?_
            refine xz_iconst hC (v := (-1)) (by decide +kernel) dSe_begin_35 ?_
            refine xz_iastore hC 2 0 (ws' := [(se, .inr (3, [.ref rw, .int (nI 1), .int (nI wn), .int (nI pn), .ref pl, .ref ho, .ref ag, .ref bi, .ref an, .int (nI fd), .int (nI lv)])), (rw, .inl (K 0, 3, .inl (upd (Rw) 0 (nI (xq_ev x))))), (bi, .inl (K 0, 3, .inl (upd (upd Bi 0 (-1)) 1 (-1))))]) rfl rfl (by omega) (by decide) rfl dSe_begin_36 ?_
            refine xz_iinc hC 0 (lc' := [(4, .int (nI 2)), (0, .ref se), (1, .int x), (2, .int y), (3, .int z)]) rfl (xn_inc _) (by decide) rfl dSe_begin_37 ?_
            refine xz_goto hC (tgt := 23) (by decide) dSe_begin_40 ?_
            refine xz_iload hC 0 rfl dSe_begin_23 ?_
            refine xz_iconst hC (v := nI 3) (by decide +kernel) dSe_begin_25 ?_
            refine xz_icmp_ge hC (tgt := 43) (nI_toInt (by omega)) (nI_toInt (by omega)) (by decide) dSe_begin_26 (fun h11 => ?_) (fun h11 => ?_)
            · skip
              exfalso; omega
            · skip
              refine xz_aload_n hC 1 rfl rfl dSe_begin_29 ?_
              refine xz_get hC 0 rfl rfl 7 (by decide) inSe tq120 rfl rfl dSe_begin_30 ?_
              refine xz_iload hC 0 rfl dSe_begin_33 ?_
              refine xz_iconst hC (v := (-1)) (by decide +kernel) dSe_begin_35 ?_
              refine xz_iastore hC 2 0 (ws' := [(se, .inr (3, [.ref rw, .int (nI 1), .int (nI wn), .int (nI pn), .ref pl, .ref ho, .ref ag, .ref bi, .ref an, .int (nI fd), .int (nI lv)])), (rw, .inl (K 0, 3, .inl (upd (Rw) 0 (nI (xq_ev x))))), (bi, .inl (K 0, 3, .inl (upd (upd (upd Bi 0 (-1)) 1 (-1)) 2 (-1))))]) rfl rfl (by omega) (by decide) rfl dSe_begin_36 ?_
              refine xz_iinc hC 0 (lc' := [(4, .int (nI 3)), (0, .ref se), (1, .int x), (2, .int y), (3, .int z)]) rfl (xn_inc _) (by decide) rfl dSe_begin_37 ?_
              refine xz_goto hC (tgt := 23) (by decide) dSe_begin_40 ?_
              refine xz_iload hC 0 rfl dSe_begin_23 ?_
              refine xz_iconst hC (v := nI 3) (by decide +kernel) dSe_begin_25 ?_
              refine xz_icmp_ge hC (tgt := 43) (nI_toInt (by omega)) (nI_toInt (by omega)) (by decide) dSe_begin_26 (fun h12 => ?_) (fun h12 => ?_)
              · skip
                refine xz_aload_n hC 1 rfl rfl dSe_begin_43 ?_
                refine xz_iconst hC (v := nI 0) (by decide +kernel) dSe_begin_44 ?_
                refine xz_put hC 0 rfl rfl 9 (by decide) inSe tq122 rfl tySe tySe_ok nmSe rfl rfl rfl (Nat.le_of_ble_eq_true rfl) (ws' := [(se, .inr (3, [.ref rw, .int (nI 1), .int (nI wn), .int (nI pn), .ref pl, .ref ho, .ref ag, .ref bi, .ref an, .int (nI 0), .int (nI lv)])), (rw, .inl (K 0, 3, .inl (upd (Rw) 0 (nI (xq_ev x))))), (bi, .inl (K 0, 3, .inl (upd (upd (upd Bi 0 (-1)) 1 (-1)) 2 (-1))))]) rfl dSe_begin_45 ?_
                refine xz_aload_n hC 1 rfl rfl dSe_begin_48 ?_
                refine xz_iconst hC (v := nI 0) (by decide +kernel) dSe_begin_49 ?_
                refine xz_put hC 0 rfl rfl 10 (by decide) inSe tq124 rfl tySe tySe_ok nmSe rfl rfl rfl (Nat.le_of_ble_eq_true rfl) (ws' := [(se, .inr (3, [.ref rw, .int (nI 1), .int (nI wn), .int (nI pn), .ref pl, .ref ho, .ref ag, .ref bi, .ref an, .int (nI 0), .int (nI 0)])), (rw, .inl (K 0, 3, .inl (upd (Rw) 0 (nI (xq_ev x))))), (bi, .inl (K 0, 3, .inl (upd (upd (upd Bi 0 (-1)) 1 (-1)) 2 (-1))))]) rfl dSe_begin_50 ?_
                exact xz_return hC (by decide) (by decide) (⟨_, _, rfl, rfl, fun h => by first | rfl | exact absurd h (by decide), fun h => by first | rfl | exact absurd h (by decide), fun h => by first | rfl | exact absurd h (by decide), fun v hv => by rcases (show v = 0 ∨ v = 1 ∨ v = 2 by omega) with rfl | rfl | rfl <;> rfl⟩) dSe_begin_53
              · skip
                exfalso; omega
  · skip
    refine xz_ste (st' := []) rfl ?_
    refine xz_wss (ws' := [(se, .inr (3, [.ref rw, .int (nI 0), .int (nI wn), .int (nI pn), .ref pl, .ref ho, .ref ag, .ref bi, .ref an, .int (nI fd), .int (nI lv)])), (rw, .inl (K 0, 3, .inl Rw)), (bi, .inl (K 0, 3, .inl Bi))]) [1, 2, 0] (by decide) rfl rfl ?_
    refine xz_aload_n hC 0 rfl rfl dSe_begin_10 ?_
    refine xz_iload_n hC 2 rfl rfl dSe_begin_11 ?_
    refine xz_callV hC (mSe_lengthenRow l D K se rw pl ho ag bi an 0 wn pn fd lv (Rw) y (by decide)) kSe_lengthenRow tq6 tq349 tq351 tp7 0 3 rfl rfl rfl (host := "") hSe_lengthenRow (by decide) [0, 1] [2] (by decide) rfl (wr := [(bi, .inl (K 0, 3, .inl Bi))]) rfl (by decide) (by decide) (As := [.int y]) (rest := []) rfl rfl (Nat.le_of_ble_eq_true rfl) (by decide) dSe_begin_12 (fun v w hq => ?_)
    rcases hq with ⟨hcy, hry, rfl, rfl⟩ | ⟨hcy, rfl, rfl⟩
    · skip
      refine xz_ste (st' := []) rfl ?_
      refine xz_wss (ws' := [(se, .inr (3, [.ref rw, .int (nI 1), .int (nI wn), .int (nI pn), .ref pl, .ref ho, .ref ag, .ref bi, .ref an, .int (nI fd), .int (nI lv)])), (rw, .inl (K 0, 3, .inl (upd (Rw) 0 (nI (xq_ev y))))), (bi, .inl (K 0, 3, .inl Bi))]) [1, 2, 0] (by decide) rfl rfl ?_
      refine xz_aload_n hC 0 rfl rfl dSe_begin_15 ?_
      refine xz_iload_n hC 3 rfl rfl dSe_begin_16 ?_
      refine xz_callV hC (mSe_lengthenRow l D K se rw pl ho ag bi an 1 wn pn fd lv (upd (Rw) 0 (nI (xq_ev y))) z (by decide)) kSe_lengthenRow tq6 tq349 tq351 tp7 0 3 rfl rfl rfl (host := "") hSe_lengthenRow (by decide) [0, 1] [2] (by decide) rfl (wr := [(bi, .inl (K 0, 3, .inl Bi))]) rfl (by decide) (by decide) (As := [.int z]) (rest := []) rfl rfl (Nat.le_of_ble_eq_true rfl) (by decide) dSe_begin_17 (fun v w hq => ?_)
      rcases hq with ⟨hcz, hrz, rfl, rfl⟩ | ⟨hcz, rfl, rfl⟩
      · skip
        refine xz_ste (st' := []) rfl ?_
        refine xz_wss (ws' := [(se, .inr (3, [.ref rw, .int (nI 2), .int (nI wn), .int (nI pn), .ref pl, .ref ho, .ref ag, .ref bi, .ref an, .int (nI fd), .int (nI lv)])), (rw, .inl (K 0, 3, .inl (upd (upd (Rw) 0 (nI (xq_ev y))) 1 (nI (xq_ev z))))), (bi, .inl (K 0, 3, .inl Bi))]) [1, 2, 0] (by decide) rfl rfl ?_
        exfalso; omega
      · skip
        refine xz_ste (st' := []) rfl ?_
        refine xz_wss (ws' := [(se, .inr (3, [.ref rw, .int (nI 1), .int (nI wn), .int (nI pn), .ref pl, .ref ho, .ref ag, .ref bi, .ref an, .int (nI fd), .int (nI lv)])), (rw, .inl (K 0, 3, .inl (upd (Rw) 0 (nI (xq_ev y))))), (bi, .inl (K 0, 3, .inl Bi))]) [1, 2, 0] (by decide) rfl rfl ?_
        exfalso; omega
    · skip
      refine xz_ste (st' := []) rfl ?_
      refine xz_wss (ws' := [(se, .inr (3, [.ref rw, .int (nI 0), .int (nI wn), .int (nI pn), .ref pl, .ref ho, .ref ag, .ref bi, .ref an, .int (nI fd), .int (nI lv)])), (rw, .inl (K 0, 3, .inl Rw)), (bi, .inl (K 0, 3, .inl Bi))]) [1, 2, 0] (by decide) rfl rfl ?_
      refine xz_aload_n hC 0 rfl rfl dSe_begin_15 ?_
      refine xz_iload_n hC 3 rfl rfl dSe_begin_16 ?_
      refine xz_callV hC (mSe_lengthenRow l D K se rw pl ho ag bi an 0 wn pn fd lv (Rw) z (by decide)) kSe_lengthenRow tq6 tq349 tq351 tp7 0 3 rfl rfl rfl (host := "") hSe_lengthenRow (by decide) [0, 1] [2] (by decide) rfl (wr := [(bi, .inl (K 0, 3, .inl Bi))]) rfl (by decide) (by decide) (As := [.int z]) (rest := []) rfl rfl (Nat.le_of_ble_eq_true rfl) (by decide) dSe_begin_17 (fun v w hq => ?_)
      rcases hq with ⟨hcz, hrz, rfl, rfl⟩ | ⟨hcz, rfl, rfl⟩
      · skip
        refine xz_ste (st' := []) rfl ?_
        refine xz_wss (ws' := [(se, .inr (3, [.ref rw, .int (nI 1), .int (nI wn), .int (nI pn), .ref pl, .ref ho, .ref ag, .ref bi, .ref an, .int (nI fd), .int (nI lv)])), (rw, .inl (K 0, 3, .inl (upd (Rw) 0 (nI (xq_ev z))))), (bi, .inl (K 0, 3, .inl Bi))]) [1, 2, 0] (by decide) rfl rfl ?_
        exfalso; omega
      · skip
        refine xz_ste (st' := []) rfl ?_
        refine xz_wss (ws' := [(se, .inr (3, [.ref rw, .int (nI 0), .int (nI wn), .int (nI pn), .ref pl, .ref ho, .ref ag, .ref bi, .ref an, .int (nI fd), .int (nI lv)])), (rw, .inl (K 0, 3, .inl Rw)), (bi, .inl (K 0, 3, .inl Bi))]) [1, 2, 0] (by decide) rfl rfl ?_
        obtain rfl : d = 0 := by omega
        refine xz_iconst hC (v := nI 0) (by decide +kernel) dSe_begin_20 ?_
        refine xz_istore hC (lc' := [(4, .int (nI 0)), (0, .ref se), (1, .int x), (2, .int y), (3, .int z)]) (by decide) rfl dSe_begin_21 ?_
        refine xz_iload hC 0 rfl dSe_begin_23 ?_
        refine xz_iconst hC (v := nI 3) (by decide +kernel) dSe_begin_25 ?_
        refine xz_icmp_ge hC (tgt := 43) (nI_toInt (by omega)) (nI_toInt (by omega)) (by decide) dSe_begin_26 (fun h13 => ?_) (fun h13 => ?_)
        · skip
          exfalso; omega
        · skip
          refine xz_aload_n hC 1 rfl rfl dSe_begin_29 ?_
          refine xz_get hC 0 rfl rfl 7 (by decide) inSe tq120 rfl rfl dSe_begin_30 ?_
          refine xz_iload hC 0 rfl dSe_begin_33 ?_
          refine xz_iconst hC (v := (-1)) (by decide +kernel) dSe_begin_35 ?_
          refine xz_iastore hC 2 0 (ws' := [(se, .inr (3, [.ref rw, .int (nI 0), .int (nI wn), .int (nI pn), .ref pl, .ref ho, .ref ag, .ref bi, .ref an, .int (nI fd), .int (nI lv)])), (rw, .inl (K 0, 3, .inl Rw)), (bi, .inl (K 0, 3, .inl (upd Bi 0 (-1))))]) rfl rfl (by omega) (by decide) rfl dSe_begin_36 ?_
          refine xz_iinc hC 0 (lc' := [(4, .int (nI 1)), (0, .ref se), (1, .int x), (2, .int y), (3, .int z)]) rfl (xn_inc _) (by decide) rfl dSe_begin_37 ?_
          refine xz_goto hC (tgt := 23) (by decide) dSe_begin_40 ?_
          refine xz_iload hC 0 rfl dSe_begin_23 ?_
          refine xz_iconst hC (v := nI 3) (by decide +kernel) dSe_begin_25 ?_
          refine xz_icmp_ge hC (tgt := 43) (nI_toInt (by omega)) (nI_toInt (by omega)) (by decide) dSe_begin_26 (fun h14 => ?_) (fun h14 => ?_)
          · skip
            exfalso; omega
          · skip
            refine xz_aload_n hC 1 rfl rfl dSe_begin_29 ?_
            refine xz_get hC 0 rfl rfl 7 (by decide) inSe tq120 rfl rfl dSe_begin_30 ?_
            refine xz_iload hC 0 rfl dSe_begin_33 ?_
            refine xz_iconst hC (v := (-1)) (by decide +kernel) dSe_begin_35 ?_
            refine xz_iastore hC 2 0 (ws' := [(se, .inr (3, [.ref rw, .int (nI 0), .int (nI wn), .int (nI pn), .ref pl, .ref ho, .ref ag, .ref bi, .ref an, .int (nI fd), .int (nI lv)])), (rw, .inl (K 0, 3, .inl Rw)), (bi, .inl (K 0, 3, .inl (upd (upd Bi 0 (-1)) 1 (-1))))]) rfl rfl (by omega) (by decide) rfl dSe_begin_36 ?_
            refine xz_iinc hC 0 (lc' := [(4, .int (nI 2)), (0, .ref se), (1, .int x), (2, .int y), (3, .int z)]) rfl (xn_inc _) (by decide) rfl dSe_begin_37 ?_
            refine xz_goto hC (tgt := 23) (by decide) dSe_begin_40 ?_
            refine xz_iload hC 0 rfl dSe_begin_23 ?_
            refine xz_iconst hC (v := nI 3) (by decide +kernel) dSe_begin_25 ?_
            refine xz_icmp_ge hC (tgt := 43) (nI_toInt (by omega)) (nI_toInt (by omega)) (by decide) dSe_begin_26 (fun h15 => ?_) (fun h15 => ?_)
            · skip
              exfalso; omega
            · skip
              refine xz_aload_n hC 1 rfl rfl dSe_begin_29 ?_
              refine xz_get hC 0 rfl rfl 7 (by decide) inSe tq120 rfl rfl dSe_begin_30 ?_
              refine xz_iload hC 0 rfl dSe_begin_33 ?_
              refine xz_iconst hC (v := (-1)) (by decide +kernel) dSe_begin_35 ?_
              refine xz_iastore hC 2 0 (ws' := [(se, .inr (3, [.ref rw, .int (nI 0), .int (nI wn), .int (nI pn), .ref pl, .ref ho, .ref ag, .ref bi, .ref an, .int (nI fd), .int (nI lv)])), (rw, .inl (K 0, 3, .inl Rw)), (bi, .inl (K 0, 3, .inl (upd (upd (upd Bi 0 (-1)) 1 (-1)) 2 (-1))))]) rfl rfl (by omega) (by decide) rfl dSe_begin_36 ?_
              refine xz_iinc hC 0 (lc' := [(4, .int (nI 3)), (0, .ref se), (1, .int x), (2, .int y), (3, .int z)]) rfl (xn_inc _) (by decide) rfl dSe_begin_37 ?_
              refine xz_goto hC (tgt := 23) (by decide) dSe_begin_40 ?_
              refine xz_iload hC 0 rfl dSe_begin_23 ?_
              refine xz_iconst hC (v := nI 3) (by decide +kernel) dSe_begin_25 ?_
              refine xz_icmp_ge hC (tgt := 43) (nI_toInt (by omega)) (nI_toInt (by omega)) (by decide) dSe_begin_26 (fun h16 => ?_) (fun h16 => ?_)
              · skip
                refine xz_aload_n hC 1 rfl rfl dSe_begin_43 ?_
                refine xz_iconst hC (v := nI 0) (by decide +kernel) dSe_begin_44 ?_
                refine xz_put hC 0 rfl rfl 9 (by decide) inSe tq122 rfl tySe tySe_ok nmSe rfl rfl rfl (Nat.le_of_ble_eq_true rfl) (ws' := [(se, .inr (3, [.ref rw, .int (nI 0), .int (nI wn), .int (nI pn), .ref pl, .ref ho, .ref ag, .ref bi, .ref an, .int (nI 0), .int (nI lv)])), (rw, .inl (K 0, 3, .inl Rw)), (bi, .inl (K 0, 3, .inl (upd (upd (upd Bi 0 (-1)) 1 (-1)) 2 (-1))))]) rfl dSe_begin_45 ?_
                refine xz_aload_n hC 1 rfl rfl dSe_begin_48 ?_
                refine xz_iconst hC (v := nI 0) (by decide +kernel) dSe_begin_49 ?_
                refine xz_put hC 0 rfl rfl 10 (by decide) inSe tq124 rfl tySe tySe_ok nmSe rfl rfl rfl (Nat.le_of_ble_eq_true rfl) (ws' := [(se, .inr (3, [.ref rw, .int (nI 0), .int (nI wn), .int (nI pn), .ref pl, .ref ho, .ref ag, .ref bi, .ref an, .int (nI 0), .int (nI 0)])), (rw, .inl (K 0, 3, .inl Rw)), (bi, .inl (K 0, 3, .inl (upd (upd (upd Bi 0 (-1)) 1 (-1)) 2 (-1))))]) rfl dSe_begin_50 ?_
                exact xz_return hC (by decide) (by decide) (⟨_, _, rfl, rfl, fun h => by first | rfl | exact absurd h (by decide), fun h => by first | rfl | exact absurd h (by decide), fun h => by first | rfl | exact absurd h (by decide), fun v hv => by rcases (show v = 0 ∨ v = 1 ∨ v = 2 by omega) with rfl | rfl | rfl <;> rfl⟩) dSe_begin_53
              · skip
                exfalso; omega
set_option maxHeartbeats 1000000 in
set_option maxRecDepth 100000 in
theorem mSe_findPlaces (l : Launch) (D : va_G) (K : Nat → ClassId) (se rw pl ho ag bi an rl wn pn fd lv : Nat) (Pl : Nat → Int32) (qu nu n : Nat) (F : Nat → Int32) (q : Nat → Nat) (hn : n ≤ 4) (hq : xq_nu F q (3 * n)) : xz_Met l D (tz K) ySe_findPlaces cSe_findPlaces 4 none { frames := 1, cells := 0, slots := 0, locals := 23 } [.ref se, .ref qu] [(se, .inr (3, [.ref rw, .int (nI rl), .int (nI wn), .int (nI n), .ref pl, .ref ho, .ref ag, .ref bi, .ref an, .int (nI fd), .int (nI lv)])), (pl, .inl (K 0, 12, .inl Pl)), (qu, .inr (2, [.ref nu, .int (nI n)])), (nu, .inl (K 0, 12, .inl F))] (fun v w => ∃ Pl' : Nat → Int32, v = none ∧ w = [(se, .inr (3, [.ref rw, .int (nI rl), .int (nI wn), .int (nI n), .ref pl, .ref ho, .ref ag, .ref bi, .ref an, .int (nI fd), .int (nI lv)])), (pl, .inl (K 0, 12, .inl Pl')), (qu, .inr (2, [.ref nu, .int (nI n)])), (nu, .inl (K 0, 12, .inl F))] ∧ xs_pl Pl' q n) := by
  refine xz_enter (by decide +kernel) (Nat.le_of_ble_eq_true rfl) ?_
  intro Γ hC
  refine xz_lcs (lc' := [(0, .ref se), (1, .ref qu)]) [0, 1] rfl ?_
  refine xz_iconst hC (v := nI 0) (by decide +kernel) dSe_findPlaces_0 ?_
  refine xz_istore_n hC (lc' := [(2, .int (nI 0)), (0, .ref se), (1, .ref qu)]) rfl (by decide) rfl dSe_findPlaces_1 ?_
  have lp1 : ∀ (NNlp1 : Nat) (p : Nat) (Pl' : Nat → Int32), p ≤ n → xs_pl Pl' q p → n - p = NNlp1 → xz_X Γ 0 0 [(se, .inr (3, [.ref rw, .int (nI rl), .int (nI wn), .int (nI n), .ref pl, .ref ho, .ref ag, .ref bi, .ref an, .int (nI fd), .int (nI lv)])), (pl, .inl (K 0, 12, .inl Pl')), (qu, .inr (2, [.ref nu, .int (nI n)])), (nu, .inl (K 0, 12, .inl F))] 2 [(2, .int (nI p)), (0, .ref se), (1, .ref qu)] [] := by
    intro NNlp1
    induction NNlp1 using Nat.strongRecOn with
    | _ NNlp1 ihlp1 =>
      intro p  Pl'  hp hpl hNNlp1
      refine xz_iload_n hC 0 rfl rfl dSe_findPlaces_2 ?_
      refine xz_aload_n hC 1 rfl rfl dSe_findPlaces_3 ?_
      refine xz_get hC 0 rfl rfl 3 (by decide) inSe tq116 rfl rfl dSe_findPlaces_4 ?_
      refine xz_icmp_ge hC (tgt := 48) (nI_toInt (by omega)) (nI_toInt (by omega)) (by decide) dSe_findPlaces_7 (fun h2 => ?_) (fun h2 => ?_)
      · skip
        exact xz_return hC (by decide) (by decide) (⟨Pl', rfl, rfl, by rw [show n = p by omega]; exact hpl⟩) dSe_findPlaces_48
      · skip
        refine xz_iconst hC (v := nI 0) (by decide +kernel) dSe_findPlaces_10 ?_
        refine xz_istore_n hC (lc' := [(3, .int (nI 0)), (2, .int (nI p)), (0, .ref se), (1, .ref qu)]) rfl (by decide) rfl dSe_findPlaces_11 ?_
        refine xz_iload_n hC 0 rfl rfl dSe_findPlaces_12 ?_
        refine xz_iconst hC (v := nI 3) (by decide +kernel) dSe_findPlaces_13 ?_
        refine xz_icmp_ge hC (tgt := 42) (nI_toInt (by omega)) (nI_toInt (by omega)) (by decide) dSe_findPlaces_14 (fun h3 => ?_) (fun h3 => ?_)
        · skip
          exfalso; omega
        · skip
          refine xz_aload_n hC 2 rfl rfl dSe_findPlaces_17 ?_
          refine xz_get hC 0 rfl rfl 4 (by decide) inSe tq117 rfl rfl dSe_findPlaces_18 ?_
          refine xz_iload_n hC 1 rfl rfl dSe_findPlaces_21 ?_
          refine xz_iconst hC (v := nI 3) (by decide +kernel) dSe_findPlaces_22 ?_
          refine xz_imul hC (z := nI (p * 3)) (pk_mul _ _) dSe_findPlaces_23 ?_
          refine xz_iload_n hC 0 rfl rfl dSe_findPlaces_24 ?_
          refine xz_iadd hC (z := nI (p * 3 + 0)) (nI_add _ _) dSe_findPlaces_25 ?_
          refine xz_aload_n hC 3 rfl rfl dSe_findPlaces_26 ?_
          refine xz_iload_n hC 1 rfl rfl dSe_findPlaces_27 ?_
          refine xz_bipush hC (v := nI 32) (by decide +kernel) dSe_findPlaces_28 ?_
          refine xz_iload_n hC 0 rfl rfl dSe_findPlaces_30 ?_
          refine xz_iadd hC (z := nI (32 + 0)) (nI_add _ _) dSe_findPlaces_31 ?_
          refine xz_callV hC (mQu_placeOf l D K qu nu n F q p (32 + 0) hn hq (by omega) (by omega)) kQu_placeOf tq5 tq362 tq363 tq364 2 2 rfl rfl rfl (host := "") hQu_placeOf (by decide) [2, 3] [0, 1] (by decide) rfl (wr := [(se, .inr (3, [.ref rw, .int (nI rl), .int (nI wn), .int (nI n), .ref pl, .ref ho, .ref ag, .ref bi, .ref an, .int (nI fd), .int (nI lv)])), (pl, .inl (K 0, 12, .inl Pl'))]) rfl (by decide) (by decide) (As := [.int (nI p), .int (nI (32 + 0))]) (rest := [.int (nI (p * 3 + 0)), .ref pl]) rfl rfl (Nat.le_of_ble_eq_true rfl) (by decide) dSe_findPlaces_32 (fun v w hq => ?_)
          obtain ⟨rfl, rfl⟩ := hq
          refine xz_ste (st' := [.int (xq_pl (xq_fp q p (32 + 0))), .int (nI (p * 3 + 0)), .ref pl]) rfl ?_
          refine xz_wss (ws' := [(se, .inr (3, [.ref rw, .int (nI rl), .int (nI wn), .int (nI n), .ref pl, .ref ho, .ref ag, .ref bi, .ref an, .int (nI fd), .int (nI lv)])), (pl, .inl (K 0, 12, .inl Pl')), (qu, .inr (2, [.ref nu, .int (nI n)])), (nu, .inl (K 0, 12, .inl F))]) [0, 1, 2, 3] (by decide) rfl rfl ?_
          refine xz_iastore hC 1 0 (ws' := [(se, .inr (3, [.ref rw, .int (nI rl), .int (nI wn), .int (nI n), .ref pl, .ref ho, .ref ag, .ref bi, .ref an, .int (nI fd), .int (nI lv)])), (pl, .inl (K 0, 12, .inl (upd Pl' (p * 3 + 0) (xq_pl (xq_fp q p (32 + 0)))))), (qu, .inr (2, [.ref nu, .int (nI n)])), (nu, .inl (K 0, 12, .inl F))]) rfl rfl (by omega) (by decide) rfl dSe_findPlaces_35 ?_
          refine xz_iinc hC 0 (lc' := [(3, .int (nI 1)), (2, .int (nI p)), (0, .ref se), (1, .ref qu)]) rfl (xn_inc _) (by decide) rfl dSe_findPlaces_36 ?_
          refine xz_goto hC (tgt := 12) (by decide) dSe_findPlaces_39 ?_
          refine xz_iload_n hC 0 rfl rfl dSe_findPlaces_12 ?_
          refine xz_iconst hC (v := nI 3) (by decide +kernel) dSe_findPlaces_13 ?_
          refine xz_icmp_ge hC (tgt := 42) (nI_toInt (by omega)) (nI_toInt (by omega)) (by decide) dSe_findPlaces_14 (fun h4 => ?_) (fun h4 => ?_)
          · skip
            exfalso; omega
          · skip
            refine xz_aload_n hC 2 rfl rfl dSe_findPlaces_17 ?_
            refine xz_get hC 0 rfl rfl 4 (by decide) inSe tq117 rfl rfl dSe_findPlaces_18 ?_
            refine xz_iload_n hC 1 rfl rfl dSe_findPlaces_21 ?_
            refine xz_iconst hC (v := nI 3) (by decide +kernel) dSe_findPlaces_22 ?_
            refine xz_imul hC (z := nI (p * 3)) (pk_mul _ _) dSe_findPlaces_23 ?_
            refine xz_iload_n hC 0 rfl rfl dSe_findPlaces_24 ?_
            refine xz_iadd hC (z := nI (p * 3 + 1)) (nI_add _ _) dSe_findPlaces_25 ?_
            refine xz_aload_n hC 3 rfl rfl dSe_findPlaces_26 ?_
            refine xz_iload_n hC 1 rfl rfl dSe_findPlaces_27 ?_
            refine xz_bipush hC (v := nI 32) (by decide +kernel) dSe_findPlaces_28 ?_
            refine xz_iload_n hC 0 rfl rfl dSe_findPlaces_30 ?_
            refine xz_iadd hC (z := nI (32 + 1)) (nI_add _ _) dSe_findPlaces_31 ?_
            refine xz_callV hC (mQu_placeOf l D K qu nu n F q p (32 + 1) hn hq (by omega) (by omega)) kQu_placeOf tq5 tq362 tq363 tq364 2 2 rfl rfl rfl (host := "") hQu_placeOf (by decide) [2, 3] [0, 1] (by decide) rfl (wr := [(se, .inr (3, [.ref rw, .int (nI rl), .int (nI wn), .int (nI n), .ref pl, .ref ho, .ref ag, .ref bi, .ref an, .int (nI fd), .int (nI lv)])), (pl, .inl (K 0, 12, .inl (upd Pl' (p * 3 + 0) (xq_pl (xq_fp q p (32 + 0))))))]) rfl (by decide) (by decide) (As := [.int (nI p), .int (nI (32 + 1))]) (rest := [.int (nI (p * 3 + 1)), .ref pl]) rfl rfl (Nat.le_of_ble_eq_true rfl) (by decide) dSe_findPlaces_32 (fun v w hq => ?_)
            obtain ⟨rfl, rfl⟩ := hq
            refine xz_ste (st' := [.int (xq_pl (xq_fp q p (32 + 1))), .int (nI (p * 3 + 1)), .ref pl]) rfl ?_
            refine xz_wss (ws' := [(se, .inr (3, [.ref rw, .int (nI rl), .int (nI wn), .int (nI n), .ref pl, .ref ho, .ref ag, .ref bi, .ref an, .int (nI fd), .int (nI lv)])), (pl, .inl (K 0, 12, .inl (upd Pl' (p * 3 + 0) (xq_pl (xq_fp q p (32 + 0)))))), (qu, .inr (2, [.ref nu, .int (nI n)])), (nu, .inl (K 0, 12, .inl F))]) [0, 1, 2, 3] (by decide) rfl rfl ?_
            refine xz_iastore hC 1 0 (ws' := [(se, .inr (3, [.ref rw, .int (nI rl), .int (nI wn), .int (nI n), .ref pl, .ref ho, .ref ag, .ref bi, .ref an, .int (nI fd), .int (nI lv)])), (pl, .inl (K 0, 12, .inl (upd (upd Pl' (p * 3 + 0) (xq_pl (xq_fp q p (32 + 0)))) (p * 3 + 1) (xq_pl (xq_fp q p (32 + 1)))))), (qu, .inr (2, [.ref nu, .int (nI n)])), (nu, .inl (K 0, 12, .inl F))]) rfl rfl (by omega) (by decide) rfl dSe_findPlaces_35 ?_
            refine xz_iinc hC 0 (lc' := [(3, .int (nI 2)), (2, .int (nI p)), (0, .ref se), (1, .ref qu)]) rfl (xn_inc _) (by decide) rfl dSe_findPlaces_36 ?_
            refine xz_goto hC (tgt := 12) (by decide) dSe_findPlaces_39 ?_
            refine xz_iload_n hC 0 rfl rfl dSe_findPlaces_12 ?_
            refine xz_iconst hC (v := nI 3) (by decide +kernel) dSe_findPlaces_13 ?_
            refine xz_icmp_ge hC (tgt := 42) (nI_toInt (by omega)) (nI_toInt (by omega)) (by decide) dSe_findPlaces_14 (fun h5 => ?_) (fun h5 => ?_)
            · skip
              exfalso; omega
            · skip
              refine xz_aload_n hC 2 rfl rfl dSe_findPlaces_17 ?_
              refine xz_get hC 0 rfl rfl 4 (by decide) inSe tq117 rfl rfl dSe_findPlaces_18 ?_
              refine xz_iload_n hC 1 rfl rfl dSe_findPlaces_21 ?_
              refine xz_iconst hC (v := nI 3) (by decide +kernel) dSe_findPlaces_22 ?_
              refine xz_imul hC (z := nI (p * 3)) (pk_mul _ _) dSe_findPlaces_23 ?_
              refine xz_iload_n hC 0 rfl rfl dSe_findPlaces_24 ?_
              refine xz_iadd hC (z := nI (p * 3 + 2)) (nI_add _ _) dSe_findPlaces_25 ?_
              refine xz_aload_n hC 3 rfl rfl dSe_findPlaces_26 ?_
              refine xz_iload_n hC 1 rfl rfl dSe_findPlaces_27 ?_
              refine xz_bipush hC (v := nI 32) (by decide +kernel) dSe_findPlaces_28 ?_
              refine xz_iload_n hC 0 rfl rfl dSe_findPlaces_30 ?_
              refine xz_iadd hC (z := nI (32 + 2)) (nI_add _ _) dSe_findPlaces_31 ?_
              refine xz_callV hC (mQu_placeOf l D K qu nu n F q p (32 + 2) hn hq (by omega) (by omega)) kQu_placeOf tq5 tq362 tq363 tq364 2 2 rfl rfl rfl (host := "") hQu_placeOf (by decide) [2, 3] [0, 1] (by decide) rfl (wr := [(se, .inr (3, [.ref rw, .int (nI rl), .int (nI wn), .int (nI n), .ref pl, .ref ho, .ref ag, .ref bi, .ref an, .int (nI fd), .int (nI lv)])), (pl, .inl (K 0, 12, .inl (upd (upd Pl' (p * 3 + 0) (xq_pl (xq_fp q p (32 + 0)))) (p * 3 + 1) (xq_pl (xq_fp q p (32 + 1))))))]) rfl (by decide) (by decide) (As := [.int (nI p), .int (nI (32 + 2))]) (rest := [.int (nI (p * 3 + 2)), .ref pl]) rfl rfl (Nat.le_of_ble_eq_true rfl) (by decide) dSe_findPlaces_32 (fun v w hq => ?_)
              obtain ⟨rfl, rfl⟩ := hq
              refine xz_ste (st' := [.int (xq_pl (xq_fp q p (32 + 2))), .int (nI (p * 3 + 2)), .ref pl]) rfl ?_
              refine xz_wss (ws' := [(se, .inr (3, [.ref rw, .int (nI rl), .int (nI wn), .int (nI n), .ref pl, .ref ho, .ref ag, .ref bi, .ref an, .int (nI fd), .int (nI lv)])), (pl, .inl (K 0, 12, .inl (upd (upd Pl' (p * 3 + 0) (xq_pl (xq_fp q p (32 + 0)))) (p * 3 + 1) (xq_pl (xq_fp q p (32 + 1)))))), (qu, .inr (2, [.ref nu, .int (nI n)])), (nu, .inl (K 0, 12, .inl F))]) [0, 1, 2, 3] (by decide) rfl rfl ?_
              refine xz_iastore hC 1 0 (ws' := [(se, .inr (3, [.ref rw, .int (nI rl), .int (nI wn), .int (nI n), .ref pl, .ref ho, .ref ag, .ref bi, .ref an, .int (nI fd), .int (nI lv)])), (pl, .inl (K 0, 12, .inl (upd (upd (upd Pl' (p * 3 + 0) (xq_pl (xq_fp q p (32 + 0)))) (p * 3 + 1) (xq_pl (xq_fp q p (32 + 1)))) (p * 3 + 2) (xq_pl (xq_fp q p (32 + 2)))))), (qu, .inr (2, [.ref nu, .int (nI n)])), (nu, .inl (K 0, 12, .inl F))]) rfl rfl (by omega) (by decide) rfl dSe_findPlaces_35 ?_
              refine xz_iinc hC 0 (lc' := [(3, .int (nI 3)), (2, .int (nI p)), (0, .ref se), (1, .ref qu)]) rfl (xn_inc _) (by decide) rfl dSe_findPlaces_36 ?_
              refine xz_goto hC (tgt := 12) (by decide) dSe_findPlaces_39 ?_
              refine xz_iload_n hC 0 rfl rfl dSe_findPlaces_12 ?_
              refine xz_iconst hC (v := nI 3) (by decide +kernel) dSe_findPlaces_13 ?_
              refine xz_icmp_ge hC (tgt := 42) (nI_toInt (by omega)) (nI_toInt (by omega)) (by decide) dSe_findPlaces_14 (fun h6 => ?_) (fun h6 => ?_)
              · skip
                refine xz_iinc hC 1 (lc' := [(2, .int (nI (p + 1))), (3, .int (nI 3)), (0, .ref se), (1, .ref qu)]) rfl (xn_inc _) (by decide) rfl dSe_findPlaces_42 ?_
                refine xz_goto hC (tgt := 2) (by decide) dSe_findPlaces_45 ?_
                refine xz_lcs (lc' := [(2, .int (nI (p + 1))), (0, .ref se), (1, .ref qu)]) [0, 2, 3] rfl ?_
                exact ihlp1 _ (by omega) (p + 1) (upd (upd (upd Pl' (p * 3 + 0) (xq_pl (xq_fp q p (32 + 0)))) (p * 3 + 1) (xq_pl (xq_fp q p (32 + 1)))) (p * 3 + 2) (xq_pl (xq_fp q p (32 + 2)))) (by omega) (xs_pl_step hpl) rfl
              · skip
                exfalso; omega
  exact lp1 _ 0 Pl (by omega) (fun i hi => absurd hi (by omega)) rfl
set_option maxHeartbeats 1000000 in
set_option maxRecDepth 100000 in
theorem mSe_findHolders (l : Launch) (D : va_G) (K : Nat → ClassId) (se rw pl ho ag bi an rl wn pn fd lv : Nat) (Ho : Nat → Int64) (ts pr os ks n pd mg m : Nat) (fa : Nat → Option Nat) (oa ka : Nat → Nat) (f : Nat → Nat → Int32) (e : Nat → Int32) (g : Nat → Nat → Nat) (h : Nat → Nat) (P S : Nat → Prop) (hfa : ∀ w, w < 6 → fa w = some (oa w)) (hn : n ≤ 60) (hO : xs_ok 0 1 2 (f 0) (g 0) n P) (h24 : ∀ k, k < n → ∀ i, i < 3 → xk_pt (g 0 k) i < 24) : xz_Met l D (tz K) ySe_findHolders cSe_findHolders 5 none { frames := 4, cells := 0, slots := 0, locals := 85 } [.ref se, .ref ts] [(se, .inr (3, [.ref rw, .int (nI rl), .int (nI wn), .int (nI pn), .ref pl, .ref ho, .ref ag, .ref bi, .ref an, .int (nI fd), .int (nI lv)])), (ho, .inl (K 1, 72, .inr (.inl Ho))), (ts, .inr (4, [.ref pr, .ref os, .int (nI pd), .int (nI mg)])), (pr, .inl (K 4, 6, .inr (.inr (.inr (.inr fa))))), (oa 0, .inr (1, [.int (nI 0), .int (nI 1), .int (nI 2), .ref (ka 0), .int (nI n)])), (ka 0, .inl (K 0, 60, .inl (f 0)))] (fun v w => ∃ Ho' : Nat → Int64, v = none ∧ w = [(se, .inr (3, [.ref rw, .int (nI rl), .int (nI wn), .int (nI pn), .ref pl, .ref ho, .ref ag, .ref bi, .ref an, .int (nI fd), .int (nI lv)])), (ho, .inl (K 1, 72, .inr (.inl Ho'))), (ts, .inr (4, [.ref pr, .ref os, .int (nI pd), .int (nI mg)])), (pr, .inl (K 4, 6, .inr (.inr (.inr (.inr fa))))), (oa 0, .inr (1, [.int (nI 0), .int (nI 1), .int (nI 2), .ref (ka 0), .int (nI n)])), (ka 0, .inl (K 0, 60, .inl (f 0)))] ∧ xs_ho Ho' (g 0) n) := by
  refine xz_enter (by decide +kernel) (Nat.le_of_ble_eq_true rfl) ?_
  intro Γ hC
  refine xz_lcs (lc' := [(0, .ref se), (1, .ref ts)]) [0, 1] rfl ?_
  refine xz_iconst hC (v := nI 0) (by decide +kernel) dSe_findHolders_0 ?_
  refine xz_istore_n hC (lc' := [(2, .int (nI 0)), (0, .ref se), (1, .ref ts)]) rfl (by decide) rfl dSe_findHolders_1 ?_
  have lp1 : ∀ (NNlp1 : Nat) (i : Nat) (Ho' : Nat → Int64), i ≤ 72 → (∀ j, j < i → Ho' j = 0) → 72 - i = NNlp1 → xz_X Γ 0 0 [(se, .inr (3, [.ref rw, .int (nI rl), .int (nI wn), .int (nI pn), .ref pl, .ref ho, .ref ag, .ref bi, .ref an, .int (nI fd), .int (nI lv)])), (ho, .inl (K 1, 72, .inr (.inl Ho'))), (ts, .inr (4, [.ref pr, .ref os, .int (nI pd), .int (nI mg)])), (pr, .inl (K 4, 6, .inr (.inr (.inr (.inr fa))))), (oa 0, .inr (1, [.int (nI 0), .int (nI 1), .int (nI 2), .ref (ka 0), .int (nI n)])), (ka 0, .inl (K 0, 60, .inl (f 0)))] 2 [(2, .int (nI i)), (0, .ref se), (1, .ref ts)] [] := by
    intro NNlp1
    induction NNlp1 using Nat.strongRecOn with
    | _ NNlp1 ihlp1 =>
      intro i  Ho'  hi hz hNNlp1
      refine xz_iload_n hC 0 rfl rfl dSe_findHolders_2 ?_
      refine xz_bipush hC (v := nI 72) (by decide +kernel) dSe_findHolders_3 ?_
      refine xz_icmp_ge hC (tgt := 21) (nI_toInt (by omega)) (nI_toInt (by omega)) (by decide) dSe_findHolders_5 (fun h2 => ?_) (fun h2 => ?_)
      · skip
        refine xz_iconst hC (v := nI 0) (by decide +kernel) dSe_findHolders_21 ?_
        refine xz_istore_n hC (lc' := [(2, .int (nI 0)), (0, .ref se), (1, .ref ts)]) rfl (by decide) rfl dSe_findHolders_22 ?_
        have lp3 : ∀ (NNlp3 : Nat) (k : Nat) (Hk : Nat → Int64), k ≤ n → xs_ho Hk (g 0) k → n - k = NNlp3 → xz_X Γ 0 0 [(se, .inr (3, [.ref rw, .int (nI rl), .int (nI wn), .int (nI pn), .ref pl, .ref ho, .ref ag, .ref bi, .ref an, .int (nI fd), .int (nI lv)])), (ho, .inl (K 1, 72, .inr (.inl Hk))), (ts, .inr (4, [.ref pr, .ref os, .int (nI pd), .int (nI mg)])), (pr, .inl (K 4, 6, .inr (.inr (.inr (.inr fa))))), (oa 0, .inr (1, [.int (nI 0), .int (nI 1), .int (nI 2), .ref (ka 0), .int (nI n)])), (ka 0, .inl (K 0, 60, .inl (f 0)))] 23 [(2, .int (nI k)), (0, .ref se), (1, .ref ts)] [] := by
          intro NNlp3
          induction NNlp3 using Nat.strongRecOn with
          | _ NNlp3 ihlp3 =>
            intro k  Hk  hk0 hk hNNlp3
            refine xz_iload_n hC 0 rfl rfl dSe_findHolders_23 ?_
            refine xz_aload_n hC 2 rfl rfl dSe_findHolders_24 ?_
            refine xz_callV hC (mTs_count l D K ts pr os ks n pd mg m fa oa ka f e g h P S hfa) kTs_count tq3 tq370 tq282 tq283 2 4 rfl rfl rfl (host := "") hTs_count (by decide) [2, 3, 4] [0, 1, 5] (by decide) rfl (wr := [(se, .inr (3, [.ref rw, .int (nI rl), .int (nI wn), .int (nI pn), .ref pl, .ref ho, .ref ag, .ref bi, .ref an, .int (nI fd), .int (nI lv)])), (ho, .inl (K 1, 72, .inr (.inl Hk))), (ka 0, .inl (K 0, 60, .inl (f 0)))]) rfl (by decide) (by decide) (As := []) (rest := [.int (nI k)]) rfl rfl (Nat.le_of_ble_eq_true rfl) (by decide) dSe_findHolders_25 (fun v w hq => ?_)
            obtain ⟨rfl, rfl⟩ := hq
            refine xz_ste (st' := [.int (nI n), .int (nI k)]) rfl ?_
            refine xz_wss (ws' := [(se, .inr (3, [.ref rw, .int (nI rl), .int (nI wn), .int (nI pn), .ref pl, .ref ho, .ref ag, .ref bi, .ref an, .int (nI fd), .int (nI lv)])), (ho, .inl (K 1, 72, .inr (.inl Hk))), (ts, .inr (4, [.ref pr, .ref os, .int (nI pd), .int (nI mg)])), (pr, .inl (K 4, 6, .inr (.inr (.inr (.inr fa))))), (oa 0, .inr (1, [.int (nI 0), .int (nI 1), .int (nI 2), .ref (ka 0), .int (nI n)])), (ka 0, .inl (K 0, 60, .inl (f 0)))]) [0, 1, 3, 4, 5, 2] (by decide) rfl rfl ?_
            refine xz_icmp_ge hC (tgt := 82) (nI_toInt (by omega)) (nI_toInt (by omega)) (by decide) dSe_findHolders_28 (fun h4 => ?_) (fun h4 => ?_)
            · skip
              exact xz_return hC (by decide) (by decide) (⟨Hk, rfl, rfl, by rw [show n = k by omega]; exact hk⟩) dSe_findHolders_82
            · skip
              have hg15 := (hO.1 k (by omega)).2
              refine xz_aload_n hC 2 rfl rfl dSe_findHolders_31 ?_
              refine xz_iconst hC (v := nI 0) (by decide +kernel) dSe_findHolders_32 ?_
              refine xz_iload_n hC 0 rfl rfl dSe_findHolders_33 ?_
              refine xz_callV hC (mTs_codeAt0 l D K ts pr os ks n pd mg m fa oa ka f e g h P S k hfa hn hO (by omega)) kTs_codeAt tq3 tq371 tq298 tq299 2 4 rfl rfl rfl (host := "") hTs_codeAt (by decide) [2, 3, 4, 5] [0, 1] (by decide) rfl (wr := [(se, .inr (3, [.ref rw, .int (nI rl), .int (nI wn), .int (nI pn), .ref pl, .ref ho, .ref ag, .ref bi, .ref an, .int (nI fd), .int (nI lv)])), (ho, .inl (K 1, 72, .inr (.inl Hk)))]) rfl (by decide) (by decide) (As := [.int (nI 0), .int (nI k)]) (rest := []) rfl rfl (Nat.le_of_ble_eq_true rfl) (by decide) dSe_findHolders_34 (fun v w hq => ?_)
              obtain ⟨rfl, rfl⟩ := hq
              refine xz_ste (st' := [.int (nI (g 0 k))]) rfl ?_
              refine xz_wss (ws' := [(se, .inr (3, [.ref rw, .int (nI rl), .int (nI wn), .int (nI pn), .ref pl, .ref ho, .ref ag, .ref bi, .ref an, .int (nI fd), .int (nI lv)])), (ho, .inl (K 1, 72, .inr (.inl Hk))), (ts, .inr (4, [.ref pr, .ref os, .int (nI pd), .int (nI mg)])), (pr, .inl (K 4, 6, .inr (.inr (.inr (.inr fa))))), (oa 0, .inr (1, [.int (nI 0), .int (nI 1), .int (nI 2), .ref (ka 0), .int (nI n)])), (ka 0, .inl (K 0, 60, .inl (f 0)))]) [0, 1, 2, 3, 4, 5] (by decide) rfl rfl ?_
              refine xz_istore_n hC (lc' := [(3, .int (nI (g 0 k))), (2, .int (nI k)), (0, .ref se), (1, .ref ts)]) rfl (by decide) rfl dSe_findHolders_37 ?_
              refine xz_iconst hC (v := nI 0) (by decide +kernel) dSe_findHolders_38 ?_
              refine xz_istore hC (lc' := [(4, .int (nI 0)), (3, .int (nI (g 0 k))), (2, .int (nI k)), (0, .ref se), (1, .ref ts)]) (by decide) rfl dSe_findHolders_39 ?_
              refine xz_iload hC 0 rfl dSe_findHolders_41 ?_
              refine xz_iconst hC (v := nI 3) (by decide +kernel) dSe_findHolders_43 ?_
              refine xz_icmp_ge hC (tgt := 76) (nI_toInt (by omega)) (nI_toInt (by omega)) (by decide) dSe_findHolders_44 (fun h5 => ?_) (fun h5 => ?_)
              · skip
                exfalso; omega
              · skip
                refine xz_aload_n hC 3 rfl rfl dSe_findHolders_47 ?_
                refine xz_get hC 0 rfl rfl 5 (by decide) inSe tq118 rfl rfl dSe_findHolders_48 ?_
                refine xz_iload hC 0 rfl dSe_findHolders_51 ?_
                refine xz_bipush hC (v := nI 24) (by decide +kernel) dSe_findHolders_53 ?_
                refine xz_imul hC (z := nI (0 * 24)) (pk_mul _ _) dSe_findHolders_55 ?_
                refine xz_iload_n hC 1 rfl rfl dSe_findHolders_56 ?_
                refine xz_iload hC 0 rfl dSe_findHolders_57 ?_
                refine xz_callSN hC (mSx_partOf l D K (g 0 k) 0 hg15 (by omega)) kSx_partOf tq1 tq372 tq223 (b := 0) hSx_partOf (by decide) [] [0, 1, 2, 3, 4, 5] (by decide) rfl (wr := [(se, .inr (3, [.ref rw, .int (nI rl), .int (nI wn), .int (nI pn), .ref pl, .ref ho, .ref ag, .ref bi, .ref an, .int (nI fd), .int (nI lv)])), (ho, .inl (K 1, 72, .inr (.inl Hk))), (ts, .inr (4, [.ref pr, .ref os, .int (nI pd), .int (nI mg)])), (pr, .inl (K 4, 6, .inr (.inr (.inr (.inr fa))))), (oa 0, .inr (1, [.int (nI 0), .int (nI 1), .int (nI 2), .ref (ka 0), .int (nI n)])), (ka 0, .inl (K 0, 60, .inl (f 0)))]) rfl (by decide) (by decide) (As := [.int (nI (g 0 k)), .int (nI 0)]) (rest := [.int (nI (0 * 24)), .ref ho]) rfl rfl (Nat.le_of_ble_eq_true rfl) (by decide) dSe_findHolders_59 (fun v w hq => ?_)
                obtain ⟨rfl, rfl⟩ := hq
                refine xz_ste (st' := [.int (nI (xk_pt (g 0 k) 0)), .int (nI (0 * 24)), .ref ho]) rfl ?_
                refine xz_wss (ws' := [(se, .inr (3, [.ref rw, .int (nI rl), .int (nI wn), .int (nI pn), .ref pl, .ref ho, .ref ag, .ref bi, .ref an, .int (nI fd), .int (nI lv)])), (ho, .inl (K 1, 72, .inr (.inl Hk))), (ts, .inr (4, [.ref pr, .ref os, .int (nI pd), .int (nI mg)])), (pr, .inl (K 4, 6, .inr (.inr (.inr (.inr fa))))), (oa 0, .inr (1, [.int (nI 0), .int (nI 1), .int (nI 2), .ref (ka 0), .int (nI n)])), (ka 0, .inl (K 0, 60, .inl (f 0)))]) [0, 1, 2, 3, 4, 5] (by decide) rfl rfl ?_
                have hb0 := h24 k (by omega) 0 (by omega)
                refine xz_iadd hC (z := nI (0 * 24 + (xk_pt (g 0 k) 0))) (nI_add _ _) dSe_findHolders_62 ?_
                refine xz_dup2 hC rfl rfl dSe_findHolders_63 ?_
                refine xz_laload hC 1 1 (v := Hk (0 * 24 + (xk_pt (g 0 k) 0))) rfl rfl (by omega) (by decide) rfl dSe_findHolders_64 ?_
                refine xz_lconst hC (v := 1) (by decide +kernel) dSe_findHolders_65 ?_
                refine xz_iload_n hC 2 rfl rfl dSe_findHolders_66 ?_
                refine xz_lshl hC (z := (1 : Int64) <<< ((nI k).toInt64 &&& 63)) rfl dSe_findHolders_67 ?_
                refine xz_lor hC (z := (Hk (0 * 24 + (xk_pt (g 0 k) 0))) ||| ((1 : Int64) <<< ((nI k).toInt64 &&& 63))) rfl dSe_findHolders_68 ?_
                refine xz_lastore hC 1 1 (ws' := [(se, .inr (3, [.ref rw, .int (nI rl), .int (nI wn), .int (nI pn), .ref pl, .ref ho, .ref ag, .ref bi, .ref an, .int (nI fd), .int (nI lv)])), (ho, .inl (K 1, 72, .inr (.inl (vp_updL Hk (0 * 24 + (xk_pt (g 0 k) 0)) ((Hk (0 * 24 + (xk_pt (g 0 k) 0))) ||| ((1 : Int64) <<< ((nI k).toInt64 &&& 63))))))), (ts, .inr (4, [.ref pr, .ref os, .int (nI pd), .int (nI mg)])), (pr, .inl (K 4, 6, .inr (.inr (.inr (.inr fa))))), (oa 0, .inr (1, [.int (nI 0), .int (nI 1), .int (nI 2), .ref (ka 0), .int (nI n)])), (ka 0, .inl (K 0, 60, .inl (f 0)))]) rfl rfl (by omega) (by decide) rfl dSe_findHolders_69 ?_
                refine xz_iinc hC 0 (lc' := [(4, .int (nI 1)), (3, .int (nI (g 0 k))), (2, .int (nI k)), (0, .ref se), (1, .ref ts)]) rfl (xn_inc _) (by decide) rfl dSe_findHolders_70 ?_
                refine xz_goto hC (tgt := 41) (by decide) dSe_findHolders_73 ?_
                refine xz_iload hC 0 rfl dSe_findHolders_41 ?_
                refine xz_iconst hC (v := nI 3) (by decide +kernel) dSe_findHolders_43 ?_
                refine xz_icmp_ge hC (tgt := 76) (nI_toInt (by omega)) (nI_toInt (by omega)) (by decide) dSe_findHolders_44 (fun h6 => ?_) (fun h6 => ?_)
                · skip
                  exfalso; omega
                · skip
                  refine xz_aload_n hC 3 rfl rfl dSe_findHolders_47 ?_
                  refine xz_get hC 0 rfl rfl 5 (by decide) inSe tq118 rfl rfl dSe_findHolders_48 ?_
                  refine xz_iload hC 0 rfl dSe_findHolders_51 ?_
                  refine xz_bipush hC (v := nI 24) (by decide +kernel) dSe_findHolders_53 ?_
                  refine xz_imul hC (z := nI (1 * 24)) (pk_mul _ _) dSe_findHolders_55 ?_
                  refine xz_iload_n hC 1 rfl rfl dSe_findHolders_56 ?_
                  refine xz_iload hC 0 rfl dSe_findHolders_57 ?_
                  refine xz_callSN hC (mSx_partOf l D K (g 0 k) 1 hg15 (by omega)) kSx_partOf tq1 tq372 tq223 (b := 0) hSx_partOf (by decide) [] [0, 1, 2, 3, 4, 5] (by decide) rfl (wr := [(se, .inr (3, [.ref rw, .int (nI rl), .int (nI wn), .int (nI pn), .ref pl, .ref ho, .ref ag, .ref bi, .ref an, .int (nI fd), .int (nI lv)])), (ho, .inl (K 1, 72, .inr (.inl (vp_updL Hk (0 * 24 + (xk_pt (g 0 k) 0)) ((Hk (0 * 24 + (xk_pt (g 0 k) 0))) ||| ((1 : Int64) <<< ((nI k).toInt64 &&& 63))))))), (ts, .inr (4, [.ref pr, .ref os, .int (nI pd), .int (nI mg)])), (pr, .inl (K 4, 6, .inr (.inr (.inr (.inr fa))))), (oa 0, .inr (1, [.int (nI 0), .int (nI 1), .int (nI 2), .ref (ka 0), .int (nI n)])), (ka 0, .inl (K 0, 60, .inl (f 0)))]) rfl (by decide) (by decide) (As := [.int (nI (g 0 k)), .int (nI 1)]) (rest := [.int (nI (1 * 24)), .ref ho]) rfl rfl (Nat.le_of_ble_eq_true rfl) (by decide) dSe_findHolders_59 (fun v w hq => ?_)
                  obtain ⟨rfl, rfl⟩ := hq
                  refine xz_ste (st' := [.int (nI (xk_pt (g 0 k) 1)), .int (nI (1 * 24)), .ref ho]) rfl ?_
                  refine xz_wss (ws' := [(se, .inr (3, [.ref rw, .int (nI rl), .int (nI wn), .int (nI pn), .ref pl, .ref ho, .ref ag, .ref bi, .ref an, .int (nI fd), .int (nI lv)])), (ho, .inl (K 1, 72, .inr (.inl (vp_updL Hk (0 * 24 + (xk_pt (g 0 k) 0)) ((Hk (0 * 24 + (xk_pt (g 0 k) 0))) ||| ((1 : Int64) <<< ((nI k).toInt64 &&& 63))))))), (ts, .inr (4, [.ref pr, .ref os, .int (nI pd), .int (nI mg)])), (pr, .inl (K 4, 6, .inr (.inr (.inr (.inr fa))))), (oa 0, .inr (1, [.int (nI 0), .int (nI 1), .int (nI 2), .ref (ka 0), .int (nI n)])), (ka 0, .inl (K 0, 60, .inl (f 0)))]) [0, 1, 2, 3, 4, 5] (by decide) rfl rfl ?_
                  have hb1 := h24 k (by omega) 1 (by omega)
                  refine xz_iadd hC (z := nI (1 * 24 + (xk_pt (g 0 k) 1))) (nI_add _ _) dSe_findHolders_62 ?_
                  refine xz_dup2 hC rfl rfl dSe_findHolders_63 ?_
                  refine xz_laload hC 1 1 (v := (vp_updL Hk (0 * 24 + (xk_pt (g 0 k) 0)) ((Hk (0 * 24 + (xk_pt (g 0 k) 0))) ||| ((1 : Int64) <<< ((nI k).toInt64 &&& 63)))) (1 * 24 + (xk_pt (g 0 k) 1))) rfl rfl (by omega) (by decide) rfl dSe_findHolders_64 ?_
                  refine xz_lconst hC (v := 1) (by decide +kernel) dSe_findHolders_65 ?_
                  refine xz_iload_n hC 2 rfl rfl dSe_findHolders_66 ?_
                  refine xz_lshl hC (z := (1 : Int64) <<< ((nI k).toInt64 &&& 63)) rfl dSe_findHolders_67 ?_
                  refine xz_lor hC (z := ((vp_updL Hk (0 * 24 + (xk_pt (g 0 k) 0)) ((Hk (0 * 24 + (xk_pt (g 0 k) 0))) ||| ((1 : Int64) <<< ((nI k).toInt64 &&& 63)))) (1 * 24 + (xk_pt (g 0 k) 1))) ||| ((1 : Int64) <<< ((nI k).toInt64 &&& 63))) rfl dSe_findHolders_68 ?_
                  refine xz_lastore hC 1 1 (ws' := [(se, .inr (3, [.ref rw, .int (nI rl), .int (nI wn), .int (nI pn), .ref pl, .ref ho, .ref ag, .ref bi, .ref an, .int (nI fd), .int (nI lv)])), (ho, .inl (K 1, 72, .inr (.inl (vp_updL (vp_updL Hk (0 * 24 + (xk_pt (g 0 k) 0)) ((Hk (0 * 24 + (xk_pt (g 0 k) 0))) ||| ((1 : Int64) <<< ((nI k).toInt64 &&& 63)))) (1 * 24 + (xk_pt (g 0 k) 1)) (((vp_updL Hk (0 * 24 + (xk_pt (g 0 k) 0)) ((Hk (0 * 24 + (xk_pt (g 0 k) 0))) ||| ((1 : Int64) <<< ((nI k).toInt64 &&& 63)))) (1 * 24 + (xk_pt (g 0 k) 1))) ||| ((1 : Int64) <<< ((nI k).toInt64 &&& 63))))))), (ts, .inr (4, [.ref pr, .ref os, .int (nI pd), .int (nI mg)])), (pr, .inl (K 4, 6, .inr (.inr (.inr (.inr fa))))), (oa 0, .inr (1, [.int (nI 0), .int (nI 1), .int (nI 2), .ref (ka 0), .int (nI n)])), (ka 0, .inl (K 0, 60, .inl (f 0)))]) rfl rfl (by omega) (by decide) rfl dSe_findHolders_69 ?_
                  refine xz_iinc hC 0 (lc' := [(4, .int (nI 2)), (3, .int (nI (g 0 k))), (2, .int (nI k)), (0, .ref se), (1, .ref ts)]) rfl (xn_inc _) (by decide) rfl dSe_findHolders_70 ?_
                  refine xz_goto hC (tgt := 41) (by decide) dSe_findHolders_73 ?_
                  refine xz_iload hC 0 rfl dSe_findHolders_41 ?_
                  refine xz_iconst hC (v := nI 3) (by decide +kernel) dSe_findHolders_43 ?_
                  refine xz_icmp_ge hC (tgt := 76) (nI_toInt (by omega)) (nI_toInt (by omega)) (by decide) dSe_findHolders_44 (fun h7 => ?_) (fun h7 => ?_)
                  · skip
                    exfalso; omega
                  · skip
                    refine xz_aload_n hC 3 rfl rfl dSe_findHolders_47 ?_
                    refine xz_get hC 0 rfl rfl 5 (by decide) inSe tq118 rfl rfl dSe_findHolders_48 ?_
                    refine xz_iload hC 0 rfl dSe_findHolders_51 ?_
                    refine xz_bipush hC (v := nI 24) (by decide +kernel) dSe_findHolders_53 ?_
                    refine xz_imul hC (z := nI (2 * 24)) (pk_mul _ _) dSe_findHolders_55 ?_
                    refine xz_iload_n hC 1 rfl rfl dSe_findHolders_56 ?_
                    refine xz_iload hC 0 rfl dSe_findHolders_57 ?_
                    refine xz_callSN hC (mSx_partOf l D K (g 0 k) 2 hg15 (by omega)) kSx_partOf tq1 tq372 tq223 (b := 0) hSx_partOf (by decide) [] [0, 1, 2, 3, 4, 5] (by decide) rfl (wr := [(se, .inr (3, [.ref rw, .int (nI rl), .int (nI wn), .int (nI pn), .ref pl, .ref ho, .ref ag, .ref bi, .ref an, .int (nI fd), .int (nI lv)])), (ho, .inl (K 1, 72, .inr (.inl (vp_updL (vp_updL Hk (0 * 24 + (xk_pt (g 0 k) 0)) ((Hk (0 * 24 + (xk_pt (g 0 k) 0))) ||| ((1 : Int64) <<< ((nI k).toInt64 &&& 63)))) (1 * 24 + (xk_pt (g 0 k) 1)) (((vp_updL Hk (0 * 24 + (xk_pt (g 0 k) 0)) ((Hk (0 * 24 + (xk_pt (g 0 k) 0))) ||| ((1 : Int64) <<< ((nI k).toInt64 &&& 63)))) (1 * 24 + (xk_pt (g 0 k) 1))) ||| ((1 : Int64) <<< ((nI k).toInt64 &&& 63))))))), (ts, .inr (4, [.ref pr, .ref os, .int (nI pd), .int (nI mg)])), (pr, .inl (K 4, 6, .inr (.inr (.inr (.inr fa))))), (oa 0, .inr (1, [.int (nI 0), .int (nI 1), .int (nI 2), .ref (ka 0), .int (nI n)])), (ka 0, .inl (K 0, 60, .inl (f 0)))]) rfl (by decide) (by decide) (As := [.int (nI (g 0 k)), .int (nI 2)]) (rest := [.int (nI (2 * 24)), .ref ho]) rfl rfl (Nat.le_of_ble_eq_true rfl) (by decide) dSe_findHolders_59 (fun v w hq => ?_)
                    obtain ⟨rfl, rfl⟩ := hq
                    refine xz_ste (st' := [.int (nI (xk_pt (g 0 k) 2)), .int (nI (2 * 24)), .ref ho]) rfl ?_
                    refine xz_wss (ws' := [(se, .inr (3, [.ref rw, .int (nI rl), .int (nI wn), .int (nI pn), .ref pl, .ref ho, .ref ag, .ref bi, .ref an, .int (nI fd), .int (nI lv)])), (ho, .inl (K 1, 72, .inr (.inl (vp_updL (vp_updL Hk (0 * 24 + (xk_pt (g 0 k) 0)) ((Hk (0 * 24 + (xk_pt (g 0 k) 0))) ||| ((1 : Int64) <<< ((nI k).toInt64 &&& 63)))) (1 * 24 + (xk_pt (g 0 k) 1)) (((vp_updL Hk (0 * 24 + (xk_pt (g 0 k) 0)) ((Hk (0 * 24 + (xk_pt (g 0 k) 0))) ||| ((1 : Int64) <<< ((nI k).toInt64 &&& 63)))) (1 * 24 + (xk_pt (g 0 k) 1))) ||| ((1 : Int64) <<< ((nI k).toInt64 &&& 63))))))), (ts, .inr (4, [.ref pr, .ref os, .int (nI pd), .int (nI mg)])), (pr, .inl (K 4, 6, .inr (.inr (.inr (.inr fa))))), (oa 0, .inr (1, [.int (nI 0), .int (nI 1), .int (nI 2), .ref (ka 0), .int (nI n)])), (ka 0, .inl (K 0, 60, .inl (f 0)))]) [0, 1, 2, 3, 4, 5] (by decide) rfl rfl ?_
                    have hb2 := h24 k (by omega) 2 (by omega)
                    refine xz_iadd hC (z := nI (2 * 24 + (xk_pt (g 0 k) 2))) (nI_add _ _) dSe_findHolders_62 ?_
                    refine xz_dup2 hC rfl rfl dSe_findHolders_63 ?_
                    refine xz_laload hC 1 1 (v := (vp_updL (vp_updL Hk (0 * 24 + (xk_pt (g 0 k) 0)) ((Hk (0 * 24 + (xk_pt (g 0 k) 0))) ||| ((1 : Int64) <<< ((nI k).toInt64 &&& 63)))) (1 * 24 + (xk_pt (g 0 k) 1)) (((vp_updL Hk (0 * 24 + (xk_pt (g 0 k) 0)) ((Hk (0 * 24 + (xk_pt (g 0 k) 0))) ||| ((1 : Int64) <<< ((nI k).toInt64 &&& 63)))) (1 * 24 + (xk_pt (g 0 k) 1))) ||| ((1 : Int64) <<< ((nI k).toInt64 &&& 63)))) (2 * 24 + (xk_pt (g 0 k) 2))) rfl rfl (by omega) (by decide) rfl dSe_findHolders_64 ?_
                    refine xz_lconst hC (v := 1) (by decide +kernel) dSe_findHolders_65 ?_
                    refine xz_iload_n hC 2 rfl rfl dSe_findHolders_66 ?_
                    refine xz_lshl hC (z := (1 : Int64) <<< ((nI k).toInt64 &&& 63)) rfl dSe_findHolders_67 ?_
                    refine xz_lor hC (z := ((vp_updL (vp_updL Hk (0 * 24 + (xk_pt (g 0 k) 0)) ((Hk (0 * 24 + (xk_pt (g 0 k) 0))) ||| ((1 : Int64) <<< ((nI k).toInt64 &&& 63)))) (1 * 24 + (xk_pt (g 0 k) 1)) (((vp_updL Hk (0 * 24 + (xk_pt (g 0 k) 0)) ((Hk (0 * 24 + (xk_pt (g 0 k) 0))) ||| ((1 : Int64) <<< ((nI k).toInt64 &&& 63)))) (1 * 24 + (xk_pt (g 0 k) 1))) ||| ((1 : Int64) <<< ((nI k).toInt64 &&& 63)))) (2 * 24 + (xk_pt (g 0 k) 2))) ||| ((1 : Int64) <<< ((nI k).toInt64 &&& 63))) rfl dSe_findHolders_68 ?_
                    refine xz_lastore hC 1 1 (ws' := [(se, .inr (3, [.ref rw, .int (nI rl), .int (nI wn), .int (nI pn), .ref pl, .ref ho, .ref ag, .ref bi, .ref an, .int (nI fd), .int (nI lv)])), (ho, .inl (K 1, 72, .inr (.inl (vp_updL (vp_updL (vp_updL Hk (0 * 24 + (xk_pt (g 0 k) 0)) ((Hk (0 * 24 + (xk_pt (g 0 k) 0))) ||| ((1 : Int64) <<< ((nI k).toInt64 &&& 63)))) (1 * 24 + (xk_pt (g 0 k) 1)) (((vp_updL Hk (0 * 24 + (xk_pt (g 0 k) 0)) ((Hk (0 * 24 + (xk_pt (g 0 k) 0))) ||| ((1 : Int64) <<< ((nI k).toInt64 &&& 63)))) (1 * 24 + (xk_pt (g 0 k) 1))) ||| ((1 : Int64) <<< ((nI k).toInt64 &&& 63)))) (2 * 24 + (xk_pt (g 0 k) 2)) (((vp_updL (vp_updL Hk (0 * 24 + (xk_pt (g 0 k) 0)) ((Hk (0 * 24 + (xk_pt (g 0 k) 0))) ||| ((1 : Int64) <<< ((nI k).toInt64 &&& 63)))) (1 * 24 + (xk_pt (g 0 k) 1)) (((vp_updL Hk (0 * 24 + (xk_pt (g 0 k) 0)) ((Hk (0 * 24 + (xk_pt (g 0 k) 0))) ||| ((1 : Int64) <<< ((nI k).toInt64 &&& 63)))) (1 * 24 + (xk_pt (g 0 k) 1))) ||| ((1 : Int64) <<< ((nI k).toInt64 &&& 63)))) (2 * 24 + (xk_pt (g 0 k) 2))) ||| ((1 : Int64) <<< ((nI k).toInt64 &&& 63))))))), (ts, .inr (4, [.ref pr, .ref os, .int (nI pd), .int (nI mg)])), (pr, .inl (K 4, 6, .inr (.inr (.inr (.inr fa))))), (oa 0, .inr (1, [.int (nI 0), .int (nI 1), .int (nI 2), .ref (ka 0), .int (nI n)])), (ka 0, .inl (K 0, 60, .inl (f 0)))]) rfl rfl (by omega) (by decide) rfl dSe_findHolders_69 ?_
                    refine xz_iinc hC 0 (lc' := [(4, .int (nI 3)), (3, .int (nI (g 0 k))), (2, .int (nI k)), (0, .ref se), (1, .ref ts)]) rfl (xn_inc _) (by decide) rfl dSe_findHolders_70 ?_
                    refine xz_goto hC (tgt := 41) (by decide) dSe_findHolders_73 ?_
                    refine xz_iload hC 0 rfl dSe_findHolders_41 ?_
                    refine xz_iconst hC (v := nI 3) (by decide +kernel) dSe_findHolders_43 ?_
                    refine xz_icmp_ge hC (tgt := 76) (nI_toInt (by omega)) (nI_toInt (by omega)) (by decide) dSe_findHolders_44 (fun h8 => ?_) (fun h8 => ?_)
                    · skip
                      refine xz_iinc hC 2 (lc' := [(2, .int (nI (k + 1))), (4, .int (nI 3)), (3, .int (nI (g 0 k))), (0, .ref se), (1, .ref ts)]) rfl (xn_inc _) (by decide) rfl dSe_findHolders_76 ?_
                      refine xz_goto hC (tgt := 23) (by decide) dSe_findHolders_79 ?_
                      refine xz_lcs (lc' := [(2, .int (nI (k + 1))), (0, .ref se), (1, .ref ts)]) [0, 3, 4] rfl ?_
                      exact ihlp3 _ (by omega) (k + 1) (vp_updL (vp_updL (vp_updL Hk (0 * 24 + (xk_pt (g 0 k) 0)) ((Hk (0 * 24 + (xk_pt (g 0 k) 0))) ||| ((1 : Int64) <<< ((nI k).toInt64 &&& 63)))) (1 * 24 + (xk_pt (g 0 k) 1)) (((vp_updL Hk (0 * 24 + (xk_pt (g 0 k) 0)) ((Hk (0 * 24 + (xk_pt (g 0 k) 0))) ||| ((1 : Int64) <<< ((nI k).toInt64 &&& 63)))) (1 * 24 + (xk_pt (g 0 k) 1))) ||| ((1 : Int64) <<< ((nI k).toInt64 &&& 63)))) (2 * 24 + (xk_pt (g 0 k) 2)) (((vp_updL (vp_updL Hk (0 * 24 + (xk_pt (g 0 k) 0)) ((Hk (0 * 24 + (xk_pt (g 0 k) 0))) ||| ((1 : Int64) <<< ((nI k).toInt64 &&& 63)))) (1 * 24 + (xk_pt (g 0 k) 1)) (((vp_updL Hk (0 * 24 + (xk_pt (g 0 k) 0)) ((Hk (0 * 24 + (xk_pt (g 0 k) 0))) ||| ((1 : Int64) <<< ((nI k).toInt64 &&& 63)))) (1 * 24 + (xk_pt (g 0 k) 1))) ||| ((1 : Int64) <<< ((nI k).toInt64 &&& 63)))) (2 * 24 + (xk_pt (g 0 k) 2))) ||| ((1 : Int64) <<< ((nI k).toInt64 &&& 63)))) (by omega) (xs_ho_step hk (by omega) (h24 k (by omega) 0 (by omega)) (h24 k (by omega) 1 (by omega)) (h24 k (by omega) 2 (by omega))) rfl
                    · skip
                      exfalso; omega
        exact lp3 _ 0 Ho' (by omega) (fun i hi' b hb => by rw [hz i (by omega), xb_0]; simp) rfl
      · skip
        refine xz_aload_n hC 1 rfl rfl dSe_findHolders_8 ?_
        refine xz_get hC 0 rfl rfl 5 (by decide) inSe tq118 rfl rfl dSe_findHolders_9 ?_
        refine xz_iload_n hC 0 rfl rfl dSe_findHolders_12 ?_
        refine xz_lconst hC (v := 0) (by decide +kernel) dSe_findHolders_13 ?_
        refine xz_lastore hC 1 1 (ws' := [(se, .inr (3, [.ref rw, .int (nI rl), .int (nI wn), .int (nI pn), .ref pl, .ref ho, .ref ag, .ref bi, .ref an, .int (nI fd), .int (nI lv)])), (ho, .inl (K 1, 72, .inr (.inl (vp_updL Ho' i 0)))), (ts, .inr (4, [.ref pr, .ref os, .int (nI pd), .int (nI mg)])), (pr, .inl (K 4, 6, .inr (.inr (.inr (.inr fa))))), (oa 0, .inr (1, [.int (nI 0), .int (nI 1), .int (nI 2), .ref (ka 0), .int (nI n)])), (ka 0, .inl (K 0, 60, .inl (f 0)))]) rfl rfl (by omega) (by decide) rfl dSe_findHolders_14 ?_
        refine xz_iinc hC 0 (lc' := [(2, .int (nI (i + 1))), (0, .ref se), (1, .ref ts)]) rfl (xn_inc _) (by decide) rfl dSe_findHolders_15 ?_
        refine xz_goto hC (tgt := 2) (by decide) dSe_findHolders_18 ?_
        exact ihlp1 _ (by omega) (i + 1) (vp_updL Ho' i 0) (by omega) (fun j hj => by by_cases z : j = i; (rw [z, pk_uLs]); (rw [pk_uLn z]; exact hz j (by omega))) rfl
  exact lp1 _ 0 Ho (by omega) (fun j hj => absurd hj (by omega)) rfl
set_option maxHeartbeats 1000000 in
set_option maxRecDepth 100000 in
theorem mSe_agreeingUnbound (l : Launch) (D : va_G) (K : Nat → ClassId) (qu nu c : Nat) (F : Nat → Int32) (q : Nat → Nat) (p : Nat) (ts pr os ks n pd mg m : Nat) (fa : Nat → Option Nat) (oa ka : Nat → Nat) (f : Nat → Nat → Int32) (e : Nat → Int32) (g : Nat → Nat → Nat) (h : Nat → Nat) (P S : Nat → Prop) (hc4 : c ≤ 4) (hq : xq_nu F q (3 * c)) (hp : p < c) (hfa : ∀ w, w < 6 → fa w = some (oa w)) (hn : n ≤ 60) (hO : xs_ok 0 1 2 (f 0) (g 0) n P) (h24 : ∀ k, k < n → ∀ i, i < 3 → xk_pt (g 0 k) i < 24) : xz_Met l D (tz K) ySe_agreeingUnbound cSe_agreeingUnbound 6 (some .long) { frames := 4, cells := 0, slots := 0, locals := 85 } [.ref qu, .int (nI p), .ref ts] [(qu, .inr (2, [.ref nu, .int (nI c)])), (nu, .inl (K 0, 12, .inl F)), (ts, .inr (4, [.ref pr, .ref os, .int (nI pd), .int (nI mg)])), (pr, .inl (K 4, 6, .inr (.inr (.inr (.inr fa))))), (oa 0, .inr (1, [.int (nI 0), .int (nI 1), .int (nI 2), .ref (ka 0), .int (nI n)])), (ka 0, .inl (K 0, 60, .inl (f 0)))] (fun v w => ∃ x : Int64, v = some (.long x) ∧ w = [(qu, .inr (2, [.ref nu, .int (nI c)])), (nu, .inl (K 0, 12, .inl F)), (ts, .inr (4, [.ref pr, .ref os, .int (nI pd), .int (nI mg)])), (pr, .inl (K 4, 6, .inr (.inr (.inr (.inr fa))))), (oa 0, .inr (1, [.int (nI 0), .int (nI 1), .int (nI 2), .ref (ka 0), .int (nI n)])), (ka 0, .inl (K 0, 60, .inl (f 0)))] ∧ xs_au x q p (g 0) n) := by
  refine xz_enter (by decide +kernel) (Nat.le_of_ble_eq_true rfl) ?_
  intro Γ hC
  refine xz_lcs (lc' := [(0, .ref qu), (1, .int (nI p)), (2, .ref ts)]) [0, 1, 2] rfl ?_
  refine xz_lconst hC (v := 0) (by decide +kernel) dSe_agreeingUnbound_0 ?_
  refine xz_lstore_n hC (lc' := [(3, .long 0), (0, .ref qu), (1, .int (nI p)), (2, .ref ts)]) rfl (by decide) rfl dSe_agreeingUnbound_1 ?_
  refine xz_iconst hC (v := nI 0) (by decide +kernel) dSe_agreeingUnbound_2 ?_
  refine xz_istore hC (lc' := [(5, .int (nI 0)), (3, .long 0), (0, .ref qu), (1, .int (nI p)), (2, .ref ts)]) (by decide) rfl dSe_agreeingUnbound_3 ?_
  have lp1 : ∀ (NNlp1 : Nat) (k : Nat) (x : Int64), k ≤ n → xs_au x q p (g 0) k → n - k = NNlp1 → xz_X Γ 0 0 [(qu, .inr (2, [.ref nu, .int (nI c)])), (nu, .inl (K 0, 12, .inl F)), (ts, .inr (4, [.ref pr, .ref os, .int (nI pd), .int (nI mg)])), (pr, .inl (K 4, 6, .inr (.inr (.inr (.inr fa))))), (oa 0, .inr (1, [.int (nI 0), .int (nI 1), .int (nI 2), .ref (ka 0), .int (nI n)])), (ka 0, .inl (K 0, 60, .inl (f 0)))] 5 [(5, .int (nI k)), (3, .long x), (0, .ref qu), (1, .int (nI p)), (2, .ref ts)] [] := by
    intro NNlp1
    induction NNlp1 using Nat.strongRecOn with
    | _ NNlp1 ihlp1 =>
      intro k  x  hk0 hx hNNlp1
      refine xz_iload hC 0 rfl dSe_agreeingUnbound_5 ?_
      refine xz_aload_n hC 4 rfl rfl dSe_agreeingUnbound_7 ?_
      refine xz_callV hC (mTs_count l D K ts pr os ks n pd mg m fa oa ka f e g h P S hfa) kTs_count tq3 tq370 tq282 tq283 2 4 rfl rfl rfl (host := "") hTs_count (by decide) [2, 3, 4] [0, 1, 5] (by decide) rfl (wr := [(qu, .inr (2, [.ref nu, .int (nI c)])), (nu, .inl (K 0, 12, .inl F)), (ka 0, .inl (K 0, 60, .inl (f 0)))]) rfl (by decide) (by decide) (As := []) (rest := [.int (nI k)]) rfl rfl (Nat.le_of_ble_eq_true rfl) (by decide) dSe_agreeingUnbound_8 (fun v w hq => ?_)
      obtain ⟨rfl, rfl⟩ := hq
      refine xz_ste (st' := [.int (nI n), .int (nI k)]) rfl ?_
      refine xz_wss (ws' := [(qu, .inr (2, [.ref nu, .int (nI c)])), (nu, .inl (K 0, 12, .inl F)), (ts, .inr (4, [.ref pr, .ref os, .int (nI pd), .int (nI mg)])), (pr, .inl (K 4, 6, .inr (.inr (.inr (.inr fa))))), (oa 0, .inr (1, [.int (nI 0), .int (nI 1), .int (nI 2), .ref (ka 0), .int (nI n)])), (ka 0, .inl (K 0, 60, .inl (f 0)))]) [0, 1, 3, 4, 5, 2] (by decide) rfl rfl ?_
      refine xz_icmp_ge hC (tgt := 42) (nI_toInt (by omega)) (nI_toInt (by omega)) (by decide) dSe_agreeingUnbound_11 (fun h2 => ?_) (fun h2 => ?_)
      · skip
        refine xz_lload_n hC 1 rfl rfl dSe_agreeingUnbound_42 ?_
        exact xz_lreturn hC (by decide) (by decide) (⟨x, rfl, rfl, by rw [show n = k by omega]; exact hx⟩) dSe_agreeingUnbound_43
      · skip
        have hg15 := (hO.1 k (by omega)).2
        refine xz_aload_n hC 2 rfl rfl dSe_agreeingUnbound_14 ?_
        refine xz_iload_n hC 3 rfl rfl dSe_agreeingUnbound_15 ?_
        refine xz_aload_n hC 4 rfl rfl dSe_agreeingUnbound_16 ?_
        refine xz_iconst hC (v := nI 0) (by decide +kernel) dSe_agreeingUnbound_17 ?_
        refine xz_iload hC 0 rfl dSe_agreeingUnbound_18 ?_
        refine xz_callV hC (mTs_codeAt0 l D K ts pr os ks n pd mg m fa oa ka f e g h P S k hfa hn hO (by omega)) kTs_codeAt tq3 tq371 tq298 tq299 2 4 rfl rfl rfl (host := "") hTs_codeAt (by decide) [2, 3, 4, 5] [0, 1] (by decide) rfl (wr := [(qu, .inr (2, [.ref nu, .int (nI c)])), (nu, .inl (K 0, 12, .inl F))]) rfl (by decide) (by decide) (As := [.int (nI 0), .int (nI k)]) (rest := [.int (nI p), .ref qu]) rfl rfl (Nat.le_of_ble_eq_true rfl) (by decide) dSe_agreeingUnbound_20 (fun v w hq => ?_)
        obtain ⟨rfl, rfl⟩ := hq
        refine xz_ste (st' := [.int (nI (g 0 k)), .int (nI p), .ref qu]) rfl ?_
        refine xz_wss (ws' := [(qu, .inr (2, [.ref nu, .int (nI c)])), (nu, .inl (K 0, 12, .inl F)), (ts, .inr (4, [.ref pr, .ref os, .int (nI pd), .int (nI mg)])), (pr, .inl (K 4, 6, .inr (.inr (.inr (.inr fa))))), (oa 0, .inr (1, [.int (nI 0), .int (nI 1), .int (nI 2), .ref (ka 0), .int (nI n)])), (ka 0, .inl (K 0, 60, .inl (f 0)))]) [0, 1, 2, 3, 4, 5] (by decide) rfl rfl ?_
        refine xz_callV hC (mQu_agrees l D K qu nu c F q p (g 0 k) hc4 hq hp hg15) kQu_agrees tq5 tq376 tq377 tq378 0 2 rfl rfl rfl (host := "") hQu_agrees (by decide) [0, 1] [2, 3, 4, 5] (by decide) rfl (wr := [(ts, .inr (4, [.ref pr, .ref os, .int (nI pd), .int (nI mg)])), (pr, .inl (K 4, 6, .inr (.inr (.inr (.inr fa))))), (oa 0, .inr (1, [.int (nI 0), .int (nI 1), .int (nI 2), .ref (ka 0), .int (nI n)])), (ka 0, .inl (K 0, 60, .inl (f 0)))]) rfl (by decide) (by decide) (As := [.int (nI p), .int (nI (g 0 k))]) (rest := []) rfl rfl (Nat.le_of_ble_eq_true rfl) (by decide) dSe_agreeingUnbound_23 (fun v w hq => ?_)
        obtain ⟨b, rfl, rfl, hb⟩ := hq
        refine xz_ste (st' := [.int (bI b)]) rfl ?_
        refine xz_wss (ws' := [(qu, .inr (2, [.ref nu, .int (nI c)])), (nu, .inl (K 0, 12, .inl F)), (ts, .inr (4, [.ref pr, .ref os, .int (nI pd), .int (nI mg)])), (pr, .inl (K 4, 6, .inr (.inr (.inr (.inr fa))))), (oa 0, .inr (1, [.int (nI 0), .int (nI 1), .int (nI 2), .ref (ka 0), .int (nI n)])), (ka 0, .inl (K 0, 60, .inl (f 0)))]) [4, 5, 0, 1, 2, 3] (by decide) rfl rfl ?_
        refine xz_ifb_eq hC (tgt := 36) (by decide) dSe_agreeingUnbound_26 (fun h3 => ?_) (fun h3 => ?_)
        · skip
          have hag : ¬ xq_ag q p (g 0 k) := fun z => absurd (hb.mpr z) (by rw [h3]; decide)
          refine xz_iinc hC 0 (lc' := [(5, .int (nI (k + 1))), (3, .long x), (0, .ref qu), (1, .int (nI p)), (2, .ref ts)]) rfl (xn_inc _) (by decide) rfl dSe_agreeingUnbound_36 ?_
          refine xz_goto hC (tgt := 5) (by decide) dSe_agreeingUnbound_39 ?_
          exact ihlp1 _ (by omega) (k + 1) x (by omega) (xs_au_no hx hag) rfl
        · skip
          have hag := hb.mp h3
          refine xz_lload_n hC 1 rfl rfl dSe_agreeingUnbound_29 ?_
          refine xz_lconst hC (v := 1) (by decide +kernel) dSe_agreeingUnbound_30 ?_
          refine xz_iload hC 0 rfl dSe_agreeingUnbound_31 ?_
          refine xz_lshl hC (z := (1 : Int64) <<< ((nI k).toInt64 &&& 63)) rfl dSe_agreeingUnbound_33 ?_
          refine xz_lor hC (z := x ||| ((1 : Int64) <<< ((nI k).toInt64 &&& 63))) rfl dSe_agreeingUnbound_34 ?_
          refine xz_lstore_n hC (lc' := [(3, .long (x ||| ((1 : Int64) <<< ((nI k).toInt64 &&& 63)))), (5, .int (nI k)), (0, .ref qu), (1, .int (nI p)), (2, .ref ts)]) rfl (by decide) rfl dSe_agreeingUnbound_35 ?_
          refine xz_iinc hC 1 (lc' := [(5, .int (nI (k + 1))), (3, .long (x ||| ((1 : Int64) <<< ((nI k).toInt64 &&& 63)))), (0, .ref qu), (1, .int (nI p)), (2, .ref ts)]) rfl (xn_inc _) (by decide) rfl dSe_agreeingUnbound_36 ?_
          refine xz_goto hC (tgt := 5) (by decide) dSe_agreeingUnbound_39 ?_
          exact ihlp1 _ (by omega) (k + 1) (x ||| ((1 : Int64) <<< ((nI k).toInt64 &&& 63))) (by omega) (xs_au_yes hx (by omega) hag) rfl
  exact lp1 _ 0 0 (by omega) xs_au_0 rfl
