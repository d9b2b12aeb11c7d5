set_option maxHeartbeats 1000000 in
set_option maxRecDepth 100000 in
theorem mSx_where (l : Launch) (D : va_G) (K : Nat → ClassId) (xo di ts qu se pw ln dn ba bb nu qc : Nat) (F : Nat → Int32) (x y z : Int32) (hdn : dn ≤ 24) (hqc : qc ≤ 4) : xz_Met l D (tz K) ySx_where cSx_where 4 (some .int) { frames := 2, cells := 0, slots := 0, locals := 42 } [.ref xo, .int x, .int y, .int z] [(xo, .inr (5, [.ref di, .ref ts, .ref qu, .ref se])), (di, .inr (0, [.ref pw, .ref ln, .int (nI dn), .long (lN ba), .int (nI bb)])), (qu, .inr (2, [.ref nu, .int (nI qc)])), (nu, .inl (K 0, 12, .inl F))] (fun v w => (¬ (((32 ≤ x.toInt ∧ x.toInt < 35) ∨ (0 ≤ x.toInt ∧ x.toInt < dn)) ∧ ((32 ≤ y.toInt ∧ y.toInt < 35) ∨ (0 ≤ y.toInt ∧ y.toInt < dn)) ∧ ((32 ≤ z.toInt ∧ z.toInt < 35) ∨ (0 ≤ z.toInt ∧ z.toInt < dn))) ∧ v = some (.int (-1)) ∧ w = [(xo, .inr (5, [.ref di, .ref ts, .ref qu, .ref se])), (di, .inr (0, [.ref pw, .ref ln, .int (nI dn), .long (lN ba), .int (nI bb)])), (qu, .inr (2, [.ref nu, .int (nI qc)])), (nu, .inl (K 0, 12, .inl F))]) ∨ ((((32 ≤ x.toInt ∧ x.toInt < 35) ∨ (0 ≤ x.toInt ∧ x.toInt < dn)) ∧ ((32 ≤ y.toInt ∧ y.toInt < 35) ∨ (0 ≤ y.toInt ∧ y.toInt < dn)) ∧ ((32 ≤ z.toInt ∧ z.toInt < 35) ∨ (0 ≤ z.toInt ∧ z.toInt < dn))) ∧ qc = 4 ∧ v = some (.int (-2)) ∧ w = [(xo, .inr (5, [.ref di, .ref ts, .ref qu, .ref se])), (di, .inr (0, [.ref pw, .ref ln, .int (nI dn), .long (lN ba), .int (nI bb)])), (qu, .inr (2, [.ref nu, .int (nI qc)])), (nu, .inl (K 0, 12, .inl F))]) ∨ ((((32 ≤ x.toInt ∧ x.toInt < 35) ∨ (0 ≤ x.toInt ∧ x.toInt < dn)) ∧ ((32 ≤ y.toInt ∧ y.toInt < 35) ∨ (0 ≤ y.toInt ∧ y.toInt < dn)) ∧ ((32 ≤ z.toInt ∧ z.toInt < 35) ∨ (0 ≤ z.toInt ∧ z.toInt < dn))) ∧ qc < 4 ∧ v = some (.int (nI (qc + 1))) ∧ w = [(xo, .inr (5, [.ref di, .ref ts, .ref qu, .ref se])), (di, .inr (0, [.ref pw, .ref ln, .int (nI dn), .long (lN ba), .int (nI bb)])), (qu, .inr (2, [.ref nu, .int (nI (qc + 1))])), (nu, .inl (K 0, 12, .inl (upd (upd (upd F (qc * 3) x) (qc * 3 + 1) y) (qc * 3 + 2) z)))])) := by
  refine xz_enter (by decide +kernel) (Nat.le_of_ble_eq_true rfl) ?_
  intro Γ hC
  refine xz_lcs (lc' := [(0, .ref xo), (1, .int x), (2, .int y), (3, .int z)]) [0, 1, 2, 3] rfl ?_
  refine xz_aload_n hC 0 rfl rfl dSx_where_0 ?_
  refine xz_iload_n hC 1 rfl rfl dSx_where_1 ?_
  refine xz_callV hC (mSx_fitsPattern l D K xo di ts qu se pw ln dn ba bb x hdn) kSx_fitsPattern tq1 tq310 tq312 tp5 0 5 rfl rfl rfl (host := "") hSx_fitsPattern (by decide) [0, 1] [2, 3] (by decide) rfl (wr := [(qu, .inr (2, [.ref nu, .int (nI qc)])), (nu, .inl (K 0, 12, .inl F))]) rfl (by decide) (by decide) (As := [.int x]) (rest := []) rfl rfl (Nat.le_of_ble_eq_true rfl) (by decide) dSx_where_2 (fun v w hq => ?_)
  obtain ⟨qx, rfl, rfl, hbx⟩ := hq
  refine xz_ste (st' := [.int (bI qx)]) rfl ?_
  refine xz_wss (ws' := [(xo, .inr (5, [.ref di, .ref ts, .ref qu, .ref se])), (di, .inr (0, [.ref pw, .ref ln, .int (nI dn), .long (lN ba), .int (nI bb)])), (qu, .inr (2, [.ref nu, .int (nI qc)])), (nu, .inl (K 0, 12, .inl F))]) [2, 3, 0, 1] (by decide) rfl rfl ?_
  refine xz_ifb_eq hC (tgt := 24) (by decide) dSx_where_5 (fun h1 => ?_) (fun h1 => ?_)
  · skip
    have hnx : ¬ ((32 ≤ x.toInt ∧ x.toInt < 35) ∨ (0 ≤ x.toInt ∧ x.toInt < dn)) := fun k => absurd (hbx.mpr k) (by rw [h1]; decide)
    refine xz_iconst hC (v := (-1)) (by decide +kernel) dSx_where_24 ?_
    exact xz_ireturn hC (by decide) (by decide) (Or.inl ⟨by first | exact fun k => hnx k.1 | exact fun k => hny k.2.1 | exact fun k => hnz k.2.2, rfl, rfl⟩) dSx_where_25
  · skip
    have hyx := hbx.mp h1
    refine xz_aload_n hC 0 rfl rfl dSx_where_8 ?_
    refine xz_iload_n hC 2 rfl rfl dSx_where_9 ?_
    refine xz_callV hC (mSx_fitsPattern l D K xo di ts qu se pw ln dn ba bb y hdn) kSx_fitsPattern tq1 tq310 tq312 tp5 0 5 rfl rfl rfl (host := "") hSx_fitsPattern (by decide) [0, 1] [2, 3] (by decide) rfl (wr := [(qu, .inr (2, [.ref nu, .int (nI qc)])), (nu, .inl (K 0, 12, .inl F))]) rfl (by decide) (by decide) (As := [.int y]) (rest := []) rfl rfl (Nat.le_of_ble_eq_true rfl) (by decide) dSx_where_10 (fun v w hq => ?_)
    obtain ⟨qy, rfl, rfl, hby⟩ := hq
    refine xz_ste (st' := [.int (bI qy)]) rfl ?_
    refine xz_wss (ws' := [(xo, .inr (5, [.ref di, .ref ts, .ref qu, .ref se])), (di, .inr (0, [.ref pw, .ref ln, .int (nI dn), .long (lN ba), .int (nI bb)])), (qu, .inr (2, [.ref nu, .int (nI qc)])), (nu, .inl (K 0, 12, .inl F))]) [2, 3, 0, 1] (by decide) rfl rfl ?_
    refine xz_ifb_eq hC (tgt := 24) (by decide) dSx_where_13 (fun h2 => ?_) (fun h2 => ?_)
    · skip
      have hny : ¬ ((32 ≤ y.toInt ∧ y.toInt < 35) ∨ (0 ≤ y.toInt ∧ y.toInt < dn)) := fun k => absurd (hby.mpr k) (by rw [h2]; decide)
      refine xz_iconst hC (v := (-1)) (by decide +kernel) dSx_where_24 ?_
      exact xz_ireturn hC (by decide) (by decide) (Or.inl ⟨by first | exact fun k => hnx k.1 | exact fun k => hny k.2.1 | exact fun k => hnz k.2.2, rfl, rfl⟩) dSx_where_25
    · skip
      have hyy := hby.mp h2
      refine xz_aload_n hC 0 rfl rfl dSx_where_16 ?_
      refine xz_iload_n hC 3 rfl rfl dSx_where_17 ?_
      refine xz_callV hC (mSx_fitsPattern l D K xo di ts qu se pw ln dn ba bb z hdn) kSx_fitsPattern tq1 tq310 tq312 tp5 0 5 rfl rfl rfl (host := "") hSx_fitsPattern (by decide) [0, 1] [2, 3] (by decide) rfl (wr := [(qu, .inr (2, [.ref nu, .int (nI qc)])), (nu, .inl (K 0, 12, .inl F))]) rfl (by decide) (by decide) (As := [.int z]) (rest := []) rfl rfl (Nat.le_of_ble_eq_true rfl) (by decide) dSx_where_18 (fun v w hq => ?_)
      obtain ⟨qz, rfl, rfl, hbz⟩ := hq
      refine xz_ste (st' := [.int (bI qz)]) rfl ?_
      refine xz_wss (ws' := [(xo, .inr (5, [.ref di, .ref ts, .ref qu, .ref se])), (di, .inr (0, [.ref pw, .ref ln, .int (nI dn), .long (lN ba), .int (nI bb)])), (qu, .inr (2, [.ref nu, .int (nI qc)])), (nu, .inl (K 0, 12, .inl F))]) [2, 3, 0, 1] (by decide) rfl rfl ?_
      refine xz_ifb_ne hC (tgt := 26) (by decide) dSx_where_21 (fun h3 => ?_) (fun h3 => ?_)
      · skip
        have hyz := hbz.mp h3
        refine xz_aload_n hC 0 rfl rfl dSx_where_26 ?_
        refine xz_get hC 0 rfl rfl 2 (by decide) inSx tq151 rfl rfl dSx_where_27 ?_
        refine xz_callV hC (mQu_isFull l D K qu nu qc hqc) kQu_isFull tq5 tq317 tq318 tq319 2 2 rfl rfl rfl (host := "") hQu_isFull (by decide) [2] [0, 1, 3] (by decide) rfl (wr := [(xo, .inr (5, [.ref di, .ref ts, .ref qu, .ref se])), (di, .inr (0, [.ref pw, .ref ln, .int (nI dn), .long (lN ba), .int (nI bb)])), (nu, .inl (K 0, 12, .inl F))]) rfl (by decide) (by decide) (As := []) (rest := []) rfl rfl (Nat.le_of_ble_eq_true rfl) (by decide) dSx_where_30 (fun v w hq => ?_)
        obtain ⟨bf, rfl, rfl, hbf⟩ := hq
        refine xz_ste (st' := [.int (bI bf)]) rfl ?_
        refine xz_wss (ws' := [(xo, .inr (5, [.ref di, .ref ts, .ref qu, .ref se])), (di, .inr (0, [.ref pw, .ref ln, .int (nI dn), .long (lN ba), .int (nI bb)])), (qu, .inr (2, [.ref nu, .int (nI qc)])), (nu, .inl (K 0, 12, .inl F))]) [0, 1, 3, 2] (by decide) rfl rfl ?_
        refine xz_ifb_eq hC (tgt := 39) (by decide) dSx_where_33 (fun h4 => ?_) (fun h4 => ?_)
        · skip
          have hnf : ¬ qc = 4 := fun k => absurd (hbf.mpr k) (by rw [h4]; decide)
          refine xz_aload_n hC 0 rfl rfl dSx_where_39 ?_
          refine xz_get hC 0 rfl rfl 2 (by decide) inSx tq151 rfl rfl dSx_where_40 ?_
          refine xz_iload_n hC 1 rfl rfl dSx_where_43 ?_
          refine xz_iload_n hC 2 rfl rfl dSx_where_44 ?_
          refine xz_iload_n hC 3 rfl rfl dSx_where_45 ?_
          refine xz_callV hC (mQu_add l D K qu nu qc F x y z (by omega)) kQu_add tq5 tq321 tq322 tq323 2 2 rfl rfl rfl (host := "") hQu_add (by decide) [2, 3] [0, 1] (by decide) rfl (wr := [(xo, .inr (5, [.ref di, .ref ts, .ref qu, .ref se])), (di, .inr (0, [.ref pw, .ref ln, .int (nI dn), .long (lN ba), .int (nI bb)]))]) rfl (by decide) (by decide) (As := [.int x, .int y, .int z]) (rest := []) rfl rfl (Nat.le_of_ble_eq_true rfl) (by decide) dSx_where_46 (fun v w hq => ?_)
          obtain ⟨rfl, rfl⟩ := hq
          refine xz_ste (st' := []) rfl ?_
          refine xz_wss (ws' := [(xo, .inr (5, [.ref di, .ref ts, .ref qu, .ref se])), (di, .inr (0, [.ref pw, .ref ln, .int (nI dn), .long (lN ba), .int (nI bb)])), (qu, .inr (2, [.ref nu, .int (nI (qc + 1))])), (nu, .inl (K 0, 12, .inl (upd (upd (upd F (qc * 3) x) (qc * 3 + 1) y) (qc * 3 + 2) z)))]) [0, 1, 2, 3] (by decide) rfl rfl ?_
          refine xz_aload_n hC 0 rfl rfl dSx_where_49 ?_
          refine xz_get hC 0 rfl rfl 2 (by decide) inSx tq151 rfl rfl dSx_where_50 ?_
          refine xz_getN hC 2 rfl rfl 1 (by decide) inQu tq101 rfl rfl dSx_where_53 ?_
          exact xz_ireturn hC (by decide) (by decide) (Or.inr (Or.inr ⟨⟨hyx, hyy, hyz⟩, by omega, rfl, rfl⟩)) dSx_where_56
        · skip
          have hyf := hbf.mp h4
          refine xz_bipush hC (v := (-2)) (by decide +kernel) dSx_where_36 ?_
          exact xz_ireturn hC (by decide) (by decide) (Or.inr (Or.inl ⟨⟨hyx, hyy, hyz⟩, hyf, rfl, rfl⟩)) dSx_where_38
      · skip
        have hnz : ¬ ((32 ≤ z.toInt ∧ z.toInt < 35) ∨ (0 ≤ z.toInt ∧ z.toInt < dn)) := fun k => absurd (hbz.mpr k) (by rw [h3]; decide)
        refine xz_iconst hC (v := (-1)) (by decide +kernel) dSx_where_24 ?_
        exact xz_ireturn hC (by decide) (by decide) (Or.inl ⟨by first | exact fun k => hnx k.1 | exact fun k => hny k.2.1 | exact fun k => hnz k.2.2, rfl, rfl⟩) dSx_where_25
set_option maxHeartbeats 1000000 in
set_option maxRecDepth 100000 in
theorem mSx_clear (l : Launch) (D : va_G) (K : Nat → ClassId) (xo di ts qu se pw ln dn ba bb nu qc : Nat) (F : Nat → Int32)  : xz_Met l D (tz K) ySx_clear cSx_clear 1 none { frames := 0, cells := 0, slots := 0, locals := 0 } [.ref xo] [(xo, .inr (5, [.ref di, .ref ts, .ref qu, .ref se])), (qu, .inr (2, [.ref nu, .int (nI qc)]))] (fun v w => v = none ∧ w = [(xo, .inr (5, [.ref di, .ref ts, .ref qu, .ref se])), (qu, .inr (2, [.ref nu, .int (nI 0)]))]) := by
  refine xz_enter (by decide +kernel) (Nat.le_of_ble_eq_true rfl) ?_
  intro Γ hC
  refine xz_lcs (lc' := [(0, .ref xo)]) [0] rfl ?_
  refine xz_aload_n hC 0 rfl rfl dSx_clear_0 ?_
  refine xz_get hC 0 rfl rfl 2 (by decide) inSx tq151 rfl rfl dSx_clear_1 ?_
  refine xz_iconst hC (v := nI 0) (by decide +kernel) dSx_clear_4 ?_
  refine xz_putN hC 1 rfl rfl 1 (by decide) inQu tq101 rfl tyQu tyQu_ok nmQu rfl rfl rfl (Nat.le_of_ble_eq_true rfl) (ws' := [(xo, .inr (5, [.ref di, .ref ts, .ref qu, .ref se])), (qu, .inr (2, [.ref nu, .int (nI 0)]))]) rfl dSx_clear_5 ?_
  exact xz_return hC (by decide) (by decide) (⟨rfl, rfl⟩) dSx_clear_8
set_option maxHeartbeats 1000000 in
set_option maxRecDepth 100000 in
theorem mSx_live (l : Launch) (D : va_G) (K : Nat → ClassId) (xo di ts qu : Nat) (se rw pl ho ag bi an rl wn pn fd lv : Nat)  : xz_Met l D (tz K) ySx_live cSx_live 1 (some .int) { frames := 0, cells := 0, slots := 0, locals := 0 } [.ref xo] [(xo, .inr (5, [.ref di, .ref ts, .ref qu, .ref se])), (se, .inr (3, [.ref rw, .int (nI rl), .int (nI wn), .int (nI pn), .ref pl, .ref ho, .ref ag, .ref bi, .ref an, .int (nI fd), .int (nI lv)]))] (fun v w => v = some (.int (nI lv)) ∧ w = [(xo, .inr (5, [.ref di, .ref ts, .ref qu, .ref se])), (se, .inr (3, [.ref rw, .int (nI rl), .int (nI wn), .int (nI pn), .ref pl, .ref ho, .ref ag, .ref bi, .ref an, .int (nI fd), .int (nI lv)]))]) := by
  refine xz_enter (by decide +kernel) (Nat.le_of_ble_eq_true rfl) ?_
  intro Γ hC
  refine xz_lcs (lc' := [(0, .ref xo)]) [0] rfl ?_
  refine xz_aload_n hC 0 rfl rfl dSx_live_0 ?_
  refine xz_get hC 0 rfl rfl 3 (by decide) inSx tq152 rfl rfl dSx_live_1 ?_
  refine xz_getN hC 1 rfl rfl 10 (by decide) inSe tq125 rfl rfl dSx_live_4 ?_
  exact xz_ireturn hC (by decide) (by decide) (⟨rfl, rfl⟩) dSx_live_7
set_option maxHeartbeats 1000000 in
set_option maxRecDepth 100000 in
theorem mSx_answer (l : Launch) (D : va_G) (K : Nat → ClassId) (xo di ts qu : Nat) (se rw pl ho ag bi an rl wn pn fd lv : Nat) (An : Nat → Int32) (x y : Int32) (hfb : fd < 100000) : xz_Met l D (tz K) ySx_answer cSx_answer 3 (some .int) { frames := 1, cells := 0, slots := 0, locals := 22 } [.ref xo, .int x, .int y] [(xo, .inr (5, [.ref di, .ref ts, .ref qu, .ref se])), (se, .inr (3, [.ref rw, .int (nI rl), .int (nI wn), .int (nI pn), .ref pl, .ref ho, .ref ag, .ref bi, .ref an, .int (nI fd), .int (nI lv)])), (an, .inl (K 0, 600, .inl An))] (fun v w => w = [(xo, .inr (5, [.ref di, .ref ts, .ref qu, .ref se])), (se, .inr (3, [.ref rw, .int (nI rl), .int (nI wn), .int (nI pn), .ref pl, .ref ho, .ref ag, .ref bi, .ref an, .int (nI fd), .int (nI lv)])), (an, .inl (K 0, 600, .inl An))] ∧ (((0 ≤ x.toInt ∧ x.toInt < fd ∧ x.toInt < 200 ∧ 32 ≤ y.toInt ∧ y.toInt < 35) ∧ v = some (.int (An (xi x * 3 + (xi y - 32))))) ∨ (¬ (0 ≤ x.toInt ∧ x.toInt < fd ∧ x.toInt < 200 ∧ 32 ≤ y.toInt ∧ y.toInt < 35) ∧ v = some (.int (-1))))) := by
  refine xz_enter (by decide +kernel) (Nat.le_of_ble_eq_true rfl) ?_
  intro Γ hC
  refine xz_lcs (lc' := [(0, .ref xo), (1, .int x), (2, .int y)]) [0, 1, 2] rfl ?_
  refine xz_iload_n hC 2 rfl rfl dSx_answer_0 ?_
  refine xz_callS hC (mSx_isVariable l D K y) kSx_isVariable tq1 tq314 tq315 (host := "") (b := 0) hSx_isVariable (by decide) [] [0, 1, 2] (by decide) rfl (wr := [(xo, .inr (5, [.ref di, .ref ts, .ref qu, .ref se])), (se, .inr (3, [.ref rw, .int (nI rl), .int (nI wn), .int (nI pn), .ref pl, .ref ho, .ref ag, .ref bi, .ref an, .int (nI fd), .int (nI lv)])), (an, .inl (K 0, 600, .inl An))]) rfl (by decide) (by decide) (As := [.int y]) (rest := []) rfl rfl (Nat.le_of_ble_eq_true rfl) (by decide) dSx_answer_1 (fun v w hq => ?_)
  obtain ⟨b, rfl, rfl, hb⟩ := hq
  refine xz_ste (st' := [.int (bI b)]) rfl ?_
  refine xz_wss (ws' := [(xo, .inr (5, [.ref di, .ref ts, .ref qu, .ref se])), (se, .inr (3, [.ref rw, .int (nI rl), .int (nI wn), .int (nI pn), .ref pl, .ref ho, .ref ag, .ref bi, .ref an, .int (nI fd), .int (nI lv)])), (an, .inl (K 0, 600, .inl An))]) [0, 1, 2] (by decide) rfl rfl ?_
  refine xz_ifb_ne hC (tgt := 9) (by decide) dSx_answer_4 (fun h1 => ?_) (fun h1 => ?_)
  · skip
    have hv := hb.mp h1
    obtain ⟨t, ht, rfl⟩ := xn_of (x := y) (n := 35) (by omega) (by omega)
    have htt : (nI t).toInt = (t : Int) := nI_toInt (by omega)
    have hti : xi (nI t) = t := xi_nI (by omega)
    refine xz_aload_n hC 0 rfl rfl dSx_answer_9 ?_
    refine xz_get hC 0 rfl rfl 3 (by decide) inSx tq152 rfl rfl dSx_answer_10 ?_
    refine xz_iload_n hC 1 rfl rfl dSx_answer_13 ?_
    refine xz_iload_n hC 2 rfl rfl dSx_answer_14 ?_
    refine xz_bipush hC (v := nI 32) (by decide +kernel) dSx_answer_15 ?_
    refine xz_isub hC (z := nI (t - 32)) (pk_sub (by omega)) dSx_answer_17 ?_
    refine xz_callV hC (mSe_termAt l D K se rw pl ho ag bi an rl wn pn fd lv An x (t - 32) hfb (by omega)) kSe_termAt tq6 tq415 tq416 tq417 1 3 rfl rfl rfl (host := "") hSe_termAt (by decide) [1, 2] [0] (by decide) rfl (wr := [(xo, .inr (5, [.ref di, .ref ts, .ref qu, .ref se]))]) rfl (by decide) (by decide) (As := [.int x, .int (nI (t - 32))]) (rest := []) rfl rfl (Nat.le_of_ble_eq_true rfl) (by decide) dSx_answer_18 (fun v w hq => ?_)
    rcases hq with ⟨rfl, ⟨h1, h2, h3, rfl⟩ | ⟨h1, rfl⟩⟩
    · skip
      refine xz_ste (st' := [.int (An (xi x * 3 + (t - 32)))]) rfl ?_
      refine xz_wss (ws' := [(xo, .inr (5, [.ref di, .ref ts, .ref qu, .ref se])), (se, .inr (3, [.ref rw, .int (nI rl), .int (nI wn), .int (nI pn), .ref pl, .ref ho, .ref ag, .ref bi, .ref an, .int (nI fd), .int (nI lv)])), (an, .inl (K 0, 600, .inl An))]) [0, 1, 2] (by decide) rfl rfl ?_
      exact xz_ireturn hC (by decide) (by decide) (by first | exact ⟨rfl, Or.inl ⟨by omega, by rw [hti]⟩⟩ | exact ⟨rfl, Or.inr ⟨by omega, rfl⟩⟩) dSx_answer_21
    · skip
      refine xz_ste (st' := [.int (-1)]) rfl ?_
      refine xz_wss (ws' := [(xo, .inr (5, [.ref di, .ref ts, .ref qu, .ref se])), (se, .inr (3, [.ref rw, .int (nI rl), .int (nI wn), .int (nI pn), .ref pl, .ref ho, .ref ag, .ref bi, .ref an, .int (nI fd), .int (nI lv)])), (an, .inl (K 0, 600, .inl An))]) [0, 1, 2] (by decide) rfl rfl ?_
      exact xz_ireturn hC (by decide) (by decide) (by first | exact ⟨rfl, Or.inl ⟨by omega, by rw [hti]⟩⟩ | exact ⟨rfl, Or.inr ⟨by omega, rfl⟩⟩) dSx_answer_21
  · skip
    have hnv : ¬ (32 ≤ y.toInt ∧ y.toInt < 35) := fun k => absurd (hb.mpr k) (by rw [h1]; decide)
    refine xz_iconst hC (v := (-1)) (by decide +kernel) dSx_answer_7 ?_
    exact xz_ireturn hC (by decide) (by decide) (⟨rfl, Or.inr ⟨by omega, rfl⟩⟩) dSx_answer_8
set_option maxHeartbeats 1000000 in
set_option maxRecDepth 100000 in
theorem mSx_run (l : Launch) (D : va_G) (K : Nat → ClassId) (xo di qu pw ln dn ba bb nu qc : Nat) (F : Nat → Int32) (q : Nat → Nat) (ts pr os ks n pd mg m : Nat) (fa : Nat → Option Nat) (oa ka : Nat → Nat) (f : Nat → Nat → Int32) (e : Nat → Int32) (g : Nat → Nat → Nat) (h : Nat → Nat) (P S : Nat → Prop) (se rw pl ho ag bi an rl wn pn fd lv : Nat) (Rw Pl : Nat → Int32) (Ho Ag : Nat → Int64) (Bi An : Nat → Int32) (x y z : Int32) (hdn : dn ≤ 24) (hqc : qc ≤ 4) (hq : xq_nu F q (3 * qc)) (hfa : ∀ w, w < 6 → fa w = some (oa w)) (hn : n ≤ 60) (hO : xs_ok 0 1 2 (f 0) (g 0) n P) (h24 : ∀ k, k < n → ∀ i, i < 3 → xk_pt (g 0 k) i < 24) : xz_Met l D (tz K) ySx_run cSx_run 4 (some .int) { frames := 10, cells := 0, slots := 0, locals := 254 } [.ref xo, .int x, .int y, .int z] [(xo, .inr (5, [.ref di, .ref ts, .ref qu, .ref se])), (di, .inr (0, [.ref pw, .ref ln, .int (nI dn), .long (lN ba), .int (nI bb)])), (ts, .inr (4, [.ref pr, .ref os, .int (nI pd), .int (nI mg)])), (pr, .inl (K 4, 6, .inr (.inr (.inr (.inr fa))))), (oa 0, .inr (1, [.int (nI 0), .int (nI 1), .int (nI 2), .ref (ka 0), .int (nI n)])), (ka 0, .inl (K 0, 60, .inl (f 0))), (qu, .inr (2, [.ref nu, .int (nI qc)])), (nu, .inl (K 0, 12, .inl F)), (se, .inr (3, [.ref rw, .int (nI rl), .int (nI wn), .int (nI pn), .ref pl, .ref ho, .ref ag, .ref bi, .ref an, .int (nI fd), .int (nI lv)])), (rw, .inl (K 0, 3, .inl Rw)), (pl, .inl (K 0, 12, .inl Pl)), (ho, .inl (K 1, 72, .inr (.inl Ho))), (ag, .inl (K 1, 16, .inr (.inl Ag))), (bi, .inl (K 0, 3, .inl Bi)), (an, .inl (K 0, 600, .inl An))] (fun v w => ((qc = 0 ∨ xq_aw (xq_aw (xq_aw (xq_vb q (3 * qc)) (xq_ev x)) (xq_ev y)) (xq_ev z) ≠ 0) ∧ v = some (.int (-1)) ∧ w = [(xo, .inr (5, [.ref di, .ref ts, .ref qu, .ref se])), (di, .inr (0, [.ref pw, .ref ln, .int (nI dn), .long (lN ba), .int (nI bb)])), (ts, .inr (4, [.ref pr, .ref os, .int (nI pd), .int (nI mg)])), (pr, .inl (K 4, 6, .inr (.inr (.inr (.inr fa))))), (oa 0, .inr (1, [.int (nI 0), .int (nI 1), .int (nI 2), .ref (ka 0), .int (nI n)])), (ka 0, .inl (K 0, 60, .inl (f 0))), (qu, .inr (2, [.ref nu, .int (nI qc)])), (nu, .inl (K 0, 12, .inl F)), (se, .inr (3, [.ref rw, .int (nI rl), .int (nI wn), .int (nI pn), .ref pl, .ref ho, .ref ag, .ref bi, .ref an, .int (nI fd), .int (nI lv)])), (rw, .inl (K 0, 3, .inl Rw)), (pl, .inl (K 0, 12, .inl Pl)), (ho, .inl (K 1, 72, .inr (.inl Ho))), (ag, .inl (K 1, 16, .inr (.inl Ag))), (bi, .inl (K 0, 3, .inl Bi)), (an, .inl (K 0, 600, .inl An))]) ∨ (0 < qc ∧ xq_aw (xq_aw (xq_aw (xq_vb q (3 * qc)) (xq_ev x)) (xq_ev y)) (xq_ev z) = 0 ∧ ∃ (Rw' Pl' : Nat → Int32) (Ho' Ag' : Nat → Int64) (Bi' An' : Nat → Int32) (fd' lv' : Nat), v = some (.int (nI fd')) ∧ w = [(xo, .inr (5, [.ref di, .ref ts, .ref qu, .ref se])), (di, .inr (0, [.ref pw, .ref ln, .int (nI dn), .long (lN ba), .int (nI bb)])), (ts, .inr (4, [.ref pr, .ref os, .int (nI pd), .int (nI mg)])), (pr, .inl (K 4, 6, .inr (.inr (.inr (.inr fa))))), (oa 0, .inr (1, [.int (nI 0), .int (nI 1), .int (nI 2), .ref (ka 0), .int (nI n)])), (ka 0, .inl (K 0, 60, .inl (f 0))), (qu, .inr (2, [.ref nu, .int (nI qc)])), (nu, .inl (K 0, 12, .inl F)), (se, .inr (3, [.ref rw, .int (nI (xq_pc (xq_vb q (3 * qc)))), .int (nI dn), .int (nI qc), .ref pl, .ref ho, .ref ag, .ref bi, .ref an, .int (nI fd'), .int (nI lv')])), (rw, .inl (K 0, 3, .inl Rw')), (pl, .inl (K 0, 12, .inl Pl')), (ho, .inl (K 1, 72, .inr (.inl Ho'))), (ag, .inl (K 1, 16, .inr (.inl Ag'))), (bi, .inl (K 0, 3, .inl Bi')), (an, .inl (K 0, 600, .inl An'))] ∧ fd' = (xr_F (xq_live q qc (x3 (xq_ev x) (xq_ev y) (xq_ev z)) (xo_mem (g 0) n)) dn (xq_pc (xq_vb q (3 * qc)))).length ∧ lv' = xr_sm (fun j => (xr_F (xq_live q qc (x3 (xq_ev x) (xq_ev y) (xq_ev z)) (xo_mem (g 0) n)) dn (1 + j)).length) (xq_pc (xq_vb q (3 * qc))) ∧ xs_kp An' (xr_F (xq_live q qc (x3 (xq_ev x) (xq_ev y) (xq_ev z)) (xo_mem (g 0) n)) dn (xq_pc (xq_vb q (3 * qc)))) (xq_vl (x3 (xq_ev x) (xq_ev y) (xq_ev z))))) := by
  refine xz_enter (by decide +kernel) (Nat.le_of_ble_eq_true rfl) ?_
  intro Γ hC
  refine xz_lcs (lc' := [(0, .ref xo), (1, .int x), (2, .int y), (3, .int z)]) [0, 1, 2, 3] rfl ?_
  refine xz_aload_n hC 0 rfl rfl dSx_run_0 ?_
  refine xz_get hC 0 rfl rfl 2 (by decide) inSx tq151 rfl rfl dSx_run_1 ?_
  refine xz_getN hC 6 rfl rfl 1 (by decide) inQu tq101 rfl rfl dSx_run_4 ?_
  refine xz_if_eq hC (tgt := 23) (nI_toInt (by omega)) (by decide) dSx_run_7 (fun h1 => ?_) (fun h1 => ?_)
  · skip
    have hz0 := h1
    refine xz_iconst hC (v := (-1)) (by decide +kernel) dSx_run_23 ?_
    exact xz_ireturn hC (by decide) (by decide) (by first | exact Or.inl ⟨Or.inl (by omega), rfl, rfl⟩ | exact Or.inl ⟨Or.inr hnrow, rfl, rfl⟩) dSx_run_24
  · skip
    refine xz_aload_n hC 0 rfl rfl dSx_run_10 ?_
    refine xz_get hC 0 rfl rfl 2 (by decide) inSx tq151 rfl rfl dSx_run_11 ?_
    refine xz_iload_n hC 1 rfl rfl dSx_run_14 ?_
    refine xz_iload_n hC 2 rfl rfl dSx_run_15 ?_
    refine xz_iload_n hC 3 rfl rfl dSx_run_16 ?_
    refine xz_callV hC (mQu_hasRow l D K qu nu qc F q x y z hqc hq) kQu_hasRow tq5 tq333 tq334 tq335 6 2 rfl rfl rfl (host := "") hQu_hasRow (by decide) [6, 7] [0, 1, 2, 3, 4, 5, 8, 9, 10, 11, 12, 13, 14] (by decide) rfl (wr := [(xo, .inr (5, [.ref di, .ref ts, .ref qu, .ref se])), (di, .inr (0, [.ref pw, .ref ln, .int (nI dn), .long (lN ba), .int (nI bb)])), (ts, .inr (4, [.ref pr, .ref os, .int (nI pd), .int (nI mg)])), (pr, .inl (K 4, 6, .inr (.inr (.inr (.inr fa))))), (oa 0, .inr (1, [.int (nI 0), .int (nI 1), .int (nI 2), .ref (ka 0), .int (nI n)])), (ka 0, .inl (K 0, 60, .inl (f 0))), (se, .inr (3, [.ref rw, .int (nI rl), .int (nI wn), .int (nI pn), .ref pl, .ref ho, .ref ag, .ref bi, .ref an, .int (nI fd), .int (nI lv)])), (rw, .inl (K 0, 3, .inl Rw)), (pl, .inl (K 0, 12, .inl Pl)), (ho, .inl (K 1, 72, .inr (.inl Ho))), (ag, .inl (K 1, 16, .inr (.inl Ag))), (bi, .inl (K 0, 3, .inl Bi)), (an, .inl (K 0, 600, .inl An))]) rfl (by decide) (by decide) (As := [.int x, .int y, .int z]) (rest := []) rfl rfl (Nat.le_of_ble_eq_true rfl) (by decide) dSx_run_17 (fun v w hq => ?_)
    obtain ⟨b, rfl, rfl, hb⟩ := hq
    refine xz_ste (st' := [.int (bI b)]) rfl ?_
    refine xz_wss (ws' := [(xo, .inr (5, [.ref di, .ref ts, .ref qu, .ref se])), (di, .inr (0, [.ref pw, .ref ln, .int (nI dn), .long (lN ba), .int (nI bb)])), (ts, .inr (4, [.ref pr, .ref os, .int (nI pd), .int (nI mg)])), (pr, .inl (K 4, 6, .inr (.inr (.inr (.inr fa))))), (oa 0, .inr (1, [.int (nI 0), .int (nI 1), .int (nI 2), .ref (ka 0), .int (nI n)])), (ka 0, .inl (K 0, 60, .inl (f 0))), (qu, .inr (2, [.ref nu, .int (nI qc)])), (nu, .inl (K 0, 12, .inl F)), (se, .inr (3, [.ref rw, .int (nI rl), .int (nI wn), .int (nI pn), .ref pl, .ref ho, .ref ag, .ref bi, .ref an, .int (nI fd), .int (nI lv)])), (rw, .inl (K 0, 3, .inl Rw)), (pl, .inl (K 0, 12, .inl Pl)), (ho, .inl (K 1, 72, .inr (.inl Ho))), (ag, .inl (K 1, 16, .inr (.inl Ag))), (bi, .inl (K 0, 3, .inl Bi)), (an, .inl (K 0, 600, .inl An))]) [0, 1, 2, 3, 4, 5, 13, 14, 6, 7, 8, 9, 10, 11, 12] (by decide) rfl rfl ?_
    refine xz_ifb_ne hC (tgt := 25) (by decide) dSx_run_20 (fun h2 => ?_) (fun h2 => ?_)
    · skip
      have hrow := hb.mp h2
      obtain ⟨hr1, hr2, hr3, hr4⟩ := xq_row_ok (fun i hi => (hq i hi).2) hrow
      refine xz_aload_n hC 0 rfl rfl dSx_run_25 ?_
      refine xz_get hC 0 rfl rfl 3 (by decide) inSx tq152 rfl rfl dSx_run_26 ?_
      refine xz_iload_n hC 1 rfl rfl dSx_run_29 ?_
      refine xz_iload_n hC 2 rfl rfl dSx_run_30 ?_
      refine xz_iload_n hC 3 rfl rfl dSx_run_31 ?_
      refine xz_callV hC (mSe_begin l D K se rw pl ho ag bi an rl wn pn fd lv Rw Bi x y z (xq_pc (xq_vb q (3 * qc))) hr1 hr2 hr3) kSe_begin tq6 tq345 tq346 tq347 8 3 rfl rfl rfl (host := "") hSe_begin (by decide) [8, 9, 13] [0, 1, 2, 3, 4, 5, 6, 7, 10, 11, 12, 14] (by decide) rfl (wr := [(xo, .inr (5, [.ref di, .ref ts, .ref qu, .ref se])), (di, .inr (0, [.ref pw, .ref ln, .int (nI dn), .long (lN ba), .int (nI bb)])), (ts, .inr (4, [.ref pr, .ref os, .int (nI pd), .int (nI mg)])), (pr, .inl (K 4, 6, .inr (.inr (.inr (.inr fa))))), (oa 0, .inr (1, [.int (nI 0), .int (nI 1), .int (nI 2), .ref (ka 0), .int (nI n)])), (ka 0, .inl (K 0, 60, .inl (f 0))), (qu, .inr (2, [.ref nu, .int (nI qc)])), (nu, .inl (K 0, 12, .inl F)), (pl, .inl (K 0, 12, .inl Pl)), (ho, .inl (K 1, 72, .inr (.inl Ho))), (ag, .inl (K 1, 16, .inr (.inl Ag))), (an, .inl (K 0, 600, .inl An))]) rfl (by decide) (by decide) (As := [.int x, .int y, .int z]) (rest := []) rfl rfl (Nat.le_of_ble_eq_true rfl) (by decide) dSx_run_32 (fun v w hq => ?_)
      obtain ⟨Rw', Bi0, rfl, rfl, hw0, hw1, hw2, hbi⟩ := hq
      refine xz_ste (st' := []) rfl ?_
      refine xz_wss (ws' := [(xo, .inr (5, [.ref di, .ref ts, .ref qu, .ref se])), (di, .inr (0, [.ref pw, .ref ln, .int (nI dn), .long (lN ba), .int (nI bb)])), (ts, .inr (4, [.ref pr, .ref os, .int (nI pd), .int (nI mg)])), (pr, .inl (K 4, 6, .inr (.inr (.inr (.inr fa))))), (oa 0, .inr (1, [.int (nI 0), .int (nI 1), .int (nI 2), .ref (ka 0), .int (nI n)])), (ka 0, .inl (K 0, 60, .inl (f 0))), (qu, .inr (2, [.ref nu, .int (nI qc)])), (nu, .inl (K 0, 12, .inl F)), (se, .inr (3, [.ref rw, .int (nI (xq_pc (xq_vb q (3 * qc)))), .int (nI wn), .int (nI pn), .ref pl, .ref ho, .ref ag, .ref bi, .ref an, .int (nI 0), .int (nI 0)])), (rw, .inl (K 0, 3, .inl Rw')), (pl, .inl (K 0, 12, .inl Pl)), (ho, .inl (K 1, 72, .inr (.inl Ho))), (ag, .inl (K 1, 16, .inr (.inl Ag))), (bi, .inl (K 0, 3, .inl Bi0)), (an, .inl (K 0, 600, .inl An))]) [0, 1, 2, 3, 4, 5, 6, 7, 12, 13, 8, 9, 10, 14, 11] (by decide) rfl rfl ?_
      refine xz_aload_n hC 0 rfl rfl dSx_run_35 ?_
      refine xz_get hC 0 rfl rfl 3 (by decide) inSx tq152 rfl rfl dSx_run_36 ?_
      refine xz_aload_n hC 0 rfl rfl dSx_run_39 ?_
      refine xz_get hC 0 rfl rfl 2 (by decide) inSx tq151 rfl rfl dSx_run_40 ?_
      refine xz_aload_n hC 0 rfl rfl dSx_run_43 ?_
      refine xz_get hC 0 rfl rfl 1 (by decide) inSx tq150 rfl rfl dSx_run_44 ?_
      refine xz_aload_n hC 0 rfl rfl dSx_run_47 ?_
      refine xz_get hC 0 rfl rfl 0 (by decide) inSx tq149 rfl rfl dSx_run_48 ?_
      refine xz_getN hC 1 rfl rfl 2 (by decide) inDi tq26 rfl rfl dSx_run_51 ?_
      refine xz_callV hC (mSe_prepare l D K se rw pl ho ag bi an (xq_pc (xq_vb q (3 * qc))) wn pn 0 0 Pl Ho Ag qu nu qc dn F q ts pr os ks n pd mg m fa oa ka f e g h P S hqc hq hfa hn hO h24) kSe_prepare tq6 tq354 tq355 tq356 8 3 rfl rfl rfl (host := "") hSe_prepare (by decide) [8, 10, 11, 12, 6, 7, 2, 3, 4, 5] [0, 1, 9, 13, 14] (by decide) rfl (wr := [(xo, .inr (5, [.ref di, .ref ts, .ref qu, .ref se])), (di, .inr (0, [.ref pw, .ref ln, .int (nI dn), .long (lN ba), .int (nI bb)])), (rw, .inl (K 0, 3, .inl Rw')), (bi, .inl (K 0, 3, .inl Bi0)), (an, .inl (K 0, 600, .inl An))]) rfl (by decide) (by decide) (As := [.ref qu, .ref ts, .int (nI dn)]) (rest := []) rfl rfl (Nat.le_of_ble_eq_true rfl) (by decide) dSx_run_54 (fun v w hq => ?_)
      obtain ⟨Pl', Ho', Ag0, rfl, rfl, hpl, hho, hag⟩ := hq
      refine xz_ste (st' := []) rfl ?_
      refine xz_wss (ws' := [(xo, .inr (5, [.ref di, .ref ts, .ref qu, .ref se])), (di, .inr (0, [.ref pw, .ref ln, .int (nI dn), .long (lN ba), .int (nI bb)])), (ts, .inr (4, [.ref pr, .ref os, .int (nI pd), .int (nI mg)])), (pr, .inl (K 4, 6, .inr (.inr (.inr (.inr fa))))), (oa 0, .inr (1, [.int (nI 0), .int (nI 1), .int (nI 2), .ref (ka 0), .int (nI n)])), (ka 0, .inl (K 0, 60, .inl (f 0))), (qu, .inr (2, [.ref nu, .int (nI qc)])), (nu, .inl (K 0, 12, .inl F)), (se, .inr (3, [.ref rw, .int (nI (xq_pc (xq_vb q (3 * qc)))), .int (nI dn), .int (nI qc), .ref pl, .ref ho, .ref ag, .ref bi, .ref an, .int (nI 0), .int (nI 0)])), (rw, .inl (K 0, 3, .inl Rw')), (pl, .inl (K 0, 12, .inl Pl')), (ho, .inl (K 1, 72, .inr (.inl Ho'))), (ag, .inl (K 1, 16, .inr (.inl Ag0))), (bi, .inl (K 0, 3, .inl Bi0)), (an, .inl (K 0, 600, .inl An))]) [0, 1, 11, 12, 13, 14, 9, 10, 5, 2, 6, 7, 8, 3, 4] (by decide) rfl rfl ?_
      refine xz_aload_n hC 0 rfl rfl dSx_run_57 ?_
      refine xz_get hC 0 rfl rfl 3 (by decide) inSx tq152 rfl rfl dSx_run_58 ?_
      refine xz_callV hC (mSe_findAll l D K se rw pl ho ag bi an (xq_pc (xq_vb q (3 * qc))) dn qc 0 0 Rw' Pl' Ho' Ag0 Bi0 An q (x3 (xq_ev x) (xq_ev y) (xq_ev z)) (g 0) n hqc hn hdn hr4 (xs_rw_begin hr4.1 hw0 hw1 hw2) hpl hho (fun i hi => (hq i hi).2) (fun j hj => xs_au_ag (hag j hj)) (xs_bd_nil hbi)) kSe_findAll tq6 tq382 tq383 tq384 8 3 rfl rfl rfl (host := "") hSe_findAll (by decide) [8, 9, 10, 11, 12, 13, 14] [0, 1, 2, 3, 4, 5, 6, 7] (by decide) rfl (wr := [(xo, .inr (5, [.ref di, .ref ts, .ref qu, .ref se])), (di, .inr (0, [.ref pw, .ref ln, .int (nI dn), .long (lN ba), .int (nI bb)])), (ts, .inr (4, [.ref pr, .ref os, .int (nI pd), .int (nI mg)])), (pr, .inl (K 4, 6, .inr (.inr (.inr (.inr fa))))), (oa 0, .inr (1, [.int (nI 0), .int (nI 1), .int (nI 2), .ref (ka 0), .int (nI n)])), (ka 0, .inl (K 0, 60, .inl (f 0))), (qu, .inr (2, [.ref nu, .int (nI qc)])), (nu, .inl (K 0, 12, .inl F))]) rfl (by decide) (by decide) (As := []) (rest := []) rfl rfl (Nat.le_of_ble_eq_true rfl) (by decide) dSx_run_61 (fun v w hq => ?_)
      obtain ⟨Ag', Bi', An', fd', lv', rfl, rfl, hfd, hlv, hkp⟩ := hq
      refine xz_ste (st' := []) rfl ?_
      refine xz_wss (ws' := [(xo, .inr (5, [.ref di, .ref ts, .ref qu, .ref se])), (di, .inr (0, [.ref pw, .ref ln, .int (nI dn), .long (lN ba), .int (nI bb)])), (ts, .inr (4, [.ref pr, .ref os, .int (nI pd), .int (nI mg)])), (pr, .inl (K 4, 6, .inr (.inr (.inr (.inr fa))))), (oa 0, .inr (1, [.int (nI 0), .int (nI 1), .int (nI 2), .ref (ka 0), .int (nI n)])), (ka 0, .inl (K 0, 60, .inl (f 0))), (qu, .inr (2, [.ref nu, .int (nI qc)])), (nu, .inl (K 0, 12, .inl F)), (se, .inr (3, [.ref rw, .int (nI (xq_pc (xq_vb q (3 * qc)))), .int (nI dn), .int (nI qc), .ref pl, .ref ho, .ref ag, .ref bi, .ref an, .int (nI fd'), .int (nI lv')])), (rw, .inl (K 0, 3, .inl Rw')), (pl, .inl (K 0, 12, .inl Pl')), (ho, .inl (K 1, 72, .inr (.inl Ho'))), (ag, .inl (K 1, 16, .inr (.inl Ag'))), (bi, .inl (K 0, 3, .inl Bi')), (an, .inl (K 0, 600, .inl An'))]) [0, 1, 2, 3, 4, 5, 6, 7, 8, 9, 10, 11, 12, 13, 14] (by decide) rfl rfl ?_
      refine xz_aload_n hC 0 rfl rfl dSx_run_64 ?_
      refine xz_get hC 0 rfl rfl 3 (by decide) inSx tq152 rfl rfl dSx_run_65 ?_
      refine xz_getN hC 8 rfl rfl 9 (by decide) inSe tq123 rfl rfl dSx_run_68 ?_
      exact xz_ireturn hC (by decide) (by decide) (Or.inr ⟨by omega, hrow, Rw', Pl', Ho', Ag', Bi', An', fd', lv', rfl, rfl, hfd, hlv, hkp⟩) dSx_run_71
    · skip
      have hnrow : ¬ xq_aw (xq_aw (xq_aw (xq_vb q (3 * qc)) (xq_ev x)) (xq_ev y)) (xq_ev z) = 0 := fun k => absurd (hb.mpr k) (by rw [h2]; decide)
      refine xz_iconst hC (v := (-1)) (by decide +kernel) dSx_run_23 ?_
      exact xz_ireturn hC (by decide) (by decide) (by first | exact Or.inl ⟨Or.inl (by omega), rfl, rfl⟩ | exact Or.inl ⟨Or.inr hnrow, rfl, rfl⟩) dSx_run_24
