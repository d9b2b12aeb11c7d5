set_option maxHeartbeats 1000000 in
set_option maxRecDepth 100000 in
theorem mSe_prepare (l : Launch) (D : va_G) (K : Nat → ClassId) (se rw pl ho ag bi an rl wn pn fd lv : Nat) (Pl : Nat → Int32) (Ho Ag : Nat → Int64) (qu nu c W : Nat) (F : Nat → Int32) (q : Nat → Nat) (ts pr os ks n pd mg m : Nat) (fa : Nat → Option Nat) (oa ka : Nat → Nat) (f : Nat → Nat → Int32) (e : Nat → Int32) (g : Nat → Nat → Nat) (h : Nat → Nat) (P S : Nat → Prop) (hc4 : c ≤ 4) (hq : xq_nu F q (3 * c)) (hfa : ∀ w, w < 6 → fa w = some (oa w)) (hn : n ≤ 60) (hO : xs_ok 0 1 2 (f 0) (g 0) n P) (h24 : ∀ k, k < n → ∀ i, i < 3 → xk_pt (g 0 k) i < 24) : xz_Met l D (tz K) ySe_prepare cSe_prepare 5 none { frames := 5, cells := 0, slots := 0, locals := 110 } [.ref se, .ref qu, .ref ts, .int (nI W)] [(se, .inr (3, [.ref rw, .int (nI rl), .int (nI wn), .int (nI pn), .ref pl, .ref ho, .ref ag, .ref bi, .ref an, .int (nI fd), .int (nI lv)])), (pl, .inl (K 0, 12, .inl Pl)), (ho, .inl (K 1, 72, .inr (.inl Ho))), (ag, .inl (K 1, 16, .inr (.inl Ag))), (qu, .inr (2, [.ref nu, .int (nI c)])), (nu, .inl (K 0, 12, .inl F)), (ts, .inr (4, [.ref pr, .ref os, .int (nI pd), .int (nI mg)])), (pr, .inl (K 4, 6, .inr (.inr (.inr (.inr fa))))), (oa 0, .inr (1, [.int (nI 0), .int (nI 1), .int (nI 2), .ref (ka 0), .int (nI n)])), (ka 0, .inl (K 0, 60, .inl (f 0)))] (fun v w => ∃ (Pl' : Nat → Int32) (Ho' Ag' : Nat → Int64), v = none ∧ w = [(se, .inr (3, [.ref rw, .int (nI rl), .int (nI W), .int (nI c), .ref pl, .ref ho, .ref ag, .ref bi, .ref an, .int (nI fd), .int (nI lv)])), (pl, .inl (K 0, 12, .inl Pl')), (ho, .inl (K 1, 72, .inr (.inl Ho'))), (ag, .inl (K 1, 16, .inr (.inl Ag'))), (qu, .inr (2, [.ref nu, .int (nI c)])), (nu, .inl (K 0, 12, .inl F)), (ts, .inr (4, [.ref pr, .ref os, .int (nI pd), .int (nI mg)])), (pr, .inl (K 4, 6, .inr (.inr (.inr (.inr fa))))), (oa 0, .inr (1, [.int (nI 0), .int (nI 1), .int (nI 2), .ref (ka 0), .int (nI n)])), (ka 0, .inl (K 0, 60, .inl (f 0)))] ∧ xs_pl Pl' q c ∧ xs_ho Ho' (g 0) n ∧ ∀ j, j < c → xs_au (Ag' j) q j (g 0) n) := by
  refine xz_enter (by decide +kernel) (Nat.le_of_ble_eq_true rfl) ?_
  intro Γ hC
  refine xz_lcs (lc' := [(0, .ref se), (1, .ref qu), (2, .ref ts), (3, .int (nI W))]) [0, 1, 2, 3] rfl ?_
  refine xz_aload_n hC 0 rfl rfl dSe_prepare_0 ?_
  refine xz_iload_n hC 3 rfl rfl dSe_prepare_1 ?_
  refine xz_put hC 0 rfl rfl 2 (by decide) inSe tq115 rfl tySe tySe_ok nmSe rfl rfl rfl (Nat.le_of_ble_eq_true rfl) (ws' := [(se, .inr (3, [.ref rw, .int (nI rl), .int (nI W), .int (nI pn), .ref pl, .ref ho, .ref ag, .ref bi, .ref an, .int (nI fd), .int (nI lv)])), (pl, .inl (K 0, 12, .inl Pl)), (ho, .inl (K 1, 72, .inr (.inl Ho))), (ag, .inl (K 1, 16, .inr (.inl Ag))), (qu, .inr (2, [.ref nu, .int (nI c)])), (nu, .inl (K 0, 12, .inl F)), (ts, .inr (4, [.ref pr, .ref os, .int (nI pd), .int (nI mg)])), (pr, .inl (K 4, 6, .inr (.inr (.inr (.inr fa))))), (oa 0, .inr (1, [.int (nI 0), .int (nI 1), .int (nI 2), .ref (ka 0), .int (nI n)])), (ka 0, .inl (K 0, 60, .inl (f 0)))]) rfl dSe_prepare_2 ?_
  refine xz_aload_n hC 0 rfl rfl dSe_prepare_5 ?_
  refine xz_aload_n hC 1 rfl rfl dSe_prepare_6 ?_
  refine xz_getN hC 4 rfl rfl 1 (by decide) inQu tq100 rfl rfl dSe_prepare_7 ?_
  refine xz_put hC 0 rfl rfl 3 (by decide) inSe tq116 rfl tySe tySe_ok nmSe rfl rfl rfl (Nat.le_of_ble_eq_true rfl) (ws' := [(se, .inr (3, [.ref rw, .int (nI rl), .int (nI W), .int (nI c), .ref pl, .ref ho, .ref ag, .ref bi, .ref an, .int (nI fd), .int (nI lv)])), (pl, .inl (K 0, 12, .inl Pl)), (ho, .inl (K 1, 72, .inr (.inl Ho))), (ag, .inl (K 1, 16, .inr (.inl Ag))), (qu, .inr (2, [.ref nu, .int (nI c)])), (nu, .inl (K 0, 12, .inl F)), (ts, .inr (4, [.ref pr, .ref os, .int (nI pd), .int (nI mg)])), (pr, .inl (K 4, 6, .inr (.inr (.inr (.inr fa))))), (oa 0, .inr (1, [.int (nI 0), .int (nI 1), .int (nI 2), .ref (ka 0), .int (nI n)])), (ka 0, .inl (K 0, 60, .inl (f 0)))]) rfl dSe_prepare_10 ?_
  refine xz_aload_n hC 0 rfl rfl dSe_prepare_13 ?_
  refine xz_aload_n hC 1 rfl rfl dSe_prepare_14 ?_
  refine xz_callV hC (mSe_findPlaces l D K se rw pl ho ag bi an rl W c fd lv Pl qu nu c F q hc4 hq) kSe_findPlaces tq6 tq358 tq360 tp8 0 3 rfl rfl rfl (host := "") hSe_findPlaces (by decide) [0, 1, 4, 5] [2, 3, 6, 7, 8, 9] (by decide) rfl (wr := [(ho, .inl (K 1, 72, .inr (.inl Ho))), (ag, .inl (K 1, 16, .inr (.inl Ag))), (ts, .inr (4, [.ref pr, .ref os, .int (nI pd), .int (nI mg)])), (pr, .inl (K 4, 6, .inr (.inr (.inr (.inr fa))))), (oa 0, .inr (1, [.int (nI 0), .int (nI 1), .int (nI 2), .ref (ka 0), .int (nI n)])), (ka 0, .inl (K 0, 60, .inl (f 0)))]) rfl (by decide) (by decide) (As := [.ref qu]) (rest := []) rfl rfl (Nat.le_of_ble_eq_true rfl) (by decide) dSe_prepare_15 (fun v w hq => ?_)
  obtain ⟨Pl', rfl, rfl, hpl⟩ := hq
  refine xz_ste (st' := []) rfl ?_
  refine xz_wss (ws' := [(se, .inr (3, [.ref rw, .int (nI rl), .int (nI W), .int (nI c), .ref pl, .ref ho, .ref ag, .ref bi, .ref an, .int (nI fd), .int (nI lv)])), (pl, .inl (K 0, 12, .inl Pl')), (ho, .inl (K 1, 72, .inr (.inl Ho))), (ag, .inl (K 1, 16, .inr (.inl Ag))), (qu, .inr (2, [.ref nu, .int (nI c)])), (nu, .inl (K 0, 12, .inl F)), (ts, .inr (4, [.ref pr, .ref os, .int (nI pd), .int (nI mg)])), (pr, .inl (K 4, 6, .inr (.inr (.inr (.inr fa))))), (oa 0, .inr (1, [.int (nI 0), .int (nI 1), .int (nI 2), .ref (ka 0), .int (nI n)])), (ka 0, .inl (K 0, 60, .inl (f 0)))]) [6, 7, 0, 1, 8, 9, 2, 3, 4, 5] (by decide) rfl rfl ?_
  refine xz_aload_n hC 0 rfl rfl dSe_prepare_18 ?_
  refine xz_aload_n hC 2 rfl rfl dSe_prepare_19 ?_
  refine xz_callV hC (mSe_findHolders l D K se rw pl ho ag bi an rl W c fd lv Ho ts pr os ks n pd mg m fa oa ka f e g h P S hfa hn hO h24) kSe_findHolders tq6 tq366 tq368 tp9 0 3 rfl rfl rfl (host := "") hSe_findHolders (by decide) [0, 2, 6, 7, 8, 9] [1, 3, 4, 5] (by decide) rfl (wr := [(pl, .inl (K 0, 12, .inl Pl')), (ag, .inl (K 1, 16, .inr (.inl Ag))), (qu, .inr (2, [.ref nu, .int (nI c)])), (nu, .inl (K 0, 12, .inl F))]) rfl (by decide) (by decide) (As := [.ref ts]) (rest := []) rfl rfl (Nat.le_of_ble_eq_true rfl) (by decide) dSe_prepare_20 (fun v w hq => ?_)
  obtain ⟨Ho', rfl, rfl, hho⟩ := hq
  refine xz_ste (st' := []) rfl ?_
  refine xz_wss (ws' := [(se, .inr (3, [.ref rw, .int (nI rl), .int (nI W), .int (nI c), .ref pl, .ref ho, .ref ag, .ref bi, .ref an, .int (nI fd), .int (nI lv)])), (pl, .inl (K 0, 12, .inl Pl')), (ho, .inl (K 1, 72, .inr (.inl Ho'))), (ag, .inl (K 1, 16, .inr (.inl Ag))), (qu, .inr (2, [.ref nu, .int (nI c)])), (nu, .inl (K 0, 12, .inl F)), (ts, .inr (4, [.ref pr, .ref os, .int (nI pd), .int (nI mg)])), (pr, .inl (K 4, 6, .inr (.inr (.inr (.inr fa))))), (oa 0, .inr (1, [.int (nI 0), .int (nI 1), .int (nI 2), .ref (ka 0), .int (nI n)])), (ka 0, .inl (K 0, 60, .inl (f 0)))]) [4, 0, 5, 1, 2, 3, 6, 7, 8, 9] (by decide) rfl rfl ?_
  refine xz_iconst hC (v := nI 0) (by decide +kernel) dSe_prepare_23 ?_
  refine xz_istore hC (lc' := [(4, .int (nI 0)), (0, .ref se), (1, .ref qu), (2, .ref ts), (3, .int (nI W))]) (by decide) rfl dSe_prepare_24 ?_
  have lp1 : ∀ (NNlp1 : Nat) (p : Nat) (Ag' : Nat → Int64), p ≤ c → (∀ j, j < p → xs_au (Ag' j) q j (g 0) n) → c - p = NNlp1 → xz_X Γ 0 0 [(se, .inr (3, [.ref rw, .int (nI rl), .int (nI W), .int (nI c), .ref pl, .ref ho, .ref ag, .ref bi, .ref an, .int (nI fd), .int (nI lv)])), (pl, .inl (K 0, 12, .inl Pl')), (ho, .inl (K 1, 72, .inr (.inl Ho'))), (ag, .inl (K 1, 16, .inr (.inl Ag'))), (qu, .inr (2, [.ref nu, .int (nI c)])), (nu, .inl (K 0, 12, .inl F)), (ts, .inr (4, [.ref pr, .ref os, .int (nI pd), .int (nI mg)])), (pr, .inl (K 4, 6, .inr (.inr (.inr (.inr fa))))), (oa 0, .inr (1, [.int (nI 0), .int (nI 1), .int (nI 2), .ref (ka 0), .int (nI n)])), (ka 0, .inl (K 0, 60, .inl (f 0)))] 26 [(4, .int (nI p)), (0, .ref se), (1, .ref qu), (2, .ref ts), (3, .int (nI W))] [] := by
    intro NNlp1
    induction NNlp1 using Nat.strongRecOn with
    | _ NNlp1 ihlp1 =>
      intro p  Ag'  hp hag hNNlp1
      refine xz_iload hC 0 rfl dSe_prepare_26 ?_
      refine xz_aload_n hC 1 rfl rfl dSe_prepare_28 ?_
      refine xz_get hC 0 rfl rfl 3 (by decide) inSe tq116 rfl rfl dSe_prepare_29 ?_
      refine xz_icmp_ge hC (tgt := 55) (nI_toInt (by omega)) (nI_toInt (by omega)) (by decide) dSe_prepare_32 (fun h2 => ?_) (fun h2 => ?_)
      · skip
        exact xz_return hC (by decide) (by decide) (⟨Pl', Ho', Ag', rfl, rfl, hpl, hho, fun j hj => hag j (by omega)⟩) dSe_prepare_55
      · skip
        refine xz_aload_n hC 1 rfl rfl dSe_prepare_35 ?_
        refine xz_get hC 0 rfl rfl 6 (by decide) inSe tq119 rfl rfl dSe_prepare_36 ?_
        refine xz_iload hC 0 rfl dSe_prepare_39 ?_
        refine xz_aload_n hC 2 rfl rfl dSe_prepare_41 ?_
        refine xz_iload hC 0 rfl dSe_prepare_42 ?_
        refine xz_aload_n hC 3 rfl rfl dSe_prepare_44 ?_
        refine xz_callS hC (mSe_agreeingUnbound l D K qu nu c F q p ts pr os ks n pd mg m fa oa ka f e g h P S hc4 hq (by omega) hfa hn hO h24) kSe_agreeingUnbound tq6 tq373 tq374 (host := "") (b := 0) hSe_agreeingUnbound (by decide) [4, 5, 6, 7, 8, 9] [0, 1, 2, 3] (by decide) rfl (wr := [(se, .inr (3, [.ref rw, .int (nI rl), .int (nI W), .int (nI c), .ref pl, .ref ho, .ref ag, .ref bi, .ref an, .int (nI fd), .int (nI lv)])), (pl, .inl (K 0, 12, .inl Pl')), (ho, .inl (K 1, 72, .inr (.inl Ho'))), (ag, .inl (K 1, 16, .inr (.inl Ag')))]) rfl (by decide) (by decide) (As := [.ref qu, .int (nI p), .ref ts]) (rest := [.int (nI p), .ref ag]) rfl rfl (Nat.le_of_ble_eq_true rfl) (by decide) dSe_prepare_45 (fun v w hq => ?_)
        obtain ⟨x, rfl, rfl, hx⟩ := hq
        refine xz_ste (st' := [.long x, .int (nI p), .ref ag]) rfl ?_
        refine xz_wss (ws' := [(se, .inr (3, [.ref rw, .int (nI rl), .int (nI W), .int (nI c), .ref pl, .ref ho, .ref ag, .ref bi, .ref an, .int (nI fd), .int (nI lv)])), (pl, .inl (K 0, 12, .inl Pl')), (ho, .inl (K 1, 72, .inr (.inl Ho'))), (ag, .inl (K 1, 16, .inr (.inl Ag'))), (qu, .inr (2, [.ref nu, .int (nI c)])), (nu, .inl (K 0, 12, .inl F)), (ts, .inr (4, [.ref pr, .ref os, .int (nI pd), .int (nI mg)])), (pr, .inl (K 4, 6, .inr (.inr (.inr (.inr fa))))), (oa 0, .inr (1, [.int (nI 0), .int (nI 1), .int (nI 2), .ref (ka 0), .int (nI n)])), (ka 0, .inl (K 0, 60, .inl (f 0)))]) [0, 1, 2, 3, 4, 5, 6, 7, 8, 9] (by decide) rfl rfl ?_
        refine xz_lastore hC 3 1 (ws' := [(se, .inr (3, [.ref rw, .int (nI rl), .int (nI W), .int (nI c), .ref pl, .ref ho, .ref ag, .ref bi, .ref an, .int (nI fd), .int (nI lv)])), (pl, .inl (K 0, 12, .inl Pl')), (ho, .inl (K 1, 72, .inr (.inl Ho'))), (ag, .inl (K 1, 16, .inr (.inl (vp_updL Ag' p x)))), (qu, .inr (2, [.ref nu, .int (nI c)])), (nu, .inl (K 0, 12, .inl F)), (ts, .inr (4, [.ref pr, .ref os, .int (nI pd), .int (nI mg)])), (pr, .inl (K 4, 6, .inr (.inr (.inr (.inr fa))))), (oa 0, .inr (1, [.int (nI 0), .int (nI 1), .int (nI 2), .ref (ka 0), .int (nI n)])), (ka 0, .inl (K 0, 60, .inl (f 0)))]) rfl rfl (by omega) (by decide) rfl dSe_prepare_48 ?_
        refine xz_iinc hC 0 (lc' := [(4, .int (nI (p + 1))), (0, .ref se), (1, .ref qu), (2, .ref ts), (3, .int (nI W))]) rfl (xn_inc _) (by decide) rfl dSe_prepare_49 ?_
        refine xz_goto hC (tgt := 26) (by decide) dSe_prepare_52 ?_
        exact ihlp1 _ (by omega) (p + 1) (vp_updL Ag' p x) (by omega) (fun j hj => by by_cases z : j = p; (rw [z, pk_uLs]; exact hx); (rw [pk_uLn z]; exact hag j (by omega))) rfl
  exact lp1 _ 0 Ag (by omega) (fun j hj => absurd hj (by omega)) rfl
set_option maxHeartbeats 1000000 in
set_option maxRecDepth 100000 in
theorem mSe_isFixed (l : Launch) (D : va_G) (K : Nat → ClassId) (se rw pl ho ag bi an rl wn pn fd lv : Nat) (Pl : Nat → Int32) (q : Nat → Nat) (p : Nat) (hpn : pn ≤ 4) (hpl : xs_pl Pl q pn) (hp : p < pn) (hq : ∀ i, i < 3 * pn → q i < 35) : xz_Met l D (tz K) ySe_isFixed cSe_isFixed 3 (some .boolean) { frames := 0, cells := 0, slots := 0, locals := 0 } [.ref se, .int (nI p)] [(se, .inr (3, [.ref rw, .int (nI rl), .int (nI wn), .int (nI pn), .ref pl, .ref ho, .ref ag, .ref bi, .ref an, .int (nI fd), .int (nI lv)])), (pl, .inl (K 0, 12, .inl Pl))] (fun v w => ∃ b : Bool, v = some (.int (bI b)) ∧ w = [(se, .inr (3, [.ref rw, .int (nI rl), .int (nI wn), .int (nI pn), .ref pl, .ref ho, .ref ag, .ref bi, .ref an, .int (nI fd), .int (nI lv)])), (pl, .inl (K 0, 12, .inl Pl))] ∧ (b = true ↔ xq_fix q p)) := by
  refine xz_enter (by decide +kernel) (Nat.le_of_ble_eq_true rfl) ?_
  intro Γ hC
  refine xz_lcs (lc' := [(0, .ref se), (1, .int (nI p))]) [0, 1] rfl ?_
  refine xz_iconst hC (v := nI 0) (by decide +kernel) dSe_isFixed_0 ?_
  refine xz_istore_n hC (lc' := [(2, .int (nI 0)), (0, .ref se), (1, .int (nI p))]) rfl (by decide) rfl dSe_isFixed_1 ?_
  refine xz_iload_n hC 0 rfl rfl dSe_isFixed_2 ?_
  refine xz_iconst hC (v := nI 3) (by decide +kernel) dSe_isFixed_3 ?_
  refine xz_icmp_ge hC (tgt := 29) (nI_toInt (by omega)) (nI_toInt (by omega)) (by decide) dSe_isFixed_4 (fun h1 => ?_) (fun h1 => ?_)
  · skip
    exfalso; omega
  · skip
    refine xz_aload_n hC 1 rfl rfl dSe_isFixed_7 ?_
    refine xz_get hC 0 rfl rfl 4 (by decide) inSe tq117 rfl rfl dSe_isFixed_8 ?_
    refine xz_iload_n hC 2 rfl rfl dSe_isFixed_11 ?_
    refine xz_iconst hC (v := nI 3) (by decide +kernel) dSe_isFixed_12 ?_
    refine xz_imul hC (z := nI (p * 3)) (pk_mul _ _) dSe_isFixed_13 ?_
    refine xz_iload_n hC 0 rfl rfl dSe_isFixed_14 ?_
    refine xz_iadd hC (z := nI (p * 3 + 0)) (nI_add _ _) dSe_isFixed_15 ?_
    refine xz_iaload hC 1 0 (v := xq_pl (xq_fp q p (32 + 0))) rfl rfl (by omega) (by decide) (xs_pl_at hpl hp (by omega)) dSe_isFixed_16 ?_
    refine xz_iconst hC (v := (-1)) (by decide +kernel) dSe_isFixed_17 ?_
    refine xz_icmp_eq hC (tgt := 23) rfl xn_m1 (by decide) dSe_isFixed_18 (fun h2 => ?_) (fun h2 => ?_)
    · skip
      have hf0 := xq_pl_m1.mp h2
      refine xz_iinc hC 0 (lc' := [(2, .int (nI 1)), (0, .ref se), (1, .int (nI p))]) rfl (xn_inc _) (by decide) rfl dSe_isFixed_23 ?_
      refine xz_goto hC (tgt := 2) (by decide) dSe_isFixed_26 ?_
      refine xz_iload_n hC 0 rfl rfl dSe_isFixed_2 ?_
      refine xz_iconst hC (v := nI 3) (by decide +kernel) dSe_isFixed_3 ?_
      refine xz_icmp_ge hC (tgt := 29) (nI_toInt (by omega)) (nI_toInt (by omega)) (by decide) dSe_isFixed_4 (fun h3 => ?_) (fun h3 => ?_)
      · skip
        exfalso; omega
      · skip
        refine xz_aload_n hC 1 rfl rfl dSe_isFixed_7 ?_
        refine xz_get hC 0 rfl rfl 4 (by decide) inSe tq117 rfl rfl dSe_isFixed_8 ?_
        refine xz_iload_n hC 2 rfl rfl dSe_isFixed_11 ?_
        refine xz_iconst hC (v := nI 3) (by decide +kernel) dSe_isFixed_12 ?_
        refine xz_imul hC (z := nI (p * 3)) (pk_mul _ _) dSe_isFixed_13 ?_
        refine xz_iload_n hC 0 rfl rfl dSe_isFixed_14 ?_
        refine xz_iadd hC (z := nI (p * 3 + 1)) (nI_add _ _) dSe_isFixed_15 ?_
        refine xz_iaload hC 1 0 (v := xq_pl (xq_fp q p (32 + 1))) rfl rfl (by omega) (by decide) (xs_pl_at hpl hp (by omega)) dSe_isFixed_16 ?_
        refine xz_iconst hC (v := (-1)) (by decide +kernel) dSe_isFixed_17 ?_
        refine xz_icmp_eq hC (tgt := 23) rfl xn_m1 (by decide) dSe_isFixed_18 (fun h4 => ?_) (fun h4 => ?_)
        · skip
          have hf1 := xq_pl_m1.mp h4
          refine xz_iinc hC 0 (lc' := [(2, .int (nI 2)), (0, .ref se), (1, .int (nI p))]) rfl (xn_inc _) (by decide) rfl dSe_isFixed_23 ?_
          refine xz_goto hC (tgt := 2) (by decide) dSe_isFixed_26 ?_
          refine xz_iload_n hC 0 rfl rfl dSe_isFixed_2 ?_
          refine xz_iconst hC (v := nI 3) (by decide +kernel) dSe_isFixed_3 ?_
          refine xz_icmp_ge hC (tgt := 29) (nI_toInt (by omega)) (nI_toInt (by omega)) (by decide) dSe_isFixed_4 (fun h5 => ?_) (fun h5 => ?_)
          · skip
            exfalso; omega
          · skip
            refine xz_aload_n hC 1 rfl rfl dSe_isFixed_7 ?_
            refine xz_get hC 0 rfl rfl 4 (by decide) inSe tq117 rfl rfl dSe_isFixed_8 ?_
            refine xz_iload_n hC 2 rfl rfl dSe_isFixed_11 ?_
            refine xz_iconst hC (v := nI 3) (by decide +kernel) dSe_isFixed_12 ?_
            refine xz_imul hC (z := nI (p * 3)) (pk_mul _ _) dSe_isFixed_13 ?_
            refine xz_iload_n hC 0 rfl rfl dSe_isFixed_14 ?_
            refine xz_iadd hC (z := nI (p * 3 + 2)) (nI_add _ _) dSe_isFixed_15 ?_
            refine xz_iaload hC 1 0 (v := xq_pl (xq_fp q p (32 + 2))) rfl rfl (by omega) (by decide) (xs_pl_at hpl hp (by omega)) dSe_isFixed_16 ?_
            refine xz_iconst hC (v := (-1)) (by decide +kernel) dSe_isFixed_17 ?_
            refine xz_icmp_eq hC (tgt := 23) rfl xn_m1 (by decide) dSe_isFixed_18 (fun h6 => ?_) (fun h6 => ?_)
            · skip
              have hf2 := xq_pl_m1.mp h6
              refine xz_iinc hC 0 (lc' := [(2, .int (nI 3)), (0, .ref se), (1, .int (nI p))]) rfl (xn_inc _) (by decide) rfl dSe_isFixed_23 ?_
              refine xz_goto hC (tgt := 2) (by decide) dSe_isFixed_26 ?_
              refine xz_iload_n hC 0 rfl rfl dSe_isFixed_2 ?_
              refine xz_iconst hC (v := nI 3) (by decide +kernel) dSe_isFixed_3 ?_
              refine xz_icmp_ge hC (tgt := 29) (nI_toInt (by omega)) (nI_toInt (by omega)) (by decide) dSe_isFixed_4 (fun h7 => ?_) (fun h7 => ?_)
              · skip
                refine xz_iconst hC (v := bI true) (by decide +kernel) dSe_isFixed_29 ?_
                exact xz_zreturn hC (by decide) (by decide) (⟨_, rfl, rfl, xt_t ((xq_fix_iff (fun i hi => hq (3 * p + i) (by omega))).mpr (fun v hv => by rcases (show v = 0 ∨ v = 1 ∨ v = 2 by omega) with rfl | rfl | rfl; exact hf0; exact hf1; exact hf2))⟩) dSe_isFixed_30
              · skip
                exfalso; omega
            · skip
              have hnf := fun z => h6 (xq_pl_m1.mpr z)
              refine xz_iconst hC (v := bI false) (by decide +kernel) dSe_isFixed_21 ?_
              exact xz_zreturn hC (by decide) (by decide) (⟨_, rfl, rfl, xt_f (fun z => hnf ((xq_fix_iff (fun i hi => hq (3 * p + i) (by omega))).mp z _ (by omega)))⟩) dSe_isFixed_22
        · skip
          have hnf := fun z => h4 (xq_pl_m1.mpr z)
          refine xz_iconst hC (v := bI false) (by decide +kernel) dSe_isFixed_21 ?_
          exact xz_zreturn hC (by decide) (by decide) (⟨_, rfl, rfl, xt_f (fun z => hnf ((xq_fix_iff (fun i hi => hq (3 * p + i) (by omega))).mp z _ (by omega)))⟩) dSe_isFixed_22
    · skip
      have hnf := fun z => h2 (xq_pl_m1.mpr z)
      refine xz_iconst hC (v := bI false) (by decide +kernel) dSe_isFixed_21 ?_
      exact xz_zreturn hC (by decide) (by decide) (⟨_, rfl, rfl, xt_f (fun z => hnf ((xq_fix_iff (fun i hi => hq (3 * p + i) (by omega))).mp z _ (by omega)))⟩) dSe_isFixed_22
set_option maxHeartbeats 1000000 in
set_option maxRecDepth 100000 in
theorem mSe_fixedPatternsHold (l : Launch) (D : va_G) (K : Nat → ClassId) (se rw pl ho ag bi an rl wn pn fd lv : Nat) (Pl : Nat → Int32) (Ag : Nat → Int64) (q r g : Nat → Nat) (n : Nat) (hpn : pn ≤ 4) (hn : n ≤ 60) (hpl : xs_pl Pl q pn) (hq : ∀ i, i < 3 * pn → q i < 35) (hag : ∀ j, j < pn → xs_ag (Ag j) q j r [] g n) : xz_Met l D (tz K) ySe_fixedPatternsHold cSe_fixedPatternsHold 2 (some .boolean) { frames := 1, cells := 0, slots := 0, locals := 22 } [.ref se] [(se, .inr (3, [.ref rw, .int (nI rl), .int (nI wn), .int (nI pn), .ref pl, .ref ho, .ref ag, .ref bi, .ref an, .int (nI fd), .int (nI lv)])), (pl, .inl (K 0, 12, .inl Pl)), (ag, .inl (K 1, 16, .inr (.inl Ag)))] (fun v w => ∃ b : Bool, v = some (.int (bI b)) ∧ w = [(se, .inr (3, [.ref rw, .int (nI rl), .int (nI wn), .int (nI pn), .ref pl, .ref ho, .ref ag, .ref bi, .ref an, .int (nI fd), .int (nI lv)])), (pl, .inl (K 0, 12, .inl Pl)), (ag, .inl (K 1, 16, .inr (.inl Ag)))] ∧ (b = true ↔ ∀ j, j < pn → xq_fix q j → xq_ne q j r [] (xo_mem g n))) := by
  refine xz_enter (by decide +kernel) (Nat.le_of_ble_eq_true rfl) ?_
  intro Γ hC
  refine xz_lcs (lc' := [(0, .ref se)]) [0] rfl ?_
  refine xz_iconst hC (v := nI 0) (by decide +kernel) dSe_fixedPatternsHold_0 ?_
  refine xz_istore_n hC (lc' := [(1, .int (nI 0)), (0, .ref se)]) rfl (by decide) rfl dSe_fixedPatternsHold_1 ?_
  have lp1 : ∀ (NNlp1 : Nat) (p : Nat), p ≤ pn → (∀ j, j < p → xq_fix q j → xq_ne q j r [] (xo_mem g n)) → pn - p = NNlp1 → xz_X Γ 0 0 [(se, .inr (3, [.ref rw, .int (nI rl), .int (nI wn), .int (nI pn), .ref pl, .ref ho, .ref ag, .ref bi, .ref an, .int (nI fd), .int (nI lv)])), (pl, .inl (K 0, 12, .inl Pl)), (ag, .inl (K 1, 16, .inr (.inl Ag)))] 2 [(1, .int (nI p)), (0, .ref se)] [] := by
    intro NNlp1
    induction NNlp1 using Nat.strongRecOn with
    | _ NNlp1 ihlp1 =>
      intro p  hp hall hNNlp1
      refine xz_iload_n hC 0 rfl rfl dSe_fixedPatternsHold_2 ?_
      refine xz_aload_n hC 1 rfl rfl dSe_fixedPatternsHold_3 ?_
      refine xz_get hC 0 rfl rfl 3 (by decide) inSe tq116 rfl rfl dSe_fixedPatternsHold_4 ?_
      refine xz_icmp_ge hC (tgt := 37) (nI_toInt (by omega)) (nI_toInt (by omega)) (by decide) dSe_fixedPatternsHold_7 (fun h2 => ?_) (fun h2 => ?_)
      · skip
        refine xz_iconst hC (v := bI true) (by decide +kernel) dSe_fixedPatternsHold_37 ?_
        exact xz_zreturn hC (by decide) (by decide) (⟨_, rfl, rfl, xt_t (fun j hj => hall j (by omega))⟩) dSe_fixedPatternsHold_38
      · skip
        refine xz_aload_n hC 1 rfl rfl dSe_fixedPatternsHold_10 ?_
        refine xz_iload_n hC 0 rfl rfl dSe_fixedPatternsHold_11 ?_
        refine xz_callV hC (mSe_isFixed l D K se rw pl ho ag bi an rl wn pn fd lv Pl q p hpn hpl (by omega) hq) kSe_isFixed tq6 tq390 tq392 tp11 0 3 rfl rfl rfl (host := "") hSe_isFixed (by decide) [0, 1] [2] (by decide) rfl (wr := [(ag, .inl (K 1, 16, .inr (.inl Ag)))]) rfl (by decide) (by decide) (As := [.int (nI p)]) (rest := []) rfl rfl (Nat.le_of_ble_eq_true rfl) (by decide) dSe_fixedPatternsHold_12 (fun v w hq => ?_)
        obtain ⟨b, rfl, rfl, hb⟩ := hq
        refine xz_ste (st' := [.int (bI b)]) rfl ?_
        refine xz_wss (ws' := [(se, .inr (3, [.ref rw, .int (nI rl), .int (nI wn), .int (nI pn), .ref pl, .ref ho, .ref ag, .ref bi, .ref an, .int (nI fd), .int (nI lv)])), (pl, .inl (K 0, 12, .inl Pl)), (ag, .inl (K 1, 16, .inr (.inl Ag)))]) [1, 2, 0] (by decide) rfl rfl ?_
        refine xz_ifb_eq hC (tgt := 31) (by decide) dSe_fixedPatternsHold_15 (fun h3 => ?_) (fun h3 => ?_)
        · skip
          have hnow : xq_fix q p → xq_ne q p r [] (xo_mem g n) := fun z => absurd (hb.mpr z) (by rw [h3]; decide)
          refine xz_iinc hC 0 (lc' := [(1, .int (nI (p + 1))), (0, .ref se)]) rfl (xn_inc _) (by decide) rfl dSe_fixedPatternsHold_31 ?_
          refine xz_goto hC (tgt := 2) (by decide) dSe_fixedPatternsHold_34 ?_
          exact ihlp1 _ (by omega) (p + 1) (by omega) (lt_s hall hnow) rfl
        · skip
          have hfix := hb.mp h3
          refine xz_aload_n hC 1 rfl rfl dSe_fixedPatternsHold_18 ?_
          refine xz_get hC 0 rfl rfl 6 (by decide) inSe tq119 rfl rfl dSe_fixedPatternsHold_19 ?_
          refine xz_iload_n hC 0 rfl rfl dSe_fixedPatternsHold_22 ?_
          refine xz_laload hC 2 1 (v := Ag p) rfl rfl (by omega) (by decide) rfl dSe_fixedPatternsHold_23 ?_
          refine xz_lconst hC (v := 0) (by decide +kernel) dSe_fixedPatternsHold_24 ?_
          refine xz_lcmp hC (z := lg_cmp (Ag p) 0) rfl dSe_fixedPatternsHold_25 ?_
          refine xz_if_ne hC (tgt := 31) rfl (by decide) dSe_fixedPatternsHold_26 (fun h4 => ?_) (fun h4 => ?_)
          · skip
            have hnow : xq_fix q p → xq_ne q p r [] (xo_mem g n) := fun _ => (xs_ag_ne (hag p (by omega)) (by omega)).mp (fun z => h4 (xb_cmp.mpr z))
            refine xz_iinc hC 0 (lc' := [(1, .int (nI (p + 1))), (0, .ref se)]) rfl (xn_inc _) (by decide) rfl dSe_fixedPatternsHold_31 ?_
            refine xz_goto hC (tgt := 2) (by decide) dSe_fixedPatternsHold_34 ?_
            exact ihlp1 _ (by omega) (p + 1) (by omega) (lt_s hall hnow) rfl
          · skip
            have hz := xb_cmp.mp h4
            refine xz_iconst hC (v := bI false) (by decide +kernel) dSe_fixedPatternsHold_29 ?_
            exact xz_zreturn hC (by decide) (by decide) (⟨_, rfl, rfl, xt_f (fun w => (xs_ag_ne (hag p (by omega)) (by omega)).mpr (w p (by omega) hfix) hz)⟩) dSe_fixedPatternsHold_30
  exact lp1 _ 0 (by omega) (fun j hj => absurd hj (by omega)) rfl
set_option maxHeartbeats 1000000 in
set_option maxRecDepth 100000 in
theorem mSe_keepAnswer (l : Launch) (D : va_G) (K : Nat → ClassId) (se rw pl ho ag bi an rl wn pn fd lv : Nat) (Bi An : Nat → Int32) (Ls : List (List Nat)) (V : List Nat → Nat → Int32) (p : List Nat) (hfd : fd = Ls.length) (hfb : fd < 100000) (hk : xs_kp An Ls V) (hb : ∀ v, v < 3 → Bi v = V p v) : xz_Met l D (tz K) ySe_keepAnswer cSe_keepAnswer 1 none { frames := 1, cells := 0, slots := 0, locals := 60 } [.ref se] [(se, .inr (3, [.ref rw, .int (nI rl), .int (nI wn), .int (nI pn), .ref pl, .ref ho, .ref ag, .ref bi, .ref an, .int (nI fd), .int (nI lv)])), (bi, .inl (K 0, 3, .inl Bi)), (an, .inl (K 0, 600, .inl An))] (fun v w => ∃ An' : Nat → Int32, v = none ∧ w = [(se, .inr (3, [.ref rw, .int (nI rl), .int (nI wn), .int (nI pn), .ref pl, .ref ho, .ref ag, .ref bi, .ref an, .int (nI (fd + 1)), .int (nI lv)])), (bi, .inl (K 0, 3, .inl Bi)), (an, .inl (K 0, 600, .inl An'))] ∧ xs_kp An' (Ls ++ [p]) V) := by
  refine xz_enter (by decide +kernel) (Nat.le_of_ble_eq_true rfl) ?_
  intro Γ hC
  refine xz_lcs (lc' := [(0, .ref se)]) [0] rfl ?_
  refine xz_aload_n hC 0 rfl rfl dSe_keepAnswer_0 ?_
  refine xz_get hC 0 rfl rfl 9 (by decide) inSe tq122 rfl rfl dSe_keepAnswer_1 ?_
  refine xz_sipush hC (v := nI 200) (by decide +kernel) dSe_keepAnswer_4 ?_
  refine xz_icmp_ge hC (tgt := 29) (nI_toInt (by omega)) (nI_toInt (by omega)) (by decide) dSe_keepAnswer_7 (fun h1 => ?_) (fun h1 => ?_)
  · skip
    refine xz_aload_n hC 0 rfl rfl dSe_keepAnswer_29 ?_
    refine xz_dup hC rfl dSe_keepAnswer_30 ?_
    refine xz_get hC 0 rfl rfl 9 (by decide) inSe tq122 rfl rfl dSe_keepAnswer_31 ?_
    refine xz_iconst hC (v := nI 1) (by decide +kernel) dSe_keepAnswer_34 ?_
    refine xz_iadd hC (z := nI (fd + 1)) (nI_add _ _) dSe_keepAnswer_35 ?_
    refine xz_put hC 0 rfl rfl 9 (by decide) inSe tq122 rfl tySe tySe_ok nmSe rfl rfl rfl (Nat.le_of_ble_eq_true rfl) (ws' := [(se, .inr (3, [.ref rw, .int (nI rl), .int (nI wn), .int (nI pn), .ref pl, .ref ho, .ref ag, .ref bi, .ref an, .int (nI (fd + 1)), .int (nI lv)])), (bi, .inl (K 0, 3, .inl Bi)), (an, .inl (K 0, 600, .inl An))]) rfl dSe_keepAnswer_36 ?_
    exact xz_return hC (by decide) (by decide) (by first | exact ⟨_, rfl, rfl, by rw [hfd]; exact xs_kp_add hk hb⟩ | exact ⟨_, rfl, rfl, xs_kp_over hk (by omega)⟩) dSe_keepAnswer_39
  · skip
    refine xz_aload_n hC 0 rfl rfl dSe_keepAnswer_10 ?_
    refine xz_get hC 0 rfl rfl 7 (by decide) inSe tq120 rfl rfl dSe_keepAnswer_11 ?_
    refine xz_iconst hC (v := nI 0) (by decide +kernel) dSe_keepAnswer_14 ?_
    refine xz_aload_n hC 0 rfl rfl dSe_keepAnswer_15 ?_
    refine xz_get hC 0 rfl rfl 8 (by decide) inSe tq121 rfl rfl dSe_keepAnswer_16 ?_
    refine xz_aload_n hC 0 rfl rfl dSe_keepAnswer_19 ?_
    refine xz_get hC 0 rfl rfl 9 (by decide) inSe tq122 rfl rfl dSe_keepAnswer_20 ?_
    refine xz_iconst hC (v := nI 3) (by decide +kernel) dSe_keepAnswer_23 ?_
    refine xz_imul hC (z := nI (fd * 3)) (pk_mul _ _) dSe_keepAnswer_24 ?_
    refine xz_iconst hC (v := nI 3) (by decide +kernel) dSe_keepAnswer_25 ?_
    refine xz_copy hC tq402 tq255 tq254 tq8 1 2 0 (ws' := [(se, .inr (3, [.ref rw, .int (nI rl), .int (nI wn), .int (nI pn), .ref pl, .ref ho, .ref ag, .ref bi, .ref an, .int (nI fd), .int (nI lv)])), (bi, .inl (K 0, 3, .inl Bi)), (an, .inl (K 0, 600, .inl (va_cpy Bi An 0 (fd * 3) 3)))]) rfl rfl rfl (by omega) (by omega) (by decide) (by decide) (by decide) (Nat.le_of_ble_eq_true rfl) rfl dSe_keepAnswer_26 ?_
    refine xz_aload_n hC 0 rfl rfl dSe_keepAnswer_29 ?_
    refine xz_dup hC rfl dSe_keepAnswer_30 ?_
    refine xz_get hC 0 rfl rfl 9 (by decide) inSe tq122 rfl rfl dSe_keepAnswer_31 ?_
    refine xz_iconst hC (v := nI 1) (by decide +kernel) dSe_keepAnswer_34 ?_
    refine xz_iadd hC (z := nI (fd + 1)) (nI_add _ _) dSe_keepAnswer_35 ?_
    refine xz_put hC 0 rfl rfl 9 (by decide) inSe tq122 rfl tySe tySe_ok nmSe rfl rfl rfl (Nat.le_of_ble_eq_true rfl) (ws' := [(se, .inr (3, [.ref rw, .int (nI rl), .int (nI wn), .int (nI pn), .ref pl, .ref ho, .ref ag, .ref bi, .ref an, .int (nI (fd + 1)), .int (nI lv)])), (bi, .inl (K 0, 3, .inl Bi)), (an, .inl (K 0, 600, .inl (va_cpy Bi An 0 (fd * 3) 3)))]) rfl dSe_keepAnswer_36 ?_
    exact xz_return hC (by decide) (by decide) (by first | exact ⟨_, rfl, rfl, by rw [hfd]; exact xs_kp_add hk hb⟩ | exact ⟨_, rfl, rfl, xs_kp_over hk (by omega)⟩) dSe_keepAnswer_39
set_option maxHeartbeats 1000000 in
set_option maxRecDepth 100000 in
theorem mSe_termAt (l : Launch) (D : va_G) (K : Nat → ClassId) (se rw pl ho ag bi an rl wn pn fd lv : Nat) (An : Nat → Int32) (x : Int32) (v0 : Nat) (hfb : fd < 100000) (hv : v0 < 3) : xz_Met l D (tz K) ySe_termAt cSe_termAt 3 (some .int) { frames := 0, cells := 0, slots := 0, locals := 0 } [.ref se, .int x, .int (nI v0)] [(se, .inr (3, [.ref rw, .int (nI rl), .int (nI wn), .int (nI pn), .ref pl, .ref ho, .ref ag, .ref bi, .ref an, .int (nI fd), .int (nI lv)])), (an, .inl (K 0, 600, .inl An))] (fun v w => w = [(se, .inr (3, [.ref rw, .int (nI rl), .int (nI wn), .int (nI pn), .ref pl, .ref ho, .ref ag, .ref bi, .ref an, .int (nI fd), .int (nI lv)])), (an, .inl (K 0, 600, .inl An))] ∧ ((0 ≤ x.toInt ∧ x.toInt < fd ∧ x.toInt < 200 ∧ v = some (.int (An (xi x * 3 + v0)))) ∨ (¬ (0 ≤ x.toInt ∧ x.toInt < fd ∧ x.toInt < 200) ∧ v = some (.int (-1))))) := by
  refine xz_enter (by decide +kernel) (Nat.le_of_ble_eq_true rfl) ?_
  intro Γ hC
  refine xz_lcs (lc' := [(0, .ref se), (1, .int x), (2, .int (nI v0))]) [0, 1, 2] rfl ?_
  refine xz_iload_n hC 1 rfl rfl dSe_termAt_0 ?_
  refine xz_if_lt hC (tgt := 19) rfl (by decide) dSe_termAt_1 (fun h1 => ?_) (fun h1 => ?_)
  · skip
    refine xz_iconst hC (v := (-1)) (by decide +kernel) dSe_termAt_19 ?_
    exact xz_ireturn hC (by decide) (by decide) (⟨rfl, Or.inr ⟨by omega, rfl⟩⟩) dSe_termAt_20
  · skip
    refine xz_iload_n hC 1 rfl rfl dSe_termAt_4 ?_
    refine xz_aload_n hC 0 rfl rfl dSe_termAt_5 ?_
    refine xz_get hC 0 rfl rfl 9 (by decide) inSe tq122 rfl rfl dSe_termAt_6 ?_
    refine xz_icmp_ge hC (tgt := 19) rfl (nI_toInt (by omega)) (by decide) dSe_termAt_9 (fun h2 => ?_) (fun h2 => ?_)
    · skip
      refine xz_iconst hC (v := (-1)) (by decide +kernel) dSe_termAt_19 ?_
      exact xz_ireturn hC (by decide) (by decide) (⟨rfl, Or.inr ⟨by omega, rfl⟩⟩) dSe_termAt_20
    · skip
      refine xz_iload_n hC 1 rfl rfl dSe_termAt_12 ?_
      refine xz_sipush hC (v := nI 200) (by decide +kernel) dSe_termAt_13 ?_
      refine xz_icmp_lt hC (tgt := 21) rfl (nI_toInt (by omega)) (by decide) dSe_termAt_16 (fun h3 => ?_) (fun h3 => ?_)
      · skip
        obtain ⟨k, hk, rfl⟩ := xn_of (x := x) (n := 200) (by omega) (by omega)
        have hkt : (nI k).toInt = (k : Int) := nI_toInt (by omega)
        refine xz_aload_n hC 0 rfl rfl dSe_termAt_21 ?_
        refine xz_get hC 0 rfl rfl 8 (by decide) inSe tq121 rfl rfl dSe_termAt_22 ?_
        refine xz_iload_n hC 1 rfl rfl dSe_termAt_25 ?_
        refine xz_iconst hC (v := nI 3) (by decide +kernel) dSe_termAt_26 ?_
        refine xz_imul hC (z := nI (k * 3)) (pk_mul _ _) dSe_termAt_27 ?_
        refine xz_iload_n hC 2 rfl rfl dSe_termAt_28 ?_
        refine xz_iadd hC (z := nI (k * 3 + v0)) (nI_add _ _) dSe_termAt_29 ?_
        refine xz_iaload hC 1 0 (v := An (k * 3 + v0)) rfl rfl (by omega) (by decide) rfl dSe_termAt_30 ?_
        exact xz_ireturn hC (by decide) (by decide) (⟨rfl, Or.inl ⟨by omega, by omega, by omega, by rw [xi_nI (by omega)]⟩⟩) dSe_termAt_31
      · skip
        refine xz_iconst hC (v := (-1)) (by decide +kernel) dSe_termAt_19 ?_
        exact xz_ireturn hC (by decide) (by decide) (⟨rfl, Or.inr ⟨by omega, rfl⟩⟩) dSe_termAt_20
set_option maxHeartbeats 1000000 in
set_option maxRecDepth 100000 in
theorem mSe_narrow (l : Launch) (D : va_G) (K : Nat → ClassId) (se rw pl ho ag bi an rl wn pn fd lv : Nat) (Rw Pl : Nat → Int32) (Ho Ag : Nat → Int64) (q r g : Nat → Nat) (n d t : Nat) (ts : List Nat) (hpn : pn ≤ 4) (hn : n ≤ 60) (hd : d < 3) (ht : t < 24) (hts : ts.length = d) (hrw : Rw d = nI (r d)) (hrd : r d < 3) (hpl : xs_pl Pl q pn) (hho : xs_ho Ho g n) (hag : ∀ j, j < pn → xs_ag (Ag (d * 4 + j)) q j r ts g n) : xz_Met l D (tz K) ySe_narrow cSe_narrow 9 (some .boolean) { frames := 0, cells := 0, slots := 0, locals := 0 } [.ref se, .int (nI d), .int (nI t)] [(se, .inr (3, [.ref rw, .int (nI rl), .int (nI wn), .int (nI pn), .ref pl, .ref ho, .ref ag, .ref bi, .ref an, .int (nI fd), .int (nI lv)])), (rw, .inl (K 0, 3, .inl Rw)), (pl, .inl (K 0, 12, .inl Pl)), (ho, .inl (K 1, 72, .inr (.inl Ho))), (ag, .inl (K 1, 16, .inr (.inl Ag)))] (fun v w => ∃ (b : Bool) (Ag' : Nat → Int64), v = some (.int (bI b)) ∧ w = [(se, .inr (3, [.ref rw, .int (nI rl), .int (nI wn), .int (nI pn), .ref pl, .ref ho, .ref ag, .ref bi, .ref an, .int (nI fd), .int (nI lv)])), (rw, .inl (K 0, 3, .inl Rw)), (pl, .inl (K 0, 12, .inl Pl)), (ho, .inl (K 1, 72, .inr (.inl Ho))), (ag, .inl (K 1, 16, .inr (.inl Ag')))] ∧ (∀ i, i < d * 4 + 4 → Ag' i = Ag i) ∧ (b = true ↔ ∀ j, j < pn → xq_fp q j (32 + r d) < 3 → xq_ne q j r (ts ++ [t]) (xo_mem g n)) ∧ (b = true → ∀ j, j < pn → xs_ag (Ag' (d * 4 + 4 + j)) q j r (ts ++ [t]) g n)) := by
  refine xz_enter (by decide +kernel) (Nat.le_of_ble_eq_true rfl) ?_
  intro Γ hC
  refine xz_lcs (lc' := [(0, .ref se), (1, .int (nI d)), (2, .int (nI t))]) [0, 1, 2] rfl ?_
  refine xz_iload_n hC 1 rfl rfl dSe_narrow_0 ?_
  refine xz_iconst hC (v := nI 4) (by decide +kernel) dSe_narrow_1 ?_
  refine xz_imul hC (z := nI (d * 4)) (pk_mul _ _) dSe_narrow_2 ?_
  refine xz_istore_n hC (lc' := [(3, .int (nI (d * 4))), (0, .ref se), (1, .int (nI d)), (2, .int (nI t))]) rfl (by decide) rfl dSe_narrow_3 ?_
  refine xz_iload_n hC 0 rfl rfl dSe_narrow_4 ?_
  refine xz_iconst hC (v := nI 4) (by decide +kernel) dSe_narrow_5 ?_
  refine xz_iadd hC (z := nI (d * 4 + 4)) (nI_add _ _) dSe_narrow_6 ?_
  refine xz_istore hC (lc' := [(4, .int (nI (d * 4 + 4))), (3, .int (nI (d * 4))), (0, .ref se), (1, .int (nI d)), (2, .int (nI t))]) (by decide) rfl dSe_narrow_7 ?_
  refine xz_iconst hC (v := nI 0) (by decide +kernel) dSe_narrow_9 ?_
  refine xz_istore hC (lc' := [(5, .int (nI 0)), (4, .int (nI (d * 4 + 4))), (3, .int (nI (d * 4))), (0, .ref se), (1, .int (nI d)), (2, .int (nI t))]) (by decide) rfl dSe_narrow_10 ?_
  have lp1 : ∀ (NNlp1 : Nat) (p : Nat) (Ag' : Nat → Int64), p ≤ pn → (∀ i, i < d * 4 + 4 → Ag' i = Ag i) → (∀ j, j < p → xs_ag (Ag' (d * 4 + 4 + j)) q j r (ts ++ [t]) g n) → (∀ j, j < p → xq_fp q j (32 + r d) < 3 → xq_ne q j r (ts ++ [t]) (xo_mem g n)) → pn - p = NNlp1 → xz_X Γ 0 0 [(se, .inr (3, [.ref rw, .int (nI rl), .int (nI wn), .int (nI pn), .ref pl, .ref ho, .ref ag, .ref bi, .ref an, .int (nI fd), .int (nI lv)])), (rw, .inl (K 0, 3, .inl Rw)), (pl, .inl (K 0, 12, .inl Pl)), (ho, .inl (K 1, 72, .inr (.inl Ho))), (ag, .inl (K 1, 16, .inr (.inl Ag')))] 12 [(5, .int (nI p)), (4, .int (nI (d * 4 + 4))), (3, .int (nI (d * 4))), (0, .ref se), (1, .int (nI d)), (2, .int (nI t))] [] := by
    intro NNlp1
    induction NNlp1 using Nat.strongRecOn with
    | _ NNlp1 ihlp1 =>
      intro p  Ag'  hp hlow hnew hne hNNlp1
      refine xz_iload hC 0 rfl dSe_narrow_12 ?_
      refine xz_aload_n hC 3 rfl rfl dSe_narrow_14 ?_
      refine xz_get hC 0 rfl rfl 3 (by decide) inSe tq116 rfl rfl dSe_narrow_15 ?_
      refine xz_icmp_ge hC (tgt := 100) (nI_toInt (by omega)) (nI_toInt (by omega)) (by decide) dSe_narrow_18 (fun h2 => ?_) (fun h2 => ?_)
      · skip
        refine xz_iconst hC (v := bI true) (by decide +kernel) dSe_narrow_100 ?_
        exact xz_zreturn hC (by decide) (by decide) (⟨_, Ag', rfl, rfl, hlow, xt_t (fun j hj => hne j (by omega)), fun _ j hj => hnew j (by omega)⟩) dSe_narrow_101
      · skip
        have hxo : xs_ag (Ag' (d * 4 + p)) q p r ts g n := by rw [hlow _ (by omega)]; exact hag p (by omega)
        refine xz_aload_n hC 3 rfl rfl dSe_narrow_21 ?_
        refine xz_get hC 0 rfl rfl 6 (by decide) inSe tq119 rfl rfl dSe_narrow_22 ?_
        refine xz_iload_n hC 2 rfl rfl dSe_narrow_25 ?_
        refine xz_iload hC 0 rfl dSe_narrow_26 ?_
        refine xz_iadd hC (z := nI (d * 4 + p)) (nI_add _ _) dSe_narrow_28 ?_
        refine xz_laload hC 4 1 (v := Ag' (d * 4 + p)) rfl rfl (by omega) (by decide) rfl dSe_narrow_29 ?_
        refine xz_lstore hC (lc' := [(6, .long (Ag' (d * 4 + p))), (5, .int (nI p)), (4, .int (nI (d * 4 + 4))), (3, .int (nI (d * 4))), (0, .ref se), (1, .int (nI d)), (2, .int (nI t))]) (by decide) rfl dSe_narrow_30 ?_
        refine xz_aload_n hC 4 rfl rfl dSe_narrow_32 ?_
        refine xz_get hC 0 rfl rfl 4 (by decide) inSe tq117 rfl rfl dSe_narrow_33 ?_
        refine xz_iload hC 1 rfl dSe_narrow_36 ?_
        refine xz_iconst hC (v := nI 3) (by decide +kernel) dSe_narrow_38 ?_
        refine xz_imul hC (z := nI (p * 3)) (pk_mul _ _) dSe_narrow_39 ?_
        refine xz_aload_n hC 4 rfl rfl dSe_narrow_40 ?_
        refine xz_get hC 0 rfl rfl 0 (by decide) inSe tq113 rfl rfl dSe_narrow_41 ?_
        refine xz_iload_n hC 5 rfl rfl dSe_narrow_44 ?_
        refine xz_iaload hC 1 0 (v := nI (r d)) rfl rfl (by omega) (by decide) hrw dSe_narrow_45 ?_
        refine xz_iadd hC (z := nI (p * 3 + (r d))) (nI_add _ _) dSe_narrow_46 ?_
        refine xz_iaload hC 2 0 (v := xq_pl (xq_fp q p (32 + r d))) rfl rfl (by omega) (by decide) (xs_pl_at hpl (by omega) hrd) dSe_narrow_47 ?_
        refine xz_istore hC (lc' := [(8, .int (xq_pl (xq_fp q p (32 + r d)))), (6, .long (Ag' (d * 4 + p))), (5, .int (nI p)), (4, .int (nI (d * 4 + 4))), (3, .int (nI (d * 4))), (0, .ref se), (1, .int (nI d)), (2, .int (nI t))]) (by decide) rfl dSe_narrow_48 ?_
        refine xz_iload hC 0 rfl dSe_narrow_50 ?_
        refine xz_iconst hC (v := (-1)) (by decide +kernel) dSe_narrow_52 ?_
        refine xz_icmp_eq hC (tgt := 82) rfl xn_m1 (by decide) dSe_narrow_53 (fun h3 => ?_) (fun h3 => ?_)
        · skip
          have hf : ¬ xq_fp q p (32 + r d) < 3 := xq_pl_m1.mp h3
          have hxn : xs_ag (Ag' (d * 4 + p)) q p r (ts ++ [t]) g n := xs_ag_out hxo (by rw [hts]; exact hf)
          have hnow : xq_fp q p (32 + r d) < 3 → xq_ne q p r (ts ++ [t]) (xo_mem g n) := fun z => absurd z hf
          refine xz_aload_n hC 5 rfl rfl dSe_narrow_82 ?_
          refine xz_get hC 0 rfl rfl 6 (by decide) inSe tq119 rfl rfl dSe_narrow_83 ?_
          refine xz_iload hC 3 rfl dSe_narrow_86 ?_
          refine xz_iload hC 2 rfl dSe_narrow_88 ?_
          refine xz_iadd hC (z := nI (d * 4 + 4 + p)) (nI_add _ _) dSe_narrow_90 ?_
          refine xz_lload hC 1 rfl dSe_narrow_91 ?_
          refine xz_lastore hC 4 1 (ws' := [(se, .inr (3, [.ref rw, .int (nI rl), .int (nI wn), .int (nI pn), .ref pl, .ref ho, .ref ag, .ref bi, .ref an, .int (nI fd), .int (nI lv)])), (rw, .inl (K 0, 3, .inl Rw)), (pl, .inl (K 0, 12, .inl Pl)), (ho, .inl (K 1, 72, .inr (.inl Ho))), (ag, .inl (K 1, 16, .inr (.inl (vp_updL Ag' (d * 4 + 4 + p) (Ag' (d * 4 + p))))))]) rfl rfl (by omega) (by decide) rfl dSe_narrow_93 ?_
          refine xz_iinc hC 2 (lc' := [(5, .int (nI (p + 1))), (8, .int (xq_pl (xq_fp q p (32 + r d)))), (6, .long (Ag' (d * 4 + p))), (4, .int (nI (d * 4 + 4))), (3, .int (nI (d * 4))), (0, .ref se), (1, .int (nI d)), (2, .int (nI t))]) rfl (xn_inc _) (by decide) rfl dSe_narrow_94 ?_
          refine xz_goto hC (tgt := 12) (by decide) dSe_narrow_97 ?_
          refine xz_lcs (lc' := [(5, .int (nI (p + 1))), (4, .int (nI (d * 4 + 4))), (3, .int (nI (d * 4))), (0, .ref se), (1, .int (nI d)), (2, .int (nI t))]) [0, 3, 4, 5, 6, 7] rfl ?_
          exact ihlp1 _ (by omega) (p + 1) (vp_updL Ag' (d * 4 + 4 + p) (Ag' (d * 4 + p))) (by omega) (fun i hi => by rw [pk_uLn (by omega)]; exact hlow i hi) (fun j hj => by by_cases z : j = p; (rw [z, pk_uLs]; exact hxn); (rw [pk_uLn (by omega)]; exact hnew j (by omega))) (lt_s hne hnow) rfl
        · skip
          have hf : xq_fp q p (32 + r d) < 3 := Classical.byContradiction (fun z => h3 (xq_pl_m1.mpr z))
          refine xz_lload hC 1 rfl dSe_narrow_56 ?_
          refine xz_aload_n hC 5 rfl rfl dSe_narrow_58 ?_
          refine xz_get hC 0 rfl rfl 5 (by decide) inSe tq118 rfl rfl dSe_narrow_59 ?_
          refine xz_lce (lc' := [(8, .int (nI (xq_fp q p (32 + r d)))), (6, .long (Ag' (d * 4 + p))), (5, .int (nI p)), (4, .int (nI (d * 4 + 4))), (3, .int (nI (d * 4))), (0, .ref se), (1, .int (nI d)), (2, .int (nI t))]) (by rw [xq_pl_lt hf]) ?_
          refine xz_iload hC 0 rfl dSe_narrow_62 ?_
          refine xz_bipush hC (v := nI 24) (by decide +kernel) dSe_narrow_64 ?_
          refine xz_imul hC (z := nI ((xq_fp q p (32 + r d)) * 24)) (pk_mul _ _) dSe_narrow_66 ?_
          refine xz_iload_n hC 7 rfl rfl dSe_narrow_67 ?_
          refine xz_iadd hC (z := nI ((xq_fp q p (32 + r d)) * 24 + t)) (nI_add _ _) dSe_narrow_68 ?_
          refine xz_laload hC 3 1 (v := Ho ((xq_fp q p (32 + r d)) * 24 + t)) rfl rfl (by omega) (by decide) rfl dSe_narrow_69 ?_
          refine xz_land hC (z := Ag' (d * 4 + p) &&& Ho (xq_fp q p (32 + r d) * 24 + t)) rfl dSe_narrow_70 ?_
          refine xz_lstore hC (lc' := [(6, .long (Ag' (d * 4 + p) &&& Ho (xq_fp q p (32 + r d) * 24 + t))), (8, .int (nI (xq_fp q p (32 + r d)))), (5, .int (nI p)), (4, .int (nI (d * 4 + 4))), (3, .int (nI (d * 4))), (0, .ref se), (1, .int (nI d)), (2, .int (nI t))]) (by decide) rfl dSe_narrow_71 ?_
          refine xz_lload hC 0 rfl dSe_narrow_73 ?_
          refine xz_lconst hC (v := 0) (by decide +kernel) dSe_narrow_75 ?_
          refine xz_lcmp hC (z := lg_cmp (Ag' (d * 4 + p) &&& Ho (xq_fp q p (32 + r d) * 24 + t)) 0) rfl dSe_narrow_76 ?_
          refine xz_if_ne hC (tgt := 82) rfl (by decide) dSe_narrow_77 (fun h4 => ?_) (fun h4 => ?_)
          · skip
            have hxn : xs_ag (Ag' (d * 4 + p) &&& Ho (xq_fp q p (32 + r d) * 24 + t)) q p r (ts ++ [t]) g n := xs_ag_in hxo (by rw [hts]; exact hf) (by rw [hts]; exact xs_ho_at hho hf ht)
            have hnow : xq_fp q p (32 + r d) < 3 → xq_ne q p r (ts ++ [t]) (xo_mem g n) := fun _ => (xs_ag_ne hxn (by omega)).mp (fun z => h4 (xb_cmp.mpr z))
            refine xz_aload_n hC 5 rfl rfl dSe_narrow_82 ?_
            refine xz_get hC 0 rfl rfl 6 (by decide) inSe tq119 rfl rfl dSe_narrow_83 ?_
            refine xz_iload hC 3 rfl dSe_narrow_86 ?_
            refine xz_iload hC 2 rfl dSe_narrow_88 ?_
            refine xz_iadd hC (z := nI (d * 4 + 4 + p)) (nI_add _ _) dSe_narrow_90 ?_
            refine xz_lload hC 0 rfl dSe_narrow_91 ?_
            refine xz_lastore hC 4 1 (ws' := [(se, .inr (3, [.ref rw, .int (nI rl), .int (nI wn), .int (nI pn), .ref pl, .ref ho, .ref ag, .ref bi, .ref an, .int (nI fd), .int (nI lv)])), (rw, .inl (K 0, 3, .inl Rw)), (pl, .inl (K 0, 12, .inl Pl)), (ho, .inl (K 1, 72, .inr (.inl Ho))), (ag, .inl (K 1, 16, .inr (.inl (vp_updL Ag' (d * 4 + 4 + p) (Ag' (d * 4 + p) &&& Ho (xq_fp q p (32 + r d) * 24 + t))))))]) rfl rfl (by omega) (by decide) rfl dSe_narrow_93 ?_
            refine xz_iinc hC 2 (lc' := [(5, .int (nI (p + 1))), (6, .long (Ag' (d * 4 + p) &&& Ho (xq_fp q p (32 + r d) * 24 + t))), (8, .int (nI (xq_fp q p (32 + r d)))), (4, .int (nI (d * 4 + 4))), (3, .int (nI (d * 4))), (0, .ref se), (1, .int (nI d)), (2, .int (nI t))]) rfl (xn_inc _) (by decide) rfl dSe_narrow_94 ?_
            refine xz_goto hC (tgt := 12) (by decide) dSe_narrow_97 ?_
            refine xz_lcs (lc' := [(5, .int (nI (p + 1))), (4, .int (nI (d * 4 + 4))), (3, .int (nI (d * 4))), (0, .ref se), (1, .int (nI d)), (2, .int (nI t))]) [0, 3, 4, 5, 6, 7] rfl ?_
            exact ihlp1 _ (by omega) (p + 1) (vp_updL Ag' (d * 4 + 4 + p) (Ag' (d * 4 + p) &&& Ho (xq_fp q p (32 + r d) * 24 + t))) (by omega) (fun i hi => by rw [pk_uLn (by omega)]; exact hlow i hi) (fun j hj => by by_cases z : j = p; (rw [z, pk_uLs]; exact hxn); (rw [pk_uLn (by omega)]; exact hnew j (by omega))) (lt_s hne hnow) rfl
          · skip
            have hxn : xs_ag (Ag' (d * 4 + p) &&& Ho (xq_fp q p (32 + r d) * 24 + t)) q p r (ts ++ [t]) g n := xs_ag_in hxo (by rw [hts]; exact hf) (by rw [hts]; exact xs_ho_at hho hf ht)
            have hz := xb_cmp.mp h4
            refine xz_iconst hC (v := bI false) (by decide +kernel) dSe_narrow_80 ?_
            exact xz_zreturn hC (by decide) (by decide) (⟨_, Ag', rfl, rfl, hlow, xt_f (fun w => (xs_ag_ne hxn (by omega)).mpr (w p (by omega) hf) hz), fun z => absurd z (by decide)⟩) dSe_narrow_81
  exact lp1 _ 0 Ag (by omega) (fun i _ => rfl) (fun j hj => absurd hj (by omega)) (fun j hj => absurd hj (by omega)) rfl
