set_option maxHeartbeats 1000000 in
set_option maxRecDepth 100000 in
theorem mOr_init (l : Launch) (D : va_G) (K : Nat → ClassId) (o p1 p2 p3 : Nat)  : xz_Met l D (tz K) yOr_init cOr_init 4 none { frames := 1, cells := 1, slots := 60, locals := 20 } [.ref o, .int (nI p1), .int (nI p2), .int (nI p3)] [(o, .inr (1, [.int (nI 0), .int (nI 0), .int (nI 0), .null, .int (nI 0)]))] (fun v w => ∃ k, v = none ∧ w = [(o, .inr (1, [.int (nI p1), .int (nI p2), .int (nI p3), .ref k, .int (nI 0)])), (k, .inl (K 0, 60, .inl (fun _ => nI 0)))]) := by
  refine xz_enter (by decide +kernel) (Nat.le_of_ble_eq_true rfl) ?_
  intro Γ hC
  refine xz_lcs (lc' := [(0, .ref o), (1, .int (nI p1)), (2, .int (nI p2)), (3, .int (nI p3))]) [0, 1, 2, 3] rfl ?_
  refine xz_aload_n hC 0 rfl rfl dOr_init_0 ?_
  refine xz_objinit hC tq59 tq15 tq16 (by decide) (Nat.le_of_ble_eq_true rfl) dOr_init_1 ?_
  refine xz_aload_n hC 0 rfl rfl dOr_init_4 ?_
  refine xz_iload_n hC 1 rfl rfl dOr_init_5 ?_
  refine xz_putF hC 0 rfl rfl 0 (by decide) inOr tq60 rfl tyOr tyOr_ok nmOr rfl rfl rfl rfl rfl (Nat.le_of_ble_eq_true rfl) (ws' := [(o, .inr (1, [.int (nI p1), .int (nI 0), .int (nI 0), .null, .int (nI 0)]))]) rfl dOr_init_6 ?_
  refine xz_aload_n hC 0 rfl rfl dOr_init_9 ?_
  refine xz_iload_n hC 2 rfl rfl dOr_init_10 ?_
  refine xz_putF hC 0 rfl rfl 1 (by decide) inOr tq61 rfl tyOr tyOr_ok nmOr rfl rfl rfl rfl rfl (Nat.le_of_ble_eq_true rfl) (ws' := [(o, .inr (1, [.int (nI p1), .int (nI p2), .int (nI 0), .null, .int (nI 0)]))]) rfl dOr_init_11 ?_
  refine xz_aload_n hC 0 rfl rfl dOr_init_14 ?_
  refine xz_iload_n hC 3 rfl rfl dOr_init_15 ?_
  refine xz_putF hC 0 rfl rfl 2 (by decide) inOr tq62 rfl tyOr tyOr_ok nmOr rfl rfl rfl rfl rfl (Nat.le_of_ble_eq_true rfl) (ws' := [(o, .inr (1, [.int (nI p1), .int (nI p2), .int (nI p3), .null, .int (nI 0)]))]) rfl dOr_init_16 ?_
  refine xz_aload_n hC 0 rfl rfl dOr_init_19 ?_
  refine xz_bipush hC (v := nI 60) (by decide +kernel) dOr_init_20 ?_
  refine xz_newarray hC (atype := .int) (ty := .int) rfl tq41 0 rfl (fun _ _ => rfl) (N' := 60) (a0 := (60, .inl (fun _ => nI 0))) (fun _ => rfl) (by decide) (by decide) (by decide) (by decide) dOr_init_22 (fun k => ?_)
  refine xz_wse (ws' := [(o, .inr (1, [.int (nI p1), .int (nI p2), .int (nI p3), .null, .int (nI 0)])), (k, .inl (K 0, 60, .inl (fun _ => nI 0)))]) rfl ?_
  refine xz_putF hC 0 rfl rfl 3 (by decide) inOr tq63 rfl tyOr tyOr_ok nmOr rfl rfl rfl rfl rfl (Nat.le_of_ble_eq_true rfl) (ws' := [(o, .inr (1, [.int (nI p1), .int (nI p2), .int (nI p3), .ref k, .int (nI 0)])), (k, .inl (K 0, 60, .inl (fun _ => nI 0)))]) rfl dOr_init_24 ?_
  refine xz_aload_n hC 0 rfl rfl dOr_init_27 ?_
  refine xz_iconst hC (v := nI 0) (by decide +kernel) dOr_init_28 ?_
  refine xz_put hC 0 rfl rfl 4 (by decide) inOr tq64 rfl tyOr tyOr_ok nmOr rfl rfl rfl (Nat.le_of_ble_eq_true rfl) (ws' := [(o, .inr (1, [.int (nI p1), .int (nI p2), .int (nI p3), .ref k, .int (nI 0)])), (k, .inl (K 0, 60, .inl (fun _ => nI 0)))]) rfl dOr_init_29 ?_
  exact xz_return hC (by decide) (by decide) (⟨k, rfl, rfl⟩) dOr_init_32
set_option maxHeartbeats 1000000 in
set_option maxRecDepth 100000 in
theorem mDi_init (l : Launch) (D : va_G) (K : Nat → ClassId) (d : Nat)  : xz_Met l D (tz K) yDi_init cDi_init 1 none { frames := 1, cells := 2, slots := 48, locals := 20 } [.ref d] [(d, .inr (0, [.null, .null, .int (nI 0), .long 0, .int (nI 0)]))] (fun v w => ∃ pw ln, v = none ∧ w = [(d, .inr (0, [.ref pw, .ref ln, .int (nI 0), .long 0, .int (nI 0)])), (pw, .inl (K 1, 24, .inr (.inl (fun _ => 0)))), (ln, .inl (K 0, 24, .inl (fun _ => nI 0)))]) := by
  refine xz_enter (by decide +kernel) (Nat.le_of_ble_eq_true rfl) ?_
  intro Γ hC
  refine xz_lcs (lc' := [(0, .ref d)]) [0] rfl ?_
  refine xz_aload_n hC 0 rfl rfl dDi_init_0 ?_
  refine xz_objinit hC tq22 tq15 tq16 (by decide) (Nat.le_of_ble_eq_true rfl) dDi_init_1 ?_
  refine xz_aload_n hC 0 rfl rfl dDi_init_4 ?_
  refine xz_bipush hC (v := nI 24) (by decide +kernel) dDi_init_5 ?_
  refine xz_newarray hC (atype := .long) (ty := .long) rfl tq40 1 rfl (fun _ _ => rfl) (N' := 24) (a0 := (24, .inr (.inl (fun _ => 0)))) (fun _ => rfl) (by decide) (by decide) (by decide) (by decide) dDi_init_7 (fun pw => ?_)
  refine xz_wse (ws' := [(d, .inr (0, [.null, .null, .int (nI 0), .long 0, .int (nI 0)])), (pw, .inl (K 1, 24, .inr (.inl (fun _ => 0))))]) rfl ?_
  refine xz_putF hC 0 rfl rfl 0 (by decide) inDi tq23 rfl tyDi tyDi_ok nmDi rfl rfl rfl rfl rfl (Nat.le_of_ble_eq_true rfl) (ws' := [(d, .inr (0, [.ref pw, .null, .int (nI 0), .long 0, .int (nI 0)])), (pw, .inl (K 1, 24, .inr (.inl (fun _ => 0))))]) rfl dDi_init_9 ?_
  refine xz_aload_n hC 0 rfl rfl dDi_init_12 ?_
  refine xz_bipush hC (v := nI 24) (by decide +kernel) dDi_init_13 ?_
  refine xz_newarray hC (atype := .int) (ty := .int) rfl tq41 0 rfl (fun _ _ => rfl) (N' := 24) (a0 := (24, .inl (fun _ => nI 0))) (fun _ => rfl) (by decide) (by decide) (by decide) (by decide) dDi_init_15 (fun ln => ?_)
  refine xz_wse (ws' := [(d, .inr (0, [.ref pw, .null, .int (nI 0), .long 0, .int (nI 0)])), (pw, .inl (K 1, 24, .inr (.inl (fun _ => 0)))), (ln, .inl (K 0, 24, .inl (fun _ => nI 0)))]) rfl ?_
  refine xz_putF hC 0 rfl rfl 1 (by decide) inDi tq24 rfl tyDi tyDi_ok nmDi rfl rfl rfl rfl rfl (Nat.le_of_ble_eq_true rfl) (ws' := [(d, .inr (0, [.ref pw, .ref ln, .int (nI 0), .long 0, .int (nI 0)])), (pw, .inl (K 1, 24, .inr (.inl (fun _ => 0)))), (ln, .inl (K 0, 24, .inl (fun _ => nI 0)))]) rfl dDi_init_17 ?_
  refine xz_aload_n hC 0 rfl rfl dDi_init_20 ?_
  refine xz_iconst hC (v := nI 0) (by decide +kernel) dDi_init_21 ?_
  refine xz_put hC 0 rfl rfl 2 (by decide) inDi tq25 rfl tyDi tyDi_ok nmDi rfl rfl rfl (Nat.le_of_ble_eq_true rfl) (ws' := [(d, .inr (0, [.ref pw, .ref ln, .int (nI 0), .long 0, .int (nI 0)])), (pw, .inl (K 1, 24, .inr (.inl (fun _ => 0)))), (ln, .inl (K 0, 24, .inl (fun _ => nI 0)))]) rfl dDi_init_22 ?_
  refine xz_aload_n hC 0 rfl rfl dDi_init_25 ?_
  refine xz_lconst hC (v := 0) (by decide +kernel) dDi_init_26 ?_
  refine xz_put hC 0 rfl rfl 3 (by decide) inDi tq27 rfl tyDi tyDi_ok nmDi rfl rfl rfl (Nat.le_of_ble_eq_true rfl) (ws' := [(d, .inr (0, [.ref pw, .ref ln, .int (nI 0), .long 0, .int (nI 0)])), (pw, .inl (K 1, 24, .inr (.inl (fun _ => 0)))), (ln, .inl (K 0, 24, .inl (fun _ => nI 0)))]) rfl dDi_init_27 ?_
  refine xz_aload_n hC 0 rfl rfl dDi_init_30 ?_
  refine xz_iconst hC (v := nI 0) (by decide +kernel) dDi_init_31 ?_
  refine xz_put hC 0 rfl rfl 4 (by decide) inDi tq28 rfl tyDi tyDi_ok nmDi rfl rfl rfl (Nat.le_of_ble_eq_true rfl) (ws' := [(d, .inr (0, [.ref pw, .ref ln, .int (nI 0), .long 0, .int (nI 0)])), (pw, .inl (K 1, 24, .inr (.inl (fun _ => 0)))), (ln, .inl (K 0, 24, .inl (fun _ => nI 0)))]) rfl dDi_init_32 ?_
  exact xz_return hC (by decide) (by decide) (⟨pw, ln, rfl, rfl⟩) dDi_init_35
set_option maxHeartbeats 1000000 in
set_option maxRecDepth 100000 in
theorem mQu_init (l : Launch) (D : va_G) (K : Nat → ClassId) (qu : Nat)  : xz_Met l D (tz K) yQu_init cQu_init 1 none { frames := 1, cells := 1, slots := 12, locals := 20 } [.ref qu] [(qu, .inr (2, [.null, .int (nI 0)]))] (fun v w => ∃ nu, v = none ∧ w = [(qu, .inr (2, [.ref nu, .int (nI 0)])), (nu, .inl (K 0, 12, .inl (fun _ => nI 0)))]) := by
  refine xz_enter (by decide +kernel) (Nat.le_of_ble_eq_true rfl) ?_
  intro Γ hC
  refine xz_lcs (lc' := [(0, .ref qu)]) [0] rfl ?_
  refine xz_aload_n hC 0 rfl rfl dQu_init_0 ?_
  refine xz_objinit hC tq97 tq15 tq16 (by decide) (Nat.le_of_ble_eq_true rfl) dQu_init_1 ?_
  refine xz_aload_n hC 0 rfl rfl dQu_init_4 ?_
  refine xz_bipush hC (v := nI 12) (by decide +kernel) dQu_init_5 ?_
  refine xz_newarray hC (atype := .int) (ty := .int) rfl tq41 0 rfl (fun _ _ => rfl) (N' := 12) (a0 := (12, .inl (fun _ => nI 0))) (fun _ => rfl) (by decide) (by decide) (by decide) (by decide) dQu_init_7 (fun nu => ?_)
  refine xz_wse (ws' := [(qu, .inr (2, [.null, .int (nI 0)])), (nu, .inl (K 0, 12, .inl (fun _ => nI 0)))]) rfl ?_
  refine xz_putF hC 0 rfl rfl 0 (by decide) inQu tq98 rfl tyQu tyQu_ok nmQu rfl rfl rfl rfl rfl (Nat.le_of_ble_eq_true rfl) (ws' := [(qu, .inr (2, [.ref nu, .int (nI 0)])), (nu, .inl (K 0, 12, .inl (fun _ => nI 0)))]) rfl dQu_init_9 ?_
  refine xz_aload_n hC 0 rfl rfl dQu_init_12 ?_
  refine xz_iconst hC (v := nI 0) (by decide +kernel) dQu_init_13 ?_
  refine xz_put hC 0 rfl rfl 1 (by decide) inQu tq99 rfl tyQu tyQu_ok nmQu rfl rfl rfl (Nat.le_of_ble_eq_true rfl) (ws' := [(qu, .inr (2, [.ref nu, .int (nI 0)])), (nu, .inl (K 0, 12, .inl (fun _ => nI 0)))]) rfl dQu_init_14 ?_
  exact xz_return hC (by decide) (by decide) (⟨nu, rfl, rfl⟩) dQu_init_17
set_option maxHeartbeats 1000000 in
set_option maxRecDepth 100000 in
theorem mMo_init (l : Launch) (D : va_G) (K : Nat → ClassId) (mo : Nat)  : xz_Met l D (tz K) yMo_init cMo_init 1 none { frames := 1, cells := 10, slots := 915, locals := 20 } [.ref mo] [(mo, .inr (6, [.int (nI 0), .null, .int (nI 0), .null, .null, .int (nI 0), .null, .int (nI 0), .null, .int (nI 0), .int (nI 0), .null, .int (nI 0), .null, .null, .null, .int (nI 0), .null, .int (nI 0)]))] (fun v w => ∃ wo le lt pe st pt rr vl bo kp, v = none ∧ w = [(mo, .inr (6, [.int (nI 0), .ref wo, .int (nI 0), .ref le, .ref lt, .int (nI 0), .ref pe, .int (nI 0), .ref st, .int (nI 0), .int (nI 0), .ref pt, .int (nI 0), .ref rr, .ref vl, .ref bo, .int (nI 0), .ref kp, .int (nI 0)])), (wo, .inl (K 2, 6, .inl (fun _ => nI 0))), (le, .inl (K 0, 24, .inl (fun _ => nI 0))), (lt, .inl (K 2, 144, .inl (fun _ => nI 0))), (pe, .inl (K 0, 60, .inl (fun _ => nI 0))), (st, .inl (K 0, 60, .inl (fun _ => nI 0))), (pt, .inl (K 0, 12, .inl (fun _ => nI 0))), (rr, .inl (K 0, 3, .inl (fun _ => nI 0))), (vl, .inl (K 0, 3, .inl (fun _ => nI 0))), (bo, .inl (K 3, 3, .inl (fun _ => bI false))), (kp, .inl (K 0, 600, .inl (fun _ => nI 0)))]) := by
  refine xz_enter (by decide +kernel) (Nat.le_of_ble_eq_true rfl) ?_
  intro Γ hC
  refine xz_lcs (lc' := [(0, .ref mo)]) [0] rfl ?_
  refine xz_aload_n hC 0 rfl rfl dMo_init_0 ?_
  refine xz_objinit hC tq428 tq15 tq16 (by decide) (Nat.le_of_ble_eq_true rfl) dMo_init_1 ?_
  refine xz_aload_n hC 0 rfl rfl dMo_init_4 ?_
  refine xz_bipush hC (v := nI 6) (by decide +kernel) dMo_init_5 ?_
  refine xz_newarray hC (atype := .char) (ty := .char) rfl tq487 2 rfl (fun _ _ => rfl) (N' := 6) (a0 := (6, .inl (fun _ => nI 0))) (fun _ => rfl) (by decide) (by decide) (by decide) (by decide) dMo_init_7 (fun wo => ?_)
  refine xz_wse (ws' := [(mo, .inr (6, [.int (nI 0), .null, .int (nI 0), .null, .null, .int (nI 0), .null, .int (nI 0), .null, .int (nI 0), .int (nI 0), .null, .int (nI 0), .null, .null, .null, .int (nI 0), .null, .int (nI 0)])), (wo, .inl (K 2, 6, .inl (fun _ => nI 0)))]) rfl ?_
  refine xz_putF hC 0 rfl rfl 1 (by decide) inMo tq430 rfl tyMo tyMo_ok nmMo rfl rfl rfl rfl rfl (Nat.le_of_ble_eq_true rfl) (ws' := [(mo, .inr (6, [.int (nI 0), .ref wo, .int (nI 0), .null, .null, .int (nI 0), .null, .int (nI 0), .null, .int (nI 0), .int (nI 0), .null, .int (nI 0), .null, .null, .null, .int (nI 0), .null, .int (nI 0)])), (wo, .inl (K 2, 6, .inl (fun _ => nI 0)))]) rfl dMo_init_9 ?_
  refine xz_aload_n hC 0 rfl rfl dMo_init_12 ?_
  refine xz_bipush hC (v := nI 24) (by decide +kernel) dMo_init_13 ?_
  refine xz_newarray hC (atype := .int) (ty := .int) rfl tq41 0 rfl (fun _ _ => rfl) (N' := 24) (a0 := (24, .inl (fun _ => nI 0))) (fun _ => rfl) (by decide) (by decide) (by decide) (by decide) dMo_init_15 (fun le => ?_)
  refine xz_wse (ws' := [(mo, .inr (6, [.int (nI 0), .ref wo, .int (nI 0), .null, .null, .int (nI 0), .null, .int (nI 0), .null, .int (nI 0), .int (nI 0), .null, .int (nI 0), .null, .null, .null, .int (nI 0), .null, .int (nI 0)])), (wo, .inl (K 2, 6, .inl (fun _ => nI 0))), (le, .inl (K 0, 24, .inl (fun _ => nI 0)))]) rfl ?_
  refine xz_putF hC 0 rfl rfl 3 (by decide) inMo tq432 rfl tyMo tyMo_ok nmMo rfl rfl rfl rfl rfl (Nat.le_of_ble_eq_true rfl) (ws' := [(mo, .inr (6, [.int (nI 0), .ref wo, .int (nI 0), .ref le, .null, .int (nI 0), .null, .int (nI 0), .null, .int (nI 0), .int (nI 0), .null, .int (nI 0), .null, .null, .null, .int (nI 0), .null, .int (nI 0)])), (wo, .inl (K 2, 6, .inl (fun _ => nI 0))), (le, .inl (K 0, 24, .inl (fun _ => nI 0)))]) rfl dMo_init_17 ?_
  refine xz_aload_n hC 0 rfl rfl dMo_init_20 ?_
  refine xz_sipush hC (v := nI 144) (by decide +kernel) dMo_init_21 ?_
  refine xz_newarray hC (atype := .char) (ty := .char) rfl tq487 2 rfl (fun _ _ => rfl) (N' := 144) (a0 := (144, .inl (fun _ => nI 0))) (fun _ => rfl) (by decide) (by decide) (by decide) (by decide) dMo_init_24 (fun lt => ?_)
  refine xz_wse (ws' := [(mo, .inr (6, [.int (nI 0), .ref wo, .int (nI 0), .ref le, .null, .int (nI 0), .null, .int (nI 0), .null, .int (nI 0), .int (nI 0), .null, .int (nI 0), .null, .null, .null, .int (nI 0), .null, .int (nI 0)])), (wo, .inl (K 2, 6, .inl (fun _ => nI 0))), (le, .inl (K 0, 24, .inl (fun _ => nI 0))), (lt, .inl (K 2, 144, .inl (fun _ => nI 0)))]) rfl ?_
  refine xz_putF hC 0 rfl rfl 4 (by decide) inMo tq433 rfl tyMo tyMo_ok nmMo rfl rfl rfl rfl rfl (Nat.le_of_ble_eq_true rfl) (ws' := [(mo, .inr (6, [.int (nI 0), .ref wo, .int (nI 0), .ref le, .ref lt, .int (nI 0), .null, .int (nI 0), .null, .int (nI 0), .int (nI 0), .null, .int (nI 0), .null, .null, .null, .int (nI 0), .null, .int (nI 0)])), (wo, .inl (K 2, 6, .inl (fun _ => nI 0))), (le, .inl (K 0, 24, .inl (fun _ => nI 0))), (lt, .inl (K 2, 144, .inl (fun _ => nI 0)))]) rfl dMo_init_26 ?_
  refine xz_aload_n hC 0 rfl rfl dMo_init_29 ?_
  refine xz_bipush hC (v := nI 60) (by decide +kernel) dMo_init_30 ?_
  refine xz_newarray hC (atype := .int) (ty := .int) rfl tq41 0 rfl (fun _ _ => rfl) (N' := 60) (a0 := (60, .inl (fun _ => nI 0))) (fun _ => rfl) (by decide) (by decide) (by decide) (by decide) dMo_init_32 (fun pe => ?_)
  refine xz_wse (ws' := [(mo, .inr (6, [.int (nI 0), .ref wo, .int (nI 0), .ref le, .ref lt, .int (nI 0), .null, .int (nI 0), .null, .int (nI 0), .int (nI 0), .null, .int (nI 0), .null, .null, .null, .int (nI 0), .null, .int (nI 0)])), (wo, .inl (K 2, 6, .inl (fun _ => nI 0))), (le, .inl (K 0, 24, .inl (fun _ => nI 0))), (lt, .inl (K 2, 144, .inl (fun _ => nI 0))), (pe, .inl (K 0, 60, .inl (fun _ => nI 0)))]) rfl ?_
  refine xz_putF hC 0 rfl rfl 6 (by decide) inMo tq435 rfl tyMo tyMo_ok nmMo rfl rfl rfl rfl rfl (Nat.le_of_ble_eq_true rfl) (ws' := [(mo, .inr (6, [.int (nI 0), .ref wo, .int (nI 0), .ref le, .ref lt, .int (nI 0), .ref pe, .int (nI 0), .null, .int (nI 0), .int (nI 0), .null, .int (nI 0), .null, .null, .null, .int (nI 0), .null, .int (nI 0)])), (wo, .inl (K 2, 6, .inl (fun _ => nI 0))), (le, .inl (K 0, 24, .inl (fun _ => nI 0))), (lt, .inl (K 2, 144, .inl (fun _ => nI 0))), (pe, .inl (K 0, 60, .inl (fun _ => nI 0)))]) rfl dMo_init_34 ?_
  refine xz_aload_n hC 0 rfl rfl dMo_init_37 ?_
  refine xz_bipush hC (v := nI 60) (by decide +kernel) dMo_init_38 ?_
  refine xz_newarray hC (atype := .int) (ty := .int) rfl tq41 0 rfl (fun _ _ => rfl) (N' := 60) (a0 := (60, .inl (fun _ => nI 0))) (fun _ => rfl) (by decide) (by decide) (by decide) (by decide) dMo_init_40 (fun st => ?_)
  refine xz_wse (ws' := [(mo, .inr (6, [.int (nI 0), .ref wo, .int (nI 0), .ref le, .ref lt, .int (nI 0), .ref pe, .int (nI 0), .null, .int (nI 0), .int (nI 0), .null, .int (nI 0), .null, .null, .null, .int (nI 0), .null, .int (nI 0)])), (wo, .inl (K 2, 6, .inl (fun _ => nI 0))), (le, .inl (K 0, 24, .inl (fun _ => nI 0))), (lt, .inl (K 2, 144, .inl (fun _ => nI 0))), (pe, .inl (K 0, 60, .inl (fun _ => nI 0))), (st, .inl (K 0, 60, .inl (fun _ => nI 0)))]) rfl ?_
  refine xz_putF hC 0 rfl rfl 8 (by decide) inMo tq437 rfl tyMo tyMo_ok nmMo rfl rfl rfl rfl rfl (Nat.le_of_ble_eq_true rfl) (ws' := [(mo, .inr (6, [.int (nI 0), .ref wo, .int (nI 0), .ref le, .ref lt, .int (nI 0), .ref pe, .int (nI 0), .ref st, .int (nI 0), .int (nI 0), .null, .int (nI 0), .null, .null, .null, .int (nI 0), .null, .int (nI 0)])), (wo, .inl (K 2, 6, .inl (fun _ => nI 0))), (le, .inl (K 0, 24, .inl (fun _ => nI 0))), (lt, .inl (K 2, 144, .inl (fun _ => nI 0))), (pe, .inl (K 0, 60, .inl (fun _ => nI 0))), (st, .inl (K 0, 60, .inl (fun _ => nI 0)))]) rfl dMo_init_42 ?_
  refine xz_aload_n hC 0 rfl rfl dMo_init_45 ?_
  refine xz_bipush hC (v := nI 12) (by decide +kernel) dMo_init_46 ?_
  refine xz_newarray hC (atype := .int) (ty := .int) rfl tq41 0 rfl (fun _ _ => rfl) (N' := 12) (a0 := (12, .inl (fun _ => nI 0))) (fun _ => rfl) (by decide) (by decide) (by decide) (by decide) dMo_init_48 (fun pt => ?_)
  refine xz_wse (ws' := [(mo, .inr (6, [.int (nI 0), .ref wo, .int (nI 0), .ref le, .ref lt, .int (nI 0), .ref pe, .int (nI 0), .ref st, .int (nI 0), .int (nI 0), .null, .int (nI 0), .null, .null, .null, .int (nI 0), .null, .int (nI 0)])), (wo, .inl (K 2, 6, .inl (fun _ => nI 0))), (le, .inl (K 0, 24, .inl (fun _ => nI 0))), (lt, .inl (K 2, 144, .inl (fun _ => nI 0))), (pe, .inl (K 0, 60, .inl (fun _ => nI 0))), (st, .inl (K 0, 60, .inl (fun _ => nI 0))), (pt, .inl (K 0, 12, .inl (fun _ => nI 0)))]) rfl ?_
  refine xz_putF hC 0 rfl rfl 11 (by decide) inMo tq440 rfl tyMo tyMo_ok nmMo rfl rfl rfl rfl rfl (Nat.le_of_ble_eq_true rfl) (ws' := [(mo, .inr (6, [.int (nI 0), .ref wo, .int (nI 0), .ref le, .ref lt, .int (nI 0), .ref pe, .int (nI 0), .ref st, .int (nI 0), .int (nI 0), .ref pt, .int (nI 0), .null, .null, .null, .int (nI 0), .null, .int (nI 0)])), (wo, .inl (K 2, 6, .inl (fun _ => nI 0))), (le, .inl (K 0, 24, .inl (fun _ => nI 0))), (lt, .inl (K 2, 144, .inl (fun _ => nI 0))), (pe, .inl (K 0, 60, .inl (fun _ => nI 0))), (st, .inl (K 0, 60, .inl (fun _ => nI 0))), (pt, .inl (K 0, 12, .inl (fun _ => nI 0)))]) rfl dMo_init_50 ?_
  refine xz_aload_n hC 0 rfl rfl dMo_init_53 ?_
  refine xz_iconst hC (v := nI 3) (by decide +kernel) dMo_init_54 ?_
  refine xz_newarray hC (atype := .int) (ty := .int) rfl tq41 0 rfl (fun _ _ => rfl) (N' := 3) (a0 := (3, .inl (fun _ => nI 0))) (fun _ => rfl) (by decide) (by decide) (by decide) (by decide) dMo_init_55 (fun rr => ?_)
  refine xz_wse (ws' := [(mo, .inr (6, [.int (nI 0), .ref wo, .int (nI 0), .ref le, .ref lt, .int (nI 0), .ref pe, .int (nI 0), .ref st, .int (nI 0), .int (nI 0), .ref pt, .int (nI 0), .null, .null, .null, .int (nI 0), .null, .int (nI 0)])), (wo, .inl (K 2, 6, .inl (fun _ => nI 0))), (le, .inl (K 0, 24, .inl (fun _ => nI 0))), (lt, .inl (K 2, 144, .inl (fun _ => nI 0))), (pe, .inl (K 0, 60, .inl (fun _ => nI 0))), (st, .inl (K 0, 60, .inl (fun _ => nI 0))), (pt, .inl (K 0, 12, .inl (fun _ => nI 0))), (rr, .inl (K 0, 3, .inl (fun _ => nI 0)))]) rfl ?_
  refine xz_putF hC 0 rfl rfl 13 (by decide) inMo tq442 rfl tyMo tyMo_ok nmMo rfl rfl rfl rfl rfl (Nat.le_of_ble_eq_true rfl) (ws' := [(mo, .inr (6, [.int (nI 0), .ref wo, .int (nI 0), .ref le, .ref lt, .int (nI 0), .ref pe, .int (nI 0), .ref st, .int (nI 0), .int (nI 0), .ref pt, .int (nI 0), .ref rr, .null, .null, .int (nI 0), .null, .int (nI 0)])), (wo, .inl (K 2, 6, .inl (fun _ => nI 0))), (le, .inl (K 0, 24, .inl (fun _ => nI 0))), (lt, .inl (K 2, 144, .inl (fun _ => nI 0))), (pe, .inl (K 0, 60, .inl (fun _ => nI 0))), (st, .inl (K 0, 60, .inl (fun _ => nI 0))), (pt, .inl (K 0, 12, .inl (fun _ => nI 0))), (rr, .inl (K 0, 3, .inl (fun _ => nI 0)))]) rfl dMo_init_57 ?_
  refine xz_aload_n hC 0 rfl rfl dMo_init_60 ?_
  refine xz_iconst hC (v := nI 3) (by decide +kernel) dMo_init_61 ?_
  refine xz_newarray hC (atype := .int) (ty := .int) rfl tq41 0 rfl (fun _ _ => rfl) (N' := 3) (a0 := (3, .inl (fun _ => nI 0))) (fun _ => rfl) (by decide) (by decide) (by decide) (by decide) dMo_init_62 (fun vl => ?_)
  refine xz_wse (ws' := [(mo, .inr (6, [.int (nI 0), .ref wo, .int (nI 0), .ref le, .ref lt, .int (nI 0), .ref pe, .int (nI 0), .ref st, .int (nI 0), .int (nI 0), .ref pt, .int (nI 0), .ref rr, .null, .null, .int (nI 0), .null, .int (nI 0)])), (wo, .inl (K 2, 6, .inl (fun _ => nI 0))), (le, .inl (K 0, 24, .inl (fun _ => nI 0))), (lt, .inl (K 2, 144, .inl (fun _ => nI 0))), (pe, .inl (K 0, 60, .inl (fun _ => nI 0))), (st, .inl (K 0, 60, .inl (fun _ => nI 0))), (pt, .inl (K 0, 12, .inl (fun _ => nI 0))), (rr, .inl (K 0, 3, .inl (fun _ => nI 0))), (vl, .inl (K 0, 3, .inl (fun _ => nI 0)))]) rfl ?_
  refine xz_putF hC 0 rfl rfl 14 (by decide) inMo tq443 rfl tyMo tyMo_ok nmMo rfl rfl rfl rfl rfl (Nat.le_of_ble_eq_true rfl) (ws' := [(mo, .inr (6, [.int (nI 0), .ref wo, .int (nI 0), .ref le, .ref lt, .int (nI 0), .ref pe, .int (nI 0), .ref st, .int (nI 0), .int (nI 0), .ref pt, .int (nI 0), .ref rr, .ref vl, .null, .int (nI 0), .null, .int (nI 0)])), (wo, .inl (K 2, 6, .inl (fun _ => nI 0))), (le, .inl (K 0, 24, .inl (fun _ => nI 0))), (lt, .inl (K 2, 144, .inl (fun _ => nI 0))), (pe, .inl (K 0, 60, .inl (fun _ => nI 0))), (st, .inl (K 0, 60, .inl (fun _ => nI 0))), (pt, .inl (K 0, 12, .inl (fun _ => nI 0))), (rr, .inl (K 0, 3, .inl (fun _ => nI 0))), (vl, .inl (K 0, 3, .inl (fun _ => nI 0)))]) rfl dMo_init_64 ?_
  refine xz_aload_n hC 0 rfl rfl dMo_init_67 ?_
  refine xz_iconst hC (v := nI 3) (by decide +kernel) dMo_init_68 ?_
  refine xz_newarray hC (atype := .boolean) (ty := .boolean) rfl tq488 3 rfl (fun _ _ => rfl) (N' := 3) (a0 := (3, .inl (fun _ => bI false))) (fun _ => rfl) (by decide) (by decide) (by decide) (by decide) dMo_init_69 (fun bo => ?_)
  refine xz_wse (ws' := [(mo, .inr (6, [.int (nI 0), .ref wo, .int (nI 0), .ref le, .ref lt, .int (nI 0), .ref pe, .int (nI 0), .ref st, .int (nI 0), .int (nI 0), .ref pt, .int (nI 0), .ref rr, .ref vl, .null, .int (nI 0), .null, .int (nI 0)])), (wo, .inl (K 2, 6, .inl (fun _ => nI 0))), (le, .inl (K 0, 24, .inl (fun _ => nI 0))), (lt, .inl (K 2, 144, .inl (fun _ => nI 0))), (pe, .inl (K 0, 60, .inl (fun _ => nI 0))), (st, .inl (K 0, 60, .inl (fun _ => nI 0))), (pt, .inl (K 0, 12, .inl (fun _ => nI 0))), (rr, .inl (K 0, 3, .inl (fun _ => nI 0))), (vl, .inl (K 0, 3, .inl (fun _ => nI 0))), (bo, .inl (K 3, 3, .inl (fun _ => bI false)))]) rfl ?_
  refine xz_putF hC 0 rfl rfl 15 (by decide) inMo tq444 rfl tyMo tyMo_ok nmMo rfl rfl rfl rfl rfl (Nat.le_of_ble_eq_true rfl) (ws' := [(mo, .inr (6, [.int (nI 0), .ref wo, .int (nI 0), .ref le, .ref lt, .int (nI 0), .ref pe, .int (nI 0), .ref st, .int (nI 0), .int (nI 0), .ref pt, .int (nI 0), .ref rr, .ref vl, .ref bo, .int (nI 0), .null, .int (nI 0)])), (wo, .inl (K 2, 6, .inl (fun _ => nI 0))), (le, .inl (K 0, 24, .inl (fun _ => nI 0))), (lt, .inl (K 2, 144, .inl (fun _ => nI 0))), (pe, .inl (K 0, 60, .inl (fun _ => nI 0))), (st, .inl (K 0, 60, .inl (fun _ => nI 0))), (pt, .inl (K 0, 12, .inl (fun _ => nI 0))), (rr, .inl (K 0, 3, .inl (fun _ => nI 0))), (vl, .inl (K 0, 3, .inl (fun _ => nI 0))), (bo, .inl (K 3, 3, .inl (fun _ => bI false)))]) rfl dMo_init_71 ?_
  refine xz_aload_n hC 0 rfl rfl dMo_init_74 ?_
  refine xz_sipush hC (v := nI 600) (by decide +kernel) dMo_init_75 ?_
  refine xz_newarray hC (atype := .int) (ty := .int) rfl tq41 0 rfl (fun _ _ => rfl) (N' := 600) (a0 := (600, .inl (fun _ => nI 0))) (fun _ => rfl) (by decide) (by decide) (by decide) (by decide) dMo_init_78 (fun kp => ?_)
  refine xz_wse (ws' := [(mo, .inr (6, [.int (nI 0), .ref wo, .int (nI 0), .ref le, .ref lt, .int (nI 0), .ref pe, .int (nI 0), .ref st, .int (nI 0), .int (nI 0), .ref pt, .int (nI 0), .ref rr, .ref vl, .ref bo, .int (nI 0), .null, .int (nI 0)])), (wo, .inl (K 2, 6, .inl (fun _ => nI 0))), (le, .inl (K 0, 24, .inl (fun _ => nI 0))), (lt, .inl (K 2, 144, .inl (fun _ => nI 0))), (pe, .inl (K 0, 60, .inl (fun _ => nI 0))), (st, .inl (K 0, 60, .inl (fun _ => nI 0))), (pt, .inl (K 0, 12, .inl (fun _ => nI 0))), (rr, .inl (K 0, 3, .inl (fun _ => nI 0))), (vl, .inl (K 0, 3, .inl (fun _ => nI 0))), (bo, .inl (K 3, 3, .inl (fun _ => bI false))), (kp, .inl (K 0, 600, .inl (fun _ => nI 0)))]) rfl ?_
  refine xz_putF hC 0 rfl rfl 17 (by decide) inMo tq446 rfl tyMo tyMo_ok nmMo rfl rfl rfl rfl rfl (Nat.le_of_ble_eq_true rfl) (ws' := [(mo, .inr (6, [.int (nI 0), .ref wo, .int (nI 0), .ref le, .ref lt, .int (nI 0), .ref pe, .int (nI 0), .ref st, .int (nI 0), .int (nI 0), .ref pt, .int (nI 0), .ref rr, .ref vl, .ref bo, .int (nI 0), .ref kp, .int (nI 0)])), (wo, .inl (K 2, 6, .inl (fun _ => nI 0))), (le, .inl (K 0, 24, .inl (fun _ => nI 0))), (lt, .inl (K 2, 144, .inl (fun _ => nI 0))), (pe, .inl (K 0, 60, .inl (fun _ => nI 0))), (st, .inl (K 0, 60, .inl (fun _ => nI 0))), (pt, .inl (K 0, 12, .inl (fun _ => nI 0))), (rr, .inl (K 0, 3, .inl (fun _ => nI 0))), (vl, .inl (K 0, 3, .inl (fun _ => nI 0))), (bo, .inl (K 3, 3, .inl (fun _ => bI false))), (kp, .inl (K 0, 600, .inl (fun _ => nI 0)))]) rfl dMo_init_80 ?_
  exact xz_return hC (by decide) (by decide) (⟨wo, le, lt, pe, st, pt, rr, vl, bo, kp, rfl, rfl⟩) dMo_init_83
set_option maxHeartbeats 1000000 in
set_option maxRecDepth 100000 in
theorem mSe_init (l : Launch) (D : va_G) (K : Nat → ClassId) (se : Nat)  : xz_Met l D (tz K) ySe_init cSe_init 1 none { frames := 1, cells := 6, slots := 706, locals := 20 } [.ref se] [(se, .inr (3, [.null, .int (nI 0), .int (nI 0), .int (nI 0), .null, .null, .null, .null, .null, .int (nI 0), .int (nI 0)]))] (fun v w => ∃ rw pl ho ag bi an, v = none ∧ w = [(se, .inr (3, [.ref rw, .int (nI 0), .int (nI 0), .int (nI 0), .ref pl, .ref ho, .ref ag, .ref bi, .ref an, .int (nI 0), .int (nI 0)])), (rw, .inl (K 0, 3, .inl (fun _ => nI 0))), (pl, .inl (K 0, 12, .inl (fun _ => nI 0))), (ho, .inl (K 1, 72, .inr (.inl (fun _ => 0)))), (ag, .inl (K 1, 16, .inr (.inl (fun _ => 0)))), (bi, .inl (K 0, 3, .inl (fun _ => nI 0))), (an, .inl (K 0, 600, .inl (fun _ => nI 0)))]) := by
  refine xz_enter (by decide +kernel) (Nat.le_of_ble_eq_true rfl) ?_
  intro Γ hC
  refine xz_lcs (lc' := [(0, .ref se)]) [0] rfl ?_
  refine xz_aload_n hC 0 rfl rfl dSe_init_0 ?_
  refine xz_objinit hC tq112 tq15 tq16 (by decide) (Nat.le_of_ble_eq_true rfl) dSe_init_1 ?_
  refine xz_aload_n hC 0 rfl rfl dSe_init_4 ?_
  refine xz_iconst hC (v := nI 3) (by decide +kernel) dSe_init_5 ?_
  refine xz_newarray hC (atype := .int) (ty := .int) rfl tq41 0 rfl (fun _ _ => rfl) (N' := 3) (a0 := (3, .inl (fun _ => nI 0))) (fun _ => rfl) (by decide) (by decide) (by decide) (by decide) dSe_init_6 (fun rw => ?_)
  refine xz_wse (ws' := [(se, .inr (3, [.null, .int (nI 0), .int (nI 0), .int (nI 0), .null, .null, .null, .null, .null, .int (nI 0), .int (nI 0)])), (rw, .inl (K 0, 3, .inl (fun _ => nI 0)))]) rfl ?_
  refine xz_putF hC 0 rfl rfl 0 (by decide) inSe tq113 rfl tySe tySe_ok nmSe rfl rfl rfl rfl rfl (Nat.le_of_ble_eq_true rfl) (ws' := [(se, .inr (3, [.ref rw, .int (nI 0), .int (nI 0), .int (nI 0), .null, .null, .null, .null, .null, .int (nI 0), .int (nI 0)])), (rw, .inl (K 0, 3, .inl (fun _ => nI 0)))]) rfl dSe_init_8 ?_
  refine xz_aload_n hC 0 rfl rfl dSe_init_11 ?_
  refine xz_iconst hC (v := nI 0) (by decide +kernel) dSe_init_12 ?_
  refine xz_put hC 0 rfl rfl 1 (by decide) inSe tq114 rfl tySe tySe_ok nmSe rfl rfl rfl (Nat.le_of_ble_eq_true rfl) (ws' := [(se, .inr (3, [.ref rw, .int (nI 0), .int (nI 0), .int (nI 0), .null, .null, .null, .null, .null, .int (nI 0), .int (nI 0)])), (rw, .inl (K 0, 3, .inl (fun _ => nI 0)))]) rfl dSe_init_13 ?_
  refine xz_aload_n hC 0 rfl rfl dSe_init_16 ?_
  refine xz_iconst hC (v := nI 0) (by decide +kernel) dSe_init_17 ?_
  refine xz_put hC 0 rfl rfl 2 (by decide) inSe tq115 rfl tySe tySe_ok nmSe rfl rfl rfl (Nat.le_of_ble_eq_true rfl) (ws' := [(se, .inr (3, [.ref rw, .int (nI 0), .int (nI 0), .int (nI 0), .null, .null, .null, .null, .null, .int (nI 0), .int (nI 0)])), (rw, .inl (K 0, 3, .inl (fun _ => nI 0)))]) rfl dSe_init_18 ?_
  refine xz_aload_n hC 0 rfl rfl dSe_init_21 ?_
  refine xz_iconst hC (v := nI 0) (by decide +kernel) dSe_init_22 ?_
  refine xz_put hC 0 rfl rfl 3 (by decide) inSe tq116 rfl tySe tySe_ok nmSe rfl rfl rfl (Nat.le_of_ble_eq_true rfl) (ws' := [(se, .inr (3, [.ref rw, .int (nI 0), .int (nI 0), .int (nI 0), .null, .null, .null, .null, .null, .int (nI 0), .int (nI 0)])), (rw, .inl (K 0, 3, .inl (fun _ => nI 0)))]) rfl dSe_init_23 ?_
  refine xz_aload_n hC 0 rfl rfl dSe_init_26 ?_
  refine xz_bipush hC (v := nI 12) (by decide +kernel) dSe_init_27 ?_
  refine xz_newarray hC (atype := .int) (ty := .int) rfl tq41 0 rfl (fun _ _ => rfl) (N' := 12) (a0 := (12, .inl (fun _ => nI 0))) (fun _ => rfl) (by decide) (by decide) (by decide) (by decide) dSe_init_29 (fun pl => ?_)
  refine xz_wse (ws' := [(se, .inr (3, [.ref rw, .int (nI 0), .int (nI 0), .int (nI 0), .null, .null, .null, .null, .null, .int (nI 0), .int (nI 0)])), (rw, .inl (K 0, 3, .inl (fun _ => nI 0))), (pl, .inl (K 0, 12, .inl (fun _ => nI 0)))]) rfl ?_
  refine xz_putF hC 0 rfl rfl 4 (by decide) inSe tq117 rfl tySe tySe_ok nmSe rfl rfl rfl rfl rfl (Nat.le_of_ble_eq_true rfl) (ws' := [(se, .inr (3, [.ref rw, .int (nI 0), .int (nI 0), .int (nI 0), .ref pl, .null, .null, .null, .null, .int (nI 0), .int (nI 0)])), (rw, .inl (K 0, 3, .inl (fun _ => nI 0))), (pl, .inl (K 0, 12, .inl (fun _ => nI 0)))]) rfl dSe_init_31 ?_
  refine xz_aload_n hC 0 rfl rfl dSe_init_34 ?_
  refine xz_bipush hC (v := nI 72) (by decide +kernel) dSe_init_35 ?_
  refine xz_newarray hC (atype := .long) (ty := .long) rfl tq40 1 rfl (fun _ _ => rfl) (N' := 72) (a0 := (72, .inr (.inl (fun _ => 0)))) (fun _ => rfl) (by decide) (by decide) (by decide) (by decide) dSe_init_37 (fun ho => ?_)
  refine xz_wse (ws' := [(se, .inr (3, [.ref rw, .int (nI 0), .int (nI 0), .int (nI 0), .ref pl, .null, .null, .null, .null, .int (nI 0), .int (nI 0)])), (rw, .inl (K 0, 3, .inl (fun _ => nI 0))), (pl, .inl (K 0, 12, .inl (fun _ => nI 0))), (ho, .inl (K 1, 72, .inr (.inl (fun _ => 0))))]) rfl ?_
  refine xz_putF hC 0 rfl rfl 5 (by decide) inSe tq118 rfl tySe tySe_ok nmSe rfl rfl rfl rfl rfl (Nat.le_of_ble_eq_true rfl) (ws' := [(se, .inr (3, [.ref rw, .int (nI 0), .int (nI 0), .int (nI 0), .ref pl, .ref ho, .null, .null, .null, .int (nI 0), .int (nI 0)])), (rw, .inl (K 0, 3, .inl (fun _ => nI 0))), (pl, .inl (K 0, 12, .inl (fun _ => nI 0))), (ho, .inl (K 1, 72, .inr (.inl (fun _ => 0))))]) rfl dSe_init_39 ?_
  refine xz_aload_n hC 0 rfl rfl dSe_init_42 ?_
  refine xz_bipush hC (v := nI 16) (by decide +kernel) dSe_init_43 ?_
  refine xz_newarray hC (atype := .long) (ty := .long) rfl tq40 1 rfl (fun _ _ => rfl) (N' := 16) (a0 := (16, .inr (.inl (fun _ => 0)))) (fun _ => rfl) (by decide) (by decide) (by decide) (by decide) dSe_init_45 (fun ag => ?_)
  refine xz_wse (ws' := [(se, .inr (3, [.ref rw, .int (nI 0), .int (nI 0), .int (nI 0), .ref pl, .ref ho, .null, .null, .null, .int (nI 0), .int (nI 0)])), (rw, .inl (K 0, 3, .inl (fun _ => nI 0))), (pl, .inl (K 0, 12, .inl (fun _ => nI 0))), (ho, .inl (K 1, 72, .inr (.inl (fun _ => 0)))), (ag, .inl (K 1, 16, .inr (.inl (fun _ => 0))))]) rfl ?_
  refine xz_putF hC 0 rfl rfl 6 (by decide) inSe tq119 rfl tySe tySe_ok nmSe rfl rfl rfl rfl rfl (Nat.le_of_ble_eq_true rfl) (ws' := [(se, .inr (3, [.ref rw, .int (nI 0), .int (nI 0), .int (nI 0), .ref pl, .ref ho, .ref ag, .null, .null, .int (nI 0), .int (nI 0)])), (rw, .inl (K 0, 3, .inl (fun _ => nI 0))), (pl, .inl (K 0, 12, .inl (fun _ => nI 0))), (ho, .inl (K 1, 72, .inr (.inl (fun _ => 0)))), (ag, .inl (K 1, 16, .inr (.inl (fun _ => 0))))]) rfl dSe_init_47 ?_
  refine xz_aload_n hC 0 rfl rfl dSe_init_50 ?_
  refine xz_iconst hC (v := nI 3) (by decide +kernel) dSe_init_51 ?_
  refine xz_newarray hC (atype := .int) (ty := .int) rfl tq41 0 rfl (fun _ _ => rfl) (N' := 3) (a0 := (3, .inl (fun _ => nI 0))) (fun _ => rfl) (by decide) (by decide) (by decide) (by decide) dSe_init_52 (fun bi => ?_)
  refine xz_wse (ws' := [(se, .inr (3, [.ref rw, .int (nI 0), .int (nI 0), .int (nI 0), .ref pl, .ref ho, .ref ag, .null, .null, .int (nI 0), .int (nI 0)])), (rw, .inl (K 0, 3, .inl (fun _ => nI 0))), (pl, .inl (K 0, 12, .inl (fun _ => nI 0))), (ho, .inl (K 1, 72, .inr (.inl (fun _ => 0)))), (ag, .inl (K 1, 16, .inr (.inl (fun _ => 0)))), (bi, .inl (K 0, 3, .inl (fun _ => nI 0)))]) rfl ?_
  refine xz_putF hC 0 rfl rfl 7 (by decide) inSe tq120 rfl tySe tySe_ok nmSe rfl rfl rfl rfl rfl (Nat.le_of_ble_eq_true rfl) (ws' := [(se, .inr (3, [.ref rw, .int (nI 0), .int (nI 0), .int (nI 0), .ref pl, .ref ho, .ref ag, .ref bi, .null, .int (nI 0), .int (nI 0)])), (rw, .inl (K 0, 3, .inl (fun _ => nI 0))), (pl, .inl (K 0, 12, .inl (fun _ => nI 0))), (ho, .inl (K 1, 72, .inr (.inl (fun _ => 0)))), (ag, .inl (K 1, 16, .inr (.inl (fun _ => 0)))), (bi, .inl (K 0, 3, .inl (fun _ => nI 0)))]) rfl dSe_init_54 ?_
  refine xz_aload_n hC 0 rfl rfl dSe_init_57 ?_
  refine xz_sipush hC (v := nI 600) (by decide +kernel) dSe_init_58 ?_
  refine xz_newarray hC (atype := .int) (ty := .int) rfl tq41 0 rfl (fun _ _ => rfl) (N' := 600) (a0 := (600, .inl (fun _ => nI 0))) (fun _ => rfl) (by decide) (by decide) (by decide) (by decide) dSe_init_61 (fun an => ?_)
  refine xz_wse (ws' := [(se, .inr (3, [.ref rw, .int (nI 0), .int (nI 0), .int (nI 0), .ref pl, .ref ho, .ref ag, .ref bi, .null, .int (nI 0), .int (nI 0)])), (rw, .inl (K 0, 3, .inl (fun _ => nI 0))), (pl, .inl (K 0, 12, .inl (fun _ => nI 0))), (ho, .inl (K 1, 72, .inr (.inl (fun _ => 0)))), (ag, .inl (K 1, 16, .inr (.inl (fun _ => 0)))), (bi, .inl (K 0, 3, .inl (fun _ => nI 0))), (an, .inl (K 0, 600, .inl (fun _ => nI 0)))]) rfl ?_
  refine xz_putF hC 0 rfl rfl 8 (by decide) inSe tq121 rfl tySe tySe_ok nmSe rfl rfl rfl rfl rfl (Nat.le_of_ble_eq_true rfl) (ws' := [(se, .inr (3, [.ref rw, .int (nI 0), .int (nI 0), .int (nI 0), .ref pl, .ref ho, .ref ag, .ref bi, .ref an, .int (nI 0), .int (nI 0)])), (rw, .inl (K 0, 3, .inl (fun _ => nI 0))), (pl, .inl (K 0, 12, .inl (fun _ => nI 0))), (ho, .inl (K 1, 72, .inr (.inl (fun _ => 0)))), (ag, .inl (K 1, 16, .inr (.inl (fun _ => 0)))), (bi, .inl (K 0, 3, .inl (fun _ => nI 0))), (an, .inl (K 0, 600, .inl (fun _ => nI 0)))]) rfl dSe_init_63 ?_
  refine xz_aload_n hC 0 rfl rfl dSe_init_66 ?_
  refine xz_iconst hC (v := nI 0) (by decide +kernel) dSe_init_67 ?_
  refine xz_put hC 0 rfl rfl 9 (by decide) inSe tq122 rfl tySe tySe_ok nmSe rfl rfl rfl (Nat.le_of_ble_eq_true rfl) (ws' := [(se, .inr (3, [.ref rw, .int (nI 0), .int (nI 0), .int (nI 0), .ref pl, .ref ho, .ref ag, .ref bi, .ref an, .int (nI 0), .int (nI 0)])), (rw, .inl (K 0, 3, .inl (fun _ => nI 0))), (pl, .inl (K 0, 12, .inl (fun _ => nI 0))), (ho, .inl (K 1, 72, .inr (.inl (fun _ => 0)))), (ag, .inl (K 1, 16, .inr (.inl (fun _ => 0)))), (bi, .inl (K 0, 3, .inl (fun _ => nI 0))), (an, .inl (K 0, 600, .inl (fun _ => nI 0)))]) rfl dSe_init_68 ?_
  refine xz_aload_n hC 0 rfl rfl dSe_init_71 ?_
  refine xz_iconst hC (v := nI 0) (by decide +kernel) dSe_init_72 ?_
  refine xz_put hC 0 rfl rfl 10 (by decide) inSe tq124 rfl tySe tySe_ok nmSe rfl rfl rfl (Nat.le_of_ble_eq_true rfl) (ws' := [(se, .inr (3, [.ref rw, .int (nI 0), .int (nI 0), .int (nI 0), .ref pl, .ref ho, .ref ag, .ref bi, .ref an, .int (nI 0), .int (nI 0)])), (rw, .inl (K 0, 3, .inl (fun _ => nI 0))), (pl, .inl (K 0, 12, .inl (fun _ => nI 0))), (ho, .inl (K 1, 72, .inr (.inl (fun _ => 0)))), (ag, .inl (K 1, 16, .inr (.inl (fun _ => 0)))), (bi, .inl (K 0, 3, .inl (fun _ => nI 0))), (an, .inl (K 0, 600, .inl (fun _ => nI 0)))]) rfl dSe_init_73 ?_
  exact xz_return hC (by decide) (by decide) (⟨rw, pl, ho, ag, bi, an, rfl, rfl⟩) dSe_init_76
