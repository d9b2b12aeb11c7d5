set_option maxHeartbeats 1000000 in
set_option maxRecDepth 100000 in
theorem mTs_count (l : Launch) (D : va_G) (K : Nat → ClassId) (ts pr os ks n pd mg m : Nat) (fa : Nat → Option Nat) (oa ka : Nat → Nat) (f : Nat → Nat → Int32) (e : Nat → Int32) (g : Nat → Nat → Nat) (h : Nat → Nat) (P S : Nat → Prop) (hfa : ∀ w, w < 6 → fa w = some (oa w)) : xz_Met l D (tz K) yTs_count cTs_count 1 (some .int) { frames := 0, cells := 0, slots := 0, locals := 0 } [.ref ts] [(ts, .inr (4, [.ref pr, .ref os, .int (nI pd), .int (nI mg)])), (pr, .inl (K 4, 6, .inr (.inr (.inr (.inr fa))))), (oa 0, .inr (1, [.int (nI 0), .int (nI 1), .int (nI 2), .ref (ka 0), .int (nI n)]))] (fun v w => v = some (.int (nI n)) ∧ w = [(ts, .inr (4, [.ref pr, .ref os, .int (nI pd), .int (nI mg)])), (pr, .inl (K 4, 6, .inr (.inr (.inr (.inr fa))))), (oa 0, .inr (1, [.int (nI 0), .int (nI 1), .int (nI 2), .ref (ka 0), .int (nI n)]))]) := by
  refine xz_enter (by decide +kernel) (Nat.le_of_ble_eq_true rfl) ?_
  intro Γ hC
  refine xz_lcs (lc' := [(0, .ref ts)]) [0] rfl ?_
  refine xz_aload_n hC 0 rfl rfl dTs_count_0 ?_
  refine xz_get hC 0 rfl rfl 0 (by decide) inTs tq77 rfl rfl dTs_count_1 ?_
  refine xz_iconst hC (v := nI 0) (by decide +kernel) dTs_count_4 ?_
  refine xz_aaload hC 1 4 (v := oa 0) rfl rfl (by decide) (by decide) (hfa 0 (by decide)) dTs_count_5 ?_
  refine xz_getN hC 2 rfl rfl 4 (by decide) inOr tq65 rfl rfl dTs_count_6 ?_
  exact xz_ireturn hC (by decide) (by decide) (⟨rfl, rfl⟩) dTs_count_9
set_option maxHeartbeats 1000000 in
set_option maxRecDepth 100000 in
theorem mTs_isFull (l : Launch) (D : va_G) (K : Nat → ClassId) (ts pr os ks n pd mg m : Nat) (fa : Nat → Option Nat) (oa ka : Nat → Nat) (f : Nat → Nat → Int32) (e : Nat → Int32) (g : Nat → Nat → Nat) (h : Nat → Nat) (P S : Nat → Prop) (hfa : ∀ w, w < 6 → fa w = some (oa w)) (hn : n ≤ 60) : xz_Met l D (tz K) yTs_isFull cTs_isFull 1 (some .boolean) { frames := 0, cells := 0, slots := 0, locals := 0 } [.ref ts] [(ts, .inr (4, [.ref pr, .ref os, .int (nI pd), .int (nI mg)])), (pr, .inl (K 4, 6, .inr (.inr (.inr (.inr fa))))), (oa 0, .inr (1, [.int (nI 0), .int (nI 1), .int (nI 2), .ref (ka 0), .int (nI n)]))] (fun v w => ∃ b : Bool, v = some (.int (bI b)) ∧ w = [(ts, .inr (4, [.ref pr, .ref os, .int (nI pd), .int (nI mg)])), (pr, .inl (K 4, 6, .inr (.inr (.inr (.inr fa))))), (oa 0, .inr (1, [.int (nI 0), .int (nI 1), .int (nI 2), .ref (ka 0), .int (nI n)]))] ∧ (b = true ↔ 60 ≤ n)) := by
  refine xz_enter (by decide +kernel) (Nat.le_of_ble_eq_true rfl) ?_
  intro Γ hC
  refine xz_lcs (lc' := [(0, .ref ts)]) [0] rfl ?_
  refine xz_aload_n hC 0 rfl rfl dTs_isFull_0 ?_
  refine xz_get hC 0 rfl rfl 0 (by decide) inTs tq77 rfl rfl dTs_isFull_1 ?_
  refine xz_iconst hC (v := nI 0) (by decide +kernel) dTs_isFull_4 ?_
  refine xz_aaload hC 1 4 (v := oa 0) rfl rfl (by decide) (by decide) (hfa 0 (by decide)) dTs_isFull_5 ?_
  refine xz_getN hC 2 rfl rfl 4 (by decide) inOr tq65 rfl rfl dTs_isFull_6 ?_
  refine xz_bipush hC (v := nI 60) (by decide +kernel) dTs_isFull_9 ?_
  refine xz_icmp_lt hC (tgt := 18) (nI_toInt (by omega)) (nI_toInt (by omega)) (by decide) dTs_isFull_11 (fun h1 => ?_) (fun h1 => ?_)
  · skip
    refine xz_iconst hC (v := bI false) (by decide +kernel) dTs_isFull_18 ?_
    exact xz_zreturn hC (by decide) (by decide) (⟨_, rfl, rfl, by first | exact xt_t (by omega) | exact xt_f (by omega)⟩) dTs_isFull_19
  · skip
    refine xz_iconst hC (v := bI true) (by decide +kernel) dTs_isFull_14 ?_
    refine xz_goto hC (tgt := 19) (by decide) dTs_isFull_15 ?_
    exact xz_zreturn hC (by decide) (by decide) (⟨_, rfl, rfl, by first | exact xt_t (by omega) | exact xt_f (by omega)⟩) dTs_isFull_19
set_option maxHeartbeats 1000000 in
set_option maxRecDepth 100000 in
theorem mTs_holds (l : Launch) (D : va_G) (K : Nat → ClassId) (ts pr os ks n pd mg m : Nat) (fa : Nat → Option Nat) (oa ka : Nat → Nat) (f : Nat → Nat → Int32) (e : Nat → Int32) (g : Nat → Nat → Nat) (h : Nat → Nat) (P S : Nat → Prop) (c : Nat) (hfa : ∀ w, w < 6 → fa w = some (oa w)) (hn : n ≤ 60) (hO : xs_ok 0 1 2 (f 0) (g 0) n P) (hc : c < 32768) : xz_Met l D (tz K) yTs_holds cTs_holds 2 (some .boolean) { frames := 4, cells := 0, slots := 0, locals := 85 } [.ref ts, .int (nI c)] [(ts, .inr (4, [.ref pr, .ref os, .int (nI pd), .int (nI mg)])), (pr, .inl (K 4, 6, .inr (.inr (.inr (.inr fa))))), (oa 0, .inr (1, [.int (nI 0), .int (nI 1), .int (nI 2), .ref (ka 0), .int (nI n)])), (ka 0, .inl (K 0, 60, .inl (f 0)))] (fun v w => ∃ b : Bool, v = some (.int (bI b)) ∧ w = [(ts, .inr (4, [.ref pr, .ref os, .int (nI pd), .int (nI mg)])), (pr, .inl (K 4, 6, .inr (.inr (.inr (.inr fa))))), (oa 0, .inr (1, [.int (nI 0), .int (nI 1), .int (nI 2), .ref (ka 0), .int (nI n)])), (ka 0, .inl (K 0, 60, .inl (f 0)))] ∧ (b = true ↔ P c)) := by
  refine xz_enter (by decide +kernel) (Nat.le_of_ble_eq_true rfl) ?_
  intro Γ hC
  refine xz_lcs (lc' := [(0, .ref ts), (1, .int (nI c))]) [0, 1] rfl ?_
  refine xz_aload_n hC 0 rfl rfl dTs_holds_0 ?_
  refine xz_get hC 0 rfl rfl 0 (by decide) inTs tq77 rfl rfl dTs_holds_1 ?_
  refine xz_iconst hC (v := nI 0) (by decide +kernel) dTs_holds_4 ?_
  refine xz_aaload hC 1 4 (v := oa 0) rfl rfl (by decide) (by decide) (hfa 0 (by decide)) dTs_holds_5 ?_
  refine xz_iload_n hC 1 rfl rfl dTs_holds_6 ?_
  refine xz_callV hC (mOr_holds l D K (oa 0) (ka 0) 0 1 2 n (f 0) (g 0) c ⟨by decide, by decide, by decide⟩ hn hO.1 hO.2.1 hc) kOr_holds tq4 tq214 tq215 tq216 2 1 rfl rfl rfl (host := "") hOr_holds (by decide) [2, 3] [0, 1] (by decide) rfl (wr := [(ts, .inr (4, [.ref pr, .ref os, .int (nI pd), .int (nI mg)])), (pr, .inl (K 4, 6, .inr (.inr (.inr (.inr fa)))))]) rfl (by decide) (by decide) (As := [.int (nI c)]) (rest := []) rfl rfl (Nat.le_of_ble_eq_true rfl) (by decide) dTs_holds_7 (fun v w hq => ?_)
  obtain ⟨b, rfl, rfl, hb⟩ := hq
  refine xz_ste (st' := [.int (bI b)]) rfl ?_
  refine xz_wss (ws' := [(ts, .inr (4, [.ref pr, .ref os, .int (nI pd), .int (nI mg)])), (pr, .inl (K 4, 6, .inr (.inr (.inr (.inr fa))))), (oa 0, .inr (1, [.int (nI 0), .int (nI 1), .int (nI 2), .ref (ka 0), .int (nI n)])), (ka 0, .inl (K 0, 60, .inl (f 0)))]) [0, 1, 2, 3] (by decide) rfl rfl ?_
  exact xz_zreturn hC (by decide) (by decide) (⟨b, rfl, rfl, by rw [hb, hO.2.2 c hc]⟩) dTs_holds_10
set_option maxHeartbeats 1000000 in
set_option maxRecDepth 100000 in
theorem mTs_codeAt0 (l : Launch) (D : va_G) (K : Nat → ClassId) (ts pr os ks n pd mg m : Nat) (fa : Nat → Option Nat) (oa ka : Nat → Nat) (f : Nat → Nat → Int32) (e : Nat → Int32) (g : Nat → Nat → Nat) (h : Nat → Nat) (P S : Nat → Prop) (k : Nat) (hfa : ∀ w, w < 6 → fa w = some (oa w)) (hn : n ≤ 60) (hO : xs_ok 0 1 2 (f 0) (g 0) n P) (hk : k < n) : xz_Met l D (tz K) yTs_codeAt cTs_codeAt 3 (some .int) { frames := 3, cells := 0, slots := 0, locals := 63 } [.ref ts, .int (nI 0), .int (nI k)] [(ts, .inr (4, [.ref pr, .ref os, .int (nI pd), .int (nI mg)])), (pr, .inl (K 4, 6, .inr (.inr (.inr (.inr fa))))), (oa 0, .inr (1, [.int (nI 0), .int (nI 1), .int (nI 2), .ref (ka 0), .int (nI n)])), (ka 0, .inl (K 0, 60, .inl (f 0)))] (fun v w => v = some (.int (nI (g 0 k))) ∧ w = [(ts, .inr (4, [.ref pr, .ref os, .int (nI pd), .int (nI mg)])), (pr, .inl (K 4, 6, .inr (.inr (.inr (.inr fa))))), (oa 0, .inr (1, [.int (nI 0), .int (nI 1), .int (nI 2), .ref (ka 0), .int (nI n)])), (ka 0, .inl (K 0, 60, .inl (f 0)))]) := by
  refine xz_enter (by decide +kernel) (Nat.le_of_ble_eq_true rfl) ?_
  intro Γ hC
  refine xz_lcs (lc' := [(0, .ref ts), (1, .int (nI 0)), (2, .int (nI k))]) [0, 1, 2] rfl ?_
  refine xz_aload_n hC 0 rfl rfl dTs_codeAt_0 ?_
  refine xz_get hC 0 rfl rfl 0 (by decide) inTs tq77 rfl rfl dTs_codeAt_1 ?_
  refine xz_iload_n hC 1 rfl rfl dTs_codeAt_4 ?_
  refine xz_aaload hC 1 4 (v := oa 0) rfl rfl (by decide) (by decide) (hfa 0 (by decide)) dTs_codeAt_5 ?_
  refine xz_iload_n hC 2 rfl rfl dTs_codeAt_6 ?_
  refine xz_callV hC (mOr_codeAt l D K (oa 0) (ka 0) 0 1 2 n (f 0) (g 0) (nI k) ⟨by decide, by decide, by decide⟩ pm0 hn hO.1) kOr_codeAt tq4 tq301 tq302 tq303 2 1 rfl rfl rfl (host := "") hOr_codeAt (by decide) [2, 3] [0, 1] (by decide) rfl (wr := [(ts, .inr (4, [.ref pr, .ref os, .int (nI pd), .int (nI mg)])), (pr, .inl (K 4, 6, .inr (.inr (.inr (.inr fa)))))]) rfl (by decide) (by decide) (As := [.int (nI k)]) (rest := []) rfl rfl (Nat.le_of_ble_eq_true rfl) (by decide) dTs_codeAt_7 (fun v w hq => ?_)
  rcases hq with ⟨hz0, hz1, c, rfl, rfl, hc, hky⟩ | ⟨hz, rfl, rfl⟩
  · skip
    refine xz_ste (st' := [.int (nI c)]) rfl ?_
    refine xz_wss (ws' := [(ts, .inr (4, [.ref pr, .ref os, .int (nI pd), .int (nI mg)])), (pr, .inl (K 4, 6, .inr (.inr (.inr (.inr fa))))), (oa 0, .inr (1, [.int (nI 0), .int (nI 1), .int (nI 2), .ref (ka 0), .int (nI n)])), (ka 0, .inl (K 0, 60, .inl (f 0)))]) [0, 1, 2, 3] (by decide) rfl rfl ?_
    have hgk : c = g 0 k := by
      rw [xk_ky_id hc, xi_nI (by omega)] at hky
      exact hky
    subst hgk
    exact xz_ireturn hC (by decide) (by decide) (⟨rfl, rfl⟩) dTs_codeAt_10
  · skip
    refine xz_ste (st' := [.int (-1)]) rfl ?_
    refine xz_wss (ws' := [(ts, .inr (4, [.ref pr, .ref os, .int (nI pd), .int (nI mg)])), (pr, .inl (K 4, 6, .inr (.inr (.inr (.inr fa))))), (oa 0, .inr (1, [.int (nI 0), .int (nI 1), .int (nI 2), .ref (ka 0), .int (nI n)])), (ka 0, .inl (K 0, 60, .inl (f 0)))]) [0, 1, 2, 3] (by decide) rfl rfl ?_
    exact absurd ⟨by rw [nI_toInt (by omega)]; omega, by rw [nI_toInt (by omega)]; omega⟩ hz
set_option maxHeartbeats 1000000 in
set_option maxRecDepth 100000 in
theorem mTs_codeAt (l : Launch) (D : va_G) (K : Nat → ClassId) (ts pr os ks n pd mg m : Nat) (fa : Nat → Option Nat) (oa ka : Nat → Nat) (f : Nat → Nat → Int32) (e : Nat → Int32) (g : Nat → Nat → Nat) (h : Nat → Nat) (P S : Nat → Prop) (wy : Nat) (x : Int32) (hfa : ∀ w, w < 6 → fa w = some (oa w)) (hn : n ≤ 60) (hO : xs_six f g n P) (hwy : wy < 6) : xz_Met l D (tz K) yTs_codeAt cTs_codeAt 3 (some .int) { frames := 3, cells := 0, slots := 0, locals := 63 } [.ref ts, .int (nI wy), .int x] [(ts, .inr (4, [.ref pr, .ref os, .int (nI pd), .int (nI mg)])), (pr, .inl (K 4, 6, .inr (.inr (.inr (.inr fa))))), (oa 0, .inr (1, [.int (nI 0), .int (nI 1), .int (nI 2), .ref (ka 0), .int (nI n)])), (ka 0, .inl (K 0, 60, .inl (f 0))), (oa 1, .inr (1, [.int (nI 0), .int (nI 2), .int (nI 1), .ref (ka 1), .int (nI n)])), (ka 1, .inl (K 0, 60, .inl (f 1))), (oa 2, .inr (1, [.int (nI 1), .int (nI 0), .int (nI 2), .ref (ka 2), .int (nI n)])), (ka 2, .inl (K 0, 60, .inl (f 2))), (oa 3, .inr (1, [.int (nI 1), .int (nI 2), .int (nI 0), .ref (ka 3), .int (nI n)])), (ka 3, .inl (K 0, 60, .inl (f 3))), (oa 4, .inr (1, [.int (nI 2), .int (nI 0), .int (nI 1), .ref (ka 4), .int (nI n)])), (ka 4, .inl (K 0, 60, .inl (f 4))), (oa 5, .inr (1, [.int (nI 2), .int (nI 1), .int (nI 0), .ref (ka 5), .int (nI n)])), (ka 5, .inl (K 0, 60, .inl (f 5)))] (fun v w => (0 ≤ x.toInt ∧ x.toInt < n ∧ ∃ c, v = some (.int (nI c)) ∧ w = [(ts, .inr (4, [.ref pr, .ref os, .int (nI pd), .int (nI mg)])), (pr, .inl (K 4, 6, .inr (.inr (.inr (.inr fa))))), (oa 0, .inr (1, [.int (nI 0), .int (nI 1), .int (nI 2), .ref (ka 0), .int (nI n)])), (ka 0, .inl (K 0, 60, .inl (f 0))), (oa 1, .inr (1, [.int (nI 0), .int (nI 2), .int (nI 1), .ref (ka 1), .int (nI n)])), (ka 1, .inl (K 0, 60, .inl (f 1))), (oa 2, .inr (1, [.int (nI 1), .int (nI 0), .int (nI 2), .ref (ka 2), .int (nI n)])), (ka 2, .inl (K 0, 60, .inl (f 2))), (oa 3, .inr (1, [.int (nI 1), .int (nI 2), .int (nI 0), .ref (ka 3), .int (nI n)])), (ka 3, .inl (K 0, 60, .inl (f 3))), (oa 4, .inr (1, [.int (nI 2), .int (nI 0), .int (nI 1), .ref (ka 4), .int (nI n)])), (ka 4, .inl (K 0, 60, .inl (f 4))), (oa 5, .inr (1, [.int (nI 2), .int (nI 1), .int (nI 0), .ref (ka 5), .int (nI n)])), (ka 5, .inl (K 0, 60, .inl (f 5)))] ∧ c < 32768 ∧ xk_kw wy c = g wy (xi x)) ∨ (¬ (0 ≤ x.toInt ∧ x.toInt < n) ∧ v = some (.int (-1)) ∧ w = [(ts, .inr (4, [.ref pr, .ref os, .int (nI pd), .int (nI mg)])), (pr, .inl (K 4, 6, .inr (.inr (.inr (.inr fa))))), (oa 0, .inr (1, [.int (nI 0), .int (nI 1), .int (nI 2), .ref (ka 0), .int (nI n)])), (ka 0, .inl (K 0, 60, .inl (f 0))), (oa 1, .inr (1, [.int (nI 0), .int (nI 2), .int (nI 1), .ref (ka 1), .int (nI n)])), (ka 1, .inl (K 0, 60, .inl (f 1))), (oa 2, .inr (1, [.int (nI 1), .int (nI 0), .int (nI 2), .ref (ka 2), .int (nI n)])), (ka 2, .inl (K 0, 60, .inl (f 2))), (oa 3, .inr (1, [.int (nI 1), .int (nI 2), .int (nI 0), .ref (ka 3), .int (nI n)])), (ka 3, .inl (K 0, 60, .inl (f 3))), (oa 4, .inr (1, [.int (nI 2), .int (nI 0), .int (nI 1), .ref (ka 4), .int (nI n)])), (ka 4, .inl (K 0, 60, .inl (f 4))), (oa 5, .inr (1, [.int (nI 2), .int (nI 1), .int (nI 0), .ref (ka 5), .int (nI n)])), (ka 5, .inl (K 0, 60, .inl (f 5)))])) := by
  refine xz_enter (by decide +kernel) (Nat.le_of_ble_eq_true rfl) ?_
  intro Γ hC
  refine xz_lcs (lc' := [(0, .ref ts), (1, .int (nI wy)), (2, .int x)]) [0, 1, 2] rfl ?_
  rcases (show wy = 0 ∨ wy = 1 ∨ wy = 2 ∨ wy = 3 ∨ wy = 4 ∨ wy = 5 by omega) with rfl | rfl | rfl | rfl | rfl | rfl
  · skip
    refine xz_aload_n hC 0 rfl rfl dTs_codeAt_0 ?_
    refine xz_get hC 0 rfl rfl 0 (by decide) inTs tq77 rfl rfl dTs_codeAt_1 ?_
    refine xz_iload_n hC 1 rfl rfl dTs_codeAt_4 ?_
    refine xz_aaload hC 1 4 (v := oa 0) rfl rfl (by decide) (by decide) (hfa 0 (by decide)) dTs_codeAt_5 ?_
    refine xz_iload_n hC 2 rfl rfl dTs_codeAt_6 ?_
    refine xz_callV hC (mOr_codeAt l D K (oa 0) (ka 0) 0 1 2 n (f 0) (g 0) x ⟨by decide, by decide, by decide⟩ pm0 hn hO.1.1) kOr_codeAt tq4 tq301 tq302 tq303 2 1 rfl rfl rfl (host := "") hOr_codeAt (by decide) [2, 3] [0, 1, 4, 5, 6, 7, 8, 9, 10, 11, 12, 13] (by decide) rfl (wr := [(ts, .inr (4, [.ref pr, .ref os, .int (nI pd), .int (nI mg)])), (pr, .inl (K 4, 6, .inr (.inr (.inr (.inr fa))))), (oa 1, .inr (1, [.int (nI 0), .int (nI 2), .int (nI 1), .ref (ka 1), .int (nI n)])), (ka 1, .inl (K 0, 60, .inl (f 1))), (oa 2, .inr (1, [.int (nI 1), .int (nI 0), .int (nI 2), .ref (ka 2), .int (nI n)])), (ka 2, .inl (K 0, 60, .inl (f 2))), (oa 3, .inr (1, [.int (nI 1), .int (nI 2), .int (nI 0), .ref (ka 3), .int (nI n)])), (ka 3, .inl (K 0, 60, .inl (f 3))), (oa 4, .inr (1, [.int (nI 2), .int (nI 0), .int (nI 1), .ref (ka 4), .int (nI n)])), (ka 4, .inl (K 0, 60, .inl (f 4))), (oa 5, .inr (1, [.int (nI 2), .int (nI 1), .int (nI 0), .ref (ka 5), .int (nI n)])), (ka 5, .inl (K 0, 60, .inl (f 5)))]) rfl (by decide) (by decide) (As := [.int x]) (rest := []) rfl rfl (Nat.le_of_ble_eq_true rfl) (by decide) dTs_codeAt_7 (fun v w hq => ?_)
    rcases hq with ⟨hz0, hz1, c, rfl, rfl, hc, hky⟩ | ⟨hz, rfl, rfl⟩
    · skip
      refine xz_ste (st' := [.int (nI c)]) rfl ?_
      refine xz_wss (ws' := [(ts, .inr (4, [.ref pr, .ref os, .int (nI pd), .int (nI mg)])), (pr, .inl (K 4, 6, .inr (.inr (.inr (.inr fa))))), (oa 0, .inr (1, [.int (nI 0), .int (nI 1), .int (nI 2), .ref (ka 0), .int (nI n)])), (ka 0, .inl (K 0, 60, .inl (f 0))), (oa 1, .inr (1, [.int (nI 0), .int (nI 2), .int (nI 1), .ref (ka 1), .int (nI n)])), (ka 1, .inl (K 0, 60, .inl (f 1))), (oa 2, .inr (1, [.int (nI 1), .int (nI 0), .int (nI 2), .ref (ka 2), .int (nI n)])), (ka 2, .inl (K 0, 60, .inl (f 2))), (oa 3, .inr (1, [.int (nI 1), .int (nI 2), .int (nI 0), .ref (ka 3), .int (nI n)])), (ka 3, .inl (K 0, 60, .inl (f 3))), (oa 4, .inr (1, [.int (nI 2), .int (nI 0), .int (nI 1), .ref (ka 4), .int (nI n)])), (ka 4, .inl (K 0, 60, .inl (f 4))), (oa 5, .inr (1, [.int (nI 2), .int (nI 1), .int (nI 0), .ref (ka 5), .int (nI n)])), (ka 5, .inl (K 0, 60, .inl (f 5)))]) [0, 1, 12, 13, 2, 3, 4, 5, 6, 7, 8, 9, 10, 11] (by decide) rfl rfl ?_
      exact xz_ireturn hC (by decide) (by decide) (by first | exact Or.inl ⟨hz0, hz1, c, rfl, rfl, hc, hky⟩ | exact Or.inr ⟨hz, rfl, rfl⟩) dTs_codeAt_10
    · skip
      refine xz_ste (st' := [.int (-1)]) rfl ?_
      refine xz_wss (ws' := [(ts, .inr (4, [.ref pr, .ref os, .int (nI pd), .int (nI mg)])), (pr, .inl (K 4, 6, .inr (.inr (.inr (.inr fa))))), (oa 0, .inr (1, [.int (nI 0), .int (nI 1), .int (nI 2), .ref (ka 0), .int (nI n)])), (ka 0, .inl (K 0, 60, .inl (f 0))), (oa 1, .inr (1, [.int (nI 0), .int (nI 2), .int (nI 1), .ref (ka 1), .int (nI n)])), (ka 1, .inl (K 0, 60, .inl (f 1))), (oa 2, .inr (1, [.int (nI 1), .int (nI 0), .int (nI 2), .ref (ka 2), .int (nI n)])), (ka 2, .inl (K 0, 60, .inl (f 2))), (oa 3, .inr (1, [.int (nI 1), .int (nI 2), .int (nI 0), .ref (ka 3), .int (nI n)])), (ka 3, .inl (K 0, 60, .inl (f 3))), (oa 4, .inr (1, [.int (nI 2), .int (nI 0), .int (nI 1), .ref (ka 4), .int (nI n)])), (ka 4, .inl (K 0, 60, .inl (f 4))), (oa 5, .inr (1, [.int (nI 2), .int (nI 1), .int (nI 0), .ref (ka 5), .int (nI n)])), (ka 5, .inl (K 0, 60, .inl (f 5)))]) [0, 1, 12, 13, 2, 3, 4, 5, 6, 7, 8, 9, 10, 11] (by decide) rfl rfl ?_
      exact xz_ireturn hC (by decide) (by decide) (by first | exact Or.inl ⟨hz0, hz1, c, rfl, rfl, hc, hky⟩ | exact Or.inr ⟨hz, rfl, rfl⟩) dTs_codeAt_10
  · skip
    refine xz_aload_n hC 0 rfl rfl dTs_codeAt_0 ?_
    refine xz_get hC 0 rfl rfl 0 (by decide) inTs tq77 rfl rfl dTs_codeAt_1 ?_
    refine xz_iload_n hC 1 rfl rfl dTs_codeAt_4 ?_
    refine xz_aaload hC 1 4 (v := oa 1) rfl rfl (by decide) (by decide) (hfa 1 (by decide)) dTs_codeAt_5 ?_
    refine xz_iload_n hC 2 rfl rfl dTs_codeAt_6 ?_
    refine xz_callV hC (mOr_codeAt l D K (oa 1) (ka 1) 0 2 1 n (f 1) (g 1) x ⟨by decide, by decide, by decide⟩ pm1 hn hO.2.1.1) kOr_codeAt tq4 tq301 tq302 tq303 4 1 rfl rfl rfl (host := "") hOr_codeAt (by decide) [4, 5] [0, 1, 2, 3, 6, 7, 8, 9, 10, 11, 12, 13] (by decide) rfl (wr := [(ts, .inr (4, [.ref pr, .ref os, .int (nI pd), .int (nI mg)])), (pr, .inl (K 4, 6, .inr (.inr (.inr (.inr fa))))), (oa 0, .inr (1, [.int (nI 0), .int (nI 1), .int (nI 2), .ref (ka 0), .int (nI n)])), (ka 0, .inl (K 0, 60, .inl (f 0))), (oa 2, .inr (1, [.int (nI 1), .int (nI 0), .int (nI 2), .ref (ka 2), .int (nI n)])), (ka 2, .inl (K 0, 60, .inl (f 2))), (oa 3, .inr (1, [.int (nI 1), .int (nI 2), .int (nI 0), .ref (ka 3), .int (nI n)])), (ka 3, .inl (K 0, 60, .inl (f 3))), (oa 4, .inr (1, [.int (nI 2), .int (nI 0), .int (nI 1), .ref (ka 4), .int (nI n)])), (ka 4, .inl (K 0, 60, .inl (f 4))), (oa 5, .inr (1, [.int (nI 2), .int (nI 1), .int (nI 0), .ref (ka 5), .int (nI n)])), (ka 5, .inl (K 0, 60, .inl (f 5)))]) rfl (by decide) (by decide) (As := [.int x]) (rest := []) rfl rfl (Nat.le_of_ble_eq_true rfl) (by decide) dTs_codeAt_7 (fun v w hq => ?_)
    rcases hq with ⟨hz0, hz1, c, rfl, rfl, hc, hky⟩ | ⟨hz, rfl, rfl⟩
    · skip
      refine xz_ste (st' := [.int (nI c)]) rfl ?_
      refine xz_wss (ws' := [(ts, .inr (4, [.ref pr, .ref os, .int (nI pd), .int (nI mg)])), (pr, .inl (K 4, 6, .inr (.inr (.inr (.inr fa))))), (oa 0, .inr (1, [.int (nI 0), .int (nI 1), .int (nI 2), .ref (ka 0), .int (nI n)])), (ka 0, .inl (K 0, 60, .inl (f 0))), (oa 1, .inr (1, [.int (nI 0), .int (nI 2), .int (nI 1), .ref (ka 1), .int (nI n)])), (ka 1, .inl (K 0, 60, .inl (f 1))), (oa 2, .inr (1, [.int (nI 1), .int (nI 0), .int (nI 2), .ref (ka 2), .int (nI n)])), (ka 2, .inl (K 0, 60, .inl (f 2))), (oa 3, .inr (1, [.int (nI 1), .int (nI 2), .int (nI 0), .ref (ka 3), .int (nI n)])), (ka 3, .inl (K 0, 60, .inl (f 3))), (oa 4, .inr (1, [.int (nI 2), .int (nI 0), .int (nI 1), .ref (ka 4), .int (nI n)])), (ka 4, .inl (K 0, 60, .inl (f 4))), (oa 5, .inr (1, [.int (nI 2), .int (nI 1), .int (nI 0), .ref (ka 5), .int (nI n)])), (ka 5, .inl (K 0, 60, .inl (f 5)))]) [0, 1, 2, 3, 12, 13, 4, 5, 6, 7, 8, 9, 10, 11] (by decide) rfl rfl ?_
      exact xz_ireturn hC (by decide) (by decide) (by first | exact Or.inl ⟨hz0, hz1, c, rfl, rfl, hc, hky⟩ | exact Or.inr ⟨hz, rfl, rfl⟩) dTs_codeAt_10
    · skip
      refine xz_ste (st' := [.int (-1)]) rfl ?_
      refine xz_wss (ws' := [(ts, .inr (4, [.ref pr, .ref os, .int (nI pd), .int (nI mg)])), (pr, .inl (K 4, 6, .inr (.inr (.inr (.inr fa))))), (oa 0, .inr (1, [.int (nI 0), .int (nI 1), .int (nI 2), .ref (ka 0), .int (nI n)])), (ka 0, .inl (K 0, 60, .inl (f 0))), (oa 1, .inr (1, [.int (nI 0), .int (nI 2), .int (nI 1), .ref (ka 1), .int (nI n)])), (ka 1, .inl (K 0, 60, .inl (f 1))), (oa 2, .inr (1, [.int (nI 1), .int (nI 0), .int (nI 2), .ref (ka 2), .int (nI n)])), (ka 2, .inl (K 0, 60, .inl (f 2))), (oa 3, .inr (1, [.int (nI 1), .int (nI 2), .int (nI 0), .ref (ka 3), .int (nI n)])), (ka 3, .inl (K 0, 60, .inl (f 3))), (oa 4, .inr (1, [.int (nI 2), .int (nI 0), .int (nI 1), .ref (ka 4), .int (nI n)])), (ka 4, .inl (K 0, 60, .inl (f 4))), (oa 5, .inr (1, [.int (nI 2), .int (nI 1), .int (nI 0), .ref (ka 5), .int (nI n)])), (ka 5, .inl (K 0, 60, .inl (f 5)))]) [0, 1, 2, 3, 12, 13, 4, 5, 6, 7, 8, 9, 10, 11] (by decide) rfl rfl ?_
      exact xz_ireturn hC (by decide) (by decide) (by first | exact Or.inl ⟨hz0, hz1, c, rfl, rfl, hc, hky⟩ | exact Or.inr ⟨hz, rfl, rfl⟩) dTs_codeAt_10
  · skip
    refine xz_aload_n hC 0 rfl rfl dTs_codeAt_0 ?_
    refine xz_get hC 0 rfl rfl 0 (by decide) inTs tq77 rfl rfl dTs_codeAt_1 ?_
    refine xz_iload_n hC 1 rfl rfl dTs_codeAt_4 ?_
    refine xz_aaload hC 1 4 (v := oa 2) rfl rfl (by decide) (by decide) (hfa 2 (by decide)) dTs_codeAt_5 ?_
    refine xz_iload_n hC 2 rfl rfl dTs_codeAt_6 ?_
    refine xz_callV hC (mOr_codeAt l D K (oa 2) (ka 2) 1 0 2 n (f 2) (g 2) x ⟨by decide, by decide, by decide⟩ pm2 hn hO.2.2.1.1) kOr_codeAt tq4 tq301 tq302 tq303 6 1 rfl rfl rfl (host := "") hOr_codeAt (by decide) [6, 7] [0, 1, 2, 3, 4, 5, 8, 9, 10, 11, 12, 13] (by decide) rfl (wr := [(ts, .inr (4, [.ref pr, .ref os, .int (nI pd), .int (nI mg)])), (pr, .inl (K 4, 6, .inr (.inr (.inr (.inr fa))))), (oa 0, .inr (1, [.int (nI 0), .int (nI 1), .int (nI 2), .ref (ka 0), .int (nI n)])), (ka 0, .inl (K 0, 60, .inl (f 0))), (oa 1, .inr (1, [.int (nI 0), .int (nI 2), .int (nI 1), .ref (ka 1), .int (nI n)])), (ka 1, .inl (K 0, 60, .inl (f 1))), (oa 3, .inr (1, [.int (nI 1), .int (nI 2), .int (nI 0), .ref (ka 3), .int (nI n)])), (ka 3, .inl (K 0, 60, .inl (f 3))), (oa 4, .inr (1, [.int (nI 2), .int (nI 0), .int (nI 1), .ref (ka 4), .int (nI n)])), (ka 4, .inl (K 0, 60, .inl (f 4))), (oa 5, .inr (1, [.int (nI 2), .int (nI 1), .int (nI 0), .ref (ka 5), .int (nI n)])), (ka 5, .inl (K 0, 60, .inl (f 5)))]) rfl (by decide) (by decide) (As := [.int x]) (rest := []) rfl rfl (Nat.le_of_ble_eq_true rfl) (by decide) dTs_codeAt_7 (fun v w hq => ?_)
    rcases hq with ⟨hz0, hz1, c, rfl, rfl, hc, hky⟩ | ⟨hz, rfl, rfl⟩
    · skip
      refine xz_ste (st' := [.int (nI c)]) rfl ?_
      refine xz_wss (ws' := [(ts, .inr (4, [.ref pr, .ref os, .int (nI pd), .int (nI mg)])), (pr, .inl (K 4, 6, .inr (.inr (.inr (.inr fa))))), (oa 0, .inr (1, [.int (nI 0), .int (nI 1), .int (nI 2), .ref (ka 0), .int (nI n)])), (ka 0, .inl (K 0, 60, .inl (f 0))), (oa 1, .inr (1, [.int (nI 0), .int (nI 2), .int (nI 1), .ref (ka 1), .int (nI n)])), (ka 1, .inl (K 0, 60, .inl (f 1))), (oa 2, .inr (1, [.int (nI 1), .int (nI 0), .int (nI 2), .ref (ka 2), .int (nI n)])), (ka 2, .inl (K 0, 60, .inl (f 2))), (oa 3, .inr (1, [.int (nI 1), .int (nI 2), .int (nI 0), .ref (ka 3), .int (nI n)])), (ka 3, .inl (K 0, 60, .inl (f 3))), (oa 4, .inr (1, [.int (nI 2), .int (nI 0), .int (nI 1), .ref (ka 4), .int (nI n)])), (ka 4, .inl (K 0, 60, .inl (f 4))), (oa 5, .inr (1, [.int (nI 2), .int (nI 1), .int (nI 0), .ref (ka 5), .int (nI n)])), (ka 5, .inl (K 0, 60, .inl (f 5)))]) [0, 1, 2, 3, 4, 5, 12, 13, 6, 7, 8, 9, 10, 11] (by decide) rfl rfl ?_
      exact xz_ireturn hC (by decide) (by decide) (by first | exact Or.inl ⟨hz0, hz1, c, rfl, rfl, hc, hky⟩ | exact Or.inr ⟨hz, rfl, rfl⟩) dTs_codeAt_10
    · skip
      refine xz_ste (st' := [.int (-1)]) rfl ?_
      refine xz_wss (ws' := [(ts, .inr (4, [.ref pr, .ref os, .int (nI pd), .int (nI mg)])), (pr, .inl (K 4, 6, .inr (.inr (.inr (.inr fa))))), (oa 0, .inr (1, [.int (nI 0), .int (nI 1), .int (nI 2), .ref (ka 0), .int (nI n)])), (ka 0, .inl (K 0, 60, .inl (f 0))), (oa 1, .inr (1, [.int (nI 0), .int (nI 2), .int (nI 1), .ref (ka 1), .int (nI n)])), (ka 1, .inl (K 0, 60, .inl (f 1))), (oa 2, .inr (1, [.int (nI 1), .int (nI 0), .int (nI 2), .ref (ka 2), .int (nI n)])), (ka 2, .inl (K 0, 60, .inl (f 2))), (oa 3, .inr (1, [.int (nI 1), .int (nI 2), .int (nI 0), .ref (ka 3), .int (nI n)])), (ka 3, .inl (K 0, 60, .inl (f 3))), (oa 4, .inr (1, [.int (nI 2), .int (nI 0), .int (nI 1), .ref (ka 4), .int (nI n)])), (ka 4, .inl (K 0, 60, .inl (f 4))), (oa 5, .inr (1, [.int (nI 2), .int (nI 1), .int (nI 0), .ref (ka 5), .int (nI n)])), (ka 5, .inl (K 0, 60, .inl (f 5)))]) [0, 1, 2, 3, 4, 5, 12, 13, 6, 7, 8, 9, 10, 11] (by decide) rfl rfl ?_
      exact xz_ireturn hC (by decide) (by decide) (by first | exact Or.inl ⟨hz0, hz1, c, rfl, rfl, hc, hky⟩ | exact Or.inr ⟨hz, rfl, rfl⟩) dTs_codeAt_10
  · skip
    refine xz_aload_n hC 0 rfl rfl dTs_codeAt_0 ?_
    refine xz_get hC 0 rfl rfl 0 (by decide) inTs tq77 rfl rfl dTs_codeAt_1 ?_
    refine xz_iload_n hC 1 rfl rfl dTs_codeAt_4 ?_
    refine xz_aaload hC 1 4 (v := oa 3) rfl rfl (by decide) (by decide) (hfa 3 (by decide)) dTs_codeAt_5 ?_
    refine xz_iload_n hC 2 rfl rfl dTs_codeAt_6 ?_
    refine xz_callV hC (mOr_codeAt l D K (oa 3) (ka 3) 1 2 0 n (f 3) (g 3) x ⟨by decide, by decide, by decide⟩ pm3 hn hO.2.2.2.1.1) kOr_codeAt tq4 tq301 tq302 tq303 8 1 rfl rfl rfl (host := "") hOr_codeAt (by decide) [8, 9] [0, 1, 2, 3, 4, 5, 6, 7, 10, 11, 12, 13] (by decide) rfl (wr := [(ts, .inr (4, [.ref pr, .ref os, .int (nI pd), .int (nI mg)])), (pr, .inl (K 4, 6, .inr (.inr (.inr (.inr fa))))), (oa 0, .inr (1, [.int (nI 0), .int (nI 1), .int (nI 2), .ref (ka 0), .int (nI n)])), (ka 0, .inl (K 0, 60, .inl (f 0))), (oa 1, .inr (1, [.int (nI 0), .int (nI 2), .int (nI 1), .ref (ka 1), .int (nI n)])), (ka 1, .inl (K 0, 60, .inl (f 1))), (oa 2, .inr (1, [.int (nI 1), .int (nI 0), .int (nI 2), .ref (ka 2), .int (nI n)])), (ka 2, .inl (K 0, 60, .inl (f 2))), (oa 4, .inr (1, [.int (nI 2), .int (nI 0), .int (nI 1), .ref (ka 4), .int (nI n)])), (ka 4, .inl (K 0, 60, .inl (f 4))), (oa 5, .inr (1, [.int (nI 2), .int (nI 1), .int (nI 0), .ref (ka 5), .int (nI n)])), (ka 5, .inl (K 0, 60, .inl (f 5)))]) rfl (by decide) (by decide) (As := [.int x]) (rest := []) rfl rfl (Nat.le_of_ble_eq_true rfl) (by decide) dTs_codeAt_7 (fun v w hq => ?_)
    rcases hq with ⟨hz0, hz1, c, rfl, rfl, hc, hky⟩ | ⟨hz, rfl, rfl⟩
    · skip
      refine xz_ste (st' := [.int (nI c)]) rfl ?_
      refine xz_wss (ws' := [(ts, .inr (4, [.ref pr, .ref os, .int (nI pd), .int (nI mg)])), (pr, .inl (K 4, 6, .inr (.inr (.inr (.inr fa))))), (oa 0, .inr (1, [.int (nI 0), .int (nI 1), .int (nI 2), .ref (ka 0), .int (nI n)])), (ka 0, .inl (K 0, 60, .inl (f 0))), (oa 1, .inr (1, [.int (nI 0), .int (nI 2), .int (nI 1), .ref (ka 1), .int (nI n)])), (ka 1, .inl (K 0, 60, .inl (f 1))), (oa 2, .inr (1, [.int (nI 1), .int (nI 0), .int (nI 2), .ref (ka 2), .int (nI n)])), (ka 2, .inl (K 0, 60, .inl (f 2))), (oa 3, .inr (1, [.int (nI 1), .int (nI 2), .int (nI 0), .ref (ka 3), .int (nI n)])), (ka 3, .inl (K 0, 60, .inl (f 3))), (oa 4, .inr (1, [.int (nI 2), .int (nI 0), .int (nI 1), .ref (ka 4), .int (nI n)])), (ka 4, .inl (K 0, 60, .inl (f 4))), (oa 5, .inr (1, [.int (nI 2), .int (nI 1), .int (nI 0), .ref (ka 5), .int (nI n)])), (ka 5, .inl (K 0, 60, .inl (f 5)))]) [0, 1, 2, 3, 4, 5, 6, 7, 12, 13, 8, 9, 10, 11] (by decide) rfl rfl ?_
      exact xz_ireturn hC (by decide) (by decide) (by first | exact Or.inl ⟨hz0, hz1, c, rfl, rfl, hc, hky⟩ | exact Or.inr ⟨hz, rfl, rfl⟩) dTs_codeAt_10
    · skip
      refine xz_ste (st' := [.int (-1)]) rfl ?_
      refine xz_wss (ws' := [(ts, .inr (4, [.ref pr, .ref os, .int (nI pd), .int (nI mg)])), (pr, .inl (K 4, 6, .inr (.inr (.inr (.inr fa))))), (oa 0, .inr (1, [.int (nI 0), .int (nI 1), .int (nI 2), .ref (ka 0), .int (nI n)])), (ka 0, .inl (K 0, 60, .inl (f 0))), (oa 1, .inr (1, [.int (nI 0), .int (nI 2), .int (nI 1), .ref (ka 1), .int (nI n)])), (ka 1, .inl (K 0, 60, .inl (f 1))), (oa 2, .inr (1, [.int (nI 1), .int (nI 0), .int (nI 2), .ref (ka 2), .int (nI n)])), (ka 2, .inl (K 0, 60, .inl (f 2))), (oa 3, .inr (1, [.int (nI 1), .int (nI 2), .int (nI 0), .ref (ka 3), .int (nI n)])), (ka 3, .inl (K 0, 60, .inl (f 3))), (oa 4, .inr (1, [.int (nI 2), .int (nI 0), .int (nI 1), .ref (ka 4), .int (nI n)])), (ka 4, .inl (K 0, 60, .inl (f 4))), (oa 5, .inr (1, [.int (nI 2), .int (nI 1), .int (nI 0), .ref (ka 5), .int (nI n)])), (ka 5, .inl (K 0, 60, .inl (f 5)))]) [0, 1, 2, 3, 4, 5, 6, 7, 12, 13, 8, 9, 10, 11] (by decide) rfl rfl ?_
      exact xz_ireturn hC (by decide) (by decide) (by first | exact Or.inl ⟨hz0, hz1, c, rfl, rfl, hc, hky⟩ | exact Or.inr ⟨hz, rfl, rfl⟩) dTs_codeAt_10
  · skip
    refine xz_aload_n hC 0 rfl rfl dTs_codeAt_0 ?_
    refine xz_get hC 0 rfl rfl 0 (by decide) inTs tq77 rfl rfl dTs_codeAt_1 ?_
    refine xz_iload_n hC 1 rfl rfl dTs_codeAt_4 ?_
    refine xz_aaload hC 1 4 (v := oa 4) rfl rfl (by decide) (by decide) (hfa 4 (by decide)) dTs_codeAt_5 ?_
    refine xz_iload_n hC 2 rfl rfl dTs_codeAt_6 ?_
    refine xz_callV hC (mOr_codeAt l D K (oa 4) (ka 4) 2 0 1 n (f 4) (g 4) x ⟨by decide, by decide, by decide⟩ pm4 hn hO.2.2.2.2.1.1) kOr_codeAt tq4 tq301 tq302 tq303 10 1 rfl rfl rfl (host := "") hOr_codeAt (by decide) [10, 11] [0, 1, 2, 3, 4, 5, 6, 7, 8, 9, 12, 13] (by decide) rfl (wr := [(ts, .inr (4, [.ref pr, .ref os, .int (nI pd), .int (nI mg)])), (pr, .inl (K 4, 6, .inr (.inr (.inr (.inr fa))))), (oa 0, .inr (1, [.int (nI 0), .int (nI 1), .int (nI 2), .ref (ka 0), .int (nI n)])), (ka 0, .inl (K 0, 60, .inl (f 0))), (oa 1, .inr (1, [.int (nI 0), .int (nI 2), .int (nI 1), .ref (ka 1), .int (nI n)])), (ka 1, .inl (K 0, 60, .inl (f 1))), (oa 2, .inr (1, [.int (nI 1), .int (nI 0), .int (nI 2), .ref (ka 2), .int (nI n)])), (ka 2, .inl (K 0, 60, .inl (f 2))), (oa 3, .inr (1, [.int (nI 1), .int (nI 2), .int (nI 0), .ref (ka 3), .int (nI n)])), (ka 3, .inl (K 0, 60, .inl (f 3))), (oa 5, .inr (1, [.int (nI 2), .int (nI 1), .int (nI 0), .ref (ka 5), .int (nI n)])), (ka 5, .inl (K 0, 60, .inl (f 5)))]) rfl (by decide) (by decide) (As := [.int x]) (rest := []) rfl rfl (Nat.le_of_ble_eq_true rfl) (by decide) dTs_codeAt_7 (fun v w hq => ?_)
    rcases hq with ⟨hz0, hz1, c, rfl, rfl, hc, hky⟩ | ⟨hz, rfl, rfl⟩
    · skip
      refine xz_ste (st' := [.int (nI c)]) rfl ?_
      refine xz_wss (ws' := [(ts, .inr (4, [.ref pr, .ref os, .int (nI pd), .int (nI mg)])), (pr, .inl (K 4, 6, .inr (.inr (.inr (.inr fa))))), (oa 0, .inr (1, [.int (nI 0), .int (nI 1), .int (nI 2), .ref (ka 0), .int (nI n)])), (ka 0, .inl (K 0, 60, .inl (f 0))), (oa 1, .inr (1, [.int (nI 0), .int (nI 2), .int (nI 1), .ref (ka 1), .int (nI n)])), (ka 1, .inl (K 0, 60, .inl (f 1))), (oa 2, .inr (1, [.int (nI 1), .int (nI 0), .int (nI 2), .ref (ka 2), .int (nI n)])), (ka 2, .inl (K 0, 60, .inl (f 2))), (oa 3, .inr (1, [.int (nI 1), .int (nI 2), .int (nI 0), .ref (ka 3), .int (nI n)])), (ka 3, .inl (K 0, 60, .inl (f 3))), (oa 4, .inr (1, [.int (nI 2), .int (nI 0), .int (nI 1), .ref (ka 4), .int (nI n)])), (ka 4, .inl (K 0, 60, .inl (f 4))), (oa 5, .inr (1, [.int (nI 2), .int (nI 1), .int (nI 0), .ref (ka 5), .int (nI n)])), (ka 5, .inl (K 0, 60, .inl (f 5)))]) [0, 1, 2, 3, 4, 5, 6, 7, 8, 9, 12, 13, 10, 11] (by decide) rfl rfl ?_
      exact xz_ireturn hC (by decide) (by decide) (by first | exact Or.inl ⟨hz0, hz1, c, rfl, rfl, hc, hky⟩ | exact Or.inr ⟨hz, rfl, rfl⟩) dTs_codeAt_10
    · skip
      refine xz_ste (st' := [.int (-1)]) rfl ?_
      refine xz_wss (ws' := [(ts, .inr (4, [.ref pr, .ref os, .int (nI pd), .int (nI mg)])), (pr, .inl (K 4, 6, .inr (.inr (.inr (.inr fa))))), (oa 0, .inr (1, [.int (nI 0), .int (nI 1), .int (nI 2), .ref (ka 0), .int (nI n)])), (ka 0, .inl (K 0, 60, .inl (f 0))), (oa 1, .inr (1, [.int (nI 0), .int (nI 2), .int (nI 1), .ref (ka 1), .int (nI n)])), (ka 1, .inl (K 0, 60, .inl (f 1))), (oa 2, .inr (1, [.int (nI 1), .int (nI 0), .int (nI 2), .ref (ka 2), .int (nI n)])), (ka 2, .inl (K 0, 60, .inl (f 2))), (oa 3, .inr (1, [.int (nI 1), .int (nI 2), .int (nI 0), .ref (ka 3), .int (nI n)])), (ka 3, .inl (K 0, 60, .inl (f 3))), (oa 4, .inr (1, [.int (nI 2), .int (nI 0), .int (nI 1), .ref (ka 4), .int (nI n)])), (ka 4, .inl (K 0, 60, .inl (f 4))), (oa 5, .inr (1, [.int (nI 2), .int (nI 1), .int (nI 0), .ref (ka 5), .int (nI n)])), (ka 5, .inl (K 0, 60, .inl (f 5)))]) [0, 1, 2, 3, 4, 5, 6, 7, 8, 9, 12, 13, 10, 11] (by decide) rfl rfl ?_
      exact xz_ireturn hC (by decide) (by decide) (by first | exact Or.inl ⟨hz0, hz1, c, rfl, rfl, hc, hky⟩ | exact Or.inr ⟨hz, rfl, rfl⟩) dTs_codeAt_10
  · skip
    refine xz_aload_n hC 0 rfl rfl dTs_codeAt_0 ?_
    refine xz_get hC 0 rfl rfl 0 (by decide) inTs tq77 rfl rfl dTs_codeAt_1 ?_
    refine xz_iload_n hC 1 rfl rfl dTs_codeAt_4 ?_
    refine xz_aaload hC 1 4 (v := oa 5) rfl rfl (by decide) (by decide) (hfa 5 (by decide)) dTs_codeAt_5 ?_
    refine xz_iload_n hC 2 rfl rfl dTs_codeAt_6 ?_
    refine xz_callV hC (mOr_codeAt l D K (oa 5) (ka 5) 2 1 0 n (f 5) (g 5) x ⟨by decide, by decide, by decide⟩ pm5 hn hO.2.2.2.2.2.1) kOr_codeAt tq4 tq301 tq302 tq303 12 1 rfl rfl rfl (host := "") hOr_codeAt (by decide) [12, 13] [0, 1, 2, 3, 4, 5, 6, 7, 8, 9, 10, 11] (by decide) rfl (wr := [(ts, .inr (4, [.ref pr, .ref os, .int (nI pd), .int (nI mg)])), (pr, .inl (K 4, 6, .inr (.inr (.inr (.inr fa))))), (oa 0, .inr (1, [.int (nI 0), .int (nI 1), .int (nI 2), .ref (ka 0), .int (nI n)])), (ka 0, .inl (K 0, 60, .inl (f 0))), (oa 1, .inr (1, [.int (nI 0), .int (nI 2), .int (nI 1), .ref (ka 1), .int (nI n)])), (ka 1, .inl (K 0, 60, .inl (f 1))), (oa 2, .inr (1, [.int (nI 1), .int (nI 0), .int (nI 2), .ref (ka 2), .int (nI n)])), (ka 2, .inl (K 0, 60, .inl (f 2))), (oa 3, .inr (1, [.int (nI 1), .int (nI 2), .int (nI 0), .ref (ka 3), .int (nI n)])), (ka 3, .inl (K 0, 60, .inl (f 3))), (oa 4, .inr (1, [.int (nI 2), .int (nI 0), .int (nI 1), .ref (ka 4), .int (nI n)])), (ka 4, .inl (K 0, 60, .inl (f 4)))]) rfl (by decide) (by decide) (As := [.int x]) (rest := []) rfl rfl (Nat.le_of_ble_eq_true rfl) (by decide) dTs_codeAt_7 (fun v w hq => ?_)
    rcases hq with ⟨hz0, hz1, c, rfl, rfl, hc, hky⟩ | ⟨hz, rfl, rfl⟩
    · skip
      refine xz_ste (st' := [.int (nI c)]) rfl ?_
      refine xz_wss (ws' := [(ts, .inr (4, [.ref pr, .ref os, .int (nI pd), .int (nI mg)])), (pr, .inl (K 4, 6, .inr (.inr (.inr (.inr fa))))), (oa 0, .inr (1, [.int (nI 0), .int (nI 1), .int (nI 2), .ref (ka 0), .int (nI n)])), (ka 0, .inl (K 0, 60, .inl (f 0))), (oa 1, .inr (1, [.int (nI 0), .int (nI 2), .int (nI 1), .ref (ka 1), .int (nI n)])), (ka 1, .inl (K 0, 60, .inl (f 1))), (oa 2, .inr (1, [.int (nI 1), .int (nI 0), .int (nI 2), .ref (ka 2), .int (nI n)])), (ka 2, .inl (K 0, 60, .inl (f 2))), (oa 3, .inr (1, [.int (nI 1), .int (nI 2), .int (nI 0), .ref (ka 3), .int (nI n)])), (ka 3, .inl (K 0, 60, .inl (f 3))), (oa 4, .inr (1, [.int (nI 2), .int (nI 0), .int (nI 1), .ref (ka 4), .int (nI n)])), (ka 4, .inl (K 0, 60, .inl (f 4))), (oa 5, .inr (1, [.int (nI 2), .int (nI 1), .int (nI 0), .ref (ka 5), .int (nI n)])), (ka 5, .inl (K 0, 60, .inl (f 5)))]) [0, 1, 2, 3, 4, 5, 6, 7, 8, 9, 10, 11, 12, 13] (by decide) rfl rfl ?_
      exact xz_ireturn hC (by decide) (by decide) (by first | exact Or.inl ⟨hz0, hz1, c, rfl, rfl, hc, hky⟩ | exact Or.inr ⟨hz, rfl, rfl⟩) dTs_codeAt_10
    · skip
      refine xz_ste (st' := [.int (-1)]) rfl ?_
      refine xz_wss (ws' := [(ts, .inr (4, [.ref pr, .ref os, .int (nI pd), .int (nI mg)])), (pr, .inl (K 4, 6, .inr (.inr (.inr (.inr fa))))), (oa 0, .inr (1, [.int (nI 0), .int (nI 1), .int (nI 2), .ref (ka 0), .int (nI n)])), (ka 0, .inl (K 0, 60, .inl (f 0))), (oa 1, .inr (1, [.int (nI 0), .int (nI 2), .int (nI 1), .ref (ka 1), .int (nI n)])), (ka 1, .inl (K 0, 60, .inl (f 1))), (oa 2, .inr (1, [.int (nI 1), .int (nI 0), .int (nI 2), .ref (ka 2), .int (nI n)])), (ka 2, .inl (K 0, 60, .inl (f 2))), (oa 3, .inr (1, [.int (nI 1), .int (nI 2), .int (nI 0), .ref (ka 3), .int (nI n)])), (ka 3, .inl (K 0, 60, .inl (f 3))), (oa 4, .inr (1, [.int (nI 2), .int (nI 0), .int (nI 1), .ref (ka 4), .int (nI n)])), (ka 4, .inl (K 0, 60, .inl (f 4))), (oa 5, .inr (1, [.int (nI 2), .int (nI 1), .int (nI 0), .ref (ka 5), .int (nI n)])), (ka 5, .inl (K 0, 60, .inl (f 5)))]) [0, 1, 2, 3, 4, 5, 6, 7, 8, 9, 10, 11, 12, 13] (by decide) rfl rfl ?_
      exact xz_ireturn hC (by decide) (by decide) (by first | exact Or.inl ⟨hz0, hz1, c, rfl, rfl, hc, hky⟩ | exact Or.inr ⟨hz, rfl, rfl⟩) dTs_codeAt_10
set_option maxHeartbeats 1000000 in
set_option maxRecDepth 100000 in
theorem mTs_settle (l : Launch) (D : va_G) (K : Nat → ClassId) (ts pr os ks n pd mg m : Nat) (fa : Nat → Option Nat) (oa ka : Nat → Nat) (f : Nat → Nat → Int32) (e : Nat → Int32) (g : Nat → Nat → Nat) (h : Nat → Nat) (P S : Nat → Prop) (hfa : ∀ w, w < 6 → fa w = some (oa w)) (hn : n ≤ 60) (hO : xs_ok 0 1 2 (f 0) (g 0) n P) : xz_Met l D (tz K) yTs_settle cTs_settle 1 none { frames := 2, cells := 0, slots := 0, locals := 81 } [.ref ts] [(ts, .inr (4, [.ref pr, .ref os, .int (nI pd), .int (nI mg)])), (pr, .inl (K 4, 6, .inr (.inr (.inr (.inr fa))))), (oa 0, .inr (1, [.int (nI 0), .int (nI 1), .int (nI 2), .ref (ka 0), .int (nI n)])), (ka 0, .inl (K 0, 60, .inl (f 0))), (os, .inr (1, [.int (nI 0), .int (nI 1), .int (nI 2), .ref ks, .int (nI m)])), (ks, .inl (K 0, 60, .inl e))] (fun v w => ∃ e' : Nat → Int32, v = none ∧ w = [(ts, .inr (4, [.ref pr, .ref os, .int (nI 0), .int (nI (mg + 1))])), (pr, .inl (K 4, 6, .inr (.inr (.inr (.inr fa))))), (oa 0, .inr (1, [.int (nI 0), .int (nI 1), .int (nI 2), .ref (ka 0), .int (nI n)])), (ka 0, .inl (K 0, 60, .inl (f 0))), (os, .inr (1, [.int (nI 0), .int (nI 1), .int (nI 2), .ref ks, .int (nI n)])), (ks, .inl (K 0, 60, .inl e'))] ∧ xs_ok 0 1 2 e' (g 0) n P) := by
  refine xz_enter (by decide +kernel) (Nat.le_of_ble_eq_true rfl) ?_
  intro Γ hC
  refine xz_lcs (lc' := [(0, .ref ts)]) [0] rfl ?_
  refine xz_aload_n hC 0 rfl rfl dTs_settle_0 ?_
  refine xz_get hC 0 rfl rfl 1 (by decide) inTs tq78 rfl rfl dTs_settle_1 ?_
  refine xz_aload_n hC 0 rfl rfl dTs_settle_4 ?_
  refine xz_get hC 0 rfl rfl 0 (by decide) inTs tq77 rfl rfl dTs_settle_5 ?_
  refine xz_iconst hC (v := nI 0) (by decide +kernel) dTs_settle_8 ?_
  refine xz_aaload hC 1 4 (v := oa 0) rfl rfl (by decide) (by decide) (hfa 0 (by decide)) dTs_settle_9 ?_
  refine xz_callV hC (mOr_copyFrom l D K os ks 0 1 2 m e h (oa 0) (ka 0) 0 1 2 n (f 0) (g 0) hn hO.1) kOr_copyFrom tq4 tq249 tq250 tq251 4 1 rfl rfl rfl (host := "") hOr_copyFrom (by decide) [4, 5, 2, 3] [0, 1] (by decide) rfl (wr := [(ts, .inr (4, [.ref pr, .ref os, .int (nI pd), .int (nI mg)])), (pr, .inl (K 4, 6, .inr (.inr (.inr (.inr fa)))))]) rfl (by decide) (by decide) (As := [.ref (oa 0)]) (rest := []) rfl rfl (Nat.le_of_ble_eq_true rfl) (by decide) dTs_settle_10 (fun v w hq => ?_)
  obtain ⟨e', rfl, rfl, he⟩ := hq
  refine xz_ste (st' := []) rfl ?_
  refine xz_wss (ws' := [(ts, .inr (4, [.ref pr, .ref os, .int (nI pd), .int (nI mg)])), (pr, .inl (K 4, 6, .inr (.inr (.inr (.inr fa))))), (oa 0, .inr (1, [.int (nI 0), .int (nI 1), .int (nI 2), .ref (ka 0), .int (nI n)])), (ka 0, .inl (K 0, 60, .inl (f 0))), (os, .inr (1, [.int (nI 0), .int (nI 1), .int (nI 2), .ref ks, .int (nI n)])), (ks, .inl (K 0, 60, .inl e'))]) [0, 1, 4, 5, 2, 3] (by decide) rfl rfl ?_
  refine xz_aload_n hC 0 rfl rfl dTs_settle_13 ?_
  refine xz_iconst hC (v := nI 0) (by decide +kernel) dTs_settle_14 ?_
  refine xz_put hC 0 rfl rfl 2 (by decide) inTs tq79 rfl tyTs tyTs_ok nmTs rfl rfl rfl (Nat.le_of_ble_eq_true rfl) (ws' := [(ts, .inr (4, [.ref pr, .ref os, .int (nI 0), .int (nI mg)])), (pr, .inl (K 4, 6, .inr (.inr (.inr (.inr fa))))), (oa 0, .inr (1, [.int (nI 0), .int (nI 1), .int (nI 2), .ref (ka 0), .int (nI n)])), (ka 0, .inl (K 0, 60, .inl (f 0))), (os, .inr (1, [.int (nI 0), .int (nI 1), .int (nI 2), .ref ks, .int (nI n)])), (ks, .inl (K 0, 60, .inl e'))]) rfl dTs_settle_15 ?_
  refine xz_aload_n hC 0 rfl rfl dTs_settle_18 ?_
  refine xz_dup hC rfl dTs_settle_19 ?_
  refine xz_get hC 0 rfl rfl 3 (by decide) inTs tq81 rfl rfl dTs_settle_20 ?_
  refine xz_iconst hC (v := nI 1) (by decide +kernel) dTs_settle_23 ?_
  refine xz_iadd hC (z := nI (mg + 1)) (nI_add _ _) dTs_settle_24 ?_
  refine xz_put hC 0 rfl rfl 3 (by decide) inTs tq81 rfl tyTs tyTs_ok nmTs rfl rfl rfl (Nat.le_of_ble_eq_true rfl) (ws' := [(ts, .inr (4, [.ref pr, .ref os, .int (nI 0), .int (nI (mg + 1))])), (pr, .inl (K 4, 6, .inr (.inr (.inr (.inr fa))))), (oa 0, .inr (1, [.int (nI 0), .int (nI 1), .int (nI 2), .ref (ka 0), .int (nI n)])), (ka 0, .inl (K 0, 60, .inl (f 0))), (os, .inr (1, [.int (nI 0), .int (nI 1), .int (nI 2), .ref ks, .int (nI n)])), (ks, .inl (K 0, 60, .inl e'))]) rfl dTs_settle_25 ?_
  exact xz_return hC (by decide) (by decide) (⟨e', rfl, rfl, he, hO.2⟩) dTs_settle_28
set_option maxHeartbeats 1000000 in
set_option maxRecDepth 100000 in
theorem mTs_settleWhenDue (l : Launch) (D : va_G) (K : Nat → ClassId) (ts pr os ks n pd mg m : Nat) (fa : Nat → Option Nat) (oa ka : Nat → Nat) (f : Nat → Nat → Int32) (e : Nat → Int32) (g : Nat → Nat → Nat) (h : Nat → Nat) (P S : Nat → Prop) (hfa : ∀ w, w < 6 → fa w = some (oa w)) (hn : n ≤ 60) (hpd : pd ≤ 120) (hO : xs_ok 0 1 2 (f 0) (g 0) n P) : xz_Met l D (tz K) yTs_settleWhenDue cTs_settleWhenDue 1 none { frames := 3, cells := 0, slots := 0, locals := 101 } [.ref ts] [(ts, .inr (4, [.ref pr, .ref os, .int (nI pd), .int (nI mg)])), (pr, .inl (K 4, 6, .inr (.inr (.inr (.inr fa))))), (oa 0, .inr (1, [.int (nI 0), .int (nI 1), .int (nI 2), .ref (ka 0), .int (nI n)])), (ka 0, .inl (K 0, 60, .inl (f 0))), (os, .inr (1, [.int (nI 0), .int (nI 1), .int (nI 2), .ref ks, .int (nI m)])), (ks, .inl (K 0, 60, .inl e))] (fun v w => (pd < 12 ∧ v = none ∧ w = [(ts, .inr (4, [.ref pr, .ref os, .int (nI pd), .int (nI mg)])), (pr, .inl (K 4, 6, .inr (.inr (.inr (.inr fa))))), (oa 0, .inr (1, [.int (nI 0), .int (nI 1), .int (nI 2), .ref (ka 0), .int (nI n)])), (ka 0, .inl (K 0, 60, .inl (f 0))), (os, .inr (1, [.int (nI 0), .int (nI 1), .int (nI 2), .ref ks, .int (nI m)])), (ks, .inl (K 0, 60, .inl e))]) ∨ (12 ≤ pd ∧ ∃ e' : Nat → Int32, v = none ∧ w = [(ts, .inr (4, [.ref pr, .ref os, .int (nI 0), .int (nI (mg + 1))])), (pr, .inl (K 4, 6, .inr (.inr (.inr (.inr fa))))), (oa 0, .inr (1, [.int (nI 0), .int (nI 1), .int (nI 2), .ref (ka 0), .int (nI n)])), (ka 0, .inl (K 0, 60, .inl (f 0))), (os, .inr (1, [.int (nI 0), .int (nI 1), .int (nI 2), .ref ks, .int (nI n)])), (ks, .inl (K 0, 60, .inl e'))] ∧ xs_ok 0 1 2 e' (g 0) n P)) := by
  refine xz_enter (by decide +kernel) (Nat.le_of_ble_eq_true rfl) ?_
  intro Γ hC
  refine xz_lcs (lc' := [(0, .ref ts)]) [0] rfl ?_
  refine xz_aload_n hC 0 rfl rfl dTs_settleWhenDue_0 ?_
  refine xz_get hC 0 rfl rfl 2 (by decide) inTs tq79 rfl rfl dTs_settleWhenDue_1 ?_
  refine xz_bipush hC (v := nI 12) (by decide +kernel) dTs_settleWhenDue_4 ?_
  refine xz_icmp_lt hC (tgt := 13) (nI_toInt (by omega)) (nI_toInt (by omega)) (by decide) dTs_settleWhenDue_6 (fun h1 => ?_) (fun h1 => ?_)
  · skip
    exact xz_return hC (by decide) (by decide) (by first | exact Or.inl ⟨by omega, rfl, rfl⟩ | exact Or.inr ⟨by omega, e', rfl, rfl, he⟩) dTs_settleWhenDue_13
  · skip
    refine xz_aload_n hC 0 rfl rfl dTs_settleWhenDue_9 ?_
    refine xz_callV hC (mTs_settle l D K ts pr os ks n pd mg m fa oa ka f e g h P S hfa hn hO) kTs_settle tq3 tq245 tq246 tq247 0 4 rfl rfl rfl (host := "") hTs_settle (by decide) [0, 1, 2, 3, 4, 5] [] (by decide) rfl (wr := []) rfl (by decide) (by decide) (As := []) (rest := []) rfl rfl (Nat.le_of_ble_eq_true rfl) (by decide) dTs_settleWhenDue_10 (fun v w hq => ?_)
    obtain ⟨e', rfl, rfl, he⟩ := hq
    refine xz_ste (st' := []) rfl ?_
    refine xz_wss (ws' := [(ts, .inr (4, [.ref pr, .ref os, .int (nI 0), .int (nI (mg + 1))])), (pr, .inl (K 4, 6, .inr (.inr (.inr (.inr fa))))), (oa 0, .inr (1, [.int (nI 0), .int (nI 1), .int (nI 2), .ref (ka 0), .int (nI n)])), (ka 0, .inl (K 0, 60, .inl (f 0))), (os, .inr (1, [.int (nI 0), .int (nI 1), .int (nI 2), .ref ks, .int (nI n)])), (ks, .inl (K 0, 60, .inl e'))]) [0, 1, 2, 3, 4, 5] (by decide) rfl rfl ?_
    exact xz_return hC (by decide) (by decide) (by first | exact Or.inl ⟨by omega, rfl, rfl⟩ | exact Or.inr ⟨by omega, e', rfl, rfl, he⟩) dTs_settleWhenDue_13
