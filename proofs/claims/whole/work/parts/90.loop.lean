/-! the law's loop -/
theorem xl_inc4 (n : Nat) : nI n + Int32.ofInt 4 = nI (n + 4) := by
  rw [show Int32.ofInt 4 = nI 4 from by decide +kernel, nI_add]
set_option maxHeartbeats 1000000 in
set_option maxRecDepth 100000 in
theorem xl_go {Γ : xz_G} {l : Launch} {D : va_G} {K : Nat → ClassId} {nm : String} {Qp : xz_P} {b L : Nat} {xs : Nat → Int32} (hC : xz_C Γ l D (tz K) code 4 "SixfoldTriplesLaw" room_1 (some .boolean) nm Qp) (hX : xl_S Γ b L xs) (hL : L ≤ 2048) (i xo mo k : Nat) (hi : i + 4 ≤ L) {ws : va_W} (hI : iv_J K xo mo ws) (back : ∀ ws', iv_J K xo mo ws' → xz_X Γ 40 2187 ws' 510 [(3, .int (nI i)), (2, .ref mo), (1, .ref xo), (0, .ref b)] []) (hk : k < 16) : xz_X Γ 40 2187 ws 32 [(3, .int (nI i)), (2, .ref mo), (1, .ref xo), (0, .ref b)] [.int (nI k)] := by
  rcases (show k = 0 ∨ k = 1 ∨ k = 2 ∨ k = 3 ∨ k = 4 ∨ k = 5 ∨ k = 6 ∨ k = 7 ∨ k = 8 ∨ k = 9 ∨ k = 10 ∨ k = 11 ∨ k = 12 ∨ k = 13 ∨ k = 14 ∨ k = 15 by omega) with rfl | rfl | rfl | rfl | rfl | rfl | rfl | rfl | rfl | rfl | rfl | rfl | rfl | rfl | rfl | rfl
  · exact xl_switch hC (x := nI 0) (off := 80) (tgt := 112) (by decide +kernel) (by decide +kernel) (by decide +kernel) (by decide +kernel) dLa_law_32 (xl_c0 hC hX hL i xo mo hi hI back)
  · exact xl_switch hC (x := nI 1) (off := 105) (tgt := 137) (by decide +kernel) (by decide +kernel) (by decide +kernel) (by decide +kernel) dLa_law_32 (xl_c1 hC hX hL i xo mo hi hI back)
  · exact xl_switch hC (x := nI 2) (off := 118) (tgt := 150) (by decide +kernel) (by decide +kernel) (by decide +kernel) (by decide +kernel) dLa_law_32 (xl_c2 hC hX hL i xo mo hi hI back)
  · exact xl_switch hC (x := nI 3) (off := 131) (tgt := 163) (by decide +kernel) (by decide +kernel) (by decide +kernel) (by decide +kernel) dLa_law_32 (xl_c3 hC hX hL i xo mo hi hI back)
  · exact xl_switch hC (x := nI 4) (off := 164) (tgt := 196) (by decide +kernel) (by decide +kernel) (by decide +kernel) (by decide +kernel) dLa_law_32 (xl_c4 hC hX hL i xo mo hi hI back)
  · exact xl_switch hC (x := nI 5) (off := 207) (tgt := 239) (by decide +kernel) (by decide +kernel) (by decide +kernel) (by decide +kernel) dLa_law_32 (xl_c5 hC hX hL i xo mo hi hI back)
  · exact xl_switch hC (x := nI 6) (off := 250) (tgt := 282) (by decide +kernel) (by decide +kernel) (by decide +kernel) (by decide +kernel) dLa_law_32 (xl_c6 hC hX hL i xo mo hi hI back)
  · exact xl_switch hC (x := nI 7) (off := 263) (tgt := 295) (by decide +kernel) (by decide +kernel) (by decide +kernel) (by decide +kernel) dLa_law_32 (xl_c7 hC hX hL i xo mo hi hI back)
  · exact xl_switch hC (x := nI 8) (off := 276) (tgt := 308) (by decide +kernel) (by decide +kernel) (by decide +kernel) (by decide +kernel) dLa_law_32 (xl_c8 hC hX hL i xo mo hi hI back)
  · exact xl_switch hC (x := nI 9) (off := 289) (tgt := 321) (by decide +kernel) (by decide +kernel) (by decide +kernel) (by decide +kernel) dLa_law_32 (xl_c9 hC hX hL i xo mo hi hI back)
  · exact xl_switch hC (x := nI 10) (off := 302) (tgt := 334) (by decide +kernel) (by decide +kernel) (by decide +kernel) (by decide +kernel) dLa_law_32 (xl_c10 hC hX hL i xo mo hi hI back)
  · exact xl_switch hC (x := nI 11) (off := 335) (tgt := 367) (by decide +kernel) (by decide +kernel) (by decide +kernel) (by decide +kernel) dLa_law_32 (xl_c11 hC hX hL i xo mo hi hI back)
  · exact xl_switch hC (x := nI 12) (off := 378) (tgt := 410) (by decide +kernel) (by decide +kernel) (by decide +kernel) (by decide +kernel) dLa_law_32 (xl_c12 hC hX hL i xo mo hi hI back)
  · exact xl_switch hC (x := nI 13) (off := 389) (tgt := 421) (by decide +kernel) (by decide +kernel) (by decide +kernel) (by decide +kernel) dLa_law_32 (xl_c13 hC hX hL i xo mo hi hI back)
  · exact xl_switch hC (x := nI 14) (off := 432) (tgt := 464) (by decide +kernel) (by decide +kernel) (by decide +kernel) (by decide +kernel) dLa_law_32 (xl_c14 hC hX hL i xo mo hi hI back)
  · exact xl_switch hC (x := nI 15) (off := 465) (tgt := 497) (by decide +kernel) (by decide +kernel) (by decide +kernel) (by decide +kernel) dLa_law_32 (xl_c15 hC hX hL i xo mo hi hI back)
set_option maxHeartbeats 1000000 in
set_option maxRecDepth 100000 in
theorem xl_loop {Γ : xz_G} {l : Launch} {D : va_G} {K : Nat → ClassId} {nm : String} {Qp : xz_P} {b L : Nat} {xs : Nat → Int32} (hC : xz_C Γ l D (tz K) code 4 "SixfoldTriplesLaw" room_1 (some .boolean) nm Qp) (hX : xl_S Γ b L xs) (hL : L ≤ 2048) (hQ : ∀ w, Qp (some (.int (bI true))) w) (xo mo : Nat) : ∀ (N i : Nat) (ws : va_W), L + 4 - i = N → i ≤ L + 4 → iv_J K xo mo ws → xz_X Γ 40 2187 ws 18 [(3, .int (nI i)), (2, .ref mo), (1, .ref xo), (0, .ref b)] [] := by
  intro N
  induction N using Nat.strongRecOn with
  | _ N ih =>
  intro i ws hN hi hI
  refine xz_iload_n hC 0 rfl rfl dLa_law_18 ?_
  refine xz_aload_n hC 3 rfl rfl dLa_law_19 ?_
  refine xl_slen hC hX dLa_law_20 ?_
  refine xz_iconst hC (v := nI 4) (by decide +kernel) dLa_law_21 ?_
  refine xz_isub hC (z := nI L - nI 4) rfl dLa_law_22 ?_
  refine xz_icmp_gt hC (tgt := 516) (nI_toInt (by omega)) (pk_sub_toInt (by omega) (by omega)) (by decide) dLa_law_23 (fun h1 => ?_) (fun h1 => ?_)
  · refine xz_iconst hC (v := bI true) (by decide +kernel) dLa_law_516 ?_
    exact xz_zreturn hC (by decide) (by decide) (hQ _) dLa_law_517
  · have hi4 : i + 4 ≤ L := by omega
    refine xz_aload_n hC 3 rfl rfl dLa_law_26 ?_
    refine xz_iload_n hC 0 rfl rfl dLa_law_27 ?_
    refine xl_sld hC hX (by omega) (by omega) dLa_law_28 ?_
    refine xz_bipush hC (v := nI 15) (by decide +kernel) dLa_law_29 ?_
    obtain ⟨k, hk, ek⟩ := pk_andE (xs i) (m := nI 15) 4 (by decide +kernel)
    refine xz_iand hC (z := nI k) ek dLa_law_31 ?_
    refine xl_go hC hX hL i xo mo k hi4 hI (fun ws' hI' => ?_) (by omega)
    refine xz_iinc hC 0 (lc' := [(3, .int (nI (i + 4))), (2, .ref mo), (1, .ref xo), (0, .ref b)]) rfl (xl_inc4 i) (by decide) rfl dLa_law_510 ?_
    refine xz_goto hC (tgt := 18) (by decide) dLa_law_513 ?_
    exact ih _ (by omega) (i + 4) ws' rfl (by omega) hI'
