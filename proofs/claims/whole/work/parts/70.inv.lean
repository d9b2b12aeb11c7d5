/-! the law's invariant: what class and reference have in common -/
def iv_D (dn bb : Nat) (Pw : Nat → Int64) (Lw Le Lt Wo : Nat → Int32) (wl : Nat → Nat) (wc : Nat → Nat → Nat) (bw : Nat → Nat) : Prop := dn ≤ 24 ∧ bb ≤ 6 ∧ (∀ t, t < dn → Pw t = lN (xw_pk (wc t) (wl t)) ∧ Lw t = nI (wl t) ∧ wl t ≤ 6 ∧ ∀ i, i < wl t → 0 < wc t i ∧ wc t i < 128) ∧ xm_W Le Lt wl wc dn ∧ (∀ i, i < bb → 0 < bw i ∧ bw i < 128) ∧ xm_B Wo bw bb
def iv_S (dn n m pd : Nat) (f : Nat → Nat → Int32) (e Pe St : Nat → Int32) (g : Nat → Nat → Nat) (h pp s0 : Nat → Nat) : Prop := n ≤ 60 ∧ m ≤ 60 ∧ xs_six f g n (xo_mem pp n) ∧ xs_ok 0 1 2 e h m (xo_mem s0 m) ∧ xo_og Pe pp n ∧ xo_nd pp n ∧ xo_og St s0 m ∧ xo_nd s0 m ∧ pd = xo_pd pp n s0 m ∧ pd ≤ 12 ∧ ∀ k, k < n → ∀ i, i < 3 → xk_pt (pp k) i < dn
def iv_Q (qc : Nat) (F Pt : Nat → Int32) (q : Nat → Nat) : Prop := qc ≤ 4 ∧ xq_nu F q (3 * qc) ∧ xq_nu Pt q (3 * qc)
def iv_A (fd : Nat) (An Kp : Nat → Int32) : Prop := fd ≤ 13824 ∧ ∀ i, i < fd → i < 200 → ∀ v, v < 3 → An (i * 3 + v) = Kp (3 * i + v)
theorem iv_lN0 : (0 : Int64) = lN 0 := by decide +kernel
theorem iv_pk_lt {w : Nat → Nat} {k : Nat} (hk : k ≤ 6) (h : ∀ i, i < k → 0 < w i ∧ w i < 128) : xw_pk w k < 2 ^ 42 := by
  have h1 := xw_lt (lt := w) (n := k) (fun i hi => (h i hi).2)
  have h2 : 128 ^ k ≤ 128 ^ 6 := Nat.pow_le_pow_right (by decide) hk
  omega
theorem iv_pk5 {w : Nat → Nat} {k : Nat} (h : ∀ i, i < k → 0 < w i ∧ w i < 128) (hk : k < 6) : xw_pk w k < 2 ^ 40 := by
  have h1 := xw_lt (lt := w) (n := k) (fun i hi => (h i hi).2)
  have h2 : 128 ^ k ≤ 128 ^ 5 := Nat.pow_le_pow_right (by decide) (by omega)
  omega
theorem iv_eq {dn bb : Nat} {Pw : Nat → Int64} {Lw Le Lt Wo : Nat → Int32} {wl : Nat → Nat} {wc : Nat → Nat → Nat} {bw : Nat → Nat} (h : iv_D dn bb Pw Lw Le Lt Wo wl wc bw) {t : Nat} (ht : t < dn) : Pw t = lN (xw_pk bw bb) ↔ xm_eq wl wc bw bb t := by
  obtain ⟨h1, h2, h3, -, h5, -⟩ := h
  obtain ⟨a1, -, a3, a4⟩ := h3 t ht
  have b1 := iv_pk_lt a3 a4
  have b2 := iv_pk_lt h2 h5
  rw [a1, pk_lEQ (by omega) (by omega)]
  constructor
  · intro e
    obtain ⟨e1, e2⟩ := xw_inj a4 h5 e
    exact ⟨e1, fun i hi => e2 i (by omega)⟩
  · rintro ⟨e1, e2⟩
    rw [e1]
    exact xw_congr e2
theorem iv_letter {dn bb c : Nat} {Pw : Nat → Int64} {Lw Le Lt Wo : Nat → Int32} {wl : Nat → Nat} {wc : Nat → Nat → Nat} {bw : Nat → Nat} (h : iv_D dn bb Pw Lw Le Lt Wo wl wc bw) (h0 : 33 ≤ c) (h1 : c ≤ 126) (hb : bb < 6) : iv_D dn (bb + 1) Pw Lw Le Lt (upd Wo bb (nI c)) wl wc (xm_add bw bb c) ∧ xw_pk (xm_add bw bb c) (bb + 1) = xw_pk bw bb * 128 + c := by
  obtain ⟨a1, a2, a3, a4, a5, a6⟩ := h
  refine ⟨⟨a1, by omega, a3, a4, fun i hi => ?_, fun i hi => ?_⟩, ?_⟩
  · unfold xm_add
    by_cases e : i = bb
    · rw [if_pos e]; omega
    · rw [if_neg e]; exact a5 i (by omega)
  · unfold xm_add
    by_cases e : i = bb
    · subst e; rw [pk_us, if_pos rfl]; exact ⟨rfl, by omega⟩
    · rw [pk_un e, if_neg e]; exact a6 i (by omega)
  · show xw_pk (xm_add bw bb c) bb * 128 + xm_add bw bb c bb = _
    have hz : xw_pk (xm_add bw bb c) bb = xw_pk bw bb := xw_congr (a := xm_add bw bb c) (b := bw) (n := bb) (fun i hi => if_neg (by omega))
    rw [show xm_add bw bb c bb = c from if_pos rfl, hz]
theorem iv_zero {dn bb : Nat} {Pw : Nat → Int64} {Lw Le Lt Wo : Nat → Int32} {wl : Nat → Nat} {wc : Nat → Nat → Nat} {bw : Nat → Nat} (h : iv_D dn bb Pw Lw Le Lt Wo wl wc bw) : iv_D dn 0 Pw Lw Le Lt Wo wl wc bw := ⟨h.1, by omega, h.2.2.1, h.2.2.2.1, fun i hi => absurd hi (by omega), fun i hi => absurd hi (by omega)⟩
def iv_wc (wc : Nat → Nat → Nat) (dn : Nat) (bw : Nat → Nat) : Nat → Nat → Nat := fun t => if t = dn then bw else wc t
theorem iv_new {dn bb : Nat} {Pw : Nat → Int64} {Lw Le Lt Lt' Wo : Nat → Int32} {wl : Nat → Nat} {wc : Nat → Nat → Nat} {bw : Nat → Nat} (h : iv_D dn bb Pw Lw Le Lt Wo wl wc bw) (hd : dn < 24) (hn : ∀ j, j < bb → Lt' (6 * dn + j) = nI (bw j)) (ho : ∀ j, j < 6 * dn → Lt' j = Lt j) : iv_D (dn + 1) 0 (vp_updL Pw dn (lN (xw_pk bw bb))) (upd Lw dn (nI bb)) (upd Le dn (nI bb)) Lt' Wo (xm_add wl dn bb) (iv_wc wc dn bw) bw := by
  obtain ⟨a1, a2, a3, a4, a5, a6⟩ := h
  refine ⟨by omega, by omega, fun t ht => ?_, fun t ht => ?_, fun i hi => absurd hi (by omega), fun i hi => absurd hi (by omega)⟩
  · unfold xm_add iv_wc
    by_cases e : t = dn
    · subst e
      rw [pk_uLs, pk_us, if_pos rfl, if_pos rfl]
      exact ⟨rfl, rfl, a2, a5⟩
    · rw [pk_uLn e, pk_un e, if_neg e, if_neg e]
      exact a3 t (by omega)
  · unfold xm_add iv_wc
    by_cases e : t = dn
    · subst e
      rw [pk_us, if_pos rfl, if_pos rfl]
      exact ⟨rfl, a2, fun i hi => ⟨hn i hi, (a5 i hi).2⟩⟩
    · rw [pk_un e, if_neg e, if_neg e]
      obtain ⟨b1, b2, b3⟩ := a4 t (by omega)
      exact ⟨b1, b2, fun i hi => by rw [ho _ (by omega)]; exact b3 i hi⟩
theorem iv_spell {w : Nat → Nat} {k i : Nat} (hk : k ≤ 6) (h : ∀ i, i < k → 0 < w i ∧ w i < 128) (hi : i < k) : xw_pk w k / 2 ^ (7 * (k - 1 - i)) % 128 = w i := by
  have := xw_at (lt := w) (n := k) (i := i) (fun j hj => (h j hj).2) hi
  rw [show (128 : Nat) = 2 ^ 7 from rfl, ← Nat.pow_mul] at this
  exact this
/-! the script -/
def xl_S (Γ : xz_G) (b L : Nat) (xs : Nat → Int32) : Prop := va_X b L xs (xz_s Γ) (xz_s Γ).heap ∧ b < (xz_s Γ).heap.size ∧ ¬ xz_A Γ b
section XL
variable {Γ : xz_G} {l : Launch} {D : va_G} {tys : xz_Y} {cc : ByteArray} {nL : Nat} {own : String} {rm : Room} {ret : Option FieldType} {nm : String} {Qp : xz_P} {cells slots : Nat} {ws : va_W} {pc : Nat} {lc : List (Nat × Value)} {st : List Value} {b L : Nat} {xs : Nat → Int32}
theorem xl_sld (hC : xz_C Γ l D tys cc nL own rm ret nm Qp) (hX : xl_S Γ b L xs) {n : Nat} (hn : n < L) (hL : L < 2 ^ 31) (d : decode cc pc = .ok (.iaload, 1)) (k : xz_X Γ cells slots ws (pc + 1) lc (.int (xs n) :: st)) : xz_X Γ cells slots ws pc lc (.int (nI n) :: .ref b :: st) := fun H locs ls hP hD hS hl => va_sld hC.hx hC.hb hX.1 hX.2.1 hX.2.2 hS (vp_in_nI hn hL) d (by rw [nI_clamp (by omega)]; exact k H locs ls hP hD hS hl)
theorem xl_slen (hC : xz_C Γ l D tys cc nL own rm ret nm Qp) (hX : xl_S Γ b L xs) (d : decode cc pc = .ok (.arraylength, 1)) (k : xz_X Γ cells slots ws (pc + 1) lc (.int (nI L) :: st)) : xz_X Γ cells slots ws pc lc (.ref b :: st) := fun H locs ls hP hD hS hl => va_slen hC.hx hC.hb hX.1 hX.2.1 hX.2.2 hS d (k H locs ls hP hD hS hl)
theorem xl_switch (hC : xz_C Γ l D tys cc nL own rm ret nm Qp) {dflt lo hi : Int} {offs : Array Int} {len : Nat} {x : Int32} {off : Int} {tgt : Nat} (h1 : ¬ x.toInt < lo) (h2 : ¬ hi < x.toInt) (ho : offs[(x.toInt - lo).toNat]? = some off) (ht : (pc : Int) + off = (tgt : Int)) (d : decode cc pc = .ok (.tableswitch dflt lo hi offs, len)) (k : xz_X Γ cells slots ws tgt lc st) : xz_X Γ cells slots ws pc lc (.int x :: st) := fun H locs ls hP hD hS hl => lv_tableIn hC.hx hC.hb d h1 h2 ho ht (k H locs ls hP hD hS hl)
end XL
/-- both ends of an answer that is a truth -/
theorem iv_bI {a c : Bool} : (bI a).toInt = (bI c).toInt ↔ a = c := by cases a <;> cases c <;> decide +kernel
