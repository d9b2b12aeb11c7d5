/-! a call over the front of a world; blocks in another order -/
theorem fr_sw (a b c : va_W) : (a ++ (b ++ c)).Perm (b ++ (a ++ c)) := by
  rw [← List.append_assoc, ← List.append_assoc]
  exact List.Perm.append_right c List.perm_append_comm
theorem xz_swap {Γ : xz_G} {cells slots : Nat} {a b c : va_W} {pc : Nat} {lc : List (Nat × Value)} {st : List Value} (k : xz_X Γ cells slots (b ++ (a ++ c)) pc lc st) : xz_X Γ cells slots (a ++ (b ++ c)) pc lc st := xz_perm (fr_sw a b c) k
theorem fr_pm (ws : va_W) {ws' : va_W} (is : List Nat) (h : is.Perm (List.range ws.length)) (h1 : is.map (fun i => ws[i]?) = ws'.map some) : ws.Perm ws' := by
  have e0 := fr_1 ws []
  rw [List.append_nil] at e0
  have e1 := (h.map (fun i => ws[i]?)).filterMap id
  rw [h1, e0] at e1
  have e2 : ∀ l : va_W, (l.map some).filterMap id = l := fun l => by rw [List.filterMap_map]; simp
  rw [e2, e2] at e1
  exact e1.symm
theorem xz_callVF {Γ : xz_G} {l : Launch} {D : va_G} {tys : xz_Y} {cc : ByteArray} {nL : Nat} {own : String} {rm : Room} {ret : Option FieldType} {nm : String} {Qp : xz_P} {cells slots : Nat} {pc : Nat} {lc : List (Nat × Value)} {st : List Value} (hC : xz_C Γ l D tys cc nL own rm ret nm Qp) {y : MethodName} {bytes : ByteArray} {maxL index b : Nat} {retC : Option FieldType} {rmC : Room} {av As rest : List Value} {wc wR : va_W} {Q1 : xz_P} (hM : xz_Met l D tys y bytes maxL retC rmC av wc Q1) (mcd : Cond.code y bytes maxL retC ∈ tb) (mini : Cond.initialized y.cls ∈ tb) (mlink : Cond.methodLink own index y ∈ tb) (minst : Cond.instanceMethod y ∈ tb) (msel : Cond.selects y.cls y y ∈ tb) (ci : Nat) {fs : List Value} {r : vw_C} (he : wc[0]? = some (b, .inr (ci, fs))) (hc : vwCl[ci]? = some r) (hr : r.1 = y.cls) (hd : y.cls ≠ "java/lang/invoke/MethodHandle" ∧ y.cls ≠ "java/lang/invoke/VarHandle" ∧ (parseMethodDescriptor y.desc).map (fun d => d.parameters.length) = some As.length) (hRm : rmC.frames + 1 ≤ rm.frames ∧ 8 + (maxL + 11) + rmC.locals ≤ rm.locals) (hav : av = .ref b :: As) (hst : st = As.reverse ++ .ref b :: rest) (hroom : (rest.map fun v => v.category).sum ≤ 8) (hf : cells + rmC.cells ≤ rm.cells ∧ slots + rmC.slots ≤ rm.slots) (d : decode cc pc = .ok (.invokevirtual index, 3)) (k : ∀ (v : Option Value) (w : va_W), Q1 v w → xz_X Γ (cells + rmC.cells) (slots + rmC.slots) (w ++ wR) (pc + 3) lc (v.toList ++ rest)) : xz_X Γ cells slots (wc ++ wR) pc lc st := by
  have h0 : (wc ++ wR)[0]? = some (b, .inr (ci, fs)) := by
    rw [List.getElem?_append_left (List.getElem?_eq_some_iff.mp he).1]; exact he
  exact xz_callV hC (host := "") hM mcd mini mlink minst msel 0 ci h0 hc hr hd hRm (List.range wc.length) (fr_R wc.length wR.length) (fr_0 _) (fr_1 wc wR) (wr := wR) (fr_2 wc wR) (fr_3 _ _) (fr_4 _ _) hav hst hroom hf d (fun v w hq => xz_perm List.perm_append_comm (k v w hq))
theorem xc_pos {p : Nat → Bool} : ∀ {n i : Nat}, i < n → p i = true → 1 ≤ xc_n p n
  | 0, i, h, _ => absurd h (by omega)
  | n + 1, i, h, hp => by
    by_cases e : i = n
    · subst e
      simp only [xc_n, hp, if_true]
      omega
    · have := xc_pos (p := p) (n := n) (i := i) (by omega) hp
      simp only [xc_n]
      omega
theorem iv_pos1 {pp s0 : Nat → Nat} {n m c : Nat} (h1 : ¬ xo_mem pp n c) (h2 : xo_mem s0 m c) : 1 ≤ xo_pd pp n s0 m := by
  obtain ⟨i, hi, e⟩ := h2
  have := xc_pos (p := fun i => !xo_mb pp (s0 i) n) hi (by
    show (!xo_mb pp (s0 i) n) = true
    rw [e]
    cases hb : xo_mb pp c n with
    | false => rfl
    | true => exact absurd (xo_mb_iff.mp hb) h1)
  unfold xo_pd
  omega
theorem iv_pos2 {pp s0 : Nat → Nat} {n m c : Nat} (h1 : xo_mem pp n c) (h2 : ¬ xo_mem s0 m c) : 1 ≤ xo_pd pp n s0 m := by
  obtain ⟨i, hi, e⟩ := h1
  have := xc_pos (p := fun i => !xo_mb s0 (pp i) m) hi (by
    show (!xo_mb s0 (pp i) m) = true
    rw [e]
    cases hb : xo_mb s0 c m with
    | false => rfl
    | true => exact absurd (xo_mb_iff.mp hb) h2)
  unfold xo_pd
  omega
