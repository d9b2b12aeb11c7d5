/-! what is known at the law's start: classes, array classes, words -/
def x7 {α : Type} (a b c d e f g : α) : Nat → α := fun k => match k with
  | 0 => a
  | 1 => b
  | 2 => c
  | 3 => d
  | 4 => e
  | 5 => f
  | _ => g
theorem xl_known {s : State} {args : Array Value} (hts : ∀ w ∈ lw_tbl, w.before args s = true) : ∃ (D : va_G) (K : Nat → ClassId), va_K D vwCl (tz K) s ∧ xz_N s := by
  have htb : ∀ w ∈ tb, w.before args s = true := fun w hw => hts w (tb_in hw)
  obtain ⟨c0, i0, h0⟩ := u_known (C := RDi) (T := TDi) htb inDi (htb _ tq18)
  obtain ⟨c1, i1, h1⟩ := u_known (C := ROr) (T := TOr) htb inOr (htb _ tq53)
  obtain ⟨c2, i2, h2⟩ := u_known (C := RQu) (T := TQu) htb inQu (htb _ tq93)
  obtain ⟨c3, i3, h3⟩ := u_known (C := RSe) (T := TSe) htb inSe (htb _ tq108)
  obtain ⟨c4, i4, h4⟩ := u_known (C := RTs) (T := TTs) htb inTs (htb _ tq43)
  obtain ⟨c5, i5, h5⟩ := u_known (C := RSx) (T := TSx) htb inSx (htb _ tq10)
  obtain ⟨c6, i6, h6⟩ := u_known (C := RMo) (T := TMo) htb inMo (htb _ tq424)
  obtain ⟨a0, k0, m0, f0, g0, e0⟩ := Cond.arrayClass_spec (htb _ tq41)
  obtain ⟨a1, k1, m1, f1, g1, e1⟩ := Cond.arrayClass_spec (htb _ tq40)
  obtain ⟨a2, k2, m2, f2, g2, e2⟩ := Cond.arrayClass_spec (htb _ tq487)
  obtain ⟨a3, k3, m3, f3, g3, e3⟩ := Cond.arrayClass_spec (htb _ tq488)
  have hao : (Cond.arrayOver (.object "SixfoldTriples$Order")).before args s = true := hts _ (List.mem_of_getElem? (i := 78) (by decide +kernel))
  obtain ⟨m4, a4, k4, f4, -, g4, e4, j4⟩ := Cond.arrayOver_spec hao
  refine ⟨(x7 c0 c1 c2 c3 c4 c5 c6, x7 i0 i1 i2 i3 i4 i5 i6), x7 a0 a1 a2 a3 a4 a4 a4, ⟨fun c q hq => ?_, fun k q hq => ?_⟩, fun w hw => ?_, hao⟩
  · have hl : c < 7 := (List.getElem?_eq_some_iff.mp hq).1
    rcases (show c = 0 ∨ c = 1 ∨ c = 2 ∨ c = 3 ∨ c = 4 ∨ c = 5 ∨ c = 6 by omega) with rfl | rfl | rfl | rfl | rfl | rfl | rfl
    · cases hq; exact h0
    · cases hq; exact h1
    · cases hq; exact h2
    · cases hq; exact h3
    · cases hq; exact h4
    · cases hq; exact h5
    · cases hq; exact h6
  · have hl : k < 5 := (List.getElem?_eq_some_iff.mp hq).1
    rcases (show k = 0 ∨ k = 1 ∨ k = 2 ∨ k = 3 ∨ k = 4 by omega) with rfl | rfl | rfl | rfl | rfl
    · cases hq; exact ⟨fun n z => ⟨fun k h => (by cases h), k0, g0, m0, e0⟩, f0⟩
    · cases hq; exact ⟨fun n z => ⟨fun k h => (by cases h), k1, g1, m1, e1⟩, f1⟩
    · cases hq; exact ⟨fun n z => ⟨fun k h => (by cases h), k2, g2, m2, e2⟩, f2⟩
    · cases hq; exact ⟨fun n z => ⟨fun k h => (by cases h), k3, g3, m3, e3⟩, f3⟩
    · cases hq; exact ⟨fun n z => ⟨fun k h => (by cases h), k4, g4, m4, e4⟩, k4, m4, g4, e4, f4, j4⟩
  · have h1 := hts w (List.mem_filter.mp hw).1
    have h2 := (List.mem_filter.mp hw).2
    cases w <;> first | (cases h2; done) | exact va_Nw.of rfl h1
