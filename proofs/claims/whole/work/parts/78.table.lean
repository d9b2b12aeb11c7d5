/-! the static table at the law's start -/
theorem xl_eqi {args : Array Value} {s : State} {t : Term} {z : Int32} (h : (Cond.eq t (.int z)).before args s = true) : t.eval args s none [] s = some (.int z) := by
  cases hv : t.eval args s none [] s with
  | none => simp [Cond.before, Cond.holds, Cond.value, hv] at h
  | some w =>
    have hz : (Term.int z).eval args s none [] s = some (.int z) := rfl
    simp only [Cond.before, Cond.holds, Cond.value, hv, hz] at h
    cases w <;> simp_all
theorem xl_Z {s : State} {b : Nat} (hts : ∀ w ∈ lw_tbl, w.before #[Value.ref b] s = true) (hg : (Jvm.Cond.and given_1 narrow_1).before #[Value.ref b] s = true) : ∃ tP : Nat, xz_Z tP (fun q => s.heap.size ≤ q) s s.heap := by
  have hs := flat_of_before _ hg
  have hA : ∀ a : Nat, a < s.heap.size → ¬ s.heap.size ≤ a := fun a h => by omega
  have harr : (Cond.arrayOf (Term.static "SixfoldTriples" "PARTS_OF_WAYS" "[I") .int).before #[Value.ref b] s = true := hs _ (by decide +kernel)
  have hlen : (Term.length (Term.static "SixfoldTriples" "PARTS_OF_WAYS" "[I")).eval #[Value.ref b] s none [] s = some (.int (Int32.ofNat 18)) := xl_eqi (hs (.eq (.length (Term.static "SixfoldTriples" "PARTS_OF_WAYS" "[I")) (.int 18)) (by decide +kernel))
  have hel : ∀ j : Nat, j < 18 → (Term.elem (Term.static "SixfoldTriples" "PARTS_OF_WAYS" "[I") (.int (Int32.ofNat j))).eval #[Value.ref b] s none [] s = some (xz_tab j) := by
    intro j hj
    rcases (show j = 0 ∨ j = 1 ∨ j = 2 ∨ j = 3 ∨ j = 4 ∨ j = 5 ∨ j = 6 ∨ j = 7 ∨ j = 8 ∨ j = 9 ∨ j = 10 ∨ j = 11 ∨ j = 12 ∨ j = 13 ∨ j = 14 ∨ j = 15 ∨ j = 16 ∨ j = 17 by omega) with rfl | rfl | rfl | rfl | rfl | rfl | rfl | rfl | rfl | rfl | rfl | rfl | rfl | rfl | rfl | rfl | rfl | rfl
    · exact xl_eqi (hs (.eq (.elem (Term.static "SixfoldTriples" "PARTS_OF_WAYS" "[I") (.int 0)) (.int 0)) (by decide +kernel))
    · exact xl_eqi (hs (.eq (.elem (Term.static "SixfoldTriples" "PARTS_OF_WAYS" "[I") (.int 1)) (.int 1)) (by decide +kernel))
    · exact xl_eqi (hs (.eq (.elem (Term.static "SixfoldTriples" "PARTS_OF_WAYS" "[I") (.int 2)) (.int 2)) (by decide +kernel))
    · exact xl_eqi (hs (.eq (.elem (Term.static "SixfoldTriples" "PARTS_OF_WAYS" "[I") (.int 3)) (.int 0)) (by decide +kernel))
    · exact xl_eqi (hs (.eq (.elem (Term.static "SixfoldTriples" "PARTS_OF_WAYS" "[I") (.int 4)) (.int 2)) (by decide +kernel))
    · exact xl_eqi (hs (.eq (.elem (Term.static "SixfoldTriples" "PARTS_OF_WAYS" "[I") (.int 5)) (.int 1)) (by decide +kernel))
    · exact xl_eqi (hs (.eq (.elem (Term.static "SixfoldTriples" "PARTS_OF_WAYS" "[I") (.int 6)) (.int 1)) (by decide +kernel))
    · exact xl_eqi (hs (.eq (.elem (Term.static "SixfoldTriples" "PARTS_OF_WAYS" "[I") (.int 7)) (.int 0)) (by decide +kernel))
    · exact xl_eqi (hs (.eq (.elem (Term.static "SixfoldTriples" "PARTS_OF_WAYS" "[I") (.int 8)) (.int 2)) (by decide +kernel))
    · exact xl_eqi (hs (.eq (.elem (Term.static "SixfoldTriples" "PARTS_OF_WAYS" "[I") (.int 9)) (.int 1)) (by decide +kernel))
    · exact xl_eqi (hs (.eq (.elem (Term.static "SixfoldTriples" "PARTS_OF_WAYS" "[I") (.int 10)) (.int 2)) (by decide +kernel))
    · exact xl_eqi (hs (.eq (.elem (Term.static "SixfoldTriples" "PARTS_OF_WAYS" "[I") (.int 11)) (.int 0)) (by decide +kernel))
    · exact xl_eqi (hs (.eq (.elem (Term.static "SixfoldTriples" "PARTS_OF_WAYS" "[I") (.int 12)) (.int 2)) (by decide +kernel))
    · exact xl_eqi (hs (.eq (.elem (Term.static "SixfoldTriples" "PARTS_OF_WAYS" "[I") (.int 13)) (.int 0)) (by decide +kernel))
    · exact xl_eqi (hs (.eq (.elem (Term.static "SixfoldTriples" "PARTS_OF_WAYS" "[I") (.int 14)) (.int 1)) (by decide +kernel))
    · exact xl_eqi (hs (.eq (.elem (Term.static "SixfoldTriples" "PARTS_OF_WAYS" "[I") (.int 15)) (.int 2)) (by decide +kernel))
    · exact xl_eqi (hs (.eq (.elem (Term.static "SixfoldTriples" "PARTS_OF_WAYS" "[I") (.int 16)) (.int 1)) (by decide +kernel))
    · exact xl_eqi (hs (.eq (.elem (Term.static "SixfoldTriples" "PARTS_OF_WAYS" "[I") (.int 17)) (.int 0)) (by decide +kernel))
  obtain ⟨tP, h1, h2⟩ := va_Tof (A := fun q => s.heap.size ≤ q) (f := xz_tab) (by decide) harr hlen hel hA
  exact ⟨tP, va_Zof (hts _ (List.mem_of_getElem? (i := 84) (by decide +kernel))) (hts _ (List.mem_of_getElem? (i := 30) (by decide +kernel))) h1 hA, h2⟩
