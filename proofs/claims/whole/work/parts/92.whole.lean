/-! the law's body, whole -/
theorem whole_start {p : Program} {e : Env} {s : State} {m : MethodId} {below : List Frame} {meth : Method} {c : Code} (l : Launch) {b L : Nat} {xs : Nat → Int32} (hL : L ≤ 2048) (C0 : lw_At p s m meth c b L xs) : W p l e room_1 s m #[Value.ref b] below meth c s.heap [] 0 0 (lw_Z below #[Value.ref b] s) (entryFrame m ([Value.ref b] : List Value).toArray 4) := by
  obtain ⟨hx, hb, hr, hml, hown, hts, hX, hbl, hlk, hg⟩ := C0
  obtain ⟨D, K, hK, hN⟩ := xl_known hts
  obtain ⟨tP, hZ⟩ := xl_Z hts hg
  refine xl_fin (D := D) (tys := tz K) ?_
  have hC : xz_C ((p, l, e, room_1, s, m, #[Value.ref b], below, meth, c), D, tz K, (fun q => s.heap.size ≤ q), 4, (fun v _ => v = some (.int (bI true))), 600000, 7302250) l D (tz K) code 4 "SixfoldTriplesLaw" room_1 (some .boolean) meth.name (fun v _ => v = some (.int (bI true))) := ⟨⟨hx, hb, hml, hown, fun w hw => hts w (tb_in hw)⟩, hK, fun q h => h, hlk, hr, rfl, rfl, rfl, rfl, rfl, rfl, rfl, rfl, rfl, hN⟩
  have h1 := xl_law hC (b := b) (L := L) (xs := xs) ⟨hX, hbl, fun z => absurd hbl (Nat.not_lt.mpr z)⟩ hL hZ (fun _ => rfl)
  rw [lg_entry_eq]
  exact h1 s.heap [] _ (fr_P.mpr (fun q hq => absurd hq List.not_mem_nil)) (fr_D.mpr ⟨List.nodup_nil, fun q hq => absurd hq List.not_mem_nil⟩) va_S.rf (lv_entry [Value.ref b] (Nat.le_of_ble_eq_true rfl))
