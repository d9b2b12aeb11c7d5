/-! rows for the reference's run; contracts of methods that read the static table -/
theorem xm_var {x : Int32} (h : xq_ev x < 3) : x = nI (32 + xq_ev x) := by
  have hx := xq_ev3.mp h
  obtain ⟨t, ht, rfl⟩ := xn_of (x := x) (n := 35) (by omega) (by omega)
  have hz : (nI t).toInt = (t : Int) := nI_toInt (by omega)
  rw [← xq_ev_t (by omega) ht, show 32 + (t - 32) = t by omega]
theorem xs_rw_le {r : Nat → Nat} {d u : Nat} (h : xs_rw r d) (hu : u ≤ d) : xs_rw r u := ⟨Nat.le_trans hu h.1, fun j hj => h.2.1 j (by omega), fun i j hi hj e => h.2.2 i j (by omega) (by omega) e⟩
theorem xm_rr {R : Nat → Int32} {x y z : Int32} {d : Nat} (h0 : R 0 = x) (h1 : R 1 = y) (h2 : R 2 = z) (hr : xs_rw (x3 (xq_ev x) (xq_ev y) (xq_ev z)) d) : ∀ j, j < d → R j = nI (32 + x3 (xq_ev x) (xq_ev y) (xq_ev z) j) := by
  intro j hj
  have hd := hr.1
  have hlt := hr.2.1 j hj
  rcases (show j = 0 ∨ j = 1 ∨ j = 2 by omega) with rfl | rfl | rfl
  · rw [h0]; exact xm_var hlt
  · rw [h1]; exact xm_var hlt
  · rw [h2]; exact xm_var hlt
/-- the table of the ways, as the statement gives it -/
def xz_tab : Nat → Value := fun j => .int (nI ([0, 1, 2, 0, 2, 1, 1, 0, 2, 1, 2, 0, 2, 0, 1, 2, 1, 0].getD j 0))
def xz_Z (tP : Nat) (A : Nat → Prop) (U : State) (H : Heap) : Prop := va_Z "SixfoldTriples" "PARTS_OF_WAYS" "[I" (.ref tP) A U H ∧ va_T .int tP 18 xz_tab A U H
def xz_PcZ (D : va_G) (tys : xz_Y) (av : List Value) (wc : va_W) (sz tP : Nat) : Array Value → State → Prop := fun a U => xz_Pc D tys av wc sz a U ∧ xz_Z tP (va_A wc sz) U U.heap
def xz_MetZ (l : Launch) (D : va_G) (tys : xz_Y) (tP : Nat) (y : MethodName) (cc : ByteArray) (nL : Nat) (ret : Option FieldType) (rm : Room) (av : List Value) (wc : va_W) (Qp : xz_P) : Prop := ∀ sz : Nat, Met l y (Cond.code y cc nL ret :: tb) rm (xz_PcZ D tys av wc sz tP) (xz_Qc D tys Qp (va_A wc sz)) rm.cells rm.slots (va_A wc sz)
theorem xz_enterZ {l : Launch} {D : va_G} {tys : xz_Y} {cc : ByteArray} {nL tP : Nat} {rm : Room} {ret : Option FieldType} {Qp : xz_P} {y : MethodName} {av : List Value} {wc : va_W} (hy : plainName y.cls = true) (hn : (lg_sl av).length ≤ nL)
    (body : ∀ Γ : xz_G, xz_C Γ l D tys cc nL y.cls rm ret y.name Qp → xz_Z tP (xz_A Γ) (xz_s Γ) (xz_s Γ).heap → xz_X Γ 0 0 wc 0 (lv_args 0 av) []) : xz_MetZ l D tys tP y cc nL ret rm av wc Qp := by
  intro sz
  refine Met.ofW (cc := cc) (maxL := nL) (ret := ret) hy rfl ?_
  intro p e s m args below meth c s₁ B hml hv
  obtain ⟨⟨rfl, hsz, hP, hK, hD0, hN⟩, hZ⟩ := hv
  subst hsz
  have hts := atoms_spec (ws := Cond.code y cc nL ret :: tb) B.pre
  have hown : s.vm.findClass y.cls = some m.cls := findClass_of_methodNamed B.named
  have h1 := body ((p, l, e, rm, s, m, av.toArray, below, meth, c), D, tys, va_A wc s.heap.size, nL, Qp, rm.cells, rm.slots)
    ⟨⟨B.exec, B.bytes, hml, hown, fun w hw => hts w (List.mem_cons_of_mem _ hw)⟩, hK, fun q h => Or.inr h, B.notSynchronized, B.returns, (name_of_methodNamed B.named B.method).1, rfl, rfl, rfl, rfl, rfl, rfl, rfl, rfl, hN⟩ hZ
  rw [lg_entry_eq]
  exact h1 s.heap [] _ hP hD0.self va_S.rf (lv_entry av hn)
theorem xz_blindZ {D : va_G} {tys : xz_Y} {av : List Value} {wc : va_W} {sz tP : Nat} : FrameBlind (xz_PcZ D tys av wc sz tP) := fun a U g mk q =>
  ⟨xz_blind a U g mk q.1, va_Z.moved (u := U) (U := U.calling g mk a) (Vm.Alike.refl U.vm) q.2.1, va_T.moved (u := U) (U := U.calling g mk a) (Vm.Alike.refl U.vm) q.2.2⟩
section XZZ
variable {Γ : xz_G} {l : Launch} {D : va_G} {tys : xz_Y} {cc : ByteArray} {nL tP : Nat} {own : String} {rm : Room} {ret : Option FieldType} {nm : String} {Qp : xz_P} {cells slots : Nat} {ws : va_W} {pc : Nat} {lc : List (Nat × Value)} {st : List Value}
theorem xz_preZ (hC : xz_C Γ l D tys cc nL own rm ret nm Qp) (hZ : xz_Z tP (xz_A Γ) (xz_s Γ) (xz_s Γ).heap) {av : List Value} {wc : va_W} {H : Heap} {locs : List Loc} (hP : va_P (xz_D Γ) vwCl ws H) (hD : va_D (xz_A Γ) ws) (hS : va_S (xz_A Γ) (xz_s Γ).heap H locs) (isC : List Nat) (h0 : va_nd isC = true) (h1 : isC.map (fun i => ws[i]?) = wc.map some) : ∀ U : State, U.heap = H → (xz_s Γ).WarmedH U.vm → xz_PcZ D tys av wc H.size tP av.toArray U := by
  intro U hU hW
  have hF := va_free hD hS hC.hA isC h1
  refine ⟨xz_pre hC hP hD isC h0 h1 U hU hW, ?_, ?_⟩
  · rw [hU]; exact ((hZ.1.kept (fun a g1 g2 => hS.2.1 a g1 g2)).narrow hF).moved hW.alike
  · rw [hU]; exact ((hZ.2.kept (fun a g1 g2 => hS.2.1 a g1 g2)).narrow hF).moved hW.alike
theorem xz_callSZ (hC : xz_C Γ l D tys cc nL own rm ret nm Qp) (hZ : xz_Z tP (xz_A Γ) (xz_s Γ) (xz_s Γ).heap) {y : MethodName} {bytes : ByteArray} {maxL index : Nat} {retC : Option FieldType} {rmC : Room} {av rest : List Value} {wc wr : va_W} {Q1 : xz_P} (hM : xz_MetZ l D tys tP y bytes maxL retC rmC av wc Q1) (mcd : Cond.code y bytes maxL retC ∈ tb) (mini : Cond.initialized y.cls ∈ tb) (mlink : Cond.methodLink own index y ∈ tb) (mst : Cond.static y ∈ tb) (hd : y.cls ≠ "java/lang/invoke/MethodHandle" ∧ y.cls ≠ "java/lang/invoke/VarHandle" ∧ (parseMethodDescriptor y.desc).map (fun d => d.parameters.length) = some av.length) (hRm : rmC.frames + 1 ≤ rm.frames ∧ 8 + (maxL + 11) + rmC.locals ≤ rm.locals) (isC isR : List Nat) (h0 : va_nd isC = true) (h1 : isC.map (fun i => ws[i]?) = wc.map some) (h2 : isR.map (fun i => ws[i]?) = wr.map some) (h3 : va_nd isR = true) (h4 : ∀ i ∈ isR, i ∉ isC) (hst : st = av.reverse ++ rest) (hroom : (rest.map fun v => v.category).sum ≤ 8) (hf : cells + rmC.cells ≤ rm.cells ∧ slots + rmC.slots ≤ rm.slots) (d : decode cc pc = .ok (.invokestatic index, 3)) (k : ∀ (v : Option Value) (w : va_W), Q1 v w → xz_X Γ (cells + rmC.cells) (slots + rmC.slots) (wr ++ w) (pc + 3) lc (v.toList ++ rest)) : xz_X Γ cells slots ws pc lc st := by
  intro H locs ls hP hD hS hl
  subst hst
  have hM' : Met (xz_l Γ) y (Cond.code y bytes maxL retC :: tb) rmC (xz_PcZ D tys av wc H.size tP) (xz_Qc D tys Q1 (va_A wc H.size)) rmC.cells rmC.slots (va_A wc H.size) := by rw [hC.hl]; exact hM H.size
  have hR : cells + rmC.cells ≤ (xz_R Γ).cells ∧ slots + rmC.slots ≤ (xz_R Γ).slots := by rw [hC.hR]; exact hf
  have hR2 : rmC.frames + 1 ≤ (xz_R Γ).frames ∧ 8 + (maxL + 11) + rmC.locals ≤ (xz_R Γ).locals := by rw [hC.hR]; exact hRm
  have cn : CallB (xz_R Γ) (xz_s Γ) (xz_ar Γ) own index y bytes maxL retC (Cond.code y bytes maxL retC :: tb) rmC rmC.cells rmC.slots av.length := callB_of av.length hC.hts (tb_good mcd) rfl rfl rfl (hC.hts _ mini) (hC.hts _ mlink) hd hR2
  exact xz_back hC (va_runS hC.fix hM' ⟨cn, hC.hts _ mst⟩ ⟨xz_blindZ, xz_preZ hC hZ hP hD hS isC h0 h1⟩ rfl rfl (hl.1.trans hC.hn) rfl (lv_room hroom) d hR) rfl hP hD hS hl isC isR h1 h2 h3 h4 k
theorem xz_callIZ (hC : xz_C Γ l D tys cc nL own rm ret nm Qp) (hZ : xz_Z tP (xz_A Γ) (xz_s Γ) (xz_s Γ).heap) {y : MethodName} {bytes : ByteArray} {maxL index b : Nat} {rmC : Room} {av As rest : List Value} {wc wr : va_W} {Q1 : xz_P} (hM : xz_MetZ l D tys tP y bytes maxL none rmC av wc Q1) (mcd : Cond.code y bytes maxL none ∈ tb) (mini : Cond.initialized y.cls ∈ tb) (mlink : Cond.methodLink own index y ∈ tb) (minst : Cond.instanceMethod y ∈ tb) (hyi : y.name = "<init>") (hd : y.cls ≠ "java/lang/invoke/MethodHandle" ∧ y.cls ≠ "java/lang/invoke/VarHandle" ∧ (parseMethodDescriptor y.desc).map (fun d => d.parameters.length) = some As.length) (hRm : rmC.frames + 1 ≤ rm.frames ∧ 8 + (maxL + 11) + rmC.locals ≤ rm.locals) (isC isR : List Nat) (h0 : va_nd isC = true) (h1 : isC.map (fun i => ws[i]?) = wc.map some) (h2 : isR.map (fun i => ws[i]?) = wr.map some) (h3 : va_nd isR = true) (h4 : ∀ i ∈ isR, i ∉ isC) (hav : av = .ref b :: As) (hst : st = As.reverse ++ .ref b :: rest) (hroom : (rest.map fun v => v.category).sum ≤ 8) (hf : cells + rmC.cells ≤ rm.cells ∧ slots + rmC.slots ≤ rm.slots) (d : decode cc pc = .ok (.invokespecial index, 3)) (k : ∀ (v : Option Value) (w : va_W), Q1 v w → xz_X Γ (cells + rmC.cells) (slots + rmC.slots) (wr ++ w) (pc + 3) lc (v.toList ++ rest)) : xz_X Γ cells slots ws pc lc st := by
  intro H locs ls hP hD hS hl
  subst hav
  subst hst
  have hM' : Met (xz_l Γ) y (Cond.code y bytes maxL none :: tb) rmC (xz_PcZ D tys (.ref b :: As) wc H.size tP) (xz_Qc D tys Q1 (va_A wc H.size)) rmC.cells rmC.slots (va_A wc H.size) := by rw [hC.hl]; exact hM H.size
  have hR : cells + rmC.cells ≤ (xz_R Γ).cells ∧ slots + rmC.slots ≤ (xz_R Γ).slots := by rw [hC.hR]; exact hf
  have hR2 : rmC.frames + 1 ≤ (xz_R Γ).frames ∧ 8 + (maxL + 11) + rmC.locals ≤ (xz_R Γ).locals := by rw [hC.hR]; exact hRm
  have cn : CallB (xz_R Γ) (xz_s Γ) (xz_ar Γ) own index y bytes maxL none (Cond.code y bytes maxL none :: tb) rmC rmC.cells rmC.slots As.length := callB_of As.length hC.hts (tb_good mcd) rfl rfl rfl (hC.hts _ mini) (hC.hts _ mlink) hd hR2
  exact xz_back hC (va_runI hC.fix hM' ⟨cn, hyi, hC.hts _ minst⟩ ⟨xz_blindZ, xz_preZ hC hZ hP hD hS isC h0 h1⟩ rfl rfl (hl.1.trans hC.hn) rfl (lv_room hroom) d hR) rfl hP hD hS hl isC isR h1 h2 h3 h4 k
theorem xz_getsN (hC : xz_C Γ l D tys cc nL own rm ret nm Qp) (hZ : xz_Z tP (xz_A Γ) (xz_s Γ) (xz_s Γ).heap) {index : Nat} {host : String} (hlink : Cond.fieldLinkNest own index "SixfoldTriples" "PARTS_OF_WAYS" "[I" host ∈ tn) (d : decode cc pc = .ok (.getstatic index, 3)) (k : xz_X Γ cells slots ws (pc + 3) lc (.ref tP :: st)) : xz_X Γ cells slots ws pc lc st := fun H locs ls hP hD hS hl => va_getsN hC.hx hC.hb hZ.1 hS hC.hown (hC.hN hlink) (fun x h => h) d (k H locs ls hP hD hS hl)
theorem xz_tald (hC : xz_C Γ l D tys cc nL own rm ret nm Qp) (hZ : xz_Z tP (xz_A Γ) (xz_s Γ) (xz_s Γ).heap) {n v : Nat} (hn : n < 18) (hv : xz_tab n = .int (nI v)) (d : decode cc pc = .ok (.iaload, 1)) (k : xz_X Γ cells slots ws (pc + 1) lc (.int (nI v) :: st)) : xz_X Γ cells slots ws pc lc (.int (nI n) :: .ref tP :: st) := fun H locs ls hP hD hS hl => va_ti hC.hx hC.hb hZ.2 hS (vp_in_nI hn (by decide)) (by rw [nI_clamp (by omega)]; exact hv) d (k H locs ls hP hD hS hl)
end XZZ
