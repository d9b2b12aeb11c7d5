/-! names: classes, methods, the words of the tables: by program (wip/whole/gen/gen_names.py) out of the claim -/
def tb : List Cond := lw_tbl.filter goodWord
theorem tb_of {w : Cond} (i : Nat) (h : lw_tbl[i]? = some w) (g : goodWord w = true) : w ∈ tb := List.mem_filter.mpr ⟨List.mem_of_getElem? h, g⟩
theorem tb_in {w : Cond} (h : w ∈ tb) : w ∈ lw_tbl := (List.mem_filter.mp h).1
theorem tb_good {c : Cond} (h : c ∈ tb) : GoodIn tb (c :: tb) := fun w hw => by
  have hm : w ∈ tb := (List.mem_cons.mp hw).elim (fun e => e ▸ h) (fun z => z)
  exact ⟨hm, good_of_word (List.mem_filter.mp hm).2⟩
def RDi : String := "SixfoldTriples$Dictionary"
def TDi : u_T := fun k => match k with
  | 0 => ("SixfoldTriples$Dictionary", "packedWords", "[J", true)
  | 1 => ("SixfoldTriples$Dictionary", "lengths", "[I", true)
  | 2 => ("SixfoldTriples$Dictionary", "count", "I", false)
  | 3 => ("SixfoldTriples$Dictionary", "begun", "J", false)
  | _ => ("SixfoldTriples$Dictionary", "begunLength", "I", false)
def tyDi : Nat → FieldType := fun k => match k with
  | 0 => .array .long
  | 1 => .array .int
  | 2 => .int
  | 3 => .long
  | _ => .int
theorem nmDi : ∀ a, a < 5 → ∀ b, b < 5 → a ≠ b → (TDi a).2.1 ≠ (TDi b).2.1 := by decide +kernel
theorem tyDi_ok : ∀ k, k < 5 → parseFieldDescriptor (TDi k).2.2.1 = some (tyDi k) := by decide +kernel
def ROr : String := "SixfoldTriples$Order"
def TOr : u_T := fun k => match k with
  | 0 => ("SixfoldTriples$Order", "firstPart", "I", true)
  | 1 => ("SixfoldTriples$Order", "secondPart", "I", true)
  | 2 => ("SixfoldTriples$Order", "thirdPart", "I", true)
  | 3 => ("SixfoldTriples$Order", "keys", "[I", true)
  | _ => ("SixfoldTriples$Order", "count", "I", false)
def tyOr : Nat → FieldType := fun k => match k with
  | 0 => .int
  | 1 => .int
  | 2 => .int
  | 3 => .array .int
  | _ => .int
theorem nmOr : ∀ a, a < 5 → ∀ b, b < 5 → a ≠ b → (TOr a).2.1 ≠ (TOr b).2.1 := by decide +kernel
theorem tyOr_ok : ∀ k, k < 5 → parseFieldDescriptor (TOr k).2.2.1 = some (tyOr k) := by decide +kernel
def RQu : String := "SixfoldTriples$Question"
def TQu : u_T := fun k => match k with
  | 0 => ("SixfoldTriples$Question", "numbers", "[I", true)
  | _ => ("SixfoldTriples$Question", "count", "I", false)
def tyQu : Nat → FieldType := fun k => match k with
  | 0 => .array .int
  | _ => .int
theorem nmQu : ∀ a, a < 2 → ∀ b, b < 2 → a ≠ b → (TQu a).2.1 ≠ (TQu b).2.1 := by decide +kernel
theorem tyQu_ok : ∀ k, k < 2 → parseFieldDescriptor (TQu k).2.2.1 = some (tyQu k) := by decide +kernel
def RSe : String := "SixfoldTriples$Search"
def TSe : u_T := fun k => match k with
  | 0 => ("SixfoldTriples$Search", "row", "[I", true)
  | 1 => ("SixfoldTriples$Search", "rowLength", "I", false)
  | 2 => ("SixfoldTriples$Search", "wordCount", "I", false)
  | 3 => ("SixfoldTriples$Search", "patternCount", "I", false)
  | 4 => ("SixfoldTriples$Search", "places", "[I", true)
  | 5 => ("SixfoldTriples$Search", "holders", "[J", true)
  | 6 => ("SixfoldTriples$Search", "agreeing", "[J", true)
  | 7 => ("SixfoldTriples$Search", "binding", "[I", true)
  | 8 => ("SixfoldTriples$Search", "answers", "[I", true)
  | 9 => ("SixfoldTriples$Search", "found", "I", false)
  | _ => ("SixfoldTriples$Search", "liveCount", "I", false)
def tySe : Nat → FieldType := fun k => match k with
  | 0 => .array .int
  | 1 => .int
  | 2 => .int
  | 3 => .int
  | 4 => .array .int
  | 5 => .array .long
  | 6 => .array .long
  | 7 => .array .int
  | 8 => .array .int
  | 9 => .int
  | _ => .int
theorem nmSe : ∀ a, a < 11 → ∀ b, b < 11 → a ≠ b → (TSe a).2.1 ≠ (TSe b).2.1 := by decide +kernel
theorem tySe_ok : ∀ k, k < 11 → parseFieldDescriptor (TSe k).2.2.1 = some (tySe k) := by decide +kernel
def RTs : String := "SixfoldTriples$TripleSet"
def TTs : u_T := fun k => match k with
  | 0 => ("SixfoldTriples$TripleSet", "present", "[LSixfoldTriples$Order;", true)
  | 1 => ("SixfoldTriples$TripleSet", "settled", "LSixfoldTriples$Order;", true)
  | 2 => ("SixfoldTriples$TripleSet", "pendingCount", "I", false)
  | _ => ("SixfoldTriples$TripleSet", "mergeCount", "I", false)
def tyTs : Nat → FieldType := fun k => match k with
  | 0 => .array (.object "SixfoldTriples$Order")
  | 1 => .object "SixfoldTriples$Order"
  | 2 => .int
  | _ => .int
theorem nmTs : ∀ a, a < 4 → ∀ b, b < 4 → a ≠ b → (TTs a).2.1 ≠ (TTs b).2.1 := by decide +kernel
theorem tyTs_ok : ∀ k, k < 4 → parseFieldDescriptor (TTs k).2.2.1 = some (tyTs k) := by decide +kernel
def RSx : String := "SixfoldTriples"
def TSx : u_T := fun k => match k with
  | 0 => ("SixfoldTriples", "dictionary", "LSixfoldTriples$Dictionary;", true)
  | 1 => ("SixfoldTriples", "triples", "LSixfoldTriples$TripleSet;", true)
  | 2 => ("SixfoldTriples", "question", "LSixfoldTriples$Question;", true)
  | _ => ("SixfoldTriples", "search", "LSixfoldTriples$Search;", true)
def tySx : Nat → FieldType := fun k => match k with
  | 0 => .object "SixfoldTriples$Dictionary"
  | 1 => .object "SixfoldTriples$TripleSet"
  | 2 => .object "SixfoldTriples$Question"
  | _ => .object "SixfoldTriples$Search"
theorem nmSx : ∀ a, a < 4 → ∀ b, b < 4 → a ≠ b → (TSx a).2.1 ≠ (TSx b).2.1 := by decide +kernel
theorem tySx_ok : ∀ k, k < 4 → parseFieldDescriptor (TSx k).2.2.1 = some (tySx k) := by decide +kernel
def RMo : String := "SixfoldTriplesModel"
def TMo : u_T := fun k => match k with
  | 0 => ("SixfoldTriplesModel", "begun", "I", false)
  | 1 => ("SixfoldTriplesModel", "word", "[C", true)
  | 2 => ("SixfoldTriplesModel", "words", "I", false)
  | 3 => ("SixfoldTriplesModel", "lengths", "[I", true)
  | 4 => ("SixfoldTriplesModel", "letters", "[C", true)
  | 5 => ("SixfoldTriplesModel", "size", "I", false)
  | 6 => ("SixfoldTriplesModel", "present", "[I", true)
  | 7 => ("SixfoldTriplesModel", "old", "I", false)
  | 8 => ("SixfoldTriplesModel", "settled", "[I", true)
  | 9 => ("SixfoldTriplesModel", "merged", "I", false)
  | 10 => ("SixfoldTriplesModel", "patterns", "I", false)
  | 11 => ("SixfoldTriplesModel", "part", "[I", true)
  | 12 => ("SixfoldTriplesModel", "many", "I", false)
  | 13 => ("SixfoldTriplesModel", "row", "[I", true)
  | 14 => ("SixfoldTriplesModel", "value", "[I", true)
  | 15 => ("SixfoldTriplesModel", "bound", "[Z", true)
  | 16 => ("SixfoldTriplesModel", "answers", "I", false)
  | 17 => ("SixfoldTriplesModel", "kept", "[I", true)
  | _ => ("SixfoldTriplesModel", "lives", "I", false)
def tyMo : Nat → FieldType := fun k => match k with
  | 0 => .int
  | 1 => .array .char
  | 2 => .int
  | 3 => .array .int
  | 4 => .array .char
  | 5 => .int
  | 6 => .array .int
  | 7 => .int
  | 8 => .array .int
  | 9 => .int
  | 10 => .int
  | 11 => .array .int
  | 12 => .int
  | 13 => .array .int
  | 14 => .array .int
  | 15 => .array .boolean
  | 16 => .int
  | 17 => .array .int
  | _ => .int
theorem nmMo : ∀ a, a < 19 → ∀ b, b < 19 → a ≠ b → (TMo a).2.1 ≠ (TMo b).2.1 := by decide +kernel
theorem tyMo_ok : ∀ k, k < 19 → parseFieldDescriptor (TMo k).2.2.1 = some (tyMo k) := by decide +kernel
abbrev vwCl : List vw_C := [(RDi, TDi, 5), (ROr, TOr, 5), (RQu, TQu, 2), (RSe, TSe, 11), (RTs, TTs, 4), (RSx, TSx, 4), (RMo, TMo, 19)]
theorem inDi : ∀ w ∈ u_ws RDi TDi 5, w ∈ tb := by
  have h : ∀ k, k < 5 → u_lay RDi TDi k ∈ tb := by
    intro k hk
    rcases (show k = 0 ∨ k = 1 ∨ k = 2 ∨ k = 3 ∨ k = 4 by omega) with rfl | rfl | rfl | rfl | rfl
    · exact tb_of 58 (by decide +kernel) (by decide +kernel)
    · exact tb_of 60 (by decide +kernel) (by decide +kernel)
    · exact tb_of 62 (by decide +kernel) (by decide +kernel)
    · exact tb_of 64 (by decide +kernel) (by decide +kernel)
    · exact tb_of 66 (by decide +kernel) (by decide +kernel)
  intro w hw
  obtain ⟨k, hk, rfl⟩ := List.mem_map.mp hw
  exact h k (List.mem_range.mp hk)
theorem inOr : ∀ w ∈ u_ws ROr TOr 5, w ∈ tb := by
  have h : ∀ k, k < 5 → u_lay ROr TOr k ∈ tb := by
    intro k hk
    rcases (show k = 0 ∨ k = 1 ∨ k = 2 ∨ k = 3 ∨ k = 4 by omega) with rfl | rfl | rfl | rfl | rfl
    · exact tb_of 95 (by decide +kernel) (by decide +kernel)
    · exact tb_of 97 (by decide +kernel) (by decide +kernel)
    · exact tb_of 99 (by decide +kernel) (by decide +kernel)
    · exact tb_of 101 (by decide +kernel) (by decide +kernel)
    · exact tb_of 103 (by decide +kernel) (by decide +kernel)
  intro w hw
  obtain ⟨k, hk, rfl⟩ := List.mem_map.mp hw
  exact h k (List.mem_range.mp hk)
theorem inQu : ∀ w ∈ u_ws RQu TQu 2, w ∈ tb := by
  have h : ∀ k, k < 2 → u_lay RQu TQu k ∈ tb := by
    intro k hk
    rcases (show k = 0 ∨ k = 1 by omega) with rfl | rfl
    · exact tb_of 131 (by decide +kernel) (by decide +kernel)
    · exact tb_of 133 (by decide +kernel) (by decide +kernel)
  intro w hw
  obtain ⟨k, hk, rfl⟩ := List.mem_map.mp hw
  exact h k (List.mem_range.mp hk)
theorem inSe : ∀ w ∈ u_ws RSe TSe 11, w ∈ tb := by
  have h : ∀ k, k < 11 → u_lay RSe TSe k ∈ tb := by
    intro k hk
    rcases (show k = 0 ∨ k = 1 ∨ k = 2 ∨ k = 3 ∨ k = 4 ∨ k = 5 ∨ k = 6 ∨ k = 7 ∨ k = 8 ∨ k = 9 ∨ k = 10 by omega) with rfl | rfl | rfl | rfl | rfl | rfl | rfl | rfl | rfl | rfl | rfl
    · exact tb_of 155 (by decide +kernel) (by decide +kernel)
    · exact tb_of 157 (by decide +kernel) (by decide +kernel)
    · exact tb_of 159 (by decide +kernel) (by decide +kernel)
    · exact tb_of 161 (by decide +kernel) (by decide +kernel)
    · exact tb_of 163 (by decide +kernel) (by decide +kernel)
    · exact tb_of 165 (by decide +kernel) (by decide +kernel)
    · exact tb_of 167 (by decide +kernel) (by decide +kernel)
    · exact tb_of 169 (by decide +kernel) (by decide +kernel)
    · exact tb_of 171 (by decide +kernel) (by decide +kernel)
    · exact tb_of 173 (by decide +kernel) (by decide +kernel)
    · exact tb_of 175 (by decide +kernel) (by decide +kernel)
  intro w hw
  obtain ⟨k, hk, rfl⟩ := List.mem_map.mp hw
  exact h k (List.mem_range.mp hk)
theorem inTs : ∀ w ∈ u_ws RTs TTs 4, w ∈ tb := by
  have h : ∀ k, k < 4 → u_lay RTs TTs k ∈ tb := by
    intro k hk
    rcases (show k = 0 ∨ k = 1 ∨ k = 2 ∨ k = 3 by omega) with rfl | rfl | rfl | rfl
    · exact tb_of 112 (by decide +kernel) (by decide +kernel)
    · exact tb_of 114 (by decide +kernel) (by decide +kernel)
    · exact tb_of 116 (by decide +kernel) (by decide +kernel)
    · exact tb_of 118 (by decide +kernel) (by decide +kernel)
  intro w hw
  obtain ⟨k, hk, rfl⟩ := List.mem_map.mp hw
  exact h k (List.mem_range.mp hk)
theorem inSx : ∀ w ∈ u_ws RSx TSx 4, w ∈ tb := by
  have h : ∀ k, k < 4 → u_lay RSx TSx k ∈ tb := by
    intro k hk
    rcases (show k = 0 ∨ k = 1 ∨ k = 2 ∨ k = 3 by omega) with rfl | rfl | rfl | rfl
    · exact tb_of 182 (by decide +kernel) (by decide +kernel)
    · exact tb_of 184 (by decide +kernel) (by decide +kernel)
    · exact tb_of 186 (by decide +kernel) (by decide +kernel)
    · exact tb_of 188 (by decide +kernel) (by decide +kernel)
  intro w hw
  obtain ⟨k, hk, rfl⟩ := List.mem_map.mp hw
  exact h k (List.mem_range.mp hk)
theorem inMo : ∀ w ∈ u_ws RMo TMo 19, w ∈ tb := by
  have h : ∀ k, k < 19 → u_lay RMo TMo k ∈ tb := by
    intro k hk
    rcases (show k = 0 ∨ k = 1 ∨ k = 2 ∨ k = 3 ∨ k = 4 ∨ k = 5 ∨ k = 6 ∨ k = 7 ∨ k = 8 ∨ k = 9 ∨ k = 10 ∨ k = 11 ∨ k = 12 ∨ k = 13 ∨ k = 14 ∨ k = 15 ∨ k = 16 ∨ k = 17 ∨ k = 18 by omega) with rfl | rfl | rfl | rfl | rfl | rfl | rfl | rfl | rfl | rfl | rfl | rfl | rfl | rfl | rfl | rfl | rfl | rfl | rfl
    · exact tb_of 477 (by decide +kernel) (by decide +kernel)
    · exact tb_of 479 (by decide +kernel) (by decide +kernel)
    · exact tb_of 481 (by decide +kernel) (by decide +kernel)
    · exact tb_of 483 (by decide +kernel) (by decide +kernel)
    · exact tb_of 485 (by decide +kernel) (by decide +kernel)
    · exact tb_of 487 (by decide +kernel) (by decide +kernel)
    · exact tb_of 489 (by decide +kernel) (by decide +kernel)
    · exact tb_of 491 (by decide +kernel) (by decide +kernel)
    · exact tb_of 493 (by decide +kernel) (by decide +kernel)
    · exact tb_of 495 (by decide +kernel) (by decide +kernel)
    · exact tb_of 497 (by decide +kernel) (by decide +kernel)
    · exact tb_of 499 (by decide +kernel) (by decide +kernel)
    · exact tb_of 501 (by decide +kernel) (by decide +kernel)
    · exact tb_of 503 (by decide +kernel) (by decide +kernel)
    · exact tb_of 505 (by decide +kernel) (by decide +kernel)
    · exact tb_of 507 (by decide +kernel) (by decide +kernel)
    · exact tb_of 509 (by decide +kernel) (by decide +kernel)
    · exact tb_of 511 (by decide +kernel) (by decide +kernel)
    · exact tb_of 513 (by decide +kernel) (by decide +kernel)
  intro w hw
  obtain ⟨k, hk, rfl⟩ := List.mem_map.mp hw
  exact h k (List.mem_range.mp hk)
abbrev cSx_init : ByteArray := prog_1_method_1_code
def ySx_init : MethodName := ⟨RSx, "<init>", "()V"⟩
abbrev cDi_init : ByteArray := prog_2_method_1_code
def yDi_init : MethodName := ⟨RDi, "<init>", "()V"⟩
abbrev cTs_init : ByteArray := prog_6_method_1_code
def yTs_init : MethodName := ⟨RTs, "<init>", "()V"⟩
abbrev cTs_orderOfWay : ByteArray := prog_6_method_2_code
def yTs_orderOfWay : MethodName := ⟨RTs, "orderOfWay", "(I)LSixfoldTriples$Order;"⟩
abbrev cOr_init : ByteArray := prog_3_method_1_code
def yOr_init : MethodName := ⟨ROr, "<init>", "(III)V"⟩
abbrev cQu_init : ByteArray := prog_4_method_1_code
def yQu_init : MethodName := ⟨RQu, "<init>", "()V"⟩
abbrev cSe_init : ByteArray := prog_5_method_1_code
def ySe_init : MethodName := ⟨RSe, "<init>", "()V"⟩
abbrev cSx_letter : ByteArray := prog_1_method_2_code
def ySx_letter : MethodName := ⟨RSx, "letter", "(C)Z"⟩
abbrev cDi_addLetter : ByteArray := prog_2_method_3_code
def yDi_addLetter : MethodName := ⟨RDi, "addLetter", "(C)Z"⟩
abbrev cSx_intern : ByteArray := prog_1_method_3_code
def ySx_intern : MethodName := ⟨RSx, "intern", "()I"⟩
abbrev cDi_takeIn : ByteArray := prog_2_method_4_code
def yDi_takeIn : MethodName := ⟨RDi, "takeIn", "()I"⟩
abbrev cDi_numberOfBegun : ByteArray := prog_2_method_5_code
def yDi_numberOfBegun : MethodName := ⟨RDi, "numberOfBegun", "()I"⟩
abbrev cSx_words : ByteArray := prog_1_method_4_code
def ySx_words : MethodName := ⟨RSx, "words", "()I"⟩
abbrev cSx_spell : ByteArray := prog_1_method_5_code
def ySx_spell : MethodName := ⟨RSx, "spell", "(II)I"⟩
abbrev cDi_letterAt : ByteArray := prog_2_method_6_code
def yDi_letterAt : MethodName := ⟨RDi, "letterAt", "(II)I"⟩
abbrev cDi_has : ByteArray := prog_2_method_2_code
def yDi_has : MethodName := ⟨RDi, "has", "(I)Z"⟩
abbrev cSx_insert : ByteArray := prog_1_method_6_code
def ySx_insert : MethodName := ⟨RSx, "insert", "(III)I"⟩
abbrev cSx_areTerms : ByteArray := prog_1_method_18_code
def ySx_areTerms : MethodName := ⟨RSx, "areTerms", "(III)Z"⟩
abbrev cSx_codeOf : ByteArray := prog_1_method_21_code
def ySx_codeOf : MethodName := ⟨RSx, "codeOf", "(III)I"⟩
abbrev cTs_holds : ByteArray := prog_6_method_5_code
def yTs_holds : MethodName := ⟨RTs, "holds", "(I)Z"⟩
abbrev cOr_holds : ByteArray := prog_3_method_4_code
def yOr_holds : MethodName := ⟨ROr, "holds", "(I)Z"⟩
abbrev cOr_keyOf : ByteArray := prog_3_method_2_code
def yOr_keyOf : MethodName := ⟨ROr, "keyOf", "(I)I"⟩
abbrev cSx_partOf : ByteArray := prog_1_method_23_code
def ySx_partOf : MethodName := ⟨RSx, "partOf", "(II)I"⟩
abbrev cSx_shiftOf : ByteArray := prog_1_method_22_code
def ySx_shiftOf : MethodName := ⟨RSx, "shiftOf", "(I)I"⟩
abbrev cOr_rankOf : ByteArray := prog_3_method_3_code
def yOr_rankOf : MethodName := ⟨ROr, "rankOf", "(I)I"⟩
abbrev cTs_isFull : ByteArray := prog_6_method_4_code
def yTs_isFull : MethodName := ⟨RTs, "isFull", "()Z"⟩
abbrev cTs_put : ByteArray := prog_6_method_7_code
def yTs_put : MethodName := ⟨RTs, "put", "(I)V"⟩
abbrev cTs_settleWhenDue : ByteArray := prog_6_method_9_code
def yTs_settleWhenDue : MethodName := ⟨RTs, "settleWhenDue", "()V"⟩
abbrev cTs_settle : ByteArray := prog_6_method_10_code
def yTs_settle : MethodName := ⟨RTs, "settle", "()V"⟩
abbrev cOr_copyFrom : ByteArray := prog_3_method_8_code
def yOr_copyFrom : MethodName := ⟨ROr, "copyFrom", "(LSixfoldTriples$Order;)V"⟩
abbrev cOr_put : ByteArray := prog_3_method_6_code
def yOr_put : MethodName := ⟨ROr, "put", "(I)V"⟩
abbrev cSx_remove : ByteArray := prog_1_method_7_code
def ySx_remove : MethodName := ⟨RSx, "remove", "(III)I"⟩
abbrev cTs_take : ByteArray := prog_6_method_8_code
def yTs_take : MethodName := ⟨RTs, "take", "(I)V"⟩
abbrev cOr_take : ByteArray := prog_3_method_7_code
def yOr_take : MethodName := ⟨ROr, "take", "(I)V"⟩
abbrev cSx_merge : ByteArray := prog_1_method_8_code
def ySx_merge : MethodName := ⟨RSx, "merge", "()I"⟩
abbrev cSx_size : ByteArray := prog_1_method_9_code
def ySx_size : MethodName := ⟨RSx, "size", "()I"⟩
abbrev cTs_count : ByteArray := prog_6_method_3_code
def yTs_count : MethodName := ⟨RTs, "count", "()I"⟩
abbrev cSx_pending : ByteArray := prog_1_method_10_code
def ySx_pending : MethodName := ⟨RSx, "pending", "()I"⟩
abbrev cSx_merges : ByteArray := prog_1_method_11_code
def ySx_merges : MethodName := ⟨RSx, "merges", "()I"⟩
abbrev cSx_triple : ByteArray := prog_1_method_12_code
def ySx_triple : MethodName := ⟨RSx, "triple", "(II)I"⟩
abbrev cTs_codeAt : ByteArray := prog_6_method_6_code
def yTs_codeAt : MethodName := ⟨RTs, "codeAt", "(II)I"⟩
abbrev cOr_codeAt : ByteArray := prog_3_method_5_code
def yOr_codeAt : MethodName := ⟨ROr, "codeAt", "(I)I"⟩
abbrev cSx_where : ByteArray := prog_1_method_13_code
def ySx_where : MethodName := ⟨RSx, "where", "(III)I"⟩
abbrev cSx_fitsPattern : ByteArray := prog_1_method_19_code
def ySx_fitsPattern : MethodName := ⟨RSx, "fitsPattern", "(I)Z"⟩
abbrev cSx_isVariable : ByteArray := prog_1_method_20_code
def ySx_isVariable : MethodName := ⟨RSx, "isVariable", "(I)Z"⟩
abbrev cQu_isFull : ByteArray := prog_4_method_2_code
def yQu_isFull : MethodName := ⟨RQu, "isFull", "()Z"⟩
abbrev cQu_add : ByteArray := prog_4_method_3_code
def yQu_add : MethodName := ⟨RQu, "add", "(III)V"⟩
abbrev cSx_clear : ByteArray := prog_1_method_14_code
def ySx_clear : MethodName := ⟨RSx, "clear", "()V"⟩
abbrev cSx_run : ByteArray := prog_1_method_15_code
def ySx_run : MethodName := ⟨RSx, "run", "(III)I"⟩
abbrev cQu_hasRow : ByteArray := prog_4_method_6_code
def yQu_hasRow : MethodName := ⟨RQu, "hasRow", "(III)Z"⟩
abbrev cQu_variableBits : ByteArray := prog_4_method_7_code
def yQu_variableBits : MethodName := ⟨RQu, "variableBits", "()I"⟩
abbrev cQu_awaitedAfter : ByteArray := prog_4_method_8_code
def yQu_awaitedAfter : MethodName := ⟨RQu, "awaitedAfter", "(II)I"⟩
abbrev cSe_begin : ByteArray := prog_5_method_2_code
def ySe_begin : MethodName := ⟨RSe, "begin", "(III)V"⟩
abbrev cSe_lengthenRow : ByteArray := prog_5_method_3_code
def ySe_lengthenRow : MethodName := ⟨RSe, "lengthenRow", "(I)V"⟩
abbrev cSe_prepare : ByteArray := prog_5_method_4_code
def ySe_prepare : MethodName := ⟨RSe, "prepare", "(LSixfoldTriples$Question;LSixfoldTriples$TripleSet;I)V"⟩
abbrev cSe_findPlaces : ByteArray := prog_5_method_5_code
def ySe_findPlaces : MethodName := ⟨RSe, "findPlaces", "(LSixfoldTriples$Question;)V"⟩
abbrev cQu_placeOf : ByteArray := prog_4_method_4_code
def yQu_placeOf : MethodName := ⟨RQu, "placeOf", "(II)I"⟩
abbrev cSe_findHolders : ByteArray := prog_5_method_6_code
def ySe_findHolders : MethodName := ⟨RSe, "findHolders", "(LSixfoldTriples$TripleSet;)V"⟩
abbrev cSe_agreeingUnbound : ByteArray := prog_5_method_7_code
def ySe_agreeingUnbound : MethodName := ⟨RSe, "agreeingUnbound", "(LSixfoldTriples$Question;ILSixfoldTriples$TripleSet;)J"⟩
abbrev cQu_agrees : ByteArray := prog_4_method_5_code
def yQu_agrees : MethodName := ⟨RQu, "agrees", "(II)Z"⟩
abbrev cSe_findAll : ByteArray := prog_5_method_8_code
def ySe_findAll : MethodName := ⟨RSe, "findAll", "()V"⟩
abbrev cSe_fixedPatternsHold : ByteArray := prog_5_method_9_code
def ySe_fixedPatternsHold : MethodName := ⟨RSe, "fixedPatternsHold", "()Z"⟩
abbrev cSe_isFixed : ByteArray := prog_5_method_10_code
def ySe_isFixed : MethodName := ⟨RSe, "isFixed", "(I)Z"⟩
abbrev cSe_walk : ByteArray := prog_5_method_11_code
def ySe_walk : MethodName := ⟨RSe, "walk", "(I)V"⟩
abbrev cSe_keepAnswer : ByteArray := prog_5_method_14_code
def ySe_keepAnswer : MethodName := ⟨RSe, "keepAnswer", "()V"⟩
abbrev cSe_bind : ByteArray := prog_5_method_12_code
def ySe_bind : MethodName := ⟨RSe, "bind", "(II)V"⟩
abbrev cSe_narrow : ByteArray := prog_5_method_13_code
def ySe_narrow : MethodName := ⟨RSe, "narrow", "(II)Z"⟩
abbrev cSx_answer : ByteArray := prog_1_method_16_code
def ySx_answer : MethodName := ⟨RSx, "answer", "(II)I"⟩
abbrev cSe_termAt : ByteArray := prog_5_method_15_code
def ySe_termAt : MethodName := ⟨RSe, "termAt", "(II)I"⟩
abbrev cSx_live : ByteArray := prog_1_method_17_code
def ySx_live : MethodName := ⟨RSx, "live", "()I"⟩
abbrev cMo_init : ByteArray := prog_8_method_1_code
def yMo_init : MethodName := ⟨RMo, "<init>", "()V"⟩
abbrev cMo_letter : ByteArray := prog_8_method_2_code
def yMo_letter : MethodName := ⟨RMo, "letter", "(C)Z"⟩
abbrev cMo_intern : ByteArray := prog_8_method_4_code
def yMo_intern : MethodName := ⟨RMo, "intern", "()I"⟩
abbrev cMo_isWord : ByteArray := prog_8_method_3_code
def yMo_isWord : MethodName := ⟨RMo, "isWord", "(I)Z"⟩
abbrev cMo_words : ByteArray := prog_8_method_5_code
def yMo_words : MethodName := ⟨RMo, "words", "()I"⟩
abbrev cMo_spell : ByteArray := prog_8_method_6_code
def yMo_spell : MethodName := ⟨RMo, "spell", "(II)I"⟩
abbrev cMo_pending : ByteArray := prog_8_method_11_code
def yMo_pending : MethodName := ⟨RMo, "pending", "()I"⟩
abbrev cMo_wasSettled : ByteArray := prog_8_method_10_code
def yMo_wasSettled : MethodName := ⟨RMo, "wasSettled", "(I)Z"⟩
abbrev cMo_place : ByteArray := prog_8_method_9_code
def yMo_place : MethodName := ⟨RMo, "place", "(I)I"⟩
abbrev cMo_merge : ByteArray := prog_8_method_12_code
def yMo_merge : MethodName := ⟨RMo, "merge", "()I"⟩
abbrev cMo_insert : ByteArray := prog_8_method_14_code
def yMo_insert : MethodName := ⟨RMo, "insert", "(III)I"⟩
abbrev cMo_term : ByteArray := prog_8_method_7_code
def yMo_term : MethodName := ⟨RMo, "term", "(I)Z"⟩
abbrev cMo_code : ByteArray := prog_8_method_8_code
def yMo_code : MethodName := ⟨RMo, "code", "(III)I"⟩
abbrev cMo_ready : ByteArray := prog_8_method_13_code
def yMo_ready : MethodName := ⟨RMo, "ready", "()V"⟩
abbrev cMo_remove : ByteArray := prog_8_method_15_code
def yMo_remove : MethodName := ⟨RMo, "remove", "(III)I"⟩
abbrev cMo_size : ByteArray := prog_8_method_16_code
def yMo_size : MethodName := ⟨RMo, "size", "()I"⟩
abbrev cMo_merges : ByteArray := prog_8_method_17_code
def yMo_merges : MethodName := ⟨RMo, "merges", "()I"⟩
abbrev cMo_triple : ByteArray := prog_8_method_20_code
def yMo_triple : MethodName := ⟨RMo, "triple", "(II)I"⟩
abbrev cMo_turned : ByteArray := prog_8_method_19_code
def yMo_turned : MethodName := ⟨RMo, "turned", "(II)I"⟩
abbrev cMo_partOf : ByteArray := prog_8_method_18_code
def yMo_partOf : MethodName := ⟨RMo, "partOf", "(II)I"⟩
abbrev cMo_where : ByteArray := prog_8_method_22_code
def yMo_where : MethodName := ⟨RMo, "where", "(III)I"⟩
abbrev cMo_fits : ByteArray := prog_8_method_21_code
def yMo_fits : MethodName := ⟨RMo, "fits", "(I)Z"⟩
abbrev cMo_clear : ByteArray := prog_8_method_23_code
def yMo_clear : MethodName := ⟨RMo, "clear", "()V"⟩
abbrev cMo_run : ByteArray := prog_8_method_31_code
def yMo_run : MethodName := ⟨RMo, "run", "(III)I"⟩
abbrev cMo_rowFits : ByteArray := prog_8_method_25_code
def yMo_rowFits : MethodName := ⟨RMo, "rowFits", "(III)Z"⟩
abbrev cMo_asked : ByteArray := prog_8_method_24_code
def yMo_asked : MethodName := ⟨RMo, "asked", "(I)Z"⟩
abbrev cMo_through : ByteArray := prog_8_method_30_code
def yMo_through : MethodName := ⟨RMo, "through", "(I)I"⟩
abbrev cMo_bind : ByteArray := prog_8_method_29_code
def yMo_bind : MethodName := ⟨RMo, "bind", "(II)V"⟩
abbrev cMo_isLive : ByteArray := prog_8_method_28_code
def yMo_isLive : MethodName := ⟨RMo, "isLive", "()Z"⟩
abbrev cMo_counts : ByteArray := prog_8_method_27_code
def yMo_counts : MethodName := ⟨RMo, "counts", "(I)Z"⟩
abbrev cMo_agreed : ByteArray := prog_8_method_26_code
def yMo_agreed : MethodName := ⟨RMo, "agreed", "(I)Z"⟩
abbrev cMo_answer : ByteArray := prog_8_method_32_code
def yMo_answer : MethodName := ⟨RMo, "answer", "(II)I"⟩
abbrev cMo_live : ByteArray := prog_8_method_33_code
def yMo_live : MethodName := ⟨RMo, "live", "()I"⟩
theorem kSx_init : Cond.code ySx_init cSx_init 1 none ∈ tb := tb_of 42 (by decide +kernel) (by decide +kernel)
theorem kDi_init : Cond.code yDi_init cDi_init 1 none ∈ tb := tb_of 50 (by decide +kernel) (by decide +kernel)
theorem kTs_init : Cond.code yTs_init cTs_init 2 none ∈ tb := tb_of 75 (by decide +kernel) (by decide +kernel)
theorem kTs_orderOfWay : Cond.code yTs_orderOfWay cTs_orderOfWay 2 (some (.object "SixfoldTriples$Order")) ∈ tb := tb_of 81 (by decide +kernel) (by decide +kernel)
theorem kOr_init : Cond.code yOr_init cOr_init 4 none ∈ tb := tb_of 87 (by decide +kernel) (by decide +kernel)
theorem kQu_init : Cond.code yQu_init cQu_init 1 none ∈ tb := tb_of 125 (by decide +kernel) (by decide +kernel)
theorem kSe_init : Cond.code ySe_init cSe_init 1 none ∈ tb := tb_of 140 (by decide +kernel) (by decide +kernel)
theorem kSx_letter : Cond.code ySx_letter cSx_letter 2 (some .boolean) ∈ tb := tb_of 194 (by decide +kernel) (by decide +kernel)
theorem kDi_addLetter : Cond.code yDi_addLetter cDi_addLetter 2 (some .boolean) ∈ tb := tb_of 198 (by decide +kernel) (by decide +kernel)
theorem kSx_intern : Cond.code ySx_intern cSx_intern 1 (some .int) ∈ tb := tb_of 202 (by decide +kernel) (by decide +kernel)
theorem kDi_takeIn : Cond.code yDi_takeIn cDi_takeIn 2 (some .int) ∈ tb := tb_of 206 (by decide +kernel) (by decide +kernel)
theorem kDi_numberOfBegun : Cond.code yDi_numberOfBegun cDi_numberOfBegun 2 (some .int) ∈ tb := tb_of 210 (by decide +kernel) (by decide +kernel)
theorem kSx_words : Cond.code ySx_words cSx_words 1 (some .int) ∈ tb := tb_of 214 (by decide +kernel) (by decide +kernel)
theorem kSx_spell : Cond.code ySx_spell cSx_spell 3 (some .int) ∈ tb := tb_of 218 (by decide +kernel) (by decide +kernel)
theorem kDi_letterAt : Cond.code yDi_letterAt cDi_letterAt 4 (some .int) ∈ tb := tb_of 222 (by decide +kernel) (by decide +kernel)
theorem kDi_has : Cond.code yDi_has cDi_has 2 (some .boolean) ∈ tb := tb_of 226 (by decide +kernel) (by decide +kernel)
theorem kSx_insert : Cond.code ySx_insert cSx_insert 5 (some .int) ∈ tb := tb_of 230 (by decide +kernel) (by decide +kernel)
theorem kSx_areTerms : Cond.code ySx_areTerms cSx_areTerms 4 (some .boolean) ∈ tb := tb_of 234 (by decide +kernel) (by decide +kernel)
theorem kSx_codeOf : Cond.code ySx_codeOf cSx_codeOf 3 (some .int) ∈ tb := tb_of 238 (by decide +kernel) (by decide +kernel)
theorem kTs_holds : Cond.code yTs_holds cTs_holds 2 (some .boolean) ∈ tb := tb_of 242 (by decide +kernel) (by decide +kernel)
theorem kOr_holds : Cond.code yOr_holds cOr_holds 4 (some .boolean) ∈ tb := tb_of 246 (by decide +kernel) (by decide +kernel)
theorem kOr_keyOf : Cond.code yOr_keyOf cOr_keyOf 2 (some .int) ∈ tb := tb_of 250 (by decide +kernel) (by decide +kernel)
theorem kSx_partOf : Cond.code ySx_partOf cSx_partOf 2 (some .int) ∈ tb := tb_of 253 (by decide +kernel) (by decide +kernel)
theorem kSx_shiftOf : Cond.code ySx_shiftOf cSx_shiftOf 1 (some .int) ∈ tb := tb_of 256 (by decide +kernel) (by decide +kernel)
theorem kOr_rankOf : Cond.code yOr_rankOf cOr_rankOf 3 (some .int) ∈ tb := tb_of 261 (by decide +kernel) (by decide +kernel)
theorem kTs_isFull : Cond.code yTs_isFull cTs_isFull 1 (some .boolean) ∈ tb := tb_of 265 (by decide +kernel) (by decide +kernel)
theorem kTs_put : Cond.code yTs_put cTs_put 3 none ∈ tb := tb_of 269 (by decide +kernel) (by decide +kernel)
theorem kTs_settleWhenDue : Cond.code yTs_settleWhenDue cTs_settleWhenDue 1 none ∈ tb := tb_of 273 (by decide +kernel) (by decide +kernel)
theorem kTs_settle : Cond.code yTs_settle cTs_settle 1 none ∈ tb := tb_of 277 (by decide +kernel) (by decide +kernel)
theorem kOr_copyFrom : Cond.code yOr_copyFrom cOr_copyFrom 2 none ∈ tb := tb_of 281 (by decide +kernel) (by decide +kernel)
theorem kOr_put : Cond.code yOr_put cOr_put 4 none ∈ tb := tb_of 288 (by decide +kernel) (by decide +kernel)
theorem kSx_remove : Cond.code ySx_remove cSx_remove 5 (some .int) ∈ tb := tb_of 292 (by decide +kernel) (by decide +kernel)
theorem kTs_take : Cond.code yTs_take cTs_take 3 none ∈ tb := tb_of 296 (by decide +kernel) (by decide +kernel)
theorem kOr_take : Cond.code yOr_take cOr_take 4 none ∈ tb := tb_of 300 (by decide +kernel) (by decide +kernel)
theorem kSx_merge : Cond.code ySx_merge cSx_merge 2 (some .int) ∈ tb := tb_of 304 (by decide +kernel) (by decide +kernel)
theorem kSx_size : Cond.code ySx_size cSx_size 1 (some .int) ∈ tb := tb_of 309 (by decide +kernel) (by decide +kernel)
theorem kTs_count : Cond.code yTs_count cTs_count 1 (some .int) ∈ tb := tb_of 313 (by decide +kernel) (by decide +kernel)
theorem kSx_pending : Cond.code ySx_pending cSx_pending 1 (some .int) ∈ tb := tb_of 317 (by decide +kernel) (by decide +kernel)
theorem kSx_merges : Cond.code ySx_merges cSx_merges 1 (some .int) ∈ tb := tb_of 321 (by decide +kernel) (by decide +kernel)
theorem kSx_triple : Cond.code ySx_triple cSx_triple 3 (some .int) ∈ tb := tb_of 325 (by decide +kernel) (by decide +kernel)
theorem kTs_codeAt : Cond.code yTs_codeAt cTs_codeAt 3 (some .int) ∈ tb := tb_of 329 (by decide +kernel) (by decide +kernel)
theorem kOr_codeAt : Cond.code yOr_codeAt cOr_codeAt 3 (some .int) ∈ tb := tb_of 333 (by decide +kernel) (by decide +kernel)
theorem kSx_where : Cond.code ySx_where cSx_where 4 (some .int) ∈ tb := tb_of 338 (by decide +kernel) (by decide +kernel)
theorem kSx_fitsPattern : Cond.code ySx_fitsPattern cSx_fitsPattern 2 (some .boolean) ∈ tb := tb_of 342 (by decide +kernel) (by decide +kernel)
theorem kSx_isVariable : Cond.code ySx_isVariable cSx_isVariable 1 (some .boolean) ∈ tb := tb_of 345 (by decide +kernel) (by decide +kernel)
theorem kQu_isFull : Cond.code yQu_isFull cQu_isFull 1 (some .boolean) ∈ tb := tb_of 349 (by decide +kernel) (by decide +kernel)
theorem kQu_add : Cond.code yQu_add cQu_add 5 none ∈ tb := tb_of 353 (by decide +kernel) (by decide +kernel)
theorem kSx_clear : Cond.code ySx_clear cSx_clear 1 none ∈ tb := tb_of 357 (by decide +kernel) (by decide +kernel)
theorem kSx_run : Cond.code ySx_run cSx_run 4 (some .int) ∈ tb := tb_of 361 (by decide +kernel) (by decide +kernel)
theorem kQu_hasRow : Cond.code yQu_hasRow cQu_hasRow 5 (some .boolean) ∈ tb := tb_of 365 (by decide +kernel) (by decide +kernel)
theorem kQu_variableBits : Cond.code yQu_variableBits cQu_variableBits 3 (some .int) ∈ tb := tb_of 369 (by decide +kernel) (by decide +kernel)
theorem kQu_awaitedAfter : Cond.code yQu_awaitedAfter cQu_awaitedAfter 3 (some .int) ∈ tb := tb_of 373 (by decide +kernel) (by decide +kernel)
theorem kSe_begin : Cond.code ySe_begin cSe_begin 5 none ∈ tb := tb_of 377 (by decide +kernel) (by decide +kernel)
theorem kSe_lengthenRow : Cond.code ySe_lengthenRow cSe_lengthenRow 2 none ∈ tb := tb_of 381 (by decide +kernel) (by decide +kernel)
theorem kSe_prepare : Cond.code ySe_prepare cSe_prepare 5 none ∈ tb := tb_of 386 (by decide +kernel) (by decide +kernel)
theorem kSe_findPlaces : Cond.code ySe_findPlaces cSe_findPlaces 4 none ∈ tb := tb_of 390 (by decide +kernel) (by decide +kernel)
theorem kQu_placeOf : Cond.code yQu_placeOf cQu_placeOf 4 (some .int) ∈ tb := tb_of 394 (by decide +kernel) (by decide +kernel)
theorem kSe_findHolders : Cond.code ySe_findHolders cSe_findHolders 5 none ∈ tb := tb_of 398 (by decide +kernel) (by decide +kernel)
theorem kSe_agreeingUnbound : Cond.code ySe_agreeingUnbound cSe_agreeingUnbound 6 (some .long) ∈ tb := tb_of 404 (by decide +kernel) (by decide +kernel)
theorem kQu_agrees : Cond.code yQu_agrees cQu_agrees 6 (some .boolean) ∈ tb := tb_of 408 (by decide +kernel) (by decide +kernel)
theorem kSe_findAll : Cond.code ySe_findAll cSe_findAll 1 none ∈ tb := tb_of 414 (by decide +kernel) (by decide +kernel)
theorem kSe_fixedPatternsHold : Cond.code ySe_fixedPatternsHold cSe_fixedPatternsHold 2 (some .boolean) ∈ tb := tb_of 418 (by decide +kernel) (by decide +kernel)
theorem kSe_isFixed : Cond.code ySe_isFixed cSe_isFixed 3 (some .boolean) ∈ tb := tb_of 422 (by decide +kernel) (by decide +kernel)
theorem kSe_walk : Cond.code ySe_walk cSe_walk 3 none ∈ tb := tb_of 426 (by decide +kernel) (by decide +kernel)
theorem kSe_keepAnswer : Cond.code ySe_keepAnswer cSe_keepAnswer 1 none ∈ tb := tb_of 430 (by decide +kernel) (by decide +kernel)
theorem kSe_bind : Cond.code ySe_bind cSe_bind 3 none ∈ tb := tb_of 435 (by decide +kernel) (by decide +kernel)
theorem kSe_narrow : Cond.code ySe_narrow cSe_narrow 9 (some .boolean) ∈ tb := tb_of 439 (by decide +kernel) (by decide +kernel)
theorem kSx_answer : Cond.code ySx_answer cSx_answer 3 (some .int) ∈ tb := tb_of 443 (by decide +kernel) (by decide +kernel)
theorem kSe_termAt : Cond.code ySe_termAt cSe_termAt 3 (some .int) ∈ tb := tb_of 447 (by decide +kernel) (by decide +kernel)
theorem kSx_live : Cond.code ySx_live cSx_live 1 (some .int) ∈ tb := tb_of 451 (by decide +kernel) (by decide +kernel)
theorem kMo_init : Cond.code yMo_init cMo_init 1 none ∈ tb := tb_of 456 (by decide +kernel) (by decide +kernel)
theorem kMo_letter : Cond.code yMo_letter cMo_letter 2 (some .boolean) ∈ tb := tb_of 521 (by decide +kernel) (by decide +kernel)
theorem kMo_intern : Cond.code yMo_intern cMo_intern 2 (some .int) ∈ tb := tb_of 525 (by decide +kernel) (by decide +kernel)
theorem kMo_isWord : Cond.code yMo_isWord cMo_isWord 4 (some .boolean) ∈ tb := tb_of 529 (by decide +kernel) (by decide +kernel)
theorem kMo_words : Cond.code yMo_words cMo_words 1 (some .int) ∈ tb := tb_of 533 (by decide +kernel) (by decide +kernel)
theorem kMo_spell : Cond.code yMo_spell cMo_spell 3 (some .int) ∈ tb := tb_of 537 (by decide +kernel) (by decide +kernel)
theorem kMo_pending : Cond.code yMo_pending cMo_pending 3 (some .int) ∈ tb := tb_of 541 (by decide +kernel) (by decide +kernel)
theorem kMo_wasSettled : Cond.code yMo_wasSettled cMo_wasSettled 4 (some .boolean) ∈ tb := tb_of 545 (by decide +kernel) (by decide +kernel)
theorem kMo_place : Cond.code yMo_place cMo_place 3 (some .int) ∈ tb := tb_of 549 (by decide +kernel) (by decide +kernel)
theorem kMo_merge : Cond.code yMo_merge cMo_merge 3 (some .int) ∈ tb := tb_of 553 (by decide +kernel) (by decide +kernel)
theorem kMo_insert : Cond.code yMo_insert cMo_insert 5 (some .int) ∈ tb := tb_of 558 (by decide +kernel) (by decide +kernel)
theorem kMo_term : Cond.code yMo_term cMo_term 2 (some .boolean) ∈ tb := tb_of 562 (by decide +kernel) (by decide +kernel)
theorem kMo_code : Cond.code yMo_code cMo_code 3 (some .int) ∈ tb := tb_of 565 (by decide +kernel) (by decide +kernel)
theorem kMo_ready : Cond.code yMo_ready cMo_ready 1 none ∈ tb := tb_of 569 (by decide +kernel) (by decide +kernel)
theorem kMo_remove : Cond.code yMo_remove cMo_remove 5 (some .int) ∈ tb := tb_of 574 (by decide +kernel) (by decide +kernel)
theorem kMo_size : Cond.code yMo_size cMo_size 1 (some .int) ∈ tb := tb_of 578 (by decide +kernel) (by decide +kernel)
theorem kMo_merges : Cond.code yMo_merges cMo_merges 1 (some .int) ∈ tb := tb_of 582 (by decide +kernel) (by decide +kernel)
theorem kMo_triple : Cond.code yMo_triple cMo_triple 6 (some .int) ∈ tb := tb_of 586 (by decide +kernel) (by decide +kernel)
theorem kMo_turned : Cond.code yMo_turned cMo_turned 4 (some .int) ∈ tb := tb_of 589 (by decide +kernel) (by decide +kernel)
theorem kMo_partOf : Cond.code yMo_partOf cMo_partOf 2 (some .int) ∈ tb := tb_of 592 (by decide +kernel) (by decide +kernel)
theorem kMo_where : Cond.code yMo_where cMo_where 4 (some .int) ∈ tb := tb_of 596 (by decide +kernel) (by decide +kernel)
theorem kMo_fits : Cond.code yMo_fits cMo_fits 2 (some .boolean) ∈ tb := tb_of 600 (by decide +kernel) (by decide +kernel)
theorem kMo_clear : Cond.code yMo_clear cMo_clear 1 none ∈ tb := tb_of 604 (by decide +kernel) (by decide +kernel)
theorem kMo_run : Cond.code yMo_run cMo_run 6 (some .int) ∈ tb := tb_of 608 (by decide +kernel) (by decide +kernel)
theorem kMo_rowFits : Cond.code yMo_rowFits cMo_rowFits 8 (some .boolean) ∈ tb := tb_of 612 (by decide +kernel) (by decide +kernel)
theorem kMo_asked : Cond.code yMo_asked cMo_asked 4 (some .boolean) ∈ tb := tb_of 616 (by decide +kernel) (by decide +kernel)
theorem kMo_through : Cond.code yMo_through cMo_through 6 (some .int) ∈ tb := tb_of 620 (by decide +kernel) (by decide +kernel)
theorem kMo_bind : Cond.code yMo_bind cMo_bind 5 none ∈ tb := tb_of 624 (by decide +kernel) (by decide +kernel)
theorem kMo_isLive : Cond.code yMo_isLive cMo_isLive 2 (some .boolean) ∈ tb := tb_of 628 (by decide +kernel) (by decide +kernel)
theorem kMo_counts : Cond.code yMo_counts cMo_counts 5 (some .boolean) ∈ tb := tb_of 632 (by decide +kernel) (by decide +kernel)
theorem kMo_agreed : Cond.code yMo_agreed cMo_agreed 9 (some .boolean) ∈ tb := tb_of 636 (by decide +kernel) (by decide +kernel)
theorem kMo_answer : Cond.code yMo_answer cMo_answer 3 (some .int) ∈ tb := tb_of 640 (by decide +kernel) (by decide +kernel)
theorem kMo_live : Cond.code yMo_live cMo_live 1 (some .int) ∈ tb := tb_of 644 (by decide +kernel) (by decide +kernel)
