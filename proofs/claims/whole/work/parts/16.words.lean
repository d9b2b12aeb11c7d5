theorem tq0 : Cond.initialized "SixfoldTriplesLaw" ∈ tb := tb_of 29 (by decide +kernel) (by decide +kernel)
theorem tq1 : Cond.initialized RSx ∈ tb := tb_of 30 (by decide +kernel) (by decide +kernel)
theorem tq2 : Cond.initialized RDi ∈ tb := tb_of 31 (by decide +kernel) (by decide +kernel)
theorem tq3 : Cond.initialized RTs ∈ tb := tb_of 32 (by decide +kernel) (by decide +kernel)
theorem tq4 : Cond.initialized ROr ∈ tb := tb_of 33 (by decide +kernel) (by decide +kernel)
theorem tq5 : Cond.initialized RQu ∈ tb := tb_of 34 (by decide +kernel) (by decide +kernel)
theorem tq6 : Cond.initialized RSe ∈ tb := tb_of 35 (by decide +kernel) (by decide +kernel)
theorem tq7 : Cond.initialized RMo ∈ tb := tb_of 36 (by decide +kernel) (by decide +kernel)
theorem tq8 : Cond.initialized "java/lang/System" ∈ tb := tb_of 37 (by decide +kernel) (by decide +kernel)
theorem tq9 : Cond.classLink "SixfoldTriplesLaw" 7 RSx ∈ tb := tb_of 38 (by decide +kernel) (by decide +kernel)
theorem tq10 : Cond.instantiable RSx 4 ∈ tb := tb_of 39 (by decide +kernel) (by decide +kernel)
theorem tq11 : Cond.methodLink "SixfoldTriplesLaw" 9 ySx_init ∈ tb := tb_of 40 (by decide +kernel) (by decide +kernel)
theorem tq12 : Cond.instanceMethod ySx_init ∈ tb := tb_of 41 (by decide +kernel) (by decide +kernel)
theorem tq14 : Cond.methodLink RSx 1 objectInit ∈ tb := tb_of 43 (by decide +kernel) (by decide +kernel)
theorem tq15 : Cond.instanceMethod objectInit ∈ tb := tb_of 44 (by decide +kernel) (by decide +kernel)
theorem tq16 : Cond.code objectInit ⟨#[0xb1]⟩ 1 none ∈ tb := tb_of 45 (by decide +kernel) (by decide +kernel)
theorem tq17 : Cond.classLink RSx 7 RDi ∈ tb := tb_of 46 (by decide +kernel) (by decide +kernel)
theorem tq18 : Cond.instantiable RDi 5 ∈ tb := tb_of 47 (by decide +kernel) (by decide +kernel)
theorem tq19 : Cond.methodLink RSx 9 yDi_init ∈ tb := tb_of 48 (by decide +kernel) (by decide +kernel)
theorem tq20 : Cond.instanceMethod yDi_init ∈ tb := tb_of 49 (by decide +kernel) (by decide +kernel)
theorem tq22 : Cond.methodLink RDi 3 objectInit ∈ tb := tb_of 51 (by decide +kernel) (by decide +kernel)
theorem tq23 : Cond.fieldLink RDi 9 RDi (TDi 0).2.1 (TDi 0).2.2.1 ∈ tb := tb_of 52 (by decide +kernel) (by decide +kernel)
theorem tq24 : Cond.fieldLink RDi 15 RDi (TDi 1).2.1 (TDi 1).2.2.1 ∈ tb := tb_of 53 (by decide +kernel) (by decide +kernel)
theorem tq25 : Cond.fieldLink RDi 19 RDi (TDi 2).2.1 (TDi 2).2.2.1 ∈ tb := tb_of 54 (by decide +kernel) (by decide +kernel)
theorem tq26 : Cond.fieldLinkNest RSx 45 RDi (TDi 2).2.1 (TDi 2).2.2.1 RSx ∈ tn := tn_of 55 (by decide +kernel) (by decide +kernel)
theorem tq27 : Cond.fieldLink RDi 23 RDi (TDi 3).2.1 (TDi 3).2.2.1 ∈ tb := tb_of 56 (by decide +kernel) (by decide +kernel)
theorem tq28 : Cond.fieldLink RDi 27 RDi (TDi 4).2.1 (TDi 4).2.2.1 ∈ tb := tb_of 57 (by decide +kernel) (by decide +kernel)
theorem tq40 : Cond.arrayClass .long ∈ tb := tb_of 69 (by decide +kernel) (by decide +kernel)
theorem tq41 : Cond.arrayClass .int ∈ tb := tb_of 70 (by decide +kernel) (by decide +kernel)
theorem tq42 : Cond.classLink RSx 16 RTs ∈ tb := tb_of 71 (by decide +kernel) (by decide +kernel)
theorem tq43 : Cond.instantiable RTs 4 ∈ tb := tb_of 72 (by decide +kernel) (by decide +kernel)
theorem tq44 : Cond.methodLink RSx 18 yTs_init ∈ tb := tb_of 73 (by decide +kernel) (by decide +kernel)
theorem tq45 : Cond.instanceMethod yTs_init ∈ tb := tb_of 74 (by decide +kernel) (by decide +kernel)
theorem tq47 : Cond.methodLink RTs 3 objectInit ∈ tb := tb_of 76 (by decide +kernel) (by decide +kernel)
theorem tq48 : Cond.classLink RTs 9 ROr ∈ tb := tb_of 77 (by decide +kernel) (by decide +kernel)
theorem tq50 : Cond.methodLink RTs 17 yTs_orderOfWay ∈ tb := tb_of 79 (by decide +kernel) (by decide +kernel)
theorem tq51 : Cond.static yTs_orderOfWay ∈ tb := tb_of 80 (by decide +kernel) (by decide +kernel)
theorem tq53 : Cond.instantiable ROr 5 ∈ tb := tb_of 82 (by decide +kernel) (by decide +kernel)
theorem tq54 : Cond.fieldLinkNest RTs 32 RSx "PARTS_OF_WAYS" "[I" RSx ∈ tn := tn_of 83 (by decide +kernel) (by decide +kernel)
theorem tq56 : Cond.methodLink RTs 36 yOr_init ∈ tb := tb_of 85 (by decide +kernel) (by decide +kernel)
theorem tq57 : Cond.instanceMethod yOr_init ∈ tb := tb_of 86 (by decide +kernel) (by decide +kernel)
theorem tq59 : Cond.methodLink ROr 3 objectInit ∈ tb := tb_of 88 (by decide +kernel) (by decide +kernel)
theorem tq60 : Cond.fieldLink ROr 9 ROr (TOr 0).2.1 (TOr 0).2.2.1 ∈ tb := tb_of 89 (by decide +kernel) (by decide +kernel)
theorem tq61 : Cond.fieldLink ROr 15 ROr (TOr 1).2.1 (TOr 1).2.2.1 ∈ tb := tb_of 90 (by decide +kernel) (by decide +kernel)
theorem tq62 : Cond.fieldLink ROr 18 ROr (TOr 2).2.1 (TOr 2).2.2.1 ∈ tb := tb_of 91 (by decide +kernel) (by decide +kernel)
theorem tq63 : Cond.fieldLink ROr 21 ROr (TOr 3).2.1 (TOr 3).2.2.1 ∈ tb := tb_of 92 (by decide +kernel) (by decide +kernel)
theorem tq64 : Cond.fieldLink ROr 25 ROr (TOr 4).2.1 (TOr 4).2.2.1 ∈ tb := tb_of 93 (by decide +kernel) (by decide +kernel)
theorem tq65 : Cond.fieldLinkNest RTs 39 ROr (TOr 4).2.1 (TOr 4).2.2.1 RSx ∈ tn := tn_of 94 (by decide +kernel) (by decide +kernel)
theorem tq77 : Cond.fieldLink RTs 11 RTs (TTs 0).2.1 (TTs 0).2.2.1 ∈ tb := tb_of 106 (by decide +kernel) (by decide +kernel)
theorem tq78 : Cond.fieldLink RTs 21 RTs (TTs 1).2.1 (TTs 1).2.2.1 ∈ tb := tb_of 107 (by decide +kernel) (by decide +kernel)
theorem tq79 : Cond.fieldLink RTs 25 RTs (TTs 2).2.1 (TTs 2).2.2.1 ∈ tb := tb_of 108 (by decide +kernel) (by decide +kernel)
theorem tq80 : Cond.fieldLinkNest RSx 76 RTs (TTs 2).2.1 (TTs 2).2.2.1 RSx ∈ tn := tn_of 109 (by decide +kernel) (by decide +kernel)
theorem tq81 : Cond.fieldLink RTs 29 RTs (TTs 3).2.1 (TTs 3).2.2.1 ∈ tb := tb_of 110 (by decide +kernel) (by decide +kernel)
theorem tq82 : Cond.fieldLinkNest RSx 84 RTs (TTs 3).2.1 (TTs 3).2.2.1 RSx ∈ tn := tn_of 111 (by decide +kernel) (by decide +kernel)
theorem tq92 : Cond.classLink RSx 23 RQu ∈ tb := tb_of 121 (by decide +kernel) (by decide +kernel)
theorem tq93 : Cond.instantiable RQu 2 ∈ tb := tb_of 122 (by decide +kernel) (by decide +kernel)
theorem tq94 : Cond.methodLink RSx 25 yQu_init ∈ tb := tb_of 123 (by decide +kernel) (by decide +kernel)
theorem tq95 : Cond.instanceMethod yQu_init ∈ tb := tb_of 124 (by decide +kernel) (by decide +kernel)
theorem tq97 : Cond.methodLink RQu 3 objectInit ∈ tb := tb_of 126 (by decide +kernel) (by decide +kernel)
theorem tq98 : Cond.fieldLink RQu 9 RQu (TQu 0).2.1 (TQu 0).2.2.1 ∈ tb := tb_of 127 (by decide +kernel) (by decide +kernel)
theorem tq99 : Cond.fieldLink RQu 15 RQu (TQu 1).2.1 (TQu 1).2.2.1 ∈ tb := tb_of 128 (by decide +kernel) (by decide +kernel)
theorem tq100 : Cond.fieldLinkNest RSe 55 RQu (TQu 1).2.1 (TQu 1).2.2.1 RSx ∈ tn := tn_of 129 (by decide +kernel) (by decide +kernel)
theorem tq101 : Cond.fieldLinkNest RSx 98 RQu (TQu 1).2.1 (TQu 1).2.2.1 RSx ∈ tn := tn_of 130 (by decide +kernel) (by decide +kernel)
theorem tq107 : Cond.classLink RSx 30 RSe ∈ tb := tb_of 136 (by decide +kernel) (by decide +kernel)
theorem tq108 : Cond.instantiable RSe 11 ∈ tb := tb_of 137 (by decide +kernel) (by decide +kernel)
theorem tq109 : Cond.methodLink RSx 32 ySe_init ∈ tb := tb_of 138 (by decide +kernel) (by decide +kernel)
theorem tq110 : Cond.instanceMethod ySe_init ∈ tb := tb_of 139 (by decide +kernel) (by decide +kernel)
theorem tq112 : Cond.methodLink RSe 3 objectInit ∈ tb := tb_of 141 (by decide +kernel) (by decide +kernel)
theorem tq113 : Cond.fieldLink RSe 9 RSe (TSe 0).2.1 (TSe 0).2.2.1 ∈ tb := tb_of 142 (by decide +kernel) (by decide +kernel)
theorem tq114 : Cond.fieldLink RSe 15 RSe (TSe 1).2.1 (TSe 1).2.2.1 ∈ tb := tb_of 143 (by decide +kernel) (by decide +kernel)
theorem tq115 : Cond.fieldLink RSe 19 RSe (TSe 2).2.1 (TSe 2).2.2.1 ∈ tb := tb_of 144 (by decide +kernel) (by decide +kernel)
theorem tq116 : Cond.fieldLink RSe 22 RSe (TSe 3).2.1 (TSe 3).2.2.1 ∈ tb := tb_of 145 (by decide +kernel) (by decide +kernel)
theorem tq117 : Cond.fieldLink RSe 25 RSe (TSe 4).2.1 (TSe 4).2.2.1 ∈ tb := tb_of 146 (by decide +kernel) (by decide +kernel)
theorem tq118 : Cond.fieldLink RSe 28 RSe (TSe 5).2.1 (TSe 5).2.2.1 ∈ tb := tb_of 147 (by decide +kernel) (by decide +kernel)
theorem tq119 : Cond.fieldLink RSe 32 RSe (TSe 6).2.1 (TSe 6).2.2.1 ∈ tb := tb_of 148 (by decide +kernel) (by decide +kernel)
theorem tq120 : Cond.fieldLink RSe 35 RSe (TSe 7).2.1 (TSe 7).2.2.1 ∈ tb := tb_of 149 (by decide +kernel) (by decide +kernel)
theorem tq121 : Cond.fieldLink RSe 38 RSe (TSe 8).2.1 (TSe 8).2.2.1 ∈ tb := tb_of 150 (by decide +kernel) (by decide +kernel)
theorem tq122 : Cond.fieldLink RSe 41 RSe (TSe 9).2.1 (TSe 9).2.2.1 ∈ tb := tb_of 151 (by decide +kernel) (by decide +kernel)
theorem tq123 : Cond.fieldLinkNest RSx 112 RSe (TSe 9).2.1 (TSe 9).2.2.1 RSx ∈ tn := tn_of 152 (by decide +kernel) (by decide +kernel)
theorem tq124 : Cond.fieldLink RSe 44 RSe (TSe 10).2.1 (TSe 10).2.2.1 ∈ tb := tb_of 153 (by decide +kernel) (by decide +kernel)
theorem tq125 : Cond.fieldLinkNest RSx 121 RSe (TSe 10).2.1 (TSe 10).2.2.1 RSx ∈ tn := tn_of 154 (by decide +kernel) (by decide +kernel)
theorem tq149 : Cond.fieldLink RSx 10 RSx (TSx 0).2.1 (TSx 0).2.2.1 ∈ tb := tb_of 178 (by decide +kernel) (by decide +kernel)
theorem tq150 : Cond.fieldLink RSx 19 RSx (TSx 1).2.1 (TSx 1).2.2.1 ∈ tb := tb_of 179 (by decide +kernel) (by decide +kernel)
theorem tq151 : Cond.fieldLink RSx 26 RSx (TSx 2).2.1 (TSx 2).2.2.1 ∈ tb := tb_of 180 (by decide +kernel) (by decide +kernel)
theorem tq152 : Cond.fieldLink RSx 33 RSx (TSx 3).2.1 (TSx 3).2.2.1 ∈ tb := tb_of 181 (by decide +kernel) (by decide +kernel)
theorem tq162 : Cond.methodLink "SixfoldTriplesLaw" 13 ySx_letter ∈ tb := tb_of 191 (by decide +kernel) (by decide +kernel)
theorem tq163 : Cond.instanceMethod ySx_letter ∈ tb := tb_of 192 (by decide +kernel) (by decide +kernel)
theorem tq164 : Cond.selects ySx_letter.cls ySx_letter ySx_letter ∈ tb := tb_of 193 (by decide +kernel) (by decide +kernel)
theorem tq166 : Cond.methodLink RSx 37 yDi_addLetter ∈ tb := tb_of 195 (by decide +kernel) (by decide +kernel)
theorem tq167 : Cond.instanceMethod yDi_addLetter ∈ tb := tb_of 196 (by decide +kernel) (by decide +kernel)
theorem tq168 : Cond.selects yDi_addLetter.cls yDi_addLetter yDi_addLetter ∈ tb := tb_of 197 (by decide +kernel) (by decide +kernel)
theorem tq170 : Cond.methodLink "SixfoldTriplesLaw" 18 ySx_intern ∈ tb := tb_of 199 (by decide +kernel) (by decide +kernel)
theorem tq171 : Cond.instanceMethod ySx_intern ∈ tb := tb_of 200 (by decide +kernel) (by decide +kernel)
theorem tq172 : Cond.selects ySx_intern.cls ySx_intern ySx_intern ∈ tb := tb_of 201 (by decide +kernel) (by decide +kernel)
theorem tq174 : Cond.methodLink RSx 41 yDi_takeIn ∈ tb := tb_of 203 (by decide +kernel) (by decide +kernel)
theorem tq175 : Cond.instanceMethod yDi_takeIn ∈ tb := tb_of 204 (by decide +kernel) (by decide +kernel)
theorem tq176 : Cond.selects yDi_takeIn.cls yDi_takeIn yDi_takeIn ∈ tb := tb_of 205 (by decide +kernel) (by decide +kernel)
theorem tq178 : Cond.methodLink RDi 30 yDi_numberOfBegun ∈ tb := tb_of 207 (by decide +kernel) (by decide +kernel)
theorem tq180 : Cond.instanceMethod yDi_numberOfBegun ∈ tb := tb_of 209 (by decide +kernel) (by decide +kernel)
theorem tq182 : Cond.methodLink "SixfoldTriplesLaw" 23 ySx_words ∈ tb := tb_of 211 (by decide +kernel) (by decide +kernel)
theorem tq183 : Cond.instanceMethod ySx_words ∈ tb := tb_of 212 (by decide +kernel) (by decide +kernel)
theorem tq184 : Cond.selects ySx_words.cls ySx_words ySx_words ∈ tb := tb_of 213 (by decide +kernel) (by decide +kernel)
theorem tq186 : Cond.methodLink "SixfoldTriplesLaw" 27 ySx_spell ∈ tb := tb_of 215 (by decide +kernel) (by decide +kernel)
theorem tq187 : Cond.instanceMethod ySx_spell ∈ tb := tb_of 216 (by decide +kernel) (by decide +kernel)
theorem tq188 : Cond.selects ySx_spell.cls ySx_spell ySx_spell ∈ tb := tb_of 217 (by decide +kernel) (by decide +kernel)
theorem tq190 : Cond.methodLink RSx 49 yDi_letterAt ∈ tb := tb_of 219 (by decide +kernel) (by decide +kernel)
theorem tq191 : Cond.instanceMethod yDi_letterAt ∈ tb := tb_of 220 (by decide +kernel) (by decide +kernel)
theorem tq192 : Cond.selects yDi_letterAt.cls yDi_letterAt yDi_letterAt ∈ tb := tb_of 221 (by decide +kernel) (by decide +kernel)
theorem tq194 : Cond.methodLink RDi 34 yDi_has ∈ tb := tb_of 223 (by decide +kernel) (by decide +kernel)
theorem tq195 : Cond.instanceMethod yDi_has ∈ tb := tb_of 224 (by decide +kernel) (by decide +kernel)
theorem tq196 : Cond.selects yDi_has.cls yDi_has yDi_has ∈ tb := tb_of 225 (by decide +kernel) (by decide +kernel)
theorem tq198 : Cond.methodLink "SixfoldTriplesLaw" 32 ySx_insert ∈ tb := tb_of 227 (by decide +kernel) (by decide +kernel)
theorem tq199 : Cond.instanceMethod ySx_insert ∈ tb := tb_of 228 (by decide +kernel) (by decide +kernel)
theorem tq200 : Cond.selects ySx_insert.cls ySx_insert ySx_insert ∈ tb := tb_of 229 (by decide +kernel) (by decide +kernel)
theorem tq202 : Cond.methodLink RSx 53 ySx_areTerms ∈ tb := tb_of 231 (by decide +kernel) (by decide +kernel)
theorem tq204 : Cond.instanceMethod ySx_areTerms ∈ tb := tb_of 233 (by decide +kernel) (by decide +kernel)
theorem tq206 : Cond.methodLink RSx 124 yDi_has ∈ tb := tb_of 235 (by decide +kernel) (by decide +kernel)
theorem tq207 : Cond.methodLink RSx 57 ySx_codeOf ∈ tb := tb_of 236 (by decide +kernel) (by decide +kernel)
theorem tq208 : Cond.static ySx_codeOf ∈ tb := tb_of 237 (by decide +kernel) (by decide +kernel)
theorem tq210 : Cond.methodLink RSx 61 yTs_holds ∈ tb := tb_of 239 (by decide +kernel) (by decide +kernel)
theorem tq211 : Cond.instanceMethod yTs_holds ∈ tb := tb_of 240 (by decide +kernel) (by decide +kernel)
theorem tq212 : Cond.selects yTs_holds.cls yTs_holds yTs_holds ∈ tb := tb_of 241 (by decide +kernel) (by decide +kernel)
theorem tq214 : Cond.methodLink RTs 42 yOr_holds ∈ tb := tb_of 243 (by decide +kernel) (by decide +kernel)
theorem tq215 : Cond.instanceMethod yOr_holds ∈ tb := tb_of 244 (by decide +kernel) (by decide +kernel)
theorem tq216 : Cond.selects yOr_holds.cls yOr_holds yOr_holds ∈ tb := tb_of 245 (by decide +kernel) (by decide +kernel)
theorem tq218 : Cond.methodLink ROr 36 yOr_keyOf ∈ tb := tb_of 247 (by decide +kernel) (by decide +kernel)
theorem tq220 : Cond.instanceMethod yOr_keyOf ∈ tb := tb_of 249 (by decide +kernel) (by decide +kernel)
theorem tq222 : Cond.methodLinkNest ROr 28 ySx_partOf RSx ∈ tn := tn_of 251 (by decide +kernel) (by decide +kernel)
theorem tq223 : Cond.static ySx_partOf ∈ tb := tb_of 252 (by decide +kernel) (by decide +kernel)
theorem tq225 : Cond.methodLink RSx 127 ySx_shiftOf ∈ tb := tb_of 254 (by decide +kernel) (by decide +kernel)
theorem tq226 : Cond.static ySx_shiftOf ∈ tb := tb_of 255 (by decide +kernel) (by decide +kernel)
theorem tq228 : Cond.methodLinkNest ROr 32 ySx_codeOf RSx ∈ tn := tn_of 257 (by decide +kernel) (by decide +kernel)
theorem tq229 : Cond.methodLink ROr 40 yOr_rankOf ∈ tb := tb_of 258 (by decide +kernel) (by decide +kernel)
theorem tq231 : Cond.instanceMethod yOr_rankOf ∈ tb := tb_of 260 (by decide +kernel) (by decide +kernel)
theorem tq233 : Cond.methodLink RSx 65 yTs_isFull ∈ tb := tb_of 262 (by decide +kernel) (by decide +kernel)
theorem tq234 : Cond.instanceMethod yTs_isFull ∈ tb := tb_of 263 (by decide +kernel) (by decide +kernel)
theorem tq235 : Cond.selects yTs_isFull.cls yTs_isFull yTs_isFull ∈ tb := tb_of 264 (by decide +kernel) (by decide +kernel)
theorem tq237 : Cond.methodLink RSx 69 yTs_put ∈ tb := tb_of 266 (by decide +kernel) (by decide +kernel)
theorem tq238 : Cond.instanceMethod yTs_put ∈ tb := tb_of 267 (by decide +kernel) (by decide +kernel)
theorem tq239 : Cond.selects yTs_put.cls yTs_put yTs_put ∈ tb := tb_of 268 (by decide +kernel) (by decide +kernel)
theorem tq241 : Cond.methodLink RTs 50 yTs_settleWhenDue ∈ tb := tb_of 270 (by decide +kernel) (by decide +kernel)
theorem tq243 : Cond.instanceMethod yTs_settleWhenDue ∈ tb := tb_of 272 (by decide +kernel) (by decide +kernel)
theorem tq245 : Cond.methodLink RTs 60 yTs_settle ∈ tb := tb_of 274 (by decide +kernel) (by decide +kernel)
theorem tq246 : Cond.instanceMethod yTs_settle ∈ tb := tb_of 275 (by decide +kernel) (by decide +kernel)
theorem tq247 : Cond.selects yTs_settle.cls yTs_settle yTs_settle ∈ tb := tb_of 276 (by decide +kernel) (by decide +kernel)
theorem tq249 : Cond.methodLink RTs 63 yOr_copyFrom ∈ tb := tb_of 278 (by decide +kernel) (by decide +kernel)
theorem tq250 : Cond.instanceMethod yOr_copyFrom ∈ tb := tb_of 279 (by decide +kernel) (by decide +kernel)
theorem tq251 : Cond.selects yOr_copyFrom.cls yOr_copyFrom yOr_copyFrom ∈ tb := tb_of 280 (by decide +kernel) (by decide +kernel)
theorem tq253 : Cond.methodLink ROr 46 arraycopyName ∈ tb := tb_of 282 (by decide +kernel) (by decide +kernel)
theorem tq254 : Cond.static arraycopyName ∈ tb := tb_of 283 (by decide +kernel) (by decide +kernel)
theorem tq255 : Cond.native arraycopyName ∈ tb := tb_of 284 (by decide +kernel) (by decide +kernel)
theorem tq256 : Cond.methodLink RTs 53 yOr_put ∈ tb := tb_of 285 (by decide +kernel) (by decide +kernel)
theorem tq257 : Cond.instanceMethod yOr_put ∈ tb := tb_of 286 (by decide +kernel) (by decide +kernel)
theorem tq258 : Cond.selects yOr_put.cls yOr_put yOr_put ∈ tb := tb_of 287 (by decide +kernel) (by decide +kernel)
theorem tq260 : Cond.methodLink "SixfoldTriplesLaw" 37 ySx_remove ∈ tb := tb_of 289 (by decide +kernel) (by decide +kernel)
theorem tq261 : Cond.instanceMethod ySx_remove ∈ tb := tb_of 290 (by decide +kernel) (by decide +kernel)
theorem tq262 : Cond.selects ySx_remove.cls ySx_remove ySx_remove ∈ tb := tb_of 291 (by decide +kernel) (by decide +kernel)
theorem tq264 : Cond.methodLink RSx 73 yTs_take ∈ tb := tb_of 293 (by decide +kernel) (by decide +kernel)
theorem tq265 : Cond.instanceMethod yTs_take ∈ tb := tb_of 294 (by decide +kernel) (by decide +kernel)
theorem tq266 : Cond.selects yTs_take.cls yTs_take yTs_take ∈ tb := tb_of 295 (by decide +kernel) (by decide +kernel)
theorem tq268 : Cond.methodLink RTs 57 yOr_take ∈ tb := tb_of 297 (by decide +kernel) (by decide +kernel)
theorem tq269 : Cond.instanceMethod yOr_take ∈ tb := tb_of 298 (by decide +kernel) (by decide +kernel)
theorem tq270 : Cond.selects yOr_take.cls yOr_take yOr_take ∈ tb := tb_of 299 (by decide +kernel) (by decide +kernel)
theorem tq272 : Cond.methodLink "SixfoldTriplesLaw" 41 ySx_merge ∈ tb := tb_of 301 (by decide +kernel) (by decide +kernel)
theorem tq273 : Cond.instanceMethod ySx_merge ∈ tb := tb_of 302 (by decide +kernel) (by decide +kernel)
theorem tq274 : Cond.selects ySx_merge.cls ySx_merge ySx_merge ∈ tb := tb_of 303 (by decide +kernel) (by decide +kernel)
theorem tq276 : Cond.methodLink RSx 79 yTs_settle ∈ tb := tb_of 305 (by decide +kernel) (by decide +kernel)
theorem tq277 : Cond.methodLink "SixfoldTriplesLaw" 45 ySx_size ∈ tb := tb_of 306 (by decide +kernel) (by decide +kernel)
theorem tq278 : Cond.instanceMethod ySx_size ∈ tb := tb_of 307 (by decide +kernel) (by decide +kernel)
theorem tq279 : Cond.selects ySx_size.cls ySx_size ySx_size ∈ tb := tb_of 308 (by decide +kernel) (by decide +kernel)
theorem tq281 : Cond.methodLink RSx 82 yTs_count ∈ tb := tb_of 310 (by decide +kernel) (by decide +kernel)
theorem tq282 : Cond.instanceMethod yTs_count ∈ tb := tb_of 311 (by decide +kernel) (by decide +kernel)
theorem tq283 : Cond.selects yTs_count.cls yTs_count yTs_count ∈ tb := tb_of 312 (by decide +kernel) (by decide +kernel)
theorem tq285 : Cond.methodLink "SixfoldTriplesLaw" 49 ySx_pending ∈ tb := tb_of 314 (by decide +kernel) (by decide +kernel)
theorem tq286 : Cond.instanceMethod ySx_pending ∈ tb := tb_of 315 (by decide +kernel) (by decide +kernel)
theorem tq287 : Cond.selects ySx_pending.cls ySx_pending ySx_pending ∈ tb := tb_of 316 (by decide +kernel) (by decide +kernel)
theorem tq289 : Cond.methodLink "SixfoldTriplesLaw" 53 ySx_merges ∈ tb := tb_of 318 (by decide +kernel) (by decide +kernel)
theorem tq290 : Cond.instanceMethod ySx_merges ∈ tb := tb_of 319 (by decide +kernel) (by decide +kernel)
theorem tq291 : Cond.selects ySx_merges.cls ySx_merges ySx_merges ∈ tb := tb_of 320 (by decide +kernel) (by decide +kernel)
theorem tq293 : Cond.methodLink "SixfoldTriplesLaw" 57 ySx_triple ∈ tb := tb_of 322 (by decide +kernel) (by decide +kernel)
theorem tq294 : Cond.instanceMethod ySx_triple ∈ tb := tb_of 323 (by decide +kernel) (by decide +kernel)
theorem tq295 : Cond.selects ySx_triple.cls ySx_triple ySx_triple ∈ tb := tb_of 324 (by decide +kernel) (by decide +kernel)
theorem tq297 : Cond.methodLink RSx 87 yTs_codeAt ∈ tb := tb_of 326 (by decide +kernel) (by decide +kernel)
theorem tq298 : Cond.instanceMethod yTs_codeAt ∈ tb := tb_of 327 (by decide +kernel) (by decide +kernel)
theorem tq299 : Cond.selects yTs_codeAt.cls yTs_codeAt yTs_codeAt ∈ tb := tb_of 328 (by decide +kernel) (by decide +kernel)
theorem tq301 : Cond.methodLink RTs 46 yOr_codeAt ∈ tb := tb_of 330 (by decide +kernel) (by decide +kernel)
theorem tq302 : Cond.instanceMethod yOr_codeAt ∈ tb := tb_of 331 (by decide +kernel) (by decide +kernel)
theorem tq303 : Cond.selects yOr_codeAt.cls yOr_codeAt yOr_codeAt ∈ tb := tb_of 332 (by decide +kernel) (by decide +kernel)
theorem tq305 : Cond.methodLinkNest ROr 43 ySx_shiftOf RSx ∈ tn := tn_of 334 (by decide +kernel) (by decide +kernel)
theorem tq306 : Cond.methodLink "SixfoldTriplesLaw" 61 ySx_where ∈ tb := tb_of 335 (by decide +kernel) (by decide +kernel)
theorem tq307 : Cond.instanceMethod ySx_where ∈ tb := tb_of 336 (by decide +kernel) (by decide +kernel)
theorem tq308 : Cond.selects ySx_where.cls ySx_where ySx_where ∈ tb := tb_of 337 (by decide +kernel) (by decide +kernel)
theorem tq310 : Cond.methodLink RSx 90 ySx_fitsPattern ∈ tb := tb_of 339 (by decide +kernel) (by decide +kernel)
theorem tq312 : Cond.instanceMethod ySx_fitsPattern ∈ tb := tb_of 341 (by decide +kernel) (by decide +kernel)
theorem tq314 : Cond.methodLink RSx 115 ySx_isVariable ∈ tb := tb_of 343 (by decide +kernel) (by decide +kernel)
theorem tq315 : Cond.static ySx_isVariable ∈ tb := tb_of 344 (by decide +kernel) (by decide +kernel)
theorem tq317 : Cond.methodLink RSx 93 yQu_isFull ∈ tb := tb_of 346 (by decide +kernel) (by decide +kernel)
theorem tq318 : Cond.instanceMethod yQu_isFull ∈ tb := tb_of 347 (by decide +kernel) (by decide +kernel)
theorem tq319 : Cond.selects yQu_isFull.cls yQu_isFull yQu_isFull ∈ tb := tb_of 348 (by decide +kernel) (by decide +kernel)
theorem tq321 : Cond.methodLink RSx 94 yQu_add ∈ tb := tb_of 350 (by decide +kernel) (by decide +kernel)
theorem tq322 : Cond.instanceMethod yQu_add ∈ tb := tb_of 351 (by decide +kernel) (by decide +kernel)
theorem tq323 : Cond.selects yQu_add.cls yQu_add yQu_add ∈ tb := tb_of 352 (by decide +kernel) (by decide +kernel)
theorem tq325 : Cond.methodLink "SixfoldTriplesLaw" 65 ySx_clear ∈ tb := tb_of 354 (by decide +kernel) (by decide +kernel)
theorem tq326 : Cond.instanceMethod ySx_clear ∈ tb := tb_of 355 (by decide +kernel) (by decide +kernel)
theorem tq327 : Cond.selects ySx_clear.cls ySx_clear ySx_clear ∈ tb := tb_of 356 (by decide +kernel) (by decide +kernel)
theorem tq329 : Cond.methodLink "SixfoldTriplesLaw" 69 ySx_run ∈ tb := tb_of 358 (by decide +kernel) (by decide +kernel)
theorem tq330 : Cond.instanceMethod ySx_run ∈ tb := tb_of 359 (by decide +kernel) (by decide +kernel)
theorem tq331 : Cond.selects ySx_run.cls ySx_run ySx_run ∈ tb := tb_of 360 (by decide +kernel) (by decide +kernel)
theorem tq333 : Cond.methodLink RSx 99 yQu_hasRow ∈ tb := tb_of 362 (by decide +kernel) (by decide +kernel)
theorem tq334 : Cond.instanceMethod yQu_hasRow ∈ tb := tb_of 363 (by decide +kernel) (by decide +kernel)
theorem tq335 : Cond.selects yQu_hasRow.cls yQu_hasRow yQu_hasRow ∈ tb := tb_of 364 (by decide +kernel) (by decide +kernel)
theorem tq337 : Cond.methodLink RQu 30 yQu_variableBits ∈ tb := tb_of 366 (by decide +kernel) (by decide +kernel)
theorem tq339 : Cond.instanceMethod yQu_variableBits ∈ tb := tb_of 368 (by decide +kernel) (by decide +kernel)
theorem tq341 : Cond.methodLinkNest RQu 19 ySx_isVariable RSx ∈ tn := tn_of 370 (by decide +kernel) (by decide +kernel)
theorem tq342 : Cond.methodLink RQu 34 yQu_awaitedAfter ∈ tb := tb_of 371 (by decide +kernel) (by decide +kernel)
theorem tq343 : Cond.static yQu_awaitedAfter ∈ tb := tb_of 372 (by decide +kernel) (by decide +kernel)
theorem tq345 : Cond.methodLink RSx 102 ySe_begin ∈ tb := tb_of 374 (by decide +kernel) (by decide +kernel)
theorem tq346 : Cond.instanceMethod ySe_begin ∈ tb := tb_of 375 (by decide +kernel) (by decide +kernel)
theorem tq347 : Cond.selects ySe_begin.cls ySe_begin ySe_begin ∈ tb := tb_of 376 (by decide +kernel) (by decide +kernel)
theorem tq349 : Cond.methodLink RSe 47 ySe_lengthenRow ∈ tb := tb_of 378 (by decide +kernel) (by decide +kernel)
theorem tq351 : Cond.instanceMethod ySe_lengthenRow ∈ tb := tb_of 380 (by decide +kernel) (by decide +kernel)
theorem tq353 : Cond.methodLinkNest RSe 51 ySx_isVariable RSx ∈ tn := tn_of 382 (by decide +kernel) (by decide +kernel)
theorem tq354 : Cond.methodLink RSx 105 ySe_prepare ∈ tb := tb_of 383 (by decide +kernel) (by decide +kernel)
theorem tq355 : Cond.instanceMethod ySe_prepare ∈ tb := tb_of 384 (by decide +kernel) (by decide +kernel)
theorem tq356 : Cond.selects ySe_prepare.cls ySe_prepare ySe_prepare ∈ tb := tb_of 385 (by decide +kernel) (by decide +kernel)
theorem tq358 : Cond.methodLink RSe 60 ySe_findPlaces ∈ tb := tb_of 387 (by decide +kernel) (by decide +kernel)
theorem tq360 : Cond.instanceMethod ySe_findPlaces ∈ tb := tb_of 389 (by decide +kernel) (by decide +kernel)
theorem tq362 : Cond.methodLink RSe 72 yQu_placeOf ∈ tb := tb_of 391 (by decide +kernel) (by decide +kernel)
theorem tq363 : Cond.instanceMethod yQu_placeOf ∈ tb := tb_of 392 (by decide +kernel) (by decide +kernel)
theorem tq364 : Cond.selects yQu_placeOf.cls yQu_placeOf yQu_placeOf ∈ tb := tb_of 393 (by decide +kernel) (by decide +kernel)
theorem tq366 : Cond.methodLink RSe 64 ySe_findHolders ∈ tb := tb_of 395 (by decide +kernel) (by decide +kernel)
theorem tq368 : Cond.instanceMethod ySe_findHolders ∈ tb := tb_of 397 (by decide +kernel) (by decide +kernel)
theorem tq370 : Cond.methodLink RSe 76 yTs_count ∈ tb := tb_of 399 (by decide +kernel) (by decide +kernel)
theorem tq371 : Cond.methodLink RSe 81 yTs_codeAt ∈ tb := tb_of 400 (by decide +kernel) (by decide +kernel)
theorem tq372 : Cond.methodLinkNest RSe 84 ySx_partOf RSx ∈ tn := tn_of 401 (by decide +kernel) (by decide +kernel)
theorem tq373 : Cond.methodLink RSe 68 ySe_agreeingUnbound ∈ tb := tb_of 402 (by decide +kernel) (by decide +kernel)
theorem tq374 : Cond.static ySe_agreeingUnbound ∈ tb := tb_of 403 (by decide +kernel) (by decide +kernel)
theorem tq376 : Cond.methodLink RSe 87 yQu_agrees ∈ tb := tb_of 405 (by decide +kernel) (by decide +kernel)
theorem tq377 : Cond.instanceMethod yQu_agrees ∈ tb := tb_of 406 (by decide +kernel) (by decide +kernel)
theorem tq378 : Cond.selects yQu_agrees.cls yQu_agrees yQu_agrees ∈ tb := tb_of 407 (by decide +kernel) (by decide +kernel)
theorem tq380 : Cond.methodLink RQu 23 yQu_placeOf ∈ tb := tb_of 409 (by decide +kernel) (by decide +kernel)
theorem tq381 : Cond.methodLinkNest RQu 27 ySx_partOf RSx ∈ tn := tn_of 410 (by decide +kernel) (by decide +kernel)
theorem tq382 : Cond.methodLink RSx 109 ySe_findAll ∈ tb := tb_of 411 (by decide +kernel) (by decide +kernel)
theorem tq383 : Cond.instanceMethod ySe_findAll ∈ tb := tb_of 412 (by decide +kernel) (by decide +kernel)
theorem tq384 : Cond.selects ySe_findAll.cls ySe_findAll ySe_findAll ∈ tb := tb_of 413 (by decide +kernel) (by decide +kernel)
theorem tq386 : Cond.methodLink RSe 91 ySe_fixedPatternsHold ∈ tb := tb_of 415 (by decide +kernel) (by decide +kernel)
theorem tq388 : Cond.instanceMethod ySe_fixedPatternsHold ∈ tb := tb_of 417 (by decide +kernel) (by decide +kernel)
theorem tq390 : Cond.methodLink RSe 98 ySe_isFixed ∈ tb := tb_of 419 (by decide +kernel) (by decide +kernel)
theorem tq392 : Cond.instanceMethod ySe_isFixed ∈ tb := tb_of 421 (by decide +kernel) (by decide +kernel)
theorem tq394 : Cond.methodLink RSe 95 ySe_walk ∈ tb := tb_of 423 (by decide +kernel) (by decide +kernel)
theorem tq396 : Cond.instanceMethod ySe_walk ∈ tb := tb_of 425 (by decide +kernel) (by decide +kernel)
theorem tq398 : Cond.methodLink RSe 101 ySe_keepAnswer ∈ tb := tb_of 427 (by decide +kernel) (by decide +kernel)
theorem tq400 : Cond.instanceMethod ySe_keepAnswer ∈ tb := tb_of 429 (by decide +kernel) (by decide +kernel)
theorem tq402 : Cond.methodLink RSe 111 arraycopyName ∈ tb := tb_of 431 (by decide +kernel) (by decide +kernel)
theorem tq403 : Cond.methodLink RSe 104 ySe_bind ∈ tb := tb_of 432 (by decide +kernel) (by decide +kernel)
theorem tq405 : Cond.instanceMethod ySe_bind ∈ tb := tb_of 434 (by decide +kernel) (by decide +kernel)
theorem tq407 : Cond.methodLink RSe 108 ySe_narrow ∈ tb := tb_of 436 (by decide +kernel) (by decide +kernel)
theorem tq409 : Cond.instanceMethod ySe_narrow ∈ tb := tb_of 438 (by decide +kernel) (by decide +kernel)
theorem tq411 : Cond.methodLink "SixfoldTriplesLaw" 73 ySx_answer ∈ tb := tb_of 440 (by decide +kernel) (by decide +kernel)
theorem tq412 : Cond.instanceMethod ySx_answer ∈ tb := tb_of 441 (by decide +kernel) (by decide +kernel)
theorem tq413 : Cond.selects ySx_answer.cls ySx_answer ySx_answer ∈ tb := tb_of 442 (by decide +kernel) (by decide +kernel)
theorem tq415 : Cond.methodLink RSx 118 ySe_termAt ∈ tb := tb_of 444 (by decide +kernel) (by decide +kernel)
theorem tq416 : Cond.instanceMethod ySe_termAt ∈ tb := tb_of 445 (by decide +kernel) (by decide +kernel)
theorem tq417 : Cond.selects ySe_termAt.cls ySe_termAt ySe_termAt ∈ tb := tb_of 446 (by decide +kernel) (by decide +kernel)
theorem tq419 : Cond.methodLink "SixfoldTriplesLaw" 77 ySx_live ∈ tb := tb_of 448 (by decide +kernel) (by decide +kernel)
theorem tq420 : Cond.instanceMethod ySx_live ∈ tb := tb_of 449 (by decide +kernel) (by decide +kernel)
theorem tq421 : Cond.selects ySx_live.cls ySx_live ySx_live ∈ tb := tb_of 450 (by decide +kernel) (by decide +kernel)
theorem tq423 : Cond.classLink "SixfoldTriplesLaw" 10 RMo ∈ tb := tb_of 452 (by decide +kernel) (by decide +kernel)
theorem tq424 : Cond.instantiable RMo 19 ∈ tb := tb_of 453 (by decide +kernel) (by decide +kernel)
theorem tq425 : Cond.methodLink "SixfoldTriplesLaw" 12 yMo_init ∈ tb := tb_of 454 (by decide +kernel) (by decide +kernel)
theorem tq426 : Cond.instanceMethod yMo_init ∈ tb := tb_of 455 (by decide +kernel) (by decide +kernel)
theorem tq428 : Cond.methodLink RMo 1 objectInit ∈ tb := tb_of 457 (by decide +kernel) (by decide +kernel)
theorem tq429 : Cond.fieldLink RMo 42 RMo (TMo 0).2.1 (TMo 0).2.2.1 ∈ tb := tb_of 458 (by decide +kernel) (by decide +kernel)
theorem tq430 : Cond.fieldLink RMo 7 RMo (TMo 1).2.1 (TMo 1).2.2.1 ∈ tb := tb_of 459 (by decide +kernel) (by decide +kernel)
theorem tq431 : Cond.fieldLink RMo 46 RMo (TMo 2).2.1 (TMo 2).2.2.1 ∈ tb := tb_of 460 (by decide +kernel) (by decide +kernel)
theorem tq432 : Cond.fieldLink RMo 13 RMo (TMo 3).2.1 (TMo 3).2.2.1 ∈ tb := tb_of 461 (by decide +kernel) (by decide +kernel)
theorem tq433 : Cond.fieldLink RMo 17 RMo (TMo 4).2.1 (TMo 4).2.2.1 ∈ tb := tb_of 462 (by decide +kernel) (by decide +kernel)
theorem tq434 : Cond.fieldLink RMo 53 RMo (TMo 5).2.1 (TMo 5).2.2.1 ∈ tb := tb_of 463 (by decide +kernel) (by decide +kernel)
theorem tq435 : Cond.fieldLink RMo 20 RMo (TMo 6).2.1 (TMo 6).2.2.1 ∈ tb := tb_of 464 (by decide +kernel) (by decide +kernel)
theorem tq436 : Cond.fieldLink RMo 56 RMo (TMo 7).2.1 (TMo 7).2.2.1 ∈ tb := tb_of 465 (by decide +kernel) (by decide +kernel)
theorem tq437 : Cond.fieldLink RMo 23 RMo (TMo 8).2.1 (TMo 8).2.2.1 ∈ tb := tb_of 466 (by decide +kernel) (by decide +kernel)
theorem tq438 : Cond.fieldLink RMo 70 RMo (TMo 9).2.1 (TMo 9).2.2.1 ∈ tb := tb_of 467 (by decide +kernel) (by decide +kernel)
theorem tq439 : Cond.fieldLink RMo 96 RMo (TMo 10).2.1 (TMo 10).2.2.1 ∈ tb := tb_of 468 (by decide +kernel) (by decide +kernel)
theorem tq440 : Cond.fieldLink RMo 26 RMo (TMo 11).2.1 (TMo 11).2.2.1 ∈ tb := tb_of 469 (by decide +kernel) (by decide +kernel)
theorem tq441 : Cond.fieldLink RMo 99 RMo (TMo 12).2.1 (TMo 12).2.2.1 ∈ tb := tb_of 470 (by decide +kernel) (by decide +kernel)
theorem tq442 : Cond.fieldLink RMo 29 RMo (TMo 13).2.1 (TMo 13).2.2.1 ∈ tb := tb_of 471 (by decide +kernel) (by decide +kernel)
theorem tq443 : Cond.fieldLink RMo 32 RMo (TMo 14).2.1 (TMo 14).2.2.1 ∈ tb := tb_of 472 (by decide +kernel) (by decide +kernel)
theorem tq444 : Cond.fieldLink RMo 35 RMo (TMo 15).2.1 (TMo 15).2.2.1 ∈ tb := tb_of 473 (by decide +kernel) (by decide +kernel)
theorem tq445 : Cond.fieldLink RMo 129 RMo (TMo 16).2.1 (TMo 16).2.2.1 ∈ tb := tb_of 474 (by decide +kernel) (by decide +kernel)
theorem tq446 : Cond.fieldLink RMo 39 RMo (TMo 17).2.1 (TMo 17).2.2.1 ∈ tb := tb_of 475 (by decide +kernel) (by decide +kernel)
theorem tq447 : Cond.fieldLink RMo 123 RMo (TMo 18).2.1 (TMo 18).2.2.1 ∈ tb := tb_of 476 (by decide +kernel) (by decide +kernel)
theorem tq487 : Cond.arrayClass .char ∈ tb := tb_of 516 (by decide +kernel) (by decide +kernel)
theorem tq488 : Cond.arrayClass .boolean ∈ tb := tb_of 517 (by decide +kernel) (by decide +kernel)
theorem tq489 : Cond.methodLink "SixfoldTriplesLaw" 17 yMo_letter ∈ tb := tb_of 518 (by decide +kernel) (by decide +kernel)
theorem tq490 : Cond.instanceMethod yMo_letter ∈ tb := tb_of 519 (by decide +kernel) (by decide +kernel)
theorem tq491 : Cond.selects yMo_letter.cls yMo_letter yMo_letter ∈ tb := tb_of 520 (by decide +kernel) (by decide +kernel)
theorem tq493 : Cond.methodLink "SixfoldTriplesLaw" 22 yMo_intern ∈ tb := tb_of 522 (by decide +kernel) (by decide +kernel)
theorem tq494 : Cond.instanceMethod yMo_intern ∈ tb := tb_of 523 (by decide +kernel) (by decide +kernel)
theorem tq495 : Cond.selects yMo_intern.cls yMo_intern yMo_intern ∈ tb := tb_of 524 (by decide +kernel) (by decide +kernel)
theorem tq497 : Cond.methodLink RMo 49 yMo_isWord ∈ tb := tb_of 526 (by decide +kernel) (by decide +kernel)
theorem tq499 : Cond.instanceMethod yMo_isWord ∈ tb := tb_of 528 (by decide +kernel) (by decide +kernel)
theorem tq501 : Cond.methodLink "SixfoldTriplesLaw" 26 yMo_words ∈ tb := tb_of 530 (by decide +kernel) (by decide +kernel)
theorem tq502 : Cond.instanceMethod yMo_words ∈ tb := tb_of 531 (by decide +kernel) (by decide +kernel)
theorem tq503 : Cond.selects yMo_words.cls yMo_words yMo_words ∈ tb := tb_of 532 (by decide +kernel) (by decide +kernel)
theorem tq505 : Cond.methodLink "SixfoldTriplesLaw" 31 yMo_spell ∈ tb := tb_of 534 (by decide +kernel) (by decide +kernel)
theorem tq506 : Cond.instanceMethod yMo_spell ∈ tb := tb_of 535 (by decide +kernel) (by decide +kernel)
theorem tq507 : Cond.selects yMo_spell.cls yMo_spell yMo_spell ∈ tb := tb_of 536 (by decide +kernel) (by decide +kernel)
theorem tq509 : Cond.methodLink "SixfoldTriplesLaw" 52 yMo_pending ∈ tb := tb_of 538 (by decide +kernel) (by decide +kernel)
theorem tq510 : Cond.instanceMethod yMo_pending ∈ tb := tb_of 539 (by decide +kernel) (by decide +kernel)
theorem tq511 : Cond.selects yMo_pending.cls yMo_pending yMo_pending ∈ tb := tb_of 540 (by decide +kernel) (by decide +kernel)
theorem tq513 : Cond.methodLink RMo 59 yMo_wasSettled ∈ tb := tb_of 542 (by decide +kernel) (by decide +kernel)
theorem tq515 : Cond.instanceMethod yMo_wasSettled ∈ tb := tb_of 544 (by decide +kernel) (by decide +kernel)
theorem tq517 : Cond.methodLink RMo 62 yMo_place ∈ tb := tb_of 546 (by decide +kernel) (by decide +kernel)
theorem tq519 : Cond.instanceMethod yMo_place ∈ tb := tb_of 548 (by decide +kernel) (by decide +kernel)
theorem tq521 : Cond.methodLink "SixfoldTriplesLaw" 44 yMo_merge ∈ tb := tb_of 550 (by decide +kernel) (by decide +kernel)
theorem tq522 : Cond.instanceMethod yMo_merge ∈ tb := tb_of 551 (by decide +kernel) (by decide +kernel)
theorem tq523 : Cond.selects yMo_merge.cls yMo_merge yMo_merge ∈ tb := tb_of 552 (by decide +kernel) (by decide +kernel)
theorem tq525 : Cond.methodLink RMo 66 yMo_pending ∈ tb := tb_of 554 (by decide +kernel) (by decide +kernel)
theorem tq526 : Cond.methodLink "SixfoldTriplesLaw" 36 yMo_insert ∈ tb := tb_of 555 (by decide +kernel) (by decide +kernel)
theorem tq527 : Cond.instanceMethod yMo_insert ∈ tb := tb_of 556 (by decide +kernel) (by decide +kernel)
theorem tq528 : Cond.selects yMo_insert.cls yMo_insert yMo_insert ∈ tb := tb_of 557 (by decide +kernel) (by decide +kernel)
theorem tq530 : Cond.methodLink RMo 76 yMo_term ∈ tb := tb_of 559 (by decide +kernel) (by decide +kernel)
theorem tq532 : Cond.instanceMethod yMo_term ∈ tb := tb_of 561 (by decide +kernel) (by decide +kernel)
theorem tq534 : Cond.methodLink RMo 79 yMo_code ∈ tb := tb_of 563 (by decide +kernel) (by decide +kernel)
theorem tq535 : Cond.static yMo_code ∈ tb := tb_of 564 (by decide +kernel) (by decide +kernel)
theorem tq537 : Cond.methodLink RMo 83 yMo_ready ∈ tb := tb_of 566 (by decide +kernel) (by decide +kernel)
theorem tq539 : Cond.instanceMethod yMo_ready ∈ tb := tb_of 568 (by decide +kernel) (by decide +kernel)
theorem tq541 : Cond.methodLink RMo 73 yMo_merge ∈ tb := tb_of 570 (by decide +kernel) (by decide +kernel)
theorem tq542 : Cond.methodLink "SixfoldTriplesLaw" 40 yMo_remove ∈ tb := tb_of 571 (by decide +kernel) (by decide +kernel)
theorem tq543 : Cond.instanceMethod yMo_remove ∈ tb := tb_of 572 (by decide +kernel) (by decide +kernel)
theorem tq544 : Cond.selects yMo_remove.cls yMo_remove yMo_remove ∈ tb := tb_of 573 (by decide +kernel) (by decide +kernel)
theorem tq546 : Cond.methodLink "SixfoldTriplesLaw" 48 yMo_size ∈ tb := tb_of 575 (by decide +kernel) (by decide +kernel)
theorem tq547 : Cond.instanceMethod yMo_size ∈ tb := tb_of 576 (by decide +kernel) (by decide +kernel)
theorem tq548 : Cond.selects yMo_size.cls yMo_size yMo_size ∈ tb := tb_of 577 (by decide +kernel) (by decide +kernel)
theorem tq550 : Cond.methodLink "SixfoldTriplesLaw" 56 yMo_merges ∈ tb := tb_of 579 (by decide +kernel) (by decide +kernel)
theorem tq551 : Cond.instanceMethod yMo_merges ∈ tb := tb_of 580 (by decide +kernel) (by decide +kernel)
theorem tq552 : Cond.selects yMo_merges.cls yMo_merges yMo_merges ∈ tb := tb_of 581 (by decide +kernel) (by decide +kernel)
theorem tq554 : Cond.methodLink "SixfoldTriplesLaw" 60 yMo_triple ∈ tb := tb_of 583 (by decide +kernel) (by decide +kernel)
theorem tq555 : Cond.instanceMethod yMo_triple ∈ tb := tb_of 584 (by decide +kernel) (by decide +kernel)
theorem tq556 : Cond.selects yMo_triple.cls yMo_triple yMo_triple ∈ tb := tb_of 585 (by decide +kernel) (by decide +kernel)
theorem tq558 : Cond.methodLink RMo 90 yMo_turned ∈ tb := tb_of 587 (by decide +kernel) (by decide +kernel)
theorem tq559 : Cond.static yMo_turned ∈ tb := tb_of 588 (by decide +kernel) (by decide +kernel)
theorem tq561 : Cond.methodLink RMo 86 yMo_partOf ∈ tb := tb_of 590 (by decide +kernel) (by decide +kernel)
theorem tq562 : Cond.static yMo_partOf ∈ tb := tb_of 591 (by decide +kernel) (by decide +kernel)
theorem tq564 : Cond.methodLink "SixfoldTriplesLaw" 64 yMo_where ∈ tb := tb_of 593 (by decide +kernel) (by decide +kernel)
theorem tq565 : Cond.instanceMethod yMo_where ∈ tb := tb_of 594 (by decide +kernel) (by decide +kernel)
theorem tq566 : Cond.selects yMo_where.cls yMo_where yMo_where ∈ tb := tb_of 595 (by decide +kernel) (by decide +kernel)
theorem tq568 : Cond.methodLink RMo 93 yMo_fits ∈ tb := tb_of 597 (by decide +kernel) (by decide +kernel)
theorem tq570 : Cond.instanceMethod yMo_fits ∈ tb := tb_of 599 (by decide +kernel) (by decide +kernel)
theorem tq572 : Cond.methodLink "SixfoldTriplesLaw" 68 yMo_clear ∈ tb := tb_of 601 (by decide +kernel) (by decide +kernel)
theorem tq573 : Cond.instanceMethod yMo_clear ∈ tb := tb_of 602 (by decide +kernel) (by decide +kernel)
theorem tq574 : Cond.selects yMo_clear.cls yMo_clear yMo_clear ∈ tb := tb_of 603 (by decide +kernel) (by decide +kernel)
theorem tq576 : Cond.methodLink "SixfoldTriplesLaw" 72 yMo_run ∈ tb := tb_of 605 (by decide +kernel) (by decide +kernel)
theorem tq577 : Cond.instanceMethod yMo_run ∈ tb := tb_of 606 (by decide +kernel) (by decide +kernel)
theorem tq578 : Cond.selects yMo_run.cls yMo_run yMo_run ∈ tb := tb_of 607 (by decide +kernel) (by decide +kernel)
theorem tq580 : Cond.methodLink RMo 119 yMo_rowFits ∈ tb := tb_of 609 (by decide +kernel) (by decide +kernel)
theorem tq582 : Cond.instanceMethod yMo_rowFits ∈ tb := tb_of 611 (by decide +kernel) (by decide +kernel)
theorem tq584 : Cond.methodLink RMo 102 yMo_asked ∈ tb := tb_of 613 (by decide +kernel) (by decide +kernel)
theorem tq586 : Cond.instanceMethod yMo_asked ∈ tb := tb_of 615 (by decide +kernel) (by decide +kernel)
theorem tq588 : Cond.methodLink RMo 126 yMo_through ∈ tb := tb_of 617 (by decide +kernel) (by decide +kernel)
theorem tq590 : Cond.instanceMethod yMo_through ∈ tb := tb_of 619 (by decide +kernel) (by decide +kernel)
theorem tq592 : Cond.methodLink RMo 111 yMo_bind ∈ tb := tb_of 621 (by decide +kernel) (by decide +kernel)
theorem tq594 : Cond.instanceMethod yMo_bind ∈ tb := tb_of 623 (by decide +kernel) (by decide +kernel)
theorem tq596 : Cond.methodLink RMo 115 yMo_isLive ∈ tb := tb_of 625 (by decide +kernel) (by decide +kernel)
theorem tq598 : Cond.instanceMethod yMo_isLive ∈ tb := tb_of 627 (by decide +kernel) (by decide +kernel)
theorem tq600 : Cond.methodLink RMo 105 yMo_counts ∈ tb := tb_of 629 (by decide +kernel) (by decide +kernel)
theorem tq602 : Cond.instanceMethod yMo_counts ∈ tb := tb_of 631 (by decide +kernel) (by decide +kernel)
theorem tq604 : Cond.methodLink RMo 108 yMo_agreed ∈ tb := tb_of 633 (by decide +kernel) (by decide +kernel)
theorem tq606 : Cond.instanceMethod yMo_agreed ∈ tb := tb_of 635 (by decide +kernel) (by decide +kernel)
theorem tq608 : Cond.methodLink "SixfoldTriplesLaw" 76 yMo_answer ∈ tb := tb_of 637 (by decide +kernel) (by decide +kernel)
theorem tq609 : Cond.instanceMethod yMo_answer ∈ tb := tb_of 638 (by decide +kernel) (by decide +kernel)
theorem tq610 : Cond.selects yMo_answer.cls yMo_answer yMo_answer ∈ tb := tb_of 639 (by decide +kernel) (by decide +kernel)
theorem tq612 : Cond.methodLink "SixfoldTriplesLaw" 80 yMo_live ∈ tb := tb_of 641 (by decide +kernel) (by decide +kernel)
theorem tq613 : Cond.instanceMethod yMo_live ∈ tb := tb_of 642 (by decide +kernel) (by decide +kernel)
theorem tq614 : Cond.selects yMo_live.cls yMo_live yMo_live ∈ tb := tb_of 643 (by decide +kernel) (by decide +kernel)
theorem tp0 : Cond.selects yDi_numberOfBegun.cls yDi_numberOfBegun yDi_numberOfBegun ∈ tb := tb_of 0 (by decide +kernel) (by decide +kernel)
theorem tp1 : Cond.selects ySx_areTerms.cls ySx_areTerms ySx_areTerms ∈ tb := tb_of 1 (by decide +kernel) (by decide +kernel)
theorem tp2 : Cond.selects yOr_keyOf.cls yOr_keyOf yOr_keyOf ∈ tb := tb_of 2 (by decide +kernel) (by decide +kernel)
theorem tp3 : Cond.selects yOr_rankOf.cls yOr_rankOf yOr_rankOf ∈ tb := tb_of 3 (by decide +kernel) (by decide +kernel)
theorem tp4 : Cond.selects yTs_settleWhenDue.cls yTs_settleWhenDue yTs_settleWhenDue ∈ tb := tb_of 4 (by decide +kernel) (by decide +kernel)
theorem tp5 : Cond.selects ySx_fitsPattern.cls ySx_fitsPattern ySx_fitsPattern ∈ tb := tb_of 5 (by decide +kernel) (by decide +kernel)
theorem tp6 : Cond.selects yQu_variableBits.cls yQu_variableBits yQu_variableBits ∈ tb := tb_of 6 (by decide +kernel) (by decide +kernel)
theorem tp7 : Cond.selects ySe_lengthenRow.cls ySe_lengthenRow ySe_lengthenRow ∈ tb := tb_of 7 (by decide +kernel) (by decide +kernel)
theorem tp8 : Cond.selects ySe_findPlaces.cls ySe_findPlaces ySe_findPlaces ∈ tb := tb_of 8 (by decide +kernel) (by decide +kernel)
theorem tp9 : Cond.selects ySe_findHolders.cls ySe_findHolders ySe_findHolders ∈ tb := tb_of 9 (by decide +kernel) (by decide +kernel)
theorem tp10 : Cond.selects ySe_fixedPatternsHold.cls ySe_fixedPatternsHold ySe_fixedPatternsHold ∈ tb := tb_of 10 (by decide +kernel) (by decide +kernel)
theorem tp11 : Cond.selects ySe_isFixed.cls ySe_isFixed ySe_isFixed ∈ tb := tb_of 11 (by decide +kernel) (by decide +kernel)
theorem tp12 : Cond.selects ySe_walk.cls ySe_walk ySe_walk ∈ tb := tb_of 12 (by decide +kernel) (by decide +kernel)
theorem tp13 : Cond.selects ySe_keepAnswer.cls ySe_keepAnswer ySe_keepAnswer ∈ tb := tb_of 13 (by decide +kernel) (by decide +kernel)
theorem tp14 : Cond.selects ySe_bind.cls ySe_bind ySe_bind ∈ tb := tb_of 14 (by decide +kernel) (by decide +kernel)
theorem tp15 : Cond.selects ySe_narrow.cls ySe_narrow ySe_narrow ∈ tb := tb_of 15 (by decide +kernel) (by decide +kernel)
theorem tp16 : Cond.selects yMo_isWord.cls yMo_isWord yMo_isWord ∈ tb := tb_of 16 (by decide +kernel) (by decide +kernel)
theorem tp17 : Cond.selects yMo_wasSettled.cls yMo_wasSettled yMo_wasSettled ∈ tb := tb_of 17 (by decide +kernel) (by decide +kernel)
theorem tp18 : Cond.selects yMo_place.cls yMo_place yMo_place ∈ tb := tb_of 18 (by decide +kernel) (by decide +kernel)
theorem tp19 : Cond.selects yMo_term.cls yMo_term yMo_term ∈ tb := tb_of 19 (by decide +kernel) (by decide +kernel)
theorem tp20 : Cond.selects yMo_ready.cls yMo_ready yMo_ready ∈ tb := tb_of 20 (by decide +kernel) (by decide +kernel)
theorem tp21 : Cond.selects yMo_fits.cls yMo_fits yMo_fits ∈ tb := tb_of 21 (by decide +kernel) (by decide +kernel)
theorem tp22 : Cond.selects yMo_rowFits.cls yMo_rowFits yMo_rowFits ∈ tb := tb_of 22 (by decide +kernel) (by decide +kernel)
theorem tp23 : Cond.selects yMo_asked.cls yMo_asked yMo_asked ∈ tb := tb_of 23 (by decide +kernel) (by decide +kernel)
theorem tp24 : Cond.selects yMo_through.cls yMo_through yMo_through ∈ tb := tb_of 24 (by decide +kernel) (by decide +kernel)
theorem tp25 : Cond.selects yMo_bind.cls yMo_bind yMo_bind ∈ tb := tb_of 25 (by decide +kernel) (by decide +kernel)
theorem tp26 : Cond.selects yMo_isLive.cls yMo_isLive yMo_isLive ∈ tb := tb_of 26 (by decide +kernel) (by decide +kernel)
theorem tp27 : Cond.selects yMo_counts.cls yMo_counts yMo_counts ∈ tb := tb_of 27 (by decide +kernel) (by decide +kernel)
theorem tp28 : Cond.selects yMo_agreed.cls yMo_agreed yMo_agreed ∈ tb := tb_of 28 (by decide +kernel) (by decide +kernel)
theorem hSx_init : ySx_init.cls ≠ "java/lang/invoke/MethodHandle" ∧ ySx_init.cls ≠ "java/lang/invoke/VarHandle" ∧ (parseMethodDescriptor ySx_init.desc).map (fun d => d.parameters.length) = some 0 := by decide +kernel
theorem hDi_init : yDi_init.cls ≠ "java/lang/invoke/MethodHandle" ∧ yDi_init.cls ≠ "java/lang/invoke/VarHandle" ∧ (parseMethodDescriptor yDi_init.desc).map (fun d => d.parameters.length) = some 0 := by decide +kernel
theorem hTs_init : yTs_init.cls ≠ "java/lang/invoke/MethodHandle" ∧ yTs_init.cls ≠ "java/lang/invoke/VarHandle" ∧ (parseMethodDescriptor yTs_init.desc).map (fun d => d.parameters.length) = some 0 := by decide +kernel
theorem hTs_orderOfWay : yTs_orderOfWay.cls ≠ "java/lang/invoke/MethodHandle" ∧ yTs_orderOfWay.cls ≠ "java/lang/invoke/VarHandle" ∧ (parseMethodDescriptor yTs_orderOfWay.desc).map (fun d => d.parameters.length) = some 1 := by decide +kernel
theorem hOr_init : yOr_init.cls ≠ "java/lang/invoke/MethodHandle" ∧ yOr_init.cls ≠ "java/lang/invoke/VarHandle" ∧ (parseMethodDescriptor yOr_init.desc).map (fun d => d.parameters.length) = some 3 := by decide +kernel
theorem hQu_init : yQu_init.cls ≠ "java/lang/invoke/MethodHandle" ∧ yQu_init.cls ≠ "java/lang/invoke/VarHandle" ∧ (parseMethodDescriptor yQu_init.desc).map (fun d => d.parameters.length) = some 0 := by decide +kernel
theorem hSe_init : ySe_init.cls ≠ "java/lang/invoke/MethodHandle" ∧ ySe_init.cls ≠ "java/lang/invoke/VarHandle" ∧ (parseMethodDescriptor ySe_init.desc).map (fun d => d.parameters.length) = some 0 := by decide +kernel
theorem hSx_letter : ySx_letter.cls ≠ "java/lang/invoke/MethodHandle" ∧ ySx_letter.cls ≠ "java/lang/invoke/VarHandle" ∧ (parseMethodDescriptor ySx_letter.desc).map (fun d => d.parameters.length) = some 1 := by decide +kernel
theorem hDi_addLetter : yDi_addLetter.cls ≠ "java/lang/invoke/MethodHandle" ∧ yDi_addLetter.cls ≠ "java/lang/invoke/VarHandle" ∧ (parseMethodDescriptor yDi_addLetter.desc).map (fun d => d.parameters.length) = some 1 := by decide +kernel
theorem hSx_intern : ySx_intern.cls ≠ "java/lang/invoke/MethodHandle" ∧ ySx_intern.cls ≠ "java/lang/invoke/VarHandle" ∧ (parseMethodDescriptor ySx_intern.desc).map (fun d => d.parameters.length) = some 0 := by decide +kernel
theorem hDi_takeIn : yDi_takeIn.cls ≠ "java/lang/invoke/MethodHandle" ∧ yDi_takeIn.cls ≠ "java/lang/invoke/VarHandle" ∧ (parseMethodDescriptor yDi_takeIn.desc).map (fun d => d.parameters.length) = some 0 := by decide +kernel
theorem hDi_numberOfBegun : yDi_numberOfBegun.cls ≠ "java/lang/invoke/MethodHandle" ∧ yDi_numberOfBegun.cls ≠ "java/lang/invoke/VarHandle" ∧ (parseMethodDescriptor yDi_numberOfBegun.desc).map (fun d => d.parameters.length) = some 0 := by decide +kernel
theorem hSx_words : ySx_words.cls ≠ "java/lang/invoke/MethodHandle" ∧ ySx_words.cls ≠ "java/lang/invoke/VarHandle" ∧ (parseMethodDescriptor ySx_words.desc).map (fun d => d.parameters.length) = some 0 := by decide +kernel
theorem hSx_spell : ySx_spell.cls ≠ "java/lang/invoke/MethodHandle" ∧ ySx_spell.cls ≠ "java/lang/invoke/VarHandle" ∧ (parseMethodDescriptor ySx_spell.desc).map (fun d => d.parameters.length) = some 2 := by decide +kernel
theorem hDi_letterAt : yDi_letterAt.cls ≠ "java/lang/invoke/MethodHandle" ∧ yDi_letterAt.cls ≠ "java/lang/invoke/VarHandle" ∧ (parseMethodDescriptor yDi_letterAt.desc).map (fun d => d.parameters.length) = some 2 := by decide +kernel
theorem hDi_has : yDi_has.cls ≠ "java/lang/invoke/MethodHandle" ∧ yDi_has.cls ≠ "java/lang/invoke/VarHandle" ∧ (parseMethodDescriptor yDi_has.desc).map (fun d => d.parameters.length) = some 1 := by decide +kernel
theorem hSx_insert : ySx_insert.cls ≠ "java/lang/invoke/MethodHandle" ∧ ySx_insert.cls ≠ "java/lang/invoke/VarHandle" ∧ (parseMethodDescriptor ySx_insert.desc).map (fun d => d.parameters.length) = some 3 := by decide +kernel
theorem hSx_areTerms : ySx_areTerms.cls ≠ "java/lang/invoke/MethodHandle" ∧ ySx_areTerms.cls ≠ "java/lang/invoke/VarHandle" ∧ (parseMethodDescriptor ySx_areTerms.desc).map (fun d => d.parameters.length) = some 3 := by decide +kernel
theorem hSx_codeOf : ySx_codeOf.cls ≠ "java/lang/invoke/MethodHandle" ∧ ySx_codeOf.cls ≠ "java/lang/invoke/VarHandle" ∧ (parseMethodDescriptor ySx_codeOf.desc).map (fun d => d.parameters.length) = some 3 := by decide +kernel
theorem hTs_holds : yTs_holds.cls ≠ "java/lang/invoke/MethodHandle" ∧ yTs_holds.cls ≠ "java/lang/invoke/VarHandle" ∧ (parseMethodDescriptor yTs_holds.desc).map (fun d => d.parameters.length) = some 1 := by decide +kernel
theorem hOr_holds : yOr_holds.cls ≠ "java/lang/invoke/MethodHandle" ∧ yOr_holds.cls ≠ "java/lang/invoke/VarHandle" ∧ (parseMethodDescriptor yOr_holds.desc).map (fun d => d.parameters.length) = some 1 := by decide +kernel
theorem hOr_keyOf : yOr_keyOf.cls ≠ "java/lang/invoke/MethodHandle" ∧ yOr_keyOf.cls ≠ "java/lang/invoke/VarHandle" ∧ (parseMethodDescriptor yOr_keyOf.desc).map (fun d => d.parameters.length) = some 1 := by decide +kernel
theorem hSx_partOf : ySx_partOf.cls ≠ "java/lang/invoke/MethodHandle" ∧ ySx_partOf.cls ≠ "java/lang/invoke/VarHandle" ∧ (parseMethodDescriptor ySx_partOf.desc).map (fun d => d.parameters.length) = some 2 := by decide +kernel
theorem hSx_shiftOf : ySx_shiftOf.cls ≠ "java/lang/invoke/MethodHandle" ∧ ySx_shiftOf.cls ≠ "java/lang/invoke/VarHandle" ∧ (parseMethodDescriptor ySx_shiftOf.desc).map (fun d => d.parameters.length) = some 1 := by decide +kernel
theorem hOr_rankOf : yOr_rankOf.cls ≠ "java/lang/invoke/MethodHandle" ∧ yOr_rankOf.cls ≠ "java/lang/invoke/VarHandle" ∧ (parseMethodDescriptor yOr_rankOf.desc).map (fun d => d.parameters.length) = some 1 := by decide +kernel
theorem hTs_isFull : yTs_isFull.cls ≠ "java/lang/invoke/MethodHandle" ∧ yTs_isFull.cls ≠ "java/lang/invoke/VarHandle" ∧ (parseMethodDescriptor yTs_isFull.desc).map (fun d => d.parameters.length) = some 0 := by decide +kernel
theorem hTs_put : yTs_put.cls ≠ "java/lang/invoke/MethodHandle" ∧ yTs_put.cls ≠ "java/lang/invoke/VarHandle" ∧ (parseMethodDescriptor yTs_put.desc).map (fun d => d.parameters.length) = some 1 := by decide +kernel
theorem hTs_settleWhenDue : yTs_settleWhenDue.cls ≠ "java/lang/invoke/MethodHandle" ∧ yTs_settleWhenDue.cls ≠ "java/lang/invoke/VarHandle" ∧ (parseMethodDescriptor yTs_settleWhenDue.desc).map (fun d => d.parameters.length) = some 0 := by decide +kernel
theorem hTs_settle : yTs_settle.cls ≠ "java/lang/invoke/MethodHandle" ∧ yTs_settle.cls ≠ "java/lang/invoke/VarHandle" ∧ (parseMethodDescriptor yTs_settle.desc).map (fun d => d.parameters.length) = some 0 := by decide +kernel
theorem hOr_copyFrom : yOr_copyFrom.cls ≠ "java/lang/invoke/MethodHandle" ∧ yOr_copyFrom.cls ≠ "java/lang/invoke/VarHandle" ∧ (parseMethodDescriptor yOr_copyFrom.desc).map (fun d => d.parameters.length) = some 1 := by decide +kernel
theorem hOr_put : yOr_put.cls ≠ "java/lang/invoke/MethodHandle" ∧ yOr_put.cls ≠ "java/lang/invoke/VarHandle" ∧ (parseMethodDescriptor yOr_put.desc).map (fun d => d.parameters.length) = some 1 := by decide +kernel
theorem hSx_remove : ySx_remove.cls ≠ "java/lang/invoke/MethodHandle" ∧ ySx_remove.cls ≠ "java/lang/invoke/VarHandle" ∧ (parseMethodDescriptor ySx_remove.desc).map (fun d => d.parameters.length) = some 3 := by decide +kernel
theorem hTs_take : yTs_take.cls ≠ "java/lang/invoke/MethodHandle" ∧ yTs_take.cls ≠ "java/lang/invoke/VarHandle" ∧ (parseMethodDescriptor yTs_take.desc).map (fun d => d.parameters.length) = some 1 := by decide +kernel
theorem hOr_take : yOr_take.cls ≠ "java/lang/invoke/MethodHandle" ∧ yOr_take.cls ≠ "java/lang/invoke/VarHandle" ∧ (parseMethodDescriptor yOr_take.desc).map (fun d => d.parameters.length) = some 1 := by decide +kernel
theorem hSx_merge : ySx_merge.cls ≠ "java/lang/invoke/MethodHandle" ∧ ySx_merge.cls ≠ "java/lang/invoke/VarHandle" ∧ (parseMethodDescriptor ySx_merge.desc).map (fun d => d.parameters.length) = some 0 := by decide +kernel
theorem hSx_size : ySx_size.cls ≠ "java/lang/invoke/MethodHandle" ∧ ySx_size.cls ≠ "java/lang/invoke/VarHandle" ∧ (parseMethodDescriptor ySx_size.desc).map (fun d => d.parameters.length) = some 0 := by decide +kernel
theorem hTs_count : yTs_count.cls ≠ "java/lang/invoke/MethodHandle" ∧ yTs_count.cls ≠ "java/lang/invoke/VarHandle" ∧ (parseMethodDescriptor yTs_count.desc).map (fun d => d.parameters.length) = some 0 := by decide +kernel
theorem hSx_pending : ySx_pending.cls ≠ "java/lang/invoke/MethodHandle" ∧ ySx_pending.cls ≠ "java/lang/invoke/VarHandle" ∧ (parseMethodDescriptor ySx_pending.desc).map (fun d => d.parameters.length) = some 0 := by decide +kernel
theorem hSx_merges : ySx_merges.cls ≠ "java/lang/invoke/MethodHandle" ∧ ySx_merges.cls ≠ "java/lang/invoke/VarHandle" ∧ (parseMethodDescriptor ySx_merges.desc).map (fun d => d.parameters.length) = some 0 := by decide +kernel
theorem hSx_triple : ySx_triple.cls ≠ "java/lang/invoke/MethodHandle" ∧ ySx_triple.cls ≠ "java/lang/invoke/VarHandle" ∧ (parseMethodDescriptor ySx_triple.desc).map (fun d => d.parameters.length) = some 2 := by decide +kernel
theorem hTs_codeAt : yTs_codeAt.cls ≠ "java/lang/invoke/MethodHandle" ∧ yTs_codeAt.cls ≠ "java/lang/invoke/VarHandle" ∧ (parseMethodDescriptor yTs_codeAt.desc).map (fun d => d.parameters.length) = some 2 := by decide +kernel
theorem hOr_codeAt : yOr_codeAt.cls ≠ "java/lang/invoke/MethodHandle" ∧ yOr_codeAt.cls ≠ "java/lang/invoke/VarHandle" ∧ (parseMethodDescriptor yOr_codeAt.desc).map (fun d => d.parameters.length) = some 1 := by decide +kernel
theorem hSx_where : ySx_where.cls ≠ "java/lang/invoke/MethodHandle" ∧ ySx_where.cls ≠ "java/lang/invoke/VarHandle" ∧ (parseMethodDescriptor ySx_where.desc).map (fun d => d.parameters.length) = some 3 := by decide +kernel
theorem hSx_fitsPattern : ySx_fitsPattern.cls ≠ "java/lang/invoke/MethodHandle" ∧ ySx_fitsPattern.cls ≠ "java/lang/invoke/VarHandle" ∧ (parseMethodDescriptor ySx_fitsPattern.desc).map (fun d => d.parameters.length) = some 1 := by decide +kernel
theorem hSx_isVariable : ySx_isVariable.cls ≠ "java/lang/invoke/MethodHandle" ∧ ySx_isVariable.cls ≠ "java/lang/invoke/VarHandle" ∧ (parseMethodDescriptor ySx_isVariable.desc).map (fun d => d.parameters.length) = some 1 := by decide +kernel
theorem hQu_isFull : yQu_isFull.cls ≠ "java/lang/invoke/MethodHandle" ∧ yQu_isFull.cls ≠ "java/lang/invoke/VarHandle" ∧ (parseMethodDescriptor yQu_isFull.desc).map (fun d => d.parameters.length) = some 0 := by decide +kernel
theorem hQu_add : yQu_add.cls ≠ "java/lang/invoke/MethodHandle" ∧ yQu_add.cls ≠ "java/lang/invoke/VarHandle" ∧ (parseMethodDescriptor yQu_add.desc).map (fun d => d.parameters.length) = some 3 := by decide +kernel
theorem hSx_clear : ySx_clear.cls ≠ "java/lang/invoke/MethodHandle" ∧ ySx_clear.cls ≠ "java/lang/invoke/VarHandle" ∧ (parseMethodDescriptor ySx_clear.desc).map (fun d => d.parameters.length) = some 0 := by decide +kernel
theorem hSx_run : ySx_run.cls ≠ "java/lang/invoke/MethodHandle" ∧ ySx_run.cls ≠ "java/lang/invoke/VarHandle" ∧ (parseMethodDescriptor ySx_run.desc).map (fun d => d.parameters.length) = some 3 := by decide +kernel
theorem hQu_hasRow : yQu_hasRow.cls ≠ "java/lang/invoke/MethodHandle" ∧ yQu_hasRow.cls ≠ "java/lang/invoke/VarHandle" ∧ (parseMethodDescriptor yQu_hasRow.desc).map (fun d => d.parameters.length) = some 3 := by decide +kernel
theorem hQu_variableBits : yQu_variableBits.cls ≠ "java/lang/invoke/MethodHandle" ∧ yQu_variableBits.cls ≠ "java/lang/invoke/VarHandle" ∧ (parseMethodDescriptor yQu_variableBits.desc).map (fun d => d.parameters.length) = some 0 := by decide +kernel
theorem hQu_awaitedAfter : yQu_awaitedAfter.cls ≠ "java/lang/invoke/MethodHandle" ∧ yQu_awaitedAfter.cls ≠ "java/lang/invoke/VarHandle" ∧ (parseMethodDescriptor yQu_awaitedAfter.desc).map (fun d => d.parameters.length) = some 2 := by decide +kernel
theorem hSe_begin : ySe_begin.cls ≠ "java/lang/invoke/MethodHandle" ∧ ySe_begin.cls ≠ "java/lang/invoke/VarHandle" ∧ (parseMethodDescriptor ySe_begin.desc).map (fun d => d.parameters.length) = some 3 := by decide +kernel
theorem hSe_lengthenRow : ySe_lengthenRow.cls ≠ "java/lang/invoke/MethodHandle" ∧ ySe_lengthenRow.cls ≠ "java/lang/invoke/VarHandle" ∧ (parseMethodDescriptor ySe_lengthenRow.desc).map (fun d => d.parameters.length) = some 1 := by decide +kernel
theorem hSe_prepare : ySe_prepare.cls ≠ "java/lang/invoke/MethodHandle" ∧ ySe_prepare.cls ≠ "java/lang/invoke/VarHandle" ∧ (parseMethodDescriptor ySe_prepare.desc).map (fun d => d.parameters.length) = some 3 := by decide +kernel
theorem hSe_findPlaces : ySe_findPlaces.cls ≠ "java/lang/invoke/MethodHandle" ∧ ySe_findPlaces.cls ≠ "java/lang/invoke/VarHandle" ∧ (parseMethodDescriptor ySe_findPlaces.desc).map (fun d => d.parameters.length) = some 1 := by decide +kernel
theorem hQu_placeOf : yQu_placeOf.cls ≠ "java/lang/invoke/MethodHandle" ∧ yQu_placeOf.cls ≠ "java/lang/invoke/VarHandle" ∧ (parseMethodDescriptor yQu_placeOf.desc).map (fun d => d.parameters.length) = some 2 := by decide +kernel
theorem hSe_findHolders : ySe_findHolders.cls ≠ "java/lang/invoke/MethodHandle" ∧ ySe_findHolders.cls ≠ "java/lang/invoke/VarHandle" ∧ (parseMethodDescriptor ySe_findHolders.desc).map (fun d => d.parameters.length) = some 1 := by decide +kernel
theorem hSe_agreeingUnbound : ySe_agreeingUnbound.cls ≠ "java/lang/invoke/MethodHandle" ∧ ySe_agreeingUnbound.cls ≠ "java/lang/invoke/VarHandle" ∧ (parseMethodDescriptor ySe_agreeingUnbound.desc).map (fun d => d.parameters.length) = some 3 := by decide +kernel
theorem hQu_agrees : yQu_agrees.cls ≠ "java/lang/invoke/MethodHandle" ∧ yQu_agrees.cls ≠ "java/lang/invoke/VarHandle" ∧ (parseMethodDescriptor yQu_agrees.desc).map (fun d => d.parameters.length) = some 2 := by decide +kernel
theorem hSe_findAll : ySe_findAll.cls ≠ "java/lang/invoke/MethodHandle" ∧ ySe_findAll.cls ≠ "java/lang/invoke/VarHandle" ∧ (parseMethodDescriptor ySe_findAll.desc).map (fun d => d.parameters.length) = some 0 := by decide +kernel
theorem hSe_fixedPatternsHold : ySe_fixedPatternsHold.cls ≠ "java/lang/invoke/MethodHandle" ∧ ySe_fixedPatternsHold.cls ≠ "java/lang/invoke/VarHandle" ∧ (parseMethodDescriptor ySe_fixedPatternsHold.desc).map (fun d => d.parameters.length) = some 0 := by decide +kernel
theorem hSe_isFixed : ySe_isFixed.cls ≠ "java/lang/invoke/MethodHandle" ∧ ySe_isFixed.cls ≠ "java/lang/invoke/VarHandle" ∧ (parseMethodDescriptor ySe_isFixed.desc).map (fun d => d.parameters.length) = some 1 := by decide +kernel
theorem hSe_walk : ySe_walk.cls ≠ "java/lang/invoke/MethodHandle" ∧ ySe_walk.cls ≠ "java/lang/invoke/VarHandle" ∧ (parseMethodDescriptor ySe_walk.desc).map (fun d => d.parameters.length) = some 1 := by decide +kernel
theorem hSe_keepAnswer : ySe_keepAnswer.cls ≠ "java/lang/invoke/MethodHandle" ∧ ySe_keepAnswer.cls ≠ "java/lang/invoke/VarHandle" ∧ (parseMethodDescriptor ySe_keepAnswer.desc).map (fun d => d.parameters.length) = some 0 := by decide +kernel
theorem hSe_bind : ySe_bind.cls ≠ "java/lang/invoke/MethodHandle" ∧ ySe_bind.cls ≠ "java/lang/invoke/VarHandle" ∧ (parseMethodDescriptor ySe_bind.desc).map (fun d => d.parameters.length) = some 2 := by decide +kernel
theorem hSe_narrow : ySe_narrow.cls ≠ "java/lang/invoke/MethodHandle" ∧ ySe_narrow.cls ≠ "java/lang/invoke/VarHandle" ∧ (parseMethodDescriptor ySe_narrow.desc).map (fun d => d.parameters.length) = some 2 := by decide +kernel
theorem hSx_answer : ySx_answer.cls ≠ "java/lang/invoke/MethodHandle" ∧ ySx_answer.cls ≠ "java/lang/invoke/VarHandle" ∧ (parseMethodDescriptor ySx_answer.desc).map (fun d => d.parameters.length) = some 2 := by decide +kernel
theorem hSe_termAt : ySe_termAt.cls ≠ "java/lang/invoke/MethodHandle" ∧ ySe_termAt.cls ≠ "java/lang/invoke/VarHandle" ∧ (parseMethodDescriptor ySe_termAt.desc).map (fun d => d.parameters.length) = some 2 := by decide +kernel
theorem hSx_live : ySx_live.cls ≠ "java/lang/invoke/MethodHandle" ∧ ySx_live.cls ≠ "java/lang/invoke/VarHandle" ∧ (parseMethodDescriptor ySx_live.desc).map (fun d => d.parameters.length) = some 0 := by decide +kernel
theorem hMo_init : yMo_init.cls ≠ "java/lang/invoke/MethodHandle" ∧ yMo_init.cls ≠ "java/lang/invoke/VarHandle" ∧ (parseMethodDescriptor yMo_init.desc).map (fun d => d.parameters.length) = some 0 := by decide +kernel
theorem hMo_letter : yMo_letter.cls ≠ "java/lang/invoke/MethodHandle" ∧ yMo_letter.cls ≠ "java/lang/invoke/VarHandle" ∧ (parseMethodDescriptor yMo_letter.desc).map (fun d => d.parameters.length) = some 1 := by decide +kernel
theorem hMo_intern : yMo_intern.cls ≠ "java/lang/invoke/MethodHandle" ∧ yMo_intern.cls ≠ "java/lang/invoke/VarHandle" ∧ (parseMethodDescriptor yMo_intern.desc).map (fun d => d.parameters.length) = some 0 := by decide +kernel
theorem hMo_isWord : yMo_isWord.cls ≠ "java/lang/invoke/MethodHandle" ∧ yMo_isWord.cls ≠ "java/lang/invoke/VarHandle" ∧ (parseMethodDescriptor yMo_isWord.desc).map (fun d => d.parameters.length) = some 1 := by decide +kernel
theorem hMo_words : yMo_words.cls ≠ "java/lang/invoke/MethodHandle" ∧ yMo_words.cls ≠ "java/lang/invoke/VarHandle" ∧ (parseMethodDescriptor yMo_words.desc).map (fun d => d.parameters.length) = some 0 := by decide +kernel
theorem hMo_spell : yMo_spell.cls ≠ "java/lang/invoke/MethodHandle" ∧ yMo_spell.cls ≠ "java/lang/invoke/VarHandle" ∧ (parseMethodDescriptor yMo_spell.desc).map (fun d => d.parameters.length) = some 2 := by decide +kernel
theorem hMo_pending : yMo_pending.cls ≠ "java/lang/invoke/MethodHandle" ∧ yMo_pending.cls ≠ "java/lang/invoke/VarHandle" ∧ (parseMethodDescriptor yMo_pending.desc).map (fun d => d.parameters.length) = some 0 := by decide +kernel
theorem hMo_wasSettled : yMo_wasSettled.cls ≠ "java/lang/invoke/MethodHandle" ∧ yMo_wasSettled.cls ≠ "java/lang/invoke/VarHandle" ∧ (parseMethodDescriptor yMo_wasSettled.desc).map (fun d => d.parameters.length) = some 1 := by decide +kernel
theorem hMo_place : yMo_place.cls ≠ "java/lang/invoke/MethodHandle" ∧ yMo_place.cls ≠ "java/lang/invoke/VarHandle" ∧ (parseMethodDescriptor yMo_place.desc).map (fun d => d.parameters.length) = some 1 := by decide +kernel
theorem hMo_merge : yMo_merge.cls ≠ "java/lang/invoke/MethodHandle" ∧ yMo_merge.cls ≠ "java/lang/invoke/VarHandle" ∧ (parseMethodDescriptor yMo_merge.desc).map (fun d => d.parameters.length) = some 0 := by decide +kernel
theorem hMo_insert : yMo_insert.cls ≠ "java/lang/invoke/MethodHandle" ∧ yMo_insert.cls ≠ "java/lang/invoke/VarHandle" ∧ (parseMethodDescriptor yMo_insert.desc).map (fun d => d.parameters.length) = some 3 := by decide +kernel
theorem hMo_term : yMo_term.cls ≠ "java/lang/invoke/MethodHandle" ∧ yMo_term.cls ≠ "java/lang/invoke/VarHandle" ∧ (parseMethodDescriptor yMo_term.desc).map (fun d => d.parameters.length) = some 1 := by decide +kernel
theorem hMo_code : yMo_code.cls ≠ "java/lang/invoke/MethodHandle" ∧ yMo_code.cls ≠ "java/lang/invoke/VarHandle" ∧ (parseMethodDescriptor yMo_code.desc).map (fun d => d.parameters.length) = some 3 := by decide +kernel
theorem hMo_ready : yMo_ready.cls ≠ "java/lang/invoke/MethodHandle" ∧ yMo_ready.cls ≠ "java/lang/invoke/VarHandle" ∧ (parseMethodDescriptor yMo_ready.desc).map (fun d => d.parameters.length) = some 0 := by decide +kernel
theorem hMo_remove : yMo_remove.cls ≠ "java/lang/invoke/MethodHandle" ∧ yMo_remove.cls ≠ "java/lang/invoke/VarHandle" ∧ (parseMethodDescriptor yMo_remove.desc).map (fun d => d.parameters.length) = some 3 := by decide +kernel
theorem hMo_size : yMo_size.cls ≠ "java/lang/invoke/MethodHandle" ∧ yMo_size.cls ≠ "java/lang/invoke/VarHandle" ∧ (parseMethodDescriptor yMo_size.desc).map (fun d => d.parameters.length) = some 0 := by decide +kernel
theorem hMo_merges : yMo_merges.cls ≠ "java/lang/invoke/MethodHandle" ∧ yMo_merges.cls ≠ "java/lang/invoke/VarHandle" ∧ (parseMethodDescriptor yMo_merges.desc).map (fun d => d.parameters.length) = some 0 := by decide +kernel
theorem hMo_triple : yMo_triple.cls ≠ "java/lang/invoke/MethodHandle" ∧ yMo_triple.cls ≠ "java/lang/invoke/VarHandle" ∧ (parseMethodDescriptor yMo_triple.desc).map (fun d => d.parameters.length) = some 2 := by decide +kernel
theorem hMo_turned : yMo_turned.cls ≠ "java/lang/invoke/MethodHandle" ∧ yMo_turned.cls ≠ "java/lang/invoke/VarHandle" ∧ (parseMethodDescriptor yMo_turned.desc).map (fun d => d.parameters.length) = some 2 := by decide +kernel
theorem hMo_partOf : yMo_partOf.cls ≠ "java/lang/invoke/MethodHandle" ∧ yMo_partOf.cls ≠ "java/lang/invoke/VarHandle" ∧ (parseMethodDescriptor yMo_partOf.desc).map (fun d => d.parameters.length) = some 2 := by decide +kernel
theorem hMo_where : yMo_where.cls ≠ "java/lang/invoke/MethodHandle" ∧ yMo_where.cls ≠ "java/lang/invoke/VarHandle" ∧ (parseMethodDescriptor yMo_where.desc).map (fun d => d.parameters.length) = some 3 := by decide +kernel
theorem hMo_fits : yMo_fits.cls ≠ "java/lang/invoke/MethodHandle" ∧ yMo_fits.cls ≠ "java/lang/invoke/VarHandle" ∧ (parseMethodDescriptor yMo_fits.desc).map (fun d => d.parameters.length) = some 1 := by decide +kernel
theorem hMo_clear : yMo_clear.cls ≠ "java/lang/invoke/MethodHandle" ∧ yMo_clear.cls ≠ "java/lang/invoke/VarHandle" ∧ (parseMethodDescriptor yMo_clear.desc).map (fun d => d.parameters.length) = some 0 := by decide +kernel
theorem hMo_run : yMo_run.cls ≠ "java/lang/invoke/MethodHandle" ∧ yMo_run.cls ≠ "java/lang/invoke/VarHandle" ∧ (parseMethodDescriptor yMo_run.desc).map (fun d => d.parameters.length) = some 3 := by decide +kernel
theorem hMo_rowFits : yMo_rowFits.cls ≠ "java/lang/invoke/MethodHandle" ∧ yMo_rowFits.cls ≠ "java/lang/invoke/VarHandle" ∧ (parseMethodDescriptor yMo_rowFits.desc).map (fun d => d.parameters.length) = some 3 := by decide +kernel
theorem hMo_asked : yMo_asked.cls ≠ "java/lang/invoke/MethodHandle" ∧ yMo_asked.cls ≠ "java/lang/invoke/VarHandle" ∧ (parseMethodDescriptor yMo_asked.desc).map (fun d => d.parameters.length) = some 1 := by decide +kernel
theorem hMo_through : yMo_through.cls ≠ "java/lang/invoke/MethodHandle" ∧ yMo_through.cls ≠ "java/lang/invoke/VarHandle" ∧ (parseMethodDescriptor yMo_through.desc).map (fun d => d.parameters.length) = some 1 := by decide +kernel
theorem hMo_bind : yMo_bind.cls ≠ "java/lang/invoke/MethodHandle" ∧ yMo_bind.cls ≠ "java/lang/invoke/VarHandle" ∧ (parseMethodDescriptor yMo_bind.desc).map (fun d => d.parameters.length) = some 2 := by decide +kernel
theorem hMo_isLive : yMo_isLive.cls ≠ "java/lang/invoke/MethodHandle" ∧ yMo_isLive.cls ≠ "java/lang/invoke/VarHandle" ∧ (parseMethodDescriptor yMo_isLive.desc).map (fun d => d.parameters.length) = some 0 := by decide +kernel
theorem hMo_counts : yMo_counts.cls ≠ "java/lang/invoke/MethodHandle" ∧ yMo_counts.cls ≠ "java/lang/invoke/VarHandle" ∧ (parseMethodDescriptor yMo_counts.desc).map (fun d => d.parameters.length) = some 1 := by decide +kernel
theorem hMo_agreed : yMo_agreed.cls ≠ "java/lang/invoke/MethodHandle" ∧ yMo_agreed.cls ≠ "java/lang/invoke/VarHandle" ∧ (parseMethodDescriptor yMo_agreed.desc).map (fun d => d.parameters.length) = some 1 := by decide +kernel
theorem hMo_answer : yMo_answer.cls ≠ "java/lang/invoke/MethodHandle" ∧ yMo_answer.cls ≠ "java/lang/invoke/VarHandle" ∧ (parseMethodDescriptor yMo_answer.desc).map (fun d => d.parameters.length) = some 2 := by decide +kernel
theorem hMo_live : yMo_live.cls ≠ "java/lang/invoke/MethodHandle" ∧ yMo_live.cls ≠ "java/lang/invoke/VarHandle" ∧ (parseMethodDescriptor yMo_live.desc).map (fun d => d.parameters.length) = some 0 := by decide +kernel
