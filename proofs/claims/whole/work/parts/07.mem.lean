/-- the words that a callee may have from its caller -/
def dk_T : List Cond := lw_tbl.filter goodWord
theorem dk_in {w : Cond} {i : Nat} (h : lw_tbl[i]? = some w) (g : goodWord w = true) : w ∈ dk_T := List.mem_filter.mpr ⟨List.mem_of_getElem? h, g⟩
theorem dk_good : GoodIn dk_T dk_T := fun w hw => ⟨hw, good_of_word (List.mem_filter.mp hw).2⟩

theorem in_92 : (Cond.initialized "DominoKin") ∈ dk_T := dk_in (i := 92) (by decide +kernel) rfl
theorem in_93 : (Cond.initialized "DominoKin$Piece") ∈ dk_T := dk_in (i := 93) (by decide +kernel) rfl
theorem in_94 : (Cond.initialized "DominoKin$Aunt") ∈ dk_T := dk_in (i := 94) (by decide +kernel) rfl
theorem in_95 : (Cond.initialized "DominoKin$Father") ∈ dk_T := dk_in (i := 95) (by decide +kernel) rfl
theorem in_96 : (Cond.initialized "DominoKin$Eldest") ∈ dk_T := dk_in (i := 96) (by decide +kernel) rfl
theorem in_97 : (Cond.initialized "DominoKin$Girl") ∈ dk_T := dk_in (i := 97) (by decide +kernel) rfl
theorem in_98 : (Cond.initialized "DominoKin$Sailor") ∈ dk_T := dk_in (i := 98) (by decide +kernel) rfl
theorem in_99 : (Cond.initialized "DominoKin$Street") ∈ dk_T := dk_in (i := 99) (by decide +kernel) rfl
theorem in_100 : (Cond.initialized "DominoKin$Moment") ∈ dk_T := dk_in (i := 100) (by decide +kernel) rfl
theorem in_101 : (Cond.initialized "DominoKin$RuleBook") ∈ dk_T := dk_in (i := 101) (by decide +kernel) rfl
theorem in_102 : (Cond.initialized "DominoKin$Reports") ∈ dk_T := dk_in (i := 102) (by decide +kernel) rfl
theorem in_103 : (Cond.initialized "java/util/Arrays") ∈ dk_T := dk_in (i := 103) (by decide +kernel) rfl
theorem in_104 : (Cond.initialized "DominoKin$Planner") ∈ dk_T := dk_in (i := 104) (by decide +kernel) rfl
theorem in_105 : (Cond.initialized "DominoKinModel") ∈ dk_T := dk_in (i := 105) (by decide +kernel) rfl
theorem in_106 : (Cond.initialized "java/lang/Math") ∈ dk_T := dk_in (i := 106) (by decide +kernel) rfl
theorem in_107 : (Cond.initialized "java/lang/String") ∈ dk_T := dk_in (i := 107) (by decide +kernel) rfl
theorem in_108 : (Cond.initialized "java/lang/StringLatin1") ∈ dk_T := dk_in (i := 108) (by decide +kernel) rfl
theorem in_109 : (Cond.initialized "jdk/internal/util/Preconditions") ∈ dk_T := dk_in (i := 109) (by decide +kernel) rfl
theorem in_110 : (Cond.initialized "java/lang/StringUTF16") ∈ dk_T := dk_in (i := 110) (by decide +kernel) rfl
theorem in_111 : (Cond.initialized "java/lang/Integer") ∈ dk_T := dk_in (i := 111) (by decide +kernel) rfl
theorem in_112 : (Cond.initialized "java/lang/System") ∈ dk_T := dk_in (i := 112) (by decide +kernel) rfl
theorem in_128 : (Cond.fieldLink "DominoKin$Piece" (9 : Nat) "DominoKin$Piece" "ran" "[I") ∈ dk_T := dk_in (i := 128) (by decide +kernel) rfl
theorem in_129 : (Cond.fieldLink "DominoKin" (357 : Nat) "DominoKin$Piece" "ran" "[I") ∈ dk_T := dk_in (i := 129) (by decide +kernel) rfl
theorem in_130 : (Cond.fieldLink "DominoKin$Piece" (15 : Nat) "DominoKin$Piece" "ranCount" "I") ∈ dk_T := dk_in (i := 130) (by decide +kernel) rfl
theorem in_131 : (Cond.fieldLink "DominoKin" (354 : Nat) "DominoKin$Piece" "ranCount" "I") ∈ dk_T := dk_in (i := 131) (by decide +kernel) rfl
theorem in_132 : (Cond.fieldLink "DominoKin$Piece" (19 : Nat) "DominoKin$Piece" "parted" "Z") ∈ dk_T := dk_in (i := 132) (by decide +kernel) rfl
theorem in_133 : (Cond.fieldLink "DominoKin" (351 : Nat) "DominoKin$Piece" "parted" "Z") ∈ dk_T := dk_in (i := 133) (by decide +kernel) rfl
theorem in_134 : (Cond.fieldLink "DominoKin$Piece" (23 : Nat) "DominoKin$Piece" "number" "I") ∈ dk_T := dk_in (i := 134) (by decide +kernel) rfl
theorem in_135 : (Cond.fieldLink "DominoKin$Sailor" (28 : Nat) "DominoKin$Sailor" "number" "I") ∈ dk_T := dk_in (i := 135) (by decide +kernel) rfl
theorem in_136 : (Cond.sameField "DominoKin$Sailor" "DominoKin$Piece" "number" "I") ∈ dk_T := dk_in (i := 136) (by decide +kernel) rfl
theorem in_137 : (Cond.fieldLink "DominoKin$Piece" (26 : Nat) "DominoKin$Piece" "room" "I") ∈ dk_T := dk_in (i := 137) (by decide +kernel) rfl
theorem in_138 : (Cond.fieldLink "DominoKin$Eldest" (28 : Nat) "DominoKin$Eldest" "room" "I") ∈ dk_T := dk_in (i := 138) (by decide +kernel) rfl
theorem in_139 : (Cond.sameField "DominoKin$Eldest" "DominoKin$Piece" "room" "I") ∈ dk_T := dk_in (i := 139) (by decide +kernel) rfl
theorem in_163 : (Cond.superclass "DominoKin$Aunt" "DominoKin$Piece") ∈ dk_T := dk_in (i := 163) (by decide +kernel) rfl
theorem in_175 : (Cond.superclass "DominoKin$Father" "DominoKin$Piece") ∈ dk_T := dk_in (i := 175) (by decide +kernel) rfl
theorem in_187 : (Cond.superclass "DominoKin$Eldest" "DominoKin$Father") ∈ dk_T := dk_in (i := 187) (by decide +kernel) rfl
theorem in_199 : (Cond.superclass "DominoKin$Girl" "DominoKin$Piece") ∈ dk_T := dk_in (i := 199) (by decide +kernel) rfl
theorem in_211 : (Cond.superclass "DominoKin$Sailor" "DominoKin$Girl") ∈ dk_T := dk_in (i := 211) (by decide +kernel) rfl
theorem in_224 : (Cond.fieldLink "DominoKin$Moment" (9 : Nat) "DominoKin$Moment" "year" "I") ∈ dk_T := dk_in (i := 224) (by decide +kernel) rfl
theorem in_225 : (Cond.fieldLink "DominoKin" (185 : Nat) "DominoKin$Moment" "year" "I") ∈ dk_T := dk_in (i := 225) (by decide +kernel) rfl
theorem in_226 : (Cond.fieldLink "DominoKin$Street" (108 : Nat) "DominoKin$Moment" "year" "I") ∈ dk_T := dk_in (i := 226) (by decide +kernel) rfl
theorem in_227 : (Cond.fieldLink "DominoKin$Moment" (15 : Nat) "DominoKin$Moment" "fallen" "I") ∈ dk_T := dk_in (i := 227) (by decide +kernel) rfl
theorem in_228 : (Cond.fieldLink "DominoKin$Planner" (72 : Nat) "DominoKin$Moment" "fallen" "I") ∈ dk_T := dk_in (i := 228) (by decide +kernel) rfl
theorem in_229 : (Cond.fieldLink "DominoKin" (191 : Nat) "DominoKin$Moment" "fallen" "I") ∈ dk_T := dk_in (i := 229) (by decide +kernel) rfl
theorem in_230 : (Cond.fieldLink "DominoKin$Moment" (18 : Nat) "DominoKin$Moment" "lean" "[I") ∈ dk_T := dk_in (i := 230) (by decide +kernel) rfl
theorem in_231 : (Cond.fieldLink "DominoKin$Street" (93 : Nat) "DominoKin$Moment" "lean" "[I") ∈ dk_T := dk_in (i := 231) (by decide +kernel) rfl
theorem in_232 : (Cond.fieldLink "DominoKin" (133 : Nat) "DominoKin$Moment" "lean" "[I") ∈ dk_T := dk_in (i := 232) (by decide +kernel) rfl
theorem in_246 : (Cond.fieldLink "DominoKin$RuleBook" (9 : Nat) "DominoKin$RuleBook" "count" "I") ∈ dk_T := dk_in (i := 246) (by decide +kernel) rfl
theorem in_247 : (Cond.fieldLink "DominoKin$Street" (129 : Nat) "DominoKin$RuleBook" "count" "I") ∈ dk_T := dk_in (i := 247) (by decide +kernel) rfl
theorem in_248 : (Cond.fieldLink "DominoKin" (360 : Nat) "DominoKin$RuleBook" "count" "I") ∈ dk_T := dk_in (i := 248) (by decide +kernel) rfl
theorem in_249 : (Cond.fieldLink "DominoKin$RuleBook" (15 : Nat) "DominoKin$RuleBook" "kinds" "[I") ∈ dk_T := dk_in (i := 249) (by decide +kernel) rfl
theorem in_250 : (Cond.fieldLink "DominoKin$Street" (134 : Nat) "DominoKin$RuleBook" "kinds" "[I") ∈ dk_T := dk_in (i := 250) (by decide +kernel) rfl
theorem in_251 : (Cond.fieldLink "DominoKin$RuleBook" (19 : Nat) "DominoKin$RuleBook" "doings" "[I") ∈ dk_T := dk_in (i := 251) (by decide +kernel) rfl
theorem in_252 : (Cond.fieldLink "DominoKin$Street" (143 : Nat) "DominoKin$RuleBook" "doings" "[I") ∈ dk_T := dk_in (i := 252) (by decide +kernel) rfl
theorem in_253 : (Cond.fieldLink "DominoKin$RuleBook" (22 : Nat) "DominoKin$RuleBook" "starts" "[I") ∈ dk_T := dk_in (i := 253) (by decide +kernel) rfl
theorem in_254 : (Cond.fieldLink "DominoKin$RuleBook" (25 : Nat) "DominoKin$RuleBook" "code" "[I") ∈ dk_T := dk_in (i := 254) (by decide +kernel) rfl
theorem in_255 : (Cond.fieldLink "DominoKin$RuleBook" (28 : Nat) "DominoKin$RuleBook" "codeSize" "I") ∈ dk_T := dk_in (i := 255) (by decide +kernel) rfl
theorem in_256 : (Cond.fieldLink "DominoKin$RuleBook" (31 : Nat) "DominoKin$RuleBook" "facts" "[I") ∈ dk_T := dk_in (i := 256) (by decide +kernel) rfl
theorem in_257 : (Cond.fieldLink "DominoKin$RuleBook" (34 : Nat) "DominoKin$RuleBook" "tokens" "[I") ∈ dk_T := dk_in (i := 257) (by decide +kernel) rfl
theorem in_258 : (Cond.fieldLink "DominoKin$RuleBook" (37 : Nat) "DominoKin$RuleBook" "places" "[I") ∈ dk_T := dk_in (i := 258) (by decide +kernel) rfl
theorem in_259 : (Cond.fieldLink "DominoKin$RuleBook" (40 : Nat) "DominoKin$RuleBook" "at" "I") ∈ dk_T := dk_in (i := 259) (by decide +kernel) rfl
theorem in_287 : (Cond.fieldLink "DominoKin$Reports" (9 : Nat) "DominoKin$Reports" "count" "I") ∈ dk_T := dk_in (i := 287) (by decide +kernel) rfl
theorem in_288 : (Cond.fieldLink "DominoKin" (285 : Nat) "DominoKin$Reports" "count" "I") ∈ dk_T := dk_in (i := 288) (by decide +kernel) rfl
theorem in_289 : (Cond.fieldLink "DominoKin$Reports" (15 : Nat) "DominoKin$Reports" "years" "[I") ∈ dk_T := dk_in (i := 289) (by decide +kernel) rfl
theorem in_290 : (Cond.fieldLink "DominoKin$Reports" (19 : Nat) "DominoKin$Reports" "asked" "[I") ∈ dk_T := dk_in (i := 290) (by decide +kernel) rfl
theorem in_291 : (Cond.fieldLink "DominoKin$Reports" (22 : Nat) "DominoKin$Reports" "low" "[I") ∈ dk_T := dk_in (i := 291) (by decide +kernel) rfl
theorem in_292 : (Cond.fieldLink "DominoKin$Reports" (25 : Nat) "DominoKin$Reports" "high" "[I") ∈ dk_T := dk_in (i := 292) (by decide +kernel) rfl
theorem in_293 : (Cond.fieldLink "DominoKin$Reports" (28 : Nat) "DominoKin$Reports" "fitting" "I") ∈ dk_T := dk_in (i := 293) (by decide +kernel) rfl
theorem in_294 : (Cond.fieldLink "DominoKin" (292 : Nat) "DominoKin$Reports" "fitting" "I") ∈ dk_T := dk_in (i := 294) (by decide +kernel) rfl
theorem in_295 : (Cond.fieldLink "DominoKin$Reports" (31 : Nat) "DominoKin$Reports" "firstKind" "I") ∈ dk_T := dk_in (i := 295) (by decide +kernel) rfl
theorem in_296 : (Cond.fieldLink "DominoKin" (295 : Nat) "DominoKin$Reports" "firstKind" "I") ∈ dk_T := dk_in (i := 296) (by decide +kernel) rfl
theorem in_297 : (Cond.fieldLink "DominoKin$Reports" (34 : Nat) "DominoKin$Reports" "firstGap" "I") ∈ dk_T := dk_in (i := 297) (by decide +kernel) rfl
theorem in_298 : (Cond.fieldLink "DominoKin" (298 : Nat) "DominoKin$Reports" "firstGap" "I") ∈ dk_T := dk_in (i := 298) (by decide +kernel) rfl
theorem in_299 : (Cond.fieldLink "DominoKin$Reports" (37 : Nat) "DominoKin$Reports" "firstLean" "I") ∈ dk_T := dk_in (i := 299) (by decide +kernel) rfl
theorem in_300 : (Cond.fieldLink "DominoKin" (301 : Nat) "DominoKin$Reports" "firstLean" "I") ∈ dk_T := dk_in (i := 300) (by decide +kernel) rfl
theorem in_301 : (Cond.fieldLink "DominoKin$Reports" (40 : Nat) "DominoKin$Reports" "suspects" "I") ∈ dk_T := dk_in (i := 301) (by decide +kernel) rfl
theorem in_302 : (Cond.fieldLink "DominoKin" (304 : Nat) "DominoKin$Reports" "suspects" "I") ∈ dk_T := dk_in (i := 302) (by decide +kernel) rfl
theorem in_324 : (Cond.methodLink "DominoKin$Street" (71 : Nat) ({ cls := "java/util/Arrays", name := "fill", desc := "([II)V" } : Jvm.MethodName)) ∈ dk_T := dk_in (i := 324) (by decide +kernel) rfl
theorem in_325 : (Cond.static ({ cls := "java/util/Arrays", name := "fill", desc := "([II)V" } : Jvm.MethodName)) ∈ dk_T := dk_in (i := 325) (by decide +kernel) rfl
theorem in_326 : (Cond.code ({ cls := "java/util/Arrays", name := "fill", desc := "([II)V" } : Jvm.MethodName) prog_21_method_103_code (4 : Nat) (Option.none : Option Jvm.ClassFile.FieldType)) ∈ dk_T := dk_in (i := 326) (by decide +kernel) rfl
theorem in_327 : (Cond.fieldLink "DominoKin$Street" (67 : Nat) "DominoKin$Street" "kinds" "[LDominoKin$Piece;") ∈ dk_T := dk_in (i := 327) (by decide +kernel) rfl
theorem in_328 : (Cond.fieldLink "DominoKin$Reports" (53 : Nat) "DominoKin$Street" "kinds" "[LDominoKin$Piece;") ∈ dk_T := dk_in (i := 328) (by decide +kernel) rfl
theorem in_329 : (Cond.fieldLink "DominoKin$Street" (9 : Nat) "DominoKin$Street" "count" "I") ∈ dk_T := dk_in (i := 329) (by decide +kernel) rfl
theorem in_330 : (Cond.fieldLink "DominoKin" (116 : Nat) "DominoKin$Street" "count" "I") ∈ dk_T := dk_in (i := 330) (by decide +kernel) rfl
theorem in_331 : (Cond.fieldLink "DominoKin$Planner" (64 : Nat) "DominoKin$Street" "count" "I") ∈ dk_T := dk_in (i := 331) (by decide +kernel) rfl
theorem in_332 : (Cond.fieldLink "DominoKin$Street" (15 : Nat) "DominoKin$Street" "kind" "[I") ∈ dk_T := dk_in (i := 332) (by decide +kernel) rfl
theorem in_333 : (Cond.fieldLink "DominoKin" (130 : Nat) "DominoKin$Street" "kind" "[I") ∈ dk_T := dk_in (i := 333) (by decide +kernel) rfl
theorem in_334 : (Cond.fieldLink "DominoKin$Street" (19 : Nat) "DominoKin$Street" "gap" "[I") ∈ dk_T := dk_in (i := 334) (by decide +kernel) rfl
theorem in_335 : (Cond.fieldLink "DominoKin" (136 : Nat) "DominoKin$Street" "gap" "[I") ∈ dk_T := dk_in (i := 335) (by decide +kernel) rfl
theorem in_336 : (Cond.fieldLink "DominoKin$Street" (22 : Nat) "DominoKin$Street" "room" "[I") ∈ dk_T := dk_in (i := 336) (by decide +kernel) rfl
theorem in_337 : (Cond.fieldLink "DominoKin" (139 : Nat) "DominoKin$Street" "room" "[I") ∈ dk_T := dk_in (i := 337) (by decide +kernel) rfl
theorem in_338 : (Cond.fieldLink "DominoKin$Street" (25 : Nat) "DominoKin$Street" "bears" "[I") ∈ dk_T := dk_in (i := 338) (by decide +kernel) rfl
theorem in_339 : (Cond.fieldLink "DominoKin" (149 : Nat) "DominoKin$Street" "bears" "[I") ∈ dk_T := dk_in (i := 339) (by decide +kernel) rfl
theorem in_340 : (Cond.fieldLink "DominoKin$Street" (28 : Nat) "DominoKin$Street" "sayings" "[I") ∈ dk_T := dk_in (i := 340) (by decide +kernel) rfl
theorem in_341 : (Cond.fieldLink "DominoKin" (176 : Nat) "DominoKin$Street" "sayings" "[I") ∈ dk_T := dk_in (i := 341) (by decide +kernel) rfl
theorem in_342 : (Cond.fieldLink "DominoKin$Street" (31 : Nat) "DominoKin$Street" "stairs" "[I") ∈ dk_T := dk_in (i := 342) (by decide +kernel) rfl
theorem in_343 : (Cond.fieldLink "DominoKin" (179 : Nat) "DominoKin$Street" "stairs" "[I") ∈ dk_T := dk_in (i := 343) (by decide +kernel) rfl
theorem in_344 : (Cond.fieldLink "DominoKin$Street" (34 : Nat) "DominoKin$Street" "hands" "[I") ∈ dk_T := dk_in (i := 344) (by decide +kernel) rfl
theorem in_345 : (Cond.fieldLink "DominoKin" (182 : Nat) "DominoKin$Street" "hands" "[I") ∈ dk_T := dk_in (i := 345) (by decide +kernel) rfl
theorem in_346 : (Cond.fieldLink "DominoKin$Street" (40 : Nat) "DominoKin$Street" "now" "LDominoKin$Moment;") ∈ dk_T := dk_in (i := 346) (by decide +kernel) rfl
theorem in_347 : (Cond.fieldLink "DominoKin$Planner" (31 : Nat) "DominoKin$Street" "now" "LDominoKin$Moment;") ∈ dk_T := dk_in (i := 347) (by decide +kernel) rfl
theorem in_348 : (Cond.fieldLink "DominoKin" (127 : Nat) "DominoKin$Street" "now" "LDominoKin$Moment;") ∈ dk_T := dk_in (i := 348) (by decide +kernel) rfl
theorem in_349 : (Cond.fieldLink "DominoKin$Street" (44 : Nat) "DominoKin$Street" "end" "I") ∈ dk_T := dk_in (i := 349) (by decide +kernel) rfl
theorem in_350 : (Cond.fieldLink "DominoKin" (188 : Nat) "DominoKin$Street" "end" "I") ∈ dk_T := dk_in (i := 350) (by decide +kernel) rfl
theorem in_351 : (Cond.fieldLink "DominoKin$Street" (47 : Nat) "DominoKin$Street" "score" "I") ∈ dk_T := dk_in (i := 351) (by decide +kernel) rfl
theorem in_352 : (Cond.fieldLink "DominoKin" (194 : Nat) "DominoKin$Street" "score" "I") ∈ dk_T := dk_in (i := 352) (by decide +kernel) rfl
theorem in_353 : (Cond.fieldLink "DominoKin$Street" (50 : Nat) "DominoKin$Street" "z" "I") ∈ dk_T := dk_in (i := 353) (by decide +kernel) rfl
theorem in_354 : (Cond.fieldLink "DominoKin" (307 : Nat) "DominoKin$Street" "z" "I") ∈ dk_T := dk_in (i := 354) (by decide +kernel) rfl
theorem in_355 : (Cond.fieldLink "DominoKin$Street" (56 : Nat) "DominoKin$Street" "book" "LDominoKin$RuleBook;") ∈ dk_T := dk_in (i := 355) (by decide +kernel) rfl
theorem in_356 : (Cond.fieldLink "DominoKin" (213 : Nat) "DominoKin$Street" "book" "LDominoKin$RuleBook;") ∈ dk_T := dk_in (i := 356) (by decide +kernel) rfl
theorem in_357 : (Cond.fieldLink "DominoKin$Street" (63 : Nat) "DominoKin$Street" "reports" "LDominoKin$Reports;") ∈ dk_T := dk_in (i := 357) (by decide +kernel) rfl
theorem in_358 : (Cond.fieldLink "DominoKin" (281 : Nat) "DominoKin$Street" "reports" "LDominoKin$Reports;") ∈ dk_T := dk_in (i := 358) (by decide +kernel) rfl
theorem in_401 : (Cond.fieldLink "DominoKin$Planner" (26 : Nat) "DominoKin$Planner" "street" "LDominoKin$Street;") ∈ dk_T := dk_in (i := 401) (by decide +kernel) rfl
theorem in_402 : (Cond.fieldLink "DominoKin$Planner" (11 : Nat) "DominoKin$Planner" "levels" "[LDominoKin$Moment;") ∈ dk_T := dk_in (i := 402) (by decide +kernel) rfl
theorem in_403 : (Cond.fieldLink "DominoKin$Planner" (19 : Nat) "DominoKin$Planner" "firstActs" "[[I") ∈ dk_T := dk_in (i := 403) (by decide +kernel) rfl
theorem in_404 : (Cond.fieldLink "DominoKin" (260 : Nat) "DominoKin$Planner" "firstActs" "[[I") ∈ dk_T := dk_in (i := 404) (by decide +kernel) rfl
theorem in_405 : (Cond.fieldLink "DominoKin$Planner" (22 : Nat) "DominoKin$Planner" "waysFrom" "[I") ∈ dk_T := dk_in (i := 405) (by decide +kernel) rfl
theorem in_406 : (Cond.fieldLink "DominoKin" (263 : Nat) "DominoKin$Planner" "waysFrom" "[I") ∈ dk_T := dk_in (i := 406) (by decide +kernel) rfl
theorem in_421 : (Cond.methodLink "DominoKin" (106 : Nat) ({ cls := "java/util/Arrays", name := "fill", desc := "([II)V" } : Jvm.MethodName)) ∈ dk_T := dk_in (i := 421) (by decide +kernel) rfl
theorem in_422 : (Cond.fieldLink "DominoKin" (25 : Nat) "DominoKin" "kinds" "[LDominoKin$Piece;") ∈ dk_T := dk_in (i := 422) (by decide +kernel) rfl
theorem in_423 : (Cond.fieldLink "DominoKin" (36 : Nat) "DominoKin" "street" "LDominoKin$Street;") ∈ dk_T := dk_in (i := 423) (by decide +kernel) rfl
theorem in_424 : (Cond.fieldLink "DominoKin" (40 : Nat) "DominoKin" "keptStreet" "LDominoKin$Street;") ∈ dk_T := dk_in (i := 424) (by decide +kernel) rfl
theorem in_425 : (Cond.fieldLink "DominoKin" (43 : Nat) "DominoKin" "kept" "Z") ∈ dk_T := dk_in (i := 425) (by decide +kernel) rfl
theorem in_426 : (Cond.fieldLink "DominoKin" (52 : Nat) "DominoKin" "planner" "LDominoKin$Planner;") ∈ dk_T := dk_in (i := 426) (by decide +kernel) rfl
theorem in_427 : (Cond.fieldLink "DominoKin" (59 : Nat) "DominoKin" "scratch" "LDominoKin$Moment;") ∈ dk_T := dk_in (i := 427) (by decide +kernel) rfl
theorem in_428 : (Cond.fieldLink "DominoKin" (63 : Nat) "DominoKin" "tape" "[B") ∈ dk_T := dk_in (i := 428) (by decide +kernel) rfl
theorem in_429 : (Cond.fieldLink "DominoKin" (67 : Nat) "DominoKin" "tapeSize" "I") ∈ dk_T := dk_in (i := 429) (by decide +kernel) rfl
theorem in_430 : (Cond.fieldLink "DominoKin" (74 : Nat) "DominoKin" "spareBook" "LDominoKin$RuleBook;") ∈ dk_T := dk_in (i := 430) (by decide +kernel) rfl
theorem in_431 : (Cond.fieldLink "DominoKin" (80 : Nat) "DominoKin" "rows" "[[I") ∈ dk_T := dk_in (i := 431) (by decide +kernel) rfl
theorem in_432 : (Cond.fieldLink "DominoKin" (83 : Nat) "DominoKin" "rowCount" "I") ∈ dk_T := dk_in (i := 432) (by decide +kernel) rfl
theorem in_433 : (Cond.fieldLink "DominoKin" (86 : Nat) "DominoKin" "sheetSort" "[I") ∈ dk_T := dk_in (i := 433) (by decide +kernel) rfl
theorem in_434 : (Cond.fieldLink "DominoKin" (90 : Nat) "DominoKin" "sheetSize" "[I") ∈ dk_T := dk_in (i := 434) (by decide +kernel) rfl
theorem in_435 : (Cond.fieldLink "DominoKin" (93 : Nat) "DominoKin" "sheetItems" "[[I") ∈ dk_T := dk_in (i := 435) (by decide +kernel) rfl
theorem in_436 : (Cond.fieldLink "DominoKin" (96 : Nat) "DominoKin" "shelfHolds" "[I") ∈ dk_T := dk_in (i := 436) (by decide +kernel) rfl
theorem in_437 : (Cond.fieldLink "DominoKin" (99 : Nat) "DominoKin" "shelfNumber" "[I") ∈ dk_T := dk_in (i := 437) (by decide +kernel) rfl
theorem in_438 : (Cond.fieldLink "DominoKin" (102 : Nat) "DominoKin" "latest" "LDominoKin$Piece;") ∈ dk_T := dk_in (i := 438) (by decide +kernel) rfl
theorem in_475 : (Cond.methodLink "DominoKinLaw" (13 : Nat) ({ cls := "DominoKin", name := "piece", desc := "(IIII)I" } : Jvm.MethodName)) ∈ dk_T := dk_in (i := 475) (by decide +kernel) rfl
theorem in_476 : (Cond.instanceMethod ({ cls := "DominoKin", name := "piece", desc := "(IIII)I" } : Jvm.MethodName)) ∈ dk_T := dk_in (i := 476) (by decide +kernel) rfl
theorem in_477 : (Cond.selects "DominoKin" ({ cls := "DominoKin", name := "piece", desc := "(IIII)I" } : Jvm.MethodName) ({ cls := "DominoKin", name := "piece", desc := "(IIII)I" } : Jvm.MethodName)) ∈ dk_T := dk_in (i := 477) (by decide +kernel) rfl
theorem in_478 : (Cond.code ({ cls := "DominoKin", name := "piece", desc := "(IIII)I" } : Jvm.MethodName) prog_1_method_2_code (5 : Nat) (Option.some Jvm.ClassFile.FieldType.int)) ∈ dk_T := dk_in (i := 478) (by decide +kernel) rfl
theorem in_479 : (Cond.methodLink "DominoKin" (112 : Nat) ({ cls := "DominoKin", name := "within", desc := "(III)Z" } : Jvm.MethodName)) ∈ dk_T := dk_in (i := 479) (by decide +kernel) rfl
theorem in_480 : (Cond.static ({ cls := "DominoKin", name := "within", desc := "(III)Z" } : Jvm.MethodName)) ∈ dk_T := dk_in (i := 480) (by decide +kernel) rfl
theorem in_481 : (Cond.code ({ cls := "DominoKin", name := "within", desc := "(III)Z" } : Jvm.MethodName) prog_1_method_53_code (3 : Nat) (Option.some Jvm.ClassFile.FieldType.boolean)) ∈ dk_T := dk_in (i := 481) (by decide +kernel) rfl
theorem in_482 : (Cond.methodLink "DominoKin" (119 : Nat) ({ cls := "DominoKin$Street", name := "add", desc := "(IIII)I" } : Jvm.MethodName)) ∈ dk_T := dk_in (i := 482) (by decide +kernel) rfl
theorem in_483 : (Cond.instanceMethod ({ cls := "DominoKin$Street", name := "add", desc := "(IIII)I" } : Jvm.MethodName)) ∈ dk_T := dk_in (i := 483) (by decide +kernel) rfl
theorem in_484 : (Cond.selects "DominoKin$Street" ({ cls := "DominoKin$Street", name := "add", desc := "(IIII)I" } : Jvm.MethodName) ({ cls := "DominoKin$Street", name := "add", desc := "(IIII)I" } : Jvm.MethodName)) ∈ dk_T := dk_in (i := 484) (by decide +kernel) rfl
theorem in_485 : (Cond.code ({ cls := "DominoKin$Street", name := "add", desc := "(IIII)I" } : Jvm.MethodName) prog_12_method_3_code (6 : Nat) (Option.some Jvm.ClassFile.FieldType.int)) ∈ dk_T := dk_in (i := 485) (by decide +kernel) rfl
theorem in_486 : (Cond.methodLink "DominoKin$Street" (96 : Nat) ({ cls := "DominoKin$Moment", name := "setFallen", desc := "(II)I" } : Jvm.MethodName)) ∈ dk_T := dk_in (i := 486) (by decide +kernel) rfl
theorem in_487 : (Cond.instanceMethod ({ cls := "DominoKin$Moment", name := "setFallen", desc := "(II)I" } : Jvm.MethodName)) ∈ dk_T := dk_in (i := 487) (by decide +kernel) rfl
theorem in_488 : (Cond.selects "DominoKin$Moment" ({ cls := "DominoKin$Moment", name := "setFallen", desc := "(II)I" } : Jvm.MethodName) ({ cls := "DominoKin$Moment", name := "setFallen", desc := "(II)I" } : Jvm.MethodName)) ∈ dk_T := dk_in (i := 488) (by decide +kernel) rfl
theorem in_489 : (Cond.code ({ cls := "DominoKin$Moment", name := "setFallen", desc := "(II)I" } : Jvm.MethodName) prog_6_method_4_code (4 : Nat) (Option.some Jvm.ClassFile.FieldType.int)) ∈ dk_T := dk_in (i := 489) (by decide +kernel) rfl
theorem in_490 : (Cond.methodLink "DominoKin$Street" (100 : Nat) ({ cls := "DominoKin$Street", name := "settleBears", desc := "(I)V" } : Jvm.MethodName)) ∈ dk_T := dk_in (i := 490) (by decide +kernel) rfl
theorem in_492 : (Cond.instanceMethod ({ cls := "DominoKin$Street", name := "settleBears", desc := "(I)V" } : Jvm.MethodName)) ∈ dk_T := dk_in (i := 492) (by decide +kernel) rfl
theorem in_493 : (Cond.code ({ cls := "DominoKin$Street", name := "settleBears", desc := "(I)V" } : Jvm.MethodName) prog_12_method_6_code (2 : Nat) (Option.none : Option Jvm.ClassFile.FieldType)) ∈ dk_T := dk_in (i := 493) (by decide +kernel) rfl
theorem in_494 : (Cond.methodLink "DominoKin$Street" (104 : Nat) ({ cls := "DominoKin$Piece", name := "bears", desc := "(II)I" } : Jvm.MethodName)) ∈ dk_T := dk_in (i := 494) (by decide +kernel) rfl
theorem in_495 : (Cond.instanceMethod ({ cls := "DominoKin$Piece", name := "bears", desc := "(II)I" } : Jvm.MethodName)) ∈ dk_T := dk_in (i := 495) (by decide +kernel) rfl
theorem in_496 : (Cond.selects "DominoKin$Piece" ({ cls := "DominoKin$Piece", name := "bears", desc := "(II)I" } : Jvm.MethodName) ({ cls := "DominoKin$Piece", name := "bears", desc := "(II)I" } : Jvm.MethodName)) ∈ dk_T := dk_in (i := 496) (by decide +kernel) rfl
theorem in_497 : (Cond.sameMethod "DominoKin$Piece" "DominoKin$Piece" "bears" "(II)I") ∈ dk_T := dk_in (i := 497) (by decide +kernel) rfl
theorem in_498 : (Cond.selects "DominoKin$Aunt" ({ cls := "DominoKin$Piece", name := "bears", desc := "(II)I" } : Jvm.MethodName) ({ cls := "DominoKin$Aunt", name := "bears", desc := "(II)I" } : Jvm.MethodName)) ∈ dk_T := dk_in (i := 498) (by decide +kernel) rfl
theorem in_499 : (Cond.instanceMethod ({ cls := "DominoKin$Aunt", name := "bears", desc := "(II)I" } : Jvm.MethodName)) ∈ dk_T := dk_in (i := 499) (by decide +kernel) rfl
theorem in_500 : (Cond.code ({ cls := "DominoKin$Aunt", name := "bears", desc := "(II)I" } : Jvm.MethodName) prog_2_method_3_code (3 : Nat) (Option.some Jvm.ClassFile.FieldType.int)) ∈ dk_T := dk_in (i := 500) (by decide +kernel) rfl
theorem in_501 : (Cond.selects "DominoKin$Eldest" ({ cls := "DominoKin$Piece", name := "bears", desc := "(II)I" } : Jvm.MethodName) ({ cls := "DominoKin$Eldest", name := "bears", desc := "(II)I" } : Jvm.MethodName)) ∈ dk_T := dk_in (i := 501) (by decide +kernel) rfl
theorem in_502 : (Cond.instanceMethod ({ cls := "DominoKin$Eldest", name := "bears", desc := "(II)I" } : Jvm.MethodName)) ∈ dk_T := dk_in (i := 502) (by decide +kernel) rfl
theorem in_503 : (Cond.code ({ cls := "DominoKin$Eldest", name := "bears", desc := "(II)I" } : Jvm.MethodName) prog_3_method_3_code (3 : Nat) (Option.some Jvm.ClassFile.FieldType.int)) ∈ dk_T := dk_in (i := 503) (by decide +kernel) rfl
theorem in_504 : (Cond.methodLink "DominoKin$Eldest" (11 : Nat) ({ cls := "DominoKin$Father", name := "bears", desc := "(II)I" } : Jvm.MethodName)) ∈ dk_T := dk_in (i := 504) (by decide +kernel) rfl
theorem in_505 : (Cond.instanceMethod ({ cls := "DominoKin$Father", name := "bears", desc := "(II)I" } : Jvm.MethodName)) ∈ dk_T := dk_in (i := 505) (by decide +kernel) rfl
theorem in_506 : (Cond.code ({ cls := "DominoKin$Father", name := "bears", desc := "(II)I" } : Jvm.MethodName) prog_4_method_3_code (3 : Nat) (Option.some Jvm.ClassFile.FieldType.int)) ∈ dk_T := dk_in (i := 506) (by decide +kernel) rfl
theorem in_507 : (Cond.methodLink "DominoKin$Father" (11 : Nat) ({ cls := "DominoKin$Piece", name := "bears", desc := "(II)I" } : Jvm.MethodName)) ∈ dk_T := dk_in (i := 507) (by decide +kernel) rfl
theorem in_508 : (Cond.selects "DominoKin$Father" ({ cls := "DominoKin$Piece", name := "bears", desc := "(II)I" } : Jvm.MethodName) ({ cls := "DominoKin$Father", name := "bears", desc := "(II)I" } : Jvm.MethodName)) ∈ dk_T := dk_in (i := 508) (by decide +kernel) rfl
theorem in_509 : (Cond.selects "DominoKin$Girl" ({ cls := "DominoKin$Piece", name := "bears", desc := "(II)I" } : Jvm.MethodName) ({ cls := "DominoKin$Girl", name := "bears", desc := "(II)I" } : Jvm.MethodName)) ∈ dk_T := dk_in (i := 509) (by decide +kernel) rfl
theorem in_510 : (Cond.instanceMethod ({ cls := "DominoKin$Girl", name := "bears", desc := "(II)I" } : Jvm.MethodName)) ∈ dk_T := dk_in (i := 510) (by decide +kernel) rfl
theorem in_511 : (Cond.code ({ cls := "DominoKin$Girl", name := "bears", desc := "(II)I" } : Jvm.MethodName) prog_5_method_3_code (3 : Nat) (Option.some Jvm.ClassFile.FieldType.int)) ∈ dk_T := dk_in (i := 511) (by decide +kernel) rfl
theorem in_512 : (Cond.methodLink "DominoKin$Girl" (17 : Nat) ({ cls := "DominoKin$Piece", name := "bears", desc := "(II)I" } : Jvm.MethodName)) ∈ dk_T := dk_in (i := 512) (by decide +kernel) rfl
theorem in_513 : (Cond.selects "DominoKin$Sailor" ({ cls := "DominoKin$Piece", name := "bears", desc := "(II)I" } : Jvm.MethodName) ({ cls := "DominoKin$Sailor", name := "bears", desc := "(II)I" } : Jvm.MethodName)) ∈ dk_T := dk_in (i := 513) (by decide +kernel) rfl
theorem in_514 : (Cond.instanceMethod ({ cls := "DominoKin$Sailor", name := "bears", desc := "(II)I" } : Jvm.MethodName)) ∈ dk_T := dk_in (i := 514) (by decide +kernel) rfl
theorem in_515 : (Cond.code ({ cls := "DominoKin$Sailor", name := "bears", desc := "(II)I" } : Jvm.MethodName) prog_11_method_3_code (3 : Nat) (Option.some Jvm.ClassFile.FieldType.int)) ∈ dk_T := dk_in (i := 515) (by decide +kernel) rfl
theorem in_516 : (Cond.methodLink "DominoKin$Sailor" (11 : Nat) ({ cls := "DominoKin$Girl", name := "bears", desc := "(II)I" } : Jvm.MethodName)) ∈ dk_T := dk_in (i := 516) (by decide +kernel) rfl
theorem in_517 : (Cond.code ({ cls := "DominoKin$Piece", name := "bears", desc := "(II)I" } : Jvm.MethodName) prog_7_method_3_code (3 : Nat) (Option.some Jvm.ClassFile.FieldType.int)) ∈ dk_T := dk_in (i := 517) (by decide +kernel) rfl
theorem in_518 : (Cond.methodLink "DominoKinLaw" (18 : Nat) ({ cls := "DominoKin", name := "pieceOf", desc := "(II)I" } : Jvm.MethodName)) ∈ dk_T := dk_in (i := 518) (by decide +kernel) rfl
theorem in_519 : (Cond.instanceMethod ({ cls := "DominoKin", name := "pieceOf", desc := "(II)I" } : Jvm.MethodName)) ∈ dk_T := dk_in (i := 519) (by decide +kernel) rfl
theorem in_520 : (Cond.selects "DominoKin" ({ cls := "DominoKin", name := "pieceOf", desc := "(II)I" } : Jvm.MethodName) ({ cls := "DominoKin", name := "pieceOf", desc := "(II)I" } : Jvm.MethodName)) ∈ dk_T := dk_in (i := 520) (by decide +kernel) rfl
theorem in_521 : (Cond.code ({ cls := "DominoKin", name := "pieceOf", desc := "(II)I" } : Jvm.MethodName) prog_1_method_3_code (4 : Nat) (Option.some Jvm.ClassFile.FieldType.int)) ∈ dk_T := dk_in (i := 521) (by decide +kernel) rfl
theorem in_522 : (Cond.methodLink "DominoKin" (123 : Nat) ({ cls := "DominoKin$Street", name := "isPiece", desc := "(I)Z" } : Jvm.MethodName)) ∈ dk_T := dk_in (i := 522) (by decide +kernel) rfl
theorem in_523 : (Cond.instanceMethod ({ cls := "DominoKin$Street", name := "isPiece", desc := "(I)Z" } : Jvm.MethodName)) ∈ dk_T := dk_in (i := 523) (by decide +kernel) rfl
theorem in_524 : (Cond.selects "DominoKin$Street" ({ cls := "DominoKin$Street", name := "isPiece", desc := "(I)Z" } : Jvm.MethodName) ({ cls := "DominoKin$Street", name := "isPiece", desc := "(I)Z" } : Jvm.MethodName)) ∈ dk_T := dk_in (i := 524) (by decide +kernel) rfl
theorem in_525 : (Cond.code ({ cls := "DominoKin$Street", name := "isPiece", desc := "(I)Z" } : Jvm.MethodName) prog_12_method_7_code (2 : Nat) (Option.some Jvm.ClassFile.FieldType.boolean)) ∈ dk_T := dk_in (i := 525) (by decide +kernel) rfl
theorem in_526 : (Cond.methodLink "DominoKin" (142 : Nat) ({ cls := "DominoKin$Moment", name := "isFallen", desc := "(I)Z" } : Jvm.MethodName)) ∈ dk_T := dk_in (i := 526) (by decide +kernel) rfl
theorem in_527 : (Cond.instanceMethod ({ cls := "DominoKin$Moment", name := "isFallen", desc := "(I)Z" } : Jvm.MethodName)) ∈ dk_T := dk_in (i := 527) (by decide +kernel) rfl
theorem in_528 : (Cond.selects "DominoKin$Moment" ({ cls := "DominoKin$Moment", name := "isFallen", desc := "(I)Z" } : Jvm.MethodName) ({ cls := "DominoKin$Moment", name := "isFallen", desc := "(I)Z" } : Jvm.MethodName)) ∈ dk_T := dk_in (i := 528) (by decide +kernel) rfl
theorem in_529 : (Cond.code ({ cls := "DominoKin$Moment", name := "isFallen", desc := "(I)Z" } : Jvm.MethodName) prog_6_method_3_code (2 : Nat) (Option.some Jvm.ClassFile.FieldType.boolean)) ∈ dk_T := dk_in (i := 529) (by decide +kernel) rfl
theorem in_530 : (Cond.methodLink "DominoKin" (145 : Nat) ({ cls := "DominoKin$Street", name := "leansMore", desc := "(LDominoKin$Moment;I)I" } : Jvm.MethodName)) ∈ dk_T := dk_in (i := 530) (by decide +kernel) rfl
theorem in_531 : (Cond.instanceMethod ({ cls := "DominoKin$Street", name := "leansMore", desc := "(LDominoKin$Moment;I)I" } : Jvm.MethodName)) ∈ dk_T := dk_in (i := 531) (by decide +kernel) rfl
theorem in_532 : (Cond.selects "DominoKin$Street" ({ cls := "DominoKin$Street", name := "leansMore", desc := "(LDominoKin$Moment;I)I" } : Jvm.MethodName) ({ cls := "DominoKin$Street", name := "leansMore", desc := "(LDominoKin$Moment;I)I" } : Jvm.MethodName)) ∈ dk_T := dk_in (i := 532) (by decide +kernel) rfl
theorem in_533 : (Cond.code ({ cls := "DominoKin$Street", name := "leansMore", desc := "(LDominoKin$Moment;I)I" } : Jvm.MethodName) prog_12_method_15_code (3 : Nat) (Option.some Jvm.ClassFile.FieldType.int)) ∈ dk_T := dk_in (i := 533) (by decide +kernel) rfl
theorem in_534 : (Cond.methodLink "DominoKin$Street" (115 : Nat) ({ cls := "DominoKin$Street", name := "wordOf", desc := "(I)I" } : Jvm.MethodName)) ∈ dk_T := dk_in (i := 534) (by decide +kernel) rfl
theorem in_535 : (Cond.instanceMethod ({ cls := "DominoKin$Street", name := "wordOf", desc := "(I)I" } : Jvm.MethodName)) ∈ dk_T := dk_in (i := 535) (by decide +kernel) rfl
theorem in_536 : (Cond.selects "DominoKin$Street" ({ cls := "DominoKin$Street", name := "wordOf", desc := "(I)I" } : Jvm.MethodName) ({ cls := "DominoKin$Street", name := "wordOf", desc := "(I)I" } : Jvm.MethodName)) ∈ dk_T := dk_in (i := 536) (by decide +kernel) rfl
theorem in_537 : (Cond.code ({ cls := "DominoKin$Street", name := "wordOf", desc := "(I)I" } : Jvm.MethodName) prog_12_method_12_code (2 : Nat) (Option.some Jvm.ClassFile.FieldType.int)) ∈ dk_T := dk_in (i := 537) (by decide +kernel) rfl
theorem in_538 : (Cond.methodLink "DominoKin$Street" (111 : Nat) ({ cls := "DominoKin$Street", name := "sayingOf", desc := "(I)I" } : Jvm.MethodName)) ∈ dk_T := dk_in (i := 538) (by decide +kernel) rfl
theorem in_539 : (Cond.instanceMethod ({ cls := "DominoKin$Street", name := "sayingOf", desc := "(I)I" } : Jvm.MethodName)) ∈ dk_T := dk_in (i := 539) (by decide +kernel) rfl
theorem in_540 : (Cond.selects "DominoKin$Street" ({ cls := "DominoKin$Street", name := "sayingOf", desc := "(I)I" } : Jvm.MethodName) ({ cls := "DominoKin$Street", name := "sayingOf", desc := "(I)I" } : Jvm.MethodName)) ∈ dk_T := dk_in (i := 540) (by decide +kernel) rfl
theorem in_541 : (Cond.code ({ cls := "DominoKin$Street", name := "sayingOf", desc := "(I)I" } : Jvm.MethodName) prog_12_method_11_code (2 : Nat) (Option.some Jvm.ClassFile.FieldType.int)) ∈ dk_T := dk_in (i := 541) (by decide +kernel) rfl
theorem in_542 : (Cond.methodLink "DominoKin$Street" (118 : Nat) ({ cls := "DominoKin$Street", name := "hushOf", desc := "(I)I" } : Jvm.MethodName)) ∈ dk_T := dk_in (i := 542) (by decide +kernel) rfl
theorem in_543 : (Cond.instanceMethod ({ cls := "DominoKin$Street", name := "hushOf", desc := "(I)I" } : Jvm.MethodName)) ∈ dk_T := dk_in (i := 543) (by decide +kernel) rfl
theorem in_544 : (Cond.selects "DominoKin$Street" ({ cls := "DominoKin$Street", name := "hushOf", desc := "(I)I" } : Jvm.MethodName) ({ cls := "DominoKin$Street", name := "hushOf", desc := "(I)I" } : Jvm.MethodName)) ∈ dk_T := dk_in (i := 544) (by decide +kernel) rfl
theorem in_545 : (Cond.code ({ cls := "DominoKin$Street", name := "hushOf", desc := "(I)I" } : Jvm.MethodName) prog_12_method_13_code (2 : Nat) (Option.some Jvm.ClassFile.FieldType.int)) ∈ dk_T := dk_in (i := 545) (by decide +kernel) rfl
theorem in_546 : (Cond.methodLink "DominoKin$Street" (121 : Nat) ({ cls := "DominoKin$Piece", name := "leansMore", desc := "(III)I" } : Jvm.MethodName)) ∈ dk_T := dk_in (i := 546) (by decide +kernel) rfl
theorem in_547 : (Cond.instanceMethod ({ cls := "DominoKin$Piece", name := "leansMore", desc := "(III)I" } : Jvm.MethodName)) ∈ dk_T := dk_in (i := 547) (by decide +kernel) rfl
theorem in_548 : (Cond.selects "DominoKin$Piece" ({ cls := "DominoKin$Piece", name := "leansMore", desc := "(III)I" } : Jvm.MethodName) ({ cls := "DominoKin$Piece", name := "leansMore", desc := "(III)I" } : Jvm.MethodName)) ∈ dk_T := dk_in (i := 548) (by decide +kernel) rfl
theorem in_549 : (Cond.sameMethod "DominoKin$Piece" "DominoKin$Piece" "leansMore" "(III)I") ∈ dk_T := dk_in (i := 549) (by decide +kernel) rfl
theorem in_550 : (Cond.selects "DominoKin$Aunt" ({ cls := "DominoKin$Piece", name := "leansMore", desc := "(III)I" } : Jvm.MethodName) ({ cls := "DominoKin$Aunt", name := "leansMore", desc := "(III)I" } : Jvm.MethodName)) ∈ dk_T := dk_in (i := 550) (by decide +kernel) rfl
theorem in_551 : (Cond.instanceMethod ({ cls := "DominoKin$Aunt", name := "leansMore", desc := "(III)I" } : Jvm.MethodName)) ∈ dk_T := dk_in (i := 551) (by decide +kernel) rfl
theorem in_552 : (Cond.code ({ cls := "DominoKin$Aunt", name := "leansMore", desc := "(III)I" } : Jvm.MethodName) prog_2_method_2_code (4 : Nat) (Option.some Jvm.ClassFile.FieldType.int)) ∈ dk_T := dk_in (i := 552) (by decide +kernel) rfl
theorem in_553 : (Cond.selects "DominoKin$Eldest" ({ cls := "DominoKin$Piece", name := "leansMore", desc := "(III)I" } : Jvm.MethodName) ({ cls := "DominoKin$Eldest", name := "leansMore", desc := "(III)I" } : Jvm.MethodName)) ∈ dk_T := dk_in (i := 553) (by decide +kernel) rfl
theorem in_554 : (Cond.instanceMethod ({ cls := "DominoKin$Eldest", name := "leansMore", desc := "(III)I" } : Jvm.MethodName)) ∈ dk_T := dk_in (i := 554) (by decide +kernel) rfl
theorem in_555 : (Cond.code ({ cls := "DominoKin$Eldest", name := "leansMore", desc := "(III)I" } : Jvm.MethodName) prog_3_method_2_code (4 : Nat) (Option.some Jvm.ClassFile.FieldType.int)) ∈ dk_T := dk_in (i := 555) (by decide +kernel) rfl
theorem in_556 : (Cond.methodLink "DominoKin$Eldest" (7 : Nat) ({ cls := "DominoKin$Father", name := "leansMore", desc := "(III)I" } : Jvm.MethodName)) ∈ dk_T := dk_in (i := 556) (by decide +kernel) rfl
theorem in_557 : (Cond.instanceMethod ({ cls := "DominoKin$Father", name := "leansMore", desc := "(III)I" } : Jvm.MethodName)) ∈ dk_T := dk_in (i := 557) (by decide +kernel) rfl
theorem in_558 : (Cond.code ({ cls := "DominoKin$Father", name := "leansMore", desc := "(III)I" } : Jvm.MethodName) prog_4_method_2_code (4 : Nat) (Option.some Jvm.ClassFile.FieldType.int)) ∈ dk_T := dk_in (i := 558) (by decide +kernel) rfl
theorem in_559 : (Cond.methodLink "DominoKin$Father" (7 : Nat) ({ cls := "DominoKin$Piece", name := "leansMore", desc := "(III)I" } : Jvm.MethodName)) ∈ dk_T := dk_in (i := 559) (by decide +kernel) rfl
theorem in_560 : (Cond.selects "DominoKin$Father" ({ cls := "DominoKin$Piece", name := "leansMore", desc := "(III)I" } : Jvm.MethodName) ({ cls := "DominoKin$Father", name := "leansMore", desc := "(III)I" } : Jvm.MethodName)) ∈ dk_T := dk_in (i := 560) (by decide +kernel) rfl
theorem in_561 : (Cond.selects "DominoKin$Girl" ({ cls := "DominoKin$Piece", name := "leansMore", desc := "(III)I" } : Jvm.MethodName) ({ cls := "DominoKin$Girl", name := "leansMore", desc := "(III)I" } : Jvm.MethodName)) ∈ dk_T := dk_in (i := 561) (by decide +kernel) rfl
theorem in_562 : (Cond.instanceMethod ({ cls := "DominoKin$Girl", name := "leansMore", desc := "(III)I" } : Jvm.MethodName)) ∈ dk_T := dk_in (i := 562) (by decide +kernel) rfl
theorem in_563 : (Cond.code ({ cls := "DominoKin$Girl", name := "leansMore", desc := "(III)I" } : Jvm.MethodName) prog_5_method_2_code (4 : Nat) (Option.some Jvm.ClassFile.FieldType.int)) ∈ dk_T := dk_in (i := 563) (by decide +kernel) rfl
theorem in_564 : (Cond.methodLink "DominoKin$Girl" (7 : Nat) ({ cls := "DominoKin$Piece", name := "leansMore", desc := "(III)I" } : Jvm.MethodName)) ∈ dk_T := dk_in (i := 564) (by decide +kernel) rfl
theorem in_565 : (Cond.methodLink "DominoKin$Girl" (11 : Nat) ({ cls := "java/lang/Math", name := "max", desc := "(II)I" } : Jvm.MethodName)) ∈ dk_T := dk_in (i := 565) (by decide +kernel) rfl
theorem in_566 : (Cond.static ({ cls := "java/lang/Math", name := "max", desc := "(II)I" } : Jvm.MethodName)) ∈ dk_T := dk_in (i := 566) (by decide +kernel) rfl
theorem in_567 : (Cond.code ({ cls := "java/lang/Math", name := "max", desc := "(II)I" } : Jvm.MethodName) prog_16_method_65_code (2 : Nat) (Option.some Jvm.ClassFile.FieldType.int)) ∈ dk_T := dk_in (i := 567) (by decide +kernel) rfl
theorem in_568 : (Cond.selects "DominoKin$Sailor" ({ cls := "DominoKin$Piece", name := "leansMore", desc := "(III)I" } : Jvm.MethodName) ({ cls := "DominoKin$Sailor", name := "leansMore", desc := "(III)I" } : Jvm.MethodName)) ∈ dk_T := dk_in (i := 568) (by decide +kernel) rfl
theorem in_569 : (Cond.instanceMethod ({ cls := "DominoKin$Sailor", name := "leansMore", desc := "(III)I" } : Jvm.MethodName)) ∈ dk_T := dk_in (i := 569) (by decide +kernel) rfl
theorem in_570 : (Cond.code ({ cls := "DominoKin$Sailor", name := "leansMore", desc := "(III)I" } : Jvm.MethodName) prog_11_method_2_code (4 : Nat) (Option.some Jvm.ClassFile.FieldType.int)) ∈ dk_T := dk_in (i := 570) (by decide +kernel) rfl
theorem in_571 : (Cond.methodLink "DominoKin$Sailor" (7 : Nat) ({ cls := "DominoKin$Girl", name := "leansMore", desc := "(III)I" } : Jvm.MethodName)) ∈ dk_T := dk_in (i := 571) (by decide +kernel) rfl
theorem in_572 : (Cond.code ({ cls := "DominoKin$Piece", name := "leansMore", desc := "(III)I" } : Jvm.MethodName) prog_7_method_2_code (4 : Nat) (Option.some Jvm.ClassFile.FieldType.int)) ∈ dk_T := dk_in (i := 572) (by decide +kernel) rfl
theorem in_573 : (Cond.methodLink "DominoKin" (152 : Nat) ({ cls := "DominoKin$Street", name := "pays", desc := "(LDominoKin$Moment;I)I" } : Jvm.MethodName)) ∈ dk_T := dk_in (i := 573) (by decide +kernel) rfl
theorem in_574 : (Cond.instanceMethod ({ cls := "DominoKin$Street", name := "pays", desc := "(LDominoKin$Moment;I)I" } : Jvm.MethodName)) ∈ dk_T := dk_in (i := 574) (by decide +kernel) rfl
theorem in_575 : (Cond.selects "DominoKin$Street" ({ cls := "DominoKin$Street", name := "pays", desc := "(LDominoKin$Moment;I)I" } : Jvm.MethodName) ({ cls := "DominoKin$Street", name := "pays", desc := "(LDominoKin$Moment;I)I" } : Jvm.MethodName)) ∈ dk_T := dk_in (i := 575) (by decide +kernel) rfl
theorem in_576 : (Cond.code ({ cls := "DominoKin$Street", name := "pays", desc := "(LDominoKin$Moment;I)I" } : Jvm.MethodName) prog_12_method_16_code (3 : Nat) (Option.some Jvm.ClassFile.FieldType.int)) ∈ dk_T := dk_in (i := 576) (by decide +kernel) rfl
theorem in_577 : (Cond.methodLink "DominoKin$Street" (125 : Nat) ({ cls := "DominoKin$Moment", name := "isFallen", desc := "(I)Z" } : Jvm.MethodName)) ∈ dk_T := dk_in (i := 577) (by decide +kernel) rfl
theorem in_578 : (Cond.methodLink "DominoKin" (155 : Nat) ({ cls := "DominoKin$Street", name := "mayFall", desc := "(LDominoKin$Moment;I)Z" } : Jvm.MethodName)) ∈ dk_T := dk_in (i := 578) (by decide +kernel) rfl
theorem in_579 : (Cond.instanceMethod ({ cls := "DominoKin$Street", name := "mayFall", desc := "(LDominoKin$Moment;I)Z" } : Jvm.MethodName)) ∈ dk_T := dk_in (i := 579) (by decide +kernel) rfl
theorem in_580 : (Cond.selects "DominoKin$Street" ({ cls := "DominoKin$Street", name := "mayFall", desc := "(LDominoKin$Moment;I)Z" } : Jvm.MethodName) ({ cls := "DominoKin$Street", name := "mayFall", desc := "(LDominoKin$Moment;I)Z" } : Jvm.MethodName)) ∈ dk_T := dk_in (i := 580) (by decide +kernel) rfl
theorem in_581 : (Cond.code ({ cls := "DominoKin$Street", name := "mayFall", desc := "(LDominoKin$Moment;I)Z" } : Jvm.MethodName) prog_12_method_18_code (3 : Nat) (Option.some Jvm.ClassFile.FieldType.boolean)) ∈ dk_T := dk_in (i := 581) (by decide +kernel) rfl
theorem in_582 : (Cond.methodLink "DominoKin$Street" (146 : Nat) ({ cls := "DominoKin$Street", name := "pays", desc := "(LDominoKin$Moment;I)I" } : Jvm.MethodName)) ∈ dk_T := dk_in (i := 582) (by decide +kernel) rfl
theorem in_583 : (Cond.methodLink "DominoKin$Street" (150 : Nat) ({ cls := "DominoKin$Street", name := "will", desc := "(LDominoKin$Moment;I)I" } : Jvm.MethodName)) ∈ dk_T := dk_in (i := 583) (by decide +kernel) rfl
theorem in_584 : (Cond.instanceMethod ({ cls := "DominoKin$Street", name := "will", desc := "(LDominoKin$Moment;I)I" } : Jvm.MethodName)) ∈ dk_T := dk_in (i := 584) (by decide +kernel) rfl
theorem in_585 : (Cond.selects "DominoKin$Street" ({ cls := "DominoKin$Street", name := "will", desc := "(LDominoKin$Moment;I)I" } : Jvm.MethodName) ({ cls := "DominoKin$Street", name := "will", desc := "(LDominoKin$Moment;I)I" } : Jvm.MethodName)) ∈ dk_T := dk_in (i := 585) (by decide +kernel) rfl
theorem in_586 : (Cond.code ({ cls := "DominoKin$Street", name := "will", desc := "(LDominoKin$Moment;I)I" } : Jvm.MethodName) prog_12_method_17_code (4 : Nat) (Option.some Jvm.ClassFile.FieldType.int)) ∈ dk_T := dk_in (i := 586) (by decide +kernel) rfl
theorem in_587 : (Cond.methodLink "DominoKin$Street" (130 : Nat) ({ cls := "DominoKin$RuleBook", name := "learn", desc := "(IIIII)V" } : Jvm.MethodName)) ∈ dk_T := dk_in (i := 587) (by decide +kernel) rfl
theorem in_588 : (Cond.instanceMethod ({ cls := "DominoKin$RuleBook", name := "learn", desc := "(IIIII)V" } : Jvm.MethodName)) ∈ dk_T := dk_in (i := 588) (by decide +kernel) rfl
theorem in_589 : (Cond.selects "DominoKin$RuleBook" ({ cls := "DominoKin$RuleBook", name := "learn", desc := "(IIIII)V" } : Jvm.MethodName) ({ cls := "DominoKin$RuleBook", name := "learn", desc := "(IIIII)V" } : Jvm.MethodName)) ∈ dk_T := dk_in (i := 589) (by decide +kernel) rfl
theorem in_590 : (Cond.code ({ cls := "DominoKin$RuleBook", name := "learn", desc := "(IIIII)V" } : Jvm.MethodName) prog_10_method_3_code (6 : Nat) (Option.none : Option Jvm.ClassFile.FieldType)) ∈ dk_T := dk_in (i := 590) (by decide +kernel) rfl
theorem in_592 : (Cond.static ({ cls := "DominoKin", name := "isOrIsUnder", desc := "(II)Z" } : Jvm.MethodName)) ∈ dk_T := dk_in (i := 592) (by decide +kernel) rfl
theorem in_593 : (Cond.code ({ cls := "DominoKin", name := "isOrIsUnder", desc := "(II)Z" } : Jvm.MethodName) prog_1_method_55_code (2 : Nat) (Option.some Jvm.ClassFile.FieldType.boolean)) ∈ dk_T := dk_in (i := 593) (by decide +kernel) rfl
theorem in_596 : (Cond.methodLink "DominoKin$Street" (140 : Nat) ({ cls := "DominoKin$RuleBook", name := "holds", desc := "(I)Z" } : Jvm.MethodName)) ∈ dk_T := dk_in (i := 596) (by decide +kernel) rfl
theorem in_597 : (Cond.instanceMethod ({ cls := "DominoKin$RuleBook", name := "holds", desc := "(I)Z" } : Jvm.MethodName)) ∈ dk_T := dk_in (i := 597) (by decide +kernel) rfl
theorem in_598 : (Cond.selects "DominoKin$RuleBook" ({ cls := "DominoKin$RuleBook", name := "holds", desc := "(I)Z" } : Jvm.MethodName) ({ cls := "DominoKin$RuleBook", name := "holds", desc := "(I)Z" } : Jvm.MethodName)) ∈ dk_T := dk_in (i := 598) (by decide +kernel) rfl
theorem in_599 : (Cond.code ({ cls := "DominoKin$RuleBook", name := "holds", desc := "(I)Z" } : Jvm.MethodName) prog_10_method_4_code (5 : Nat) (Option.some Jvm.ClassFile.FieldType.boolean)) ∈ dk_T := dk_in (i := 599) (by decide +kernel) rfl
theorem in_600 : (Cond.methodLink "DominoKin$RuleBook" (49 : Nat) ({ cls := "DominoKin$RuleBook", name := "compares", desc := "(I)Z" } : Jvm.MethodName)) ∈ dk_T := dk_in (i := 600) (by decide +kernel) rfl
theorem in_602 : (Cond.instanceMethod ({ cls := "DominoKin$RuleBook", name := "compares", desc := "(I)Z" } : Jvm.MethodName)) ∈ dk_T := dk_in (i := 602) (by decide +kernel) rfl
theorem in_603 : (Cond.code ({ cls := "DominoKin$RuleBook", name := "compares", desc := "(I)Z" } : Jvm.MethodName) prog_10_method_5_code (6 : Nat) (Option.some Jvm.ClassFile.FieldType.boolean)) ∈ dk_T := dk_in (i := 603) (by decide +kernel) rfl
theorem in_604 : (Cond.methodLink "DominoKin" (159 : Nat) ({ cls := "DominoKin$Street", name := "will", desc := "(LDominoKin$Moment;I)I" } : Jvm.MethodName)) ∈ dk_T := dk_in (i := 604) (by decide +kernel) rfl
theorem in_605 : (Cond.methodLink "DominoKinLaw" (23 : Nat) ({ cls := "DominoKin", name := "change", desc := "(III)I" } : Jvm.MethodName)) ∈ dk_T := dk_in (i := 605) (by decide +kernel) rfl
theorem in_606 : (Cond.instanceMethod ({ cls := "DominoKin", name := "change", desc := "(III)I" } : Jvm.MethodName)) ∈ dk_T := dk_in (i := 606) (by decide +kernel) rfl
theorem in_607 : (Cond.selects "DominoKin" ({ cls := "DominoKin", name := "change", desc := "(III)I" } : Jvm.MethodName) ({ cls := "DominoKin", name := "change", desc := "(III)I" } : Jvm.MethodName)) ∈ dk_T := dk_in (i := 607) (by decide +kernel) rfl
theorem in_608 : (Cond.code ({ cls := "DominoKin", name := "change", desc := "(III)I" } : Jvm.MethodName) prog_1_method_4_code (4 : Nat) (Option.some Jvm.ClassFile.FieldType.int)) ∈ dk_T := dk_in (i := 608) (by decide +kernel) rfl
theorem in_609 : (Cond.methodLink "DominoKin" (162 : Nat) ({ cls := "DominoKin", name := "replace", desc := "([III)I" } : Jvm.MethodName)) ∈ dk_T := dk_in (i := 609) (by decide +kernel) rfl
theorem in_610 : (Cond.static ({ cls := "DominoKin", name := "replace", desc := "([III)I" } : Jvm.MethodName)) ∈ dk_T := dk_in (i := 610) (by decide +kernel) rfl
theorem in_611 : (Cond.code ({ cls := "DominoKin", name := "replace", desc := "([III)I" } : Jvm.MethodName) prog_1_method_54_code (4 : Nat) (Option.some Jvm.ClassFile.FieldType.int)) ∈ dk_T := dk_in (i := 611) (by decide +kernel) rfl
theorem in_612 : (Cond.methodLink "DominoKin" (166 : Nat) ({ cls := "DominoKin$Street", name := "setGap", desc := "(II)I" } : Jvm.MethodName)) ∈ dk_T := dk_in (i := 612) (by decide +kernel) rfl
theorem in_613 : (Cond.instanceMethod ({ cls := "DominoKin$Street", name := "setGap", desc := "(II)I" } : Jvm.MethodName)) ∈ dk_T := dk_in (i := 613) (by decide +kernel) rfl
theorem in_614 : (Cond.selects "DominoKin$Street" ({ cls := "DominoKin$Street", name := "setGap", desc := "(II)I" } : Jvm.MethodName) ({ cls := "DominoKin$Street", name := "setGap", desc := "(II)I" } : Jvm.MethodName)) ∈ dk_T := dk_in (i := 614) (by decide +kernel) rfl
theorem in_615 : (Cond.code ({ cls := "DominoKin$Street", name := "setGap", desc := "(II)I" } : Jvm.MethodName) prog_12_method_4_code (4 : Nat) (Option.some Jvm.ClassFile.FieldType.int)) ∈ dk_T := dk_in (i := 615) (by decide +kernel) rfl
theorem in_616 : (Cond.methodLink "DominoKin" (170 : Nat) ({ cls := "DominoKin$Moment", name := "setFallen", desc := "(II)I" } : Jvm.MethodName)) ∈ dk_T := dk_in (i := 616) (by decide +kernel) rfl
theorem in_617 : (Cond.methodLink "DominoKinLaw" (28 : Nat) ({ cls := "DominoKin", name := "remake", desc := "(II)I" } : Jvm.MethodName)) ∈ dk_T := dk_in (i := 617) (by decide +kernel) rfl
theorem in_618 : (Cond.instanceMethod ({ cls := "DominoKin", name := "remake", desc := "(II)I" } : Jvm.MethodName)) ∈ dk_T := dk_in (i := 618) (by decide +kernel) rfl
theorem in_619 : (Cond.selects "DominoKin" ({ cls := "DominoKin", name := "remake", desc := "(II)I" } : Jvm.MethodName) ({ cls := "DominoKin", name := "remake", desc := "(II)I" } : Jvm.MethodName)) ∈ dk_T := dk_in (i := 619) (by decide +kernel) rfl
theorem in_620 : (Cond.code ({ cls := "DominoKin", name := "remake", desc := "(II)I" } : Jvm.MethodName) prog_1_method_5_code (3 : Nat) (Option.some Jvm.ClassFile.FieldType.int)) ∈ dk_T := dk_in (i := 620) (by decide +kernel) rfl
theorem in_621 : (Cond.methodLink "DominoKin" (173 : Nat) ({ cls := "DominoKin$Street", name := "setKind", desc := "(II)I" } : Jvm.MethodName)) ∈ dk_T := dk_in (i := 621) (by decide +kernel) rfl
theorem in_622 : (Cond.instanceMethod ({ cls := "DominoKin$Street", name := "setKind", desc := "(II)I" } : Jvm.MethodName)) ∈ dk_T := dk_in (i := 622) (by decide +kernel) rfl
theorem in_623 : (Cond.selects "DominoKin$Street" ({ cls := "DominoKin$Street", name := "setKind", desc := "(II)I" } : Jvm.MethodName) ({ cls := "DominoKin$Street", name := "setKind", desc := "(II)I" } : Jvm.MethodName)) ∈ dk_T := dk_in (i := 623) (by decide +kernel) rfl
theorem in_624 : (Cond.code ({ cls := "DominoKin$Street", name := "setKind", desc := "(II)I" } : Jvm.MethodName) prog_12_method_5_code (4 : Nat) (Option.some Jvm.ClassFile.FieldType.int)) ∈ dk_T := dk_in (i := 624) (by decide +kernel) rfl
theorem in_625 : (Cond.methodLink "DominoKinLaw" (32 : Nat) ({ cls := "DominoKin", name := "saying", desc := "(II)I" } : Jvm.MethodName)) ∈ dk_T := dk_in (i := 625) (by decide +kernel) rfl
theorem in_626 : (Cond.instanceMethod ({ cls := "DominoKin", name := "saying", desc := "(II)I" } : Jvm.MethodName)) ∈ dk_T := dk_in (i := 626) (by decide +kernel) rfl
theorem in_627 : (Cond.selects "DominoKin" ({ cls := "DominoKin", name := "saying", desc := "(II)I" } : Jvm.MethodName) ({ cls := "DominoKin", name := "saying", desc := "(II)I" } : Jvm.MethodName)) ∈ dk_T := dk_in (i := 627) (by decide +kernel) rfl
theorem in_628 : (Cond.code ({ cls := "DominoKin", name := "saying", desc := "(II)I" } : Jvm.MethodName) prog_1_method_6_code (3 : Nat) (Option.some Jvm.ClassFile.FieldType.int)) ∈ dk_T := dk_in (i := 628) (by decide +kernel) rfl
theorem in_629 : (Cond.methodLink "DominoKinLaw" (36 : Nat) ({ cls := "DominoKin", name := "room", desc := "(III)I" } : Jvm.MethodName)) ∈ dk_T := dk_in (i := 629) (by decide +kernel) rfl
theorem in_630 : (Cond.instanceMethod ({ cls := "DominoKin", name := "room", desc := "(III)I" } : Jvm.MethodName)) ∈ dk_T := dk_in (i := 630) (by decide +kernel) rfl
theorem in_631 : (Cond.selects "DominoKin" ({ cls := "DominoKin", name := "room", desc := "(III)I" } : Jvm.MethodName) ({ cls := "DominoKin", name := "room", desc := "(III)I" } : Jvm.MethodName)) ∈ dk_T := dk_in (i := 631) (by decide +kernel) rfl
theorem in_632 : (Cond.code ({ cls := "DominoKin", name := "room", desc := "(III)I" } : Jvm.MethodName) prog_1_method_7_code (4 : Nat) (Option.some Jvm.ClassFile.FieldType.int)) ∈ dk_T := dk_in (i := 632) (by decide +kernel) rfl
theorem in_633 : (Cond.methodLink "DominoKinLaw" (40 : Nat) ({ cls := "DominoKin", name := "roomOf", desc := "(II)I" } : Jvm.MethodName)) ∈ dk_T := dk_in (i := 633) (by decide +kernel) rfl
theorem in_634 : (Cond.instanceMethod ({ cls := "DominoKin", name := "roomOf", desc := "(II)I" } : Jvm.MethodName)) ∈ dk_T := dk_in (i := 634) (by decide +kernel) rfl
theorem in_635 : (Cond.selects "DominoKin" ({ cls := "DominoKin", name := "roomOf", desc := "(II)I" } : Jvm.MethodName) ({ cls := "DominoKin", name := "roomOf", desc := "(II)I" } : Jvm.MethodName)) ∈ dk_T := dk_in (i := 635) (by decide +kernel) rfl
theorem in_636 : (Cond.code ({ cls := "DominoKin", name := "roomOf", desc := "(II)I" } : Jvm.MethodName) prog_1_method_8_code (3 : Nat) (Option.some Jvm.ClassFile.FieldType.int)) ∈ dk_T := dk_in (i := 636) (by decide +kernel) rfl
theorem in_637 : (Cond.methodLink "DominoKinLaw" (44 : Nat) ({ cls := "DominoKin", name := "ends", desc := "(I)I" } : Jvm.MethodName)) ∈ dk_T := dk_in (i := 637) (by decide +kernel) rfl
theorem in_638 : (Cond.instanceMethod ({ cls := "DominoKin", name := "ends", desc := "(I)I" } : Jvm.MethodName)) ∈ dk_T := dk_in (i := 638) (by decide +kernel) rfl
theorem in_639 : (Cond.selects "DominoKin" ({ cls := "DominoKin", name := "ends", desc := "(I)I" } : Jvm.MethodName) ({ cls := "DominoKin", name := "ends", desc := "(I)I" } : Jvm.MethodName)) ∈ dk_T := dk_in (i := 639) (by decide +kernel) rfl
theorem in_640 : (Cond.code ({ cls := "DominoKin", name := "ends", desc := "(I)I" } : Jvm.MethodName) prog_1_method_9_code (3 : Nat) (Option.some Jvm.ClassFile.FieldType.int)) ∈ dk_T := dk_in (i := 640) (by decide +kernel) rfl
theorem in_641 : (Cond.methodLink "DominoKinLaw" (49 : Nat) ({ cls := "DominoKin", name := "anew", desc := "()I" } : Jvm.MethodName)) ∈ dk_T := dk_in (i := 641) (by decide +kernel) rfl
theorem in_642 : (Cond.instanceMethod ({ cls := "DominoKin", name := "anew", desc := "()I" } : Jvm.MethodName)) ∈ dk_T := dk_in (i := 642) (by decide +kernel) rfl
theorem in_643 : (Cond.selects "DominoKin" ({ cls := "DominoKin", name := "anew", desc := "()I" } : Jvm.MethodName) ({ cls := "DominoKin", name := "anew", desc := "()I" } : Jvm.MethodName)) ∈ dk_T := dk_in (i := 643) (by decide +kernel) rfl
theorem in_644 : (Cond.code ({ cls := "DominoKin", name := "anew", desc := "()I" } : Jvm.MethodName) prog_1_method_10_code (2 : Nat) (Option.some Jvm.ClassFile.FieldType.int)) ∈ dk_T := dk_in (i := 644) (by decide +kernel) rfl
theorem in_645 : (Cond.methodLink "DominoKinLaw" (54 : Nat) ({ cls := "DominoKin", name := "state", desc := "(I)I" } : Jvm.MethodName)) ∈ dk_T := dk_in (i := 645) (by decide +kernel) rfl
theorem in_646 : (Cond.instanceMethod ({ cls := "DominoKin", name := "state", desc := "(I)I" } : Jvm.MethodName)) ∈ dk_T := dk_in (i := 646) (by decide +kernel) rfl
theorem in_647 : (Cond.selects "DominoKin" ({ cls := "DominoKin", name := "state", desc := "(I)I" } : Jvm.MethodName) ({ cls := "DominoKin", name := "state", desc := "(I)I" } : Jvm.MethodName)) ∈ dk_T := dk_in (i := 647) (by decide +kernel) rfl
theorem in_648 : (Cond.code ({ cls := "DominoKin", name := "state", desc := "(I)I" } : Jvm.MethodName) prog_1_method_11_code (3 : Nat) (Option.some Jvm.ClassFile.FieldType.int)) ∈ dk_T := dk_in (i := 648) (by decide +kernel) rfl
theorem in_649 : (Cond.methodLink "DominoKin" (197 : Nat) ({ cls := "DominoKin$Street", name := "isOver", desc := "(LDominoKin$Moment;)Z" } : Jvm.MethodName)) ∈ dk_T := dk_in (i := 649) (by decide +kernel) rfl
theorem in_650 : (Cond.instanceMethod ({ cls := "DominoKin$Street", name := "isOver", desc := "(LDominoKin$Moment;)Z" } : Jvm.MethodName)) ∈ dk_T := dk_in (i := 650) (by decide +kernel) rfl
theorem in_651 : (Cond.selects "DominoKin$Street" ({ cls := "DominoKin$Street", name := "isOver", desc := "(LDominoKin$Moment;)Z" } : Jvm.MethodName) ({ cls := "DominoKin$Street", name := "isOver", desc := "(LDominoKin$Moment;)Z" } : Jvm.MethodName)) ∈ dk_T := dk_in (i := 651) (by decide +kernel) rfl
theorem in_652 : (Cond.code ({ cls := "DominoKin$Street", name := "isOver", desc := "(LDominoKin$Moment;)Z" } : Jvm.MethodName) prog_12_method_10_code (2 : Nat) (Option.some Jvm.ClassFile.FieldType.boolean)) ∈ dk_T := dk_in (i := 652) (by decide +kernel) rfl
theorem in_653 : (Cond.methodLink "DominoKin" (201 : Nat) ({ cls := "DominoKin$Street", name := "sayingOf", desc := "(I)I" } : Jvm.MethodName)) ∈ dk_T := dk_in (i := 653) (by decide +kernel) rfl
theorem in_654 : (Cond.methodLink "DominoKin" (205 : Nat) ({ cls := "DominoKin$Street", name := "leanOfAll", desc := "(LDominoKin$Moment;)I" } : Jvm.MethodName)) ∈ dk_T := dk_in (i := 654) (by decide +kernel) rfl
theorem in_655 : (Cond.instanceMethod ({ cls := "DominoKin$Street", name := "leanOfAll", desc := "(LDominoKin$Moment;)I" } : Jvm.MethodName)) ∈ dk_T := dk_in (i := 655) (by decide +kernel) rfl
theorem in_656 : (Cond.selects "DominoKin$Street" ({ cls := "DominoKin$Street", name := "leanOfAll", desc := "(LDominoKin$Moment;)I" } : Jvm.MethodName) ({ cls := "DominoKin$Street", name := "leanOfAll", desc := "(LDominoKin$Moment;)I" } : Jvm.MethodName)) ∈ dk_T := dk_in (i := 656) (by decide +kernel) rfl
theorem in_657 : (Cond.code ({ cls := "DominoKin$Street", name := "leanOfAll", desc := "(LDominoKin$Moment;)I" } : Jvm.MethodName) prog_12_method_14_code (4 : Nat) (Option.some Jvm.ClassFile.FieldType.int)) ∈ dk_T := dk_in (i := 657) (by decide +kernel) rfl
theorem in_658 : (Cond.methodLink "DominoKinLaw" (60 : Nat) ({ cls := "DominoKin", name := "feed", desc := "(JI)I" } : Jvm.MethodName)) ∈ dk_T := dk_in (i := 658) (by decide +kernel) rfl
theorem in_659 : (Cond.instanceMethod ({ cls := "DominoKin", name := "feed", desc := "(JI)I" } : Jvm.MethodName)) ∈ dk_T := dk_in (i := 659) (by decide +kernel) rfl
theorem in_660 : (Cond.selects "DominoKin" ({ cls := "DominoKin", name := "feed", desc := "(JI)I" } : Jvm.MethodName) ({ cls := "DominoKin", name := "feed", desc := "(JI)I" } : Jvm.MethodName)) ∈ dk_T := dk_in (i := 660) (by decide +kernel) rfl
theorem in_661 : (Cond.code ({ cls := "DominoKin", name := "feed", desc := "(JI)I" } : Jvm.MethodName) prog_1_method_12_code (5 : Nat) (Option.some Jvm.ClassFile.FieldType.int)) ∈ dk_T := dk_in (i := 661) (by decide +kernel) rfl
theorem in_662 : (Cond.methodLink "DominoKinLaw" (65 : Nat) ({ cls := "DominoKin", name := "rules", desc := "()I" } : Jvm.MethodName)) ∈ dk_T := dk_in (i := 662) (by decide +kernel) rfl
theorem in_663 : (Cond.instanceMethod ({ cls := "DominoKin", name := "rules", desc := "()I" } : Jvm.MethodName)) ∈ dk_T := dk_in (i := 663) (by decide +kernel) rfl
theorem in_664 : (Cond.selects "DominoKin" ({ cls := "DominoKin", name := "rules", desc := "()I" } : Jvm.MethodName) ({ cls := "DominoKin", name := "rules", desc := "()I" } : Jvm.MethodName)) ∈ dk_T := dk_in (i := 664) (by decide +kernel) rfl
theorem in_665 : (Cond.code ({ cls := "DominoKin", name := "rules", desc := "()I" } : Jvm.MethodName) prog_1_method_13_code (3 : Nat) (Option.some Jvm.ClassFile.FieldType.int)) ∈ dk_T := dk_in (i := 665) (by decide +kernel) rfl
theorem in_666 : (Cond.methodLink "DominoKin" (209 : Nat) ({ cls := "DominoKin$RuleBook", name := "readText", desc := "([BI)I" } : Jvm.MethodName)) ∈ dk_T := dk_in (i := 666) (by decide +kernel) rfl
theorem in_667 : (Cond.instanceMethod ({ cls := "DominoKin$RuleBook", name := "readText", desc := "([BI)I" } : Jvm.MethodName)) ∈ dk_T := dk_in (i := 667) (by decide +kernel) rfl
theorem in_668 : (Cond.selects "DominoKin$RuleBook" ({ cls := "DominoKin$RuleBook", name := "readText", desc := "([BI)I" } : Jvm.MethodName) ({ cls := "DominoKin$RuleBook", name := "readText", desc := "([BI)I" } : Jvm.MethodName)) ∈ dk_T := dk_in (i := 668) (by decide +kernel) rfl
theorem in_669 : (Cond.code ({ cls := "DominoKin$RuleBook", name := "readText", desc := "([BI)I" } : Jvm.MethodName) prog_10_method_6_code (4 : Nat) (Option.some Jvm.ClassFile.FieldType.int)) ∈ dk_T := dk_in (i := 669) (by decide +kernel) rfl
theorem in_670 : (Cond.methodLink "DominoKin$RuleBook" (53 : Nat) ({ cls := "DominoKin$RuleBook", name := "split", desc := "([BI)V" } : Jvm.MethodName)) ∈ dk_T := dk_in (i := 670) (by decide +kernel) rfl
theorem in_672 : (Cond.instanceMethod ({ cls := "DominoKin$RuleBook", name := "split", desc := "([BI)V" } : Jvm.MethodName)) ∈ dk_T := dk_in (i := 672) (by decide +kernel) rfl
theorem in_673 : (Cond.code ({ cls := "DominoKin$RuleBook", name := "split", desc := "([BI)V" } : Jvm.MethodName) prog_10_method_7_code (7 : Nat) (Option.none : Option Jvm.ClassFile.FieldType)) ∈ dk_T := dk_in (i := 673) (by decide +kernel) rfl
theorem in_674 : (Cond.methodLink "DominoKin$RuleBook" (61 : Nat) ({ cls := "DominoKin$RuleBook", name := "endOf", desc := "([BII)I" } : Jvm.MethodName)) ∈ dk_T := dk_in (i := 674) (by decide +kernel) rfl
theorem in_675 : (Cond.static ({ cls := "DominoKin$RuleBook", name := "endOf", desc := "([BII)I" } : Jvm.MethodName)) ∈ dk_T := dk_in (i := 675) (by decide +kernel) rfl
theorem in_676 : (Cond.code ({ cls := "DominoKin$RuleBook", name := "endOf", desc := "([BII)I" } : Jvm.MethodName) prog_10_method_8_code (4 : Nat) (Option.some Jvm.ClassFile.FieldType.int)) ∈ dk_T := dk_in (i := 676) (by decide +kernel) rfl
theorem in_677 : (Cond.methodLink "DominoKin$RuleBook" (68 : Nat) ({ cls := "DominoKin$RuleBook", name := "isLetter", desc := "(B)Z" } : Jvm.MethodName)) ∈ dk_T := dk_in (i := 677) (by decide +kernel) rfl
theorem in_678 : (Cond.static ({ cls := "DominoKin$RuleBook", name := "isLetter", desc := "(B)Z" } : Jvm.MethodName)) ∈ dk_T := dk_in (i := 678) (by decide +kernel) rfl
theorem in_679 : (Cond.code ({ cls := "DominoKin$RuleBook", name := "isLetter", desc := "(B)Z" } : Jvm.MethodName) prog_10_method_13_code (1 : Nat) (Option.some Jvm.ClassFile.FieldType.boolean)) ∈ dk_T := dk_in (i := 679) (by decide +kernel) rfl
theorem in_680 : (Cond.methodLink "DominoKin$RuleBook" (72 : Nat) ({ cls := "DominoKin$RuleBook", name := "isDigit", desc := "(B)Z" } : Jvm.MethodName)) ∈ dk_T := dk_in (i := 680) (by decide +kernel) rfl
theorem in_681 : (Cond.static ({ cls := "DominoKin$RuleBook", name := "isDigit", desc := "(B)Z" } : Jvm.MethodName)) ∈ dk_T := dk_in (i := 681) (by decide +kernel) rfl
theorem in_682 : (Cond.code ({ cls := "DominoKin$RuleBook", name := "isDigit", desc := "(B)Z" } : Jvm.MethodName) prog_10_method_14_code (1 : Nat) (Option.some Jvm.ClassFile.FieldType.boolean)) ∈ dk_T := dk_in (i := 682) (by decide +kernel) rfl
theorem in_683 : (Cond.methodLink "DominoKin$RuleBook" (65 : Nat) ({ cls := "DominoKin$RuleBook", name := "tokenOf", desc := "([BII)I" } : Jvm.MethodName)) ∈ dk_T := dk_in (i := 683) (by decide +kernel) rfl
theorem in_684 : (Cond.static ({ cls := "DominoKin$RuleBook", name := "tokenOf", desc := "([BII)I" } : Jvm.MethodName)) ∈ dk_T := dk_in (i := 684) (by decide +kernel) rfl
theorem in_685 : (Cond.code ({ cls := "DominoKin$RuleBook", name := "tokenOf", desc := "([BII)I" } : Jvm.MethodName) prog_10_method_9_code (3 : Nat) (Option.some Jvm.ClassFile.FieldType.int)) ∈ dk_T := dk_in (i := 685) (by decide +kernel) rfl
theorem in_686 : (Cond.methodLink "DominoKin$RuleBook" (75 : Nat) ({ cls := "DominoKin$RuleBook", name := "wordOf", desc := "([BII)I" } : Jvm.MethodName)) ∈ dk_T := dk_in (i := 686) (by decide +kernel) rfl
theorem in_687 : (Cond.static ({ cls := "DominoKin$RuleBook", name := "wordOf", desc := "([BII)I" } : Jvm.MethodName)) ∈ dk_T := dk_in (i := 687) (by decide +kernel) rfl
theorem in_688 : (Cond.code ({ cls := "DominoKin$RuleBook", name := "wordOf", desc := "([BII)I" } : Jvm.MethodName) prog_10_method_10_code (6 : Nat) (Option.some Jvm.ClassFile.FieldType.int)) ∈ dk_T := dk_in (i := 688) (by decide +kernel) rfl
theorem in_690 : (Cond.methodLink "DominoKin$RuleBook" (83 : Nat) ({ cls := "java/lang/String", name := "length", desc := "()I" } : Jvm.MethodName)) ∈ dk_T := dk_in (i := 690) (by decide +kernel) rfl
theorem in_691 : (Cond.instanceMethod ({ cls := "java/lang/String", name := "length", desc := "()I" } : Jvm.MethodName)) ∈ dk_T := dk_in (i := 691) (by decide +kernel) rfl
theorem in_692 : (Cond.selects "java/lang/String" ({ cls := "java/lang/String", name := "length", desc := "()I" } : Jvm.MethodName) ({ cls := "java/lang/String", name := "length", desc := "()I" } : Jvm.MethodName)) ∈ dk_T := dk_in (i := 692) (by decide +kernel) rfl
theorem in_693 : (Cond.code ({ cls := "java/lang/String", name := "length", desc := "()I" } : Jvm.MethodName) prog_17_method_54_code (1 : Nat) (Option.some Jvm.ClassFile.FieldType.int)) ∈ dk_T := dk_in (i := 693) (by decide +kernel) rfl
theorem in_694 : (Cond.methodLink "java/lang/String" (335 : Nat) ({ cls := "java/lang/String", name := "coder", desc := "()B" } : Jvm.MethodName)) ∈ dk_T := dk_in (i := 694) (by decide +kernel) rfl
theorem in_695 : (Cond.instanceMethod ({ cls := "java/lang/String", name := "coder", desc := "()B" } : Jvm.MethodName)) ∈ dk_T := dk_in (i := 695) (by decide +kernel) rfl
theorem in_696 : (Cond.selects "java/lang/String" ({ cls := "java/lang/String", name := "coder", desc := "()B" } : Jvm.MethodName) ({ cls := "java/lang/String", name := "coder", desc := "()B" } : Jvm.MethodName)) ∈ dk_T := dk_in (i := 696) (by decide +kernel) rfl
theorem in_697 : (Cond.code ({ cls := "java/lang/String", name := "coder", desc := "()B" } : Jvm.MethodName) prog_17_method_152_code (1 : Nat) (Option.some Jvm.ClassFile.FieldType.byte)) ∈ dk_T := dk_in (i := 697) (by decide +kernel) rfl
theorem in_700 : (Cond.methodLink "DominoKin$RuleBook" (89 : Nat) ({ cls := "java/lang/String", name := "charAt", desc := "(I)C" } : Jvm.MethodName)) ∈ dk_T := dk_in (i := 700) (by decide +kernel) rfl
theorem in_701 : (Cond.instanceMethod ({ cls := "java/lang/String", name := "charAt", desc := "(I)C" } : Jvm.MethodName)) ∈ dk_T := dk_in (i := 701) (by decide +kernel) rfl
theorem in_702 : (Cond.selects "java/lang/String" ({ cls := "java/lang/String", name := "charAt", desc := "(I)C" } : Jvm.MethodName) ({ cls := "java/lang/String", name := "charAt", desc := "(I)C" } : Jvm.MethodName)) ∈ dk_T := dk_in (i := 702) (by decide +kernel) rfl
theorem in_703 : (Cond.code ({ cls := "java/lang/String", name := "charAt", desc := "(I)C" } : Jvm.MethodName) prog_17_method_56_code (2 : Nat) (Option.some Jvm.ClassFile.FieldType.char)) ∈ dk_T := dk_in (i := 703) (by decide +kernel) rfl
theorem in_704 : (Cond.methodLink "java/lang/String" (492 : Nat) ({ cls := "java/lang/String", name := "isLatin1", desc := "()Z" } : Jvm.MethodName)) ∈ dk_T := dk_in (i := 704) (by decide +kernel) rfl
theorem in_705 : (Cond.instanceMethod ({ cls := "java/lang/String", name := "isLatin1", desc := "()Z" } : Jvm.MethodName)) ∈ dk_T := dk_in (i := 705) (by decide +kernel) rfl
theorem in_706 : (Cond.selects "java/lang/String" ({ cls := "java/lang/String", name := "isLatin1", desc := "()Z" } : Jvm.MethodName) ({ cls := "java/lang/String", name := "isLatin1", desc := "()Z" } : Jvm.MethodName)) ∈ dk_T := dk_in (i := 706) (by decide +kernel) rfl
theorem in_707 : (Cond.code ({ cls := "java/lang/String", name := "isLatin1", desc := "()Z" } : Jvm.MethodName) prog_17_method_154_code (1 : Nat) (Option.some Jvm.ClassFile.FieldType.boolean)) ∈ dk_T := dk_in (i := 707) (by decide +kernel) rfl
theorem in_708 : (Cond.methodLink "java/lang/String" (495 : Nat) ({ cls := "java/lang/StringLatin1", name := "charAt", desc := "([BI)C" } : Jvm.MethodName)) ∈ dk_T := dk_in (i := 708) (by decide +kernel) rfl
theorem in_709 : (Cond.static ({ cls := "java/lang/StringLatin1", name := "charAt", desc := "([BI)C" } : Jvm.MethodName)) ∈ dk_T := dk_in (i := 709) (by decide +kernel) rfl
theorem in_710 : (Cond.code ({ cls := "java/lang/StringLatin1", name := "charAt", desc := "([BI)C" } : Jvm.MethodName) prog_18_method_2_code (2 : Nat) (Option.some Jvm.ClassFile.FieldType.char)) ∈ dk_T := dk_in (i := 710) (by decide +kernel) rfl
theorem in_711 : (Cond.methodLink "java/lang/StringLatin1" (9 : Nat) ({ cls := "java/lang/String", name := "checkIndex", desc := "(II)V" } : Jvm.MethodName)) ∈ dk_T := dk_in (i := 711) (by decide +kernel) rfl
theorem in_712 : (Cond.static ({ cls := "java/lang/String", name := "checkIndex", desc := "(II)V" } : Jvm.MethodName)) ∈ dk_T := dk_in (i := 712) (by decide +kernel) rfl
theorem in_713 : (Cond.code ({ cls := "java/lang/String", name := "checkIndex", desc := "(II)V" } : Jvm.MethodName) prog_17_method_155_code (2 : Nat) (Option.none : Option Jvm.ClassFile.FieldType)) ∈ dk_T := dk_in (i := 713) (by decide +kernel) rfl
theorem in_716 : (Cond.methodLink "java/lang/String" (1059 : Nat) ({ cls := "jdk/internal/util/Preconditions", name := "checkIndex", desc := "(IILjava/util/function/BiFunction;)I" } : Jvm.MethodName)) ∈ dk_T := dk_in (i := 716) (by decide +kernel) rfl
theorem in_717 : (Cond.static ({ cls := "jdk/internal/util/Preconditions", name := "checkIndex", desc := "(IILjava/util/function/BiFunction;)I" } : Jvm.MethodName)) ∈ dk_T := dk_in (i := 717) (by decide +kernel) rfl
theorem in_718 : (Cond.code ({ cls := "jdk/internal/util/Preconditions", name := "checkIndex", desc := "(IILjava/util/function/BiFunction;)I" } : Jvm.MethodName) prog_22_method_11_code (3 : Nat) (Option.some Jvm.ClassFile.FieldType.int)) ∈ dk_T := dk_in (i := 718) (by decide +kernel) rfl
theorem in_719 : (Cond.methodLink "java/lang/String" (498 : Nat) ({ cls := "java/lang/StringUTF16", name := "charAt", desc := "([BI)C" } : Jvm.MethodName)) ∈ dk_T := dk_in (i := 719) (by decide +kernel) rfl
theorem in_720 : (Cond.static ({ cls := "java/lang/StringUTF16", name := "charAt", desc := "([BI)C" } : Jvm.MethodName)) ∈ dk_T := dk_in (i := 720) (by decide +kernel) rfl
theorem in_721 : (Cond.code ({ cls := "java/lang/StringUTF16", name := "charAt", desc := "([BI)C" } : Jvm.MethodName) prog_19_method_83_code (2 : Nat) (Option.some Jvm.ClassFile.FieldType.char)) ∈ dk_T := dk_in (i := 721) (by decide +kernel) rfl
theorem in_722 : (Cond.methodLink "java/lang/StringUTF16" (67 : Nat) ({ cls := "java/lang/StringUTF16", name := "checkIndex", desc := "(I[B)V" } : Jvm.MethodName)) ∈ dk_T := dk_in (i := 722) (by decide +kernel) rfl
theorem in_723 : (Cond.static ({ cls := "java/lang/StringUTF16", name := "checkIndex", desc := "(I[B)V" } : Jvm.MethodName)) ∈ dk_T := dk_in (i := 723) (by decide +kernel) rfl
theorem in_724 : (Cond.code ({ cls := "java/lang/StringUTF16", name := "checkIndex", desc := "(I[B)V" } : Jvm.MethodName) prog_19_method_91_code (2 : Nat) (Option.none : Option Jvm.ClassFile.FieldType)) ∈ dk_T := dk_in (i := 724) (by decide +kernel) rfl
theorem in_725 : (Cond.methodLink "java/lang/StringUTF16" (48 : Nat) ({ cls := "java/lang/StringUTF16", name := "length", desc := "([B)I" } : Jvm.MethodName)) ∈ dk_T := dk_in (i := 725) (by decide +kernel) rfl
theorem in_726 : (Cond.static ({ cls := "java/lang/StringUTF16", name := "length", desc := "([B)I" } : Jvm.MethodName)) ∈ dk_T := dk_in (i := 726) (by decide +kernel) rfl
theorem in_727 : (Cond.code ({ cls := "java/lang/StringUTF16", name := "length", desc := "([B)I" } : Jvm.MethodName) prog_19_method_6_code (1 : Nat) (Option.some Jvm.ClassFile.FieldType.int)) ∈ dk_T := dk_in (i := 727) (by decide +kernel) rfl
theorem in_728 : (Cond.methodLink "java/lang/StringUTF16" (414 : Nat) ({ cls := "java/lang/String", name := "checkIndex", desc := "(II)V" } : Jvm.MethodName)) ∈ dk_T := dk_in (i := 728) (by decide +kernel) rfl
theorem in_729 : (Cond.methodLink "java/lang/StringUTF16" (71 : Nat) ({ cls := "java/lang/StringUTF16", name := "getChar", desc := "([BI)C" } : Jvm.MethodName)) ∈ dk_T := dk_in (i := 729) (by decide +kernel) rfl
theorem in_730 : (Cond.static ({ cls := "java/lang/StringUTF16", name := "getChar", desc := "([BI)C" } : Jvm.MethodName)) ∈ dk_T := dk_in (i := 730) (by decide +kernel) rfl
theorem in_731 : (Cond.code ({ cls := "java/lang/StringUTF16", name := "getChar", desc := "([BI)C" } : Jvm.MethodName) prog_19_method_5_code (2 : Nat) (Option.some Jvm.ClassFile.FieldType.char)) ∈ dk_T := dk_in (i := 731) (by decide +kernel) rfl
theorem in_738 : (Cond.methodLink "DominoKin$RuleBook" (93 : Nat) ({ cls := "DominoKin$RuleBook", name := "spells", desc := "([BIII)Z" } : Jvm.MethodName)) ∈ dk_T := dk_in (i := 738) (by decide +kernel) rfl
theorem in_739 : (Cond.static ({ cls := "DominoKin$RuleBook", name := "spells", desc := "([BIII)Z" } : Jvm.MethodName)) ∈ dk_T := dk_in (i := 739) (by decide +kernel) rfl
theorem in_740 : (Cond.code ({ cls := "DominoKin$RuleBook", name := "spells", desc := "([BIII)Z" } : Jvm.MethodName) prog_10_method_11_code (5 : Nat) (Option.some Jvm.ClassFile.FieldType.boolean)) ∈ dk_T := dk_in (i := 740) (by decide +kernel) rfl
theorem in_741 : (Cond.methodLink "DominoKin$RuleBook" (78 : Nat) ({ cls := "DominoKin$RuleBook", name := "numberOf", desc := "([BII)I" } : Jvm.MethodName)) ∈ dk_T := dk_in (i := 741) (by decide +kernel) rfl
theorem in_742 : (Cond.static ({ cls := "DominoKin$RuleBook", name := "numberOf", desc := "([BII)I" } : Jvm.MethodName)) ∈ dk_T := dk_in (i := 742) (by decide +kernel) rfl
theorem in_743 : (Cond.code ({ cls := "DominoKin$RuleBook", name := "numberOf", desc := "([BII)I" } : Jvm.MethodName) prog_10_method_12_code (5 : Nat) (Option.some Jvm.ClassFile.FieldType.int)) ∈ dk_T := dk_in (i := 743) (by decide +kernel) rfl
theorem in_744 : (Cond.methodLink "DominoKin$RuleBook" (57 : Nat) ({ cls := "DominoKin$RuleBook", name := "readRule", desc := "()Z" } : Jvm.MethodName)) ∈ dk_T := dk_in (i := 744) (by decide +kernel) rfl
theorem in_746 : (Cond.instanceMethod ({ cls := "DominoKin$RuleBook", name := "readRule", desc := "()Z" } : Jvm.MethodName)) ∈ dk_T := dk_in (i := 746) (by decide +kernel) rfl
theorem in_747 : (Cond.code ({ cls := "DominoKin$RuleBook", name := "readRule", desc := "()Z" } : Jvm.MethodName) prog_10_method_15_code (3 : Nat) (Option.some Jvm.ClassFile.FieldType.boolean)) ∈ dk_T := dk_in (i := 747) (by decide +kernel) rfl
theorem in_748 : (Cond.methodLink "DominoKin$RuleBook" (97 : Nat) ({ cls := "DominoKin$RuleBook", name := "readCondition", desc := "(I)Z" } : Jvm.MethodName)) ∈ dk_T := dk_in (i := 748) (by decide +kernel) rfl
theorem in_750 : (Cond.instanceMethod ({ cls := "DominoKin$RuleBook", name := "readCondition", desc := "(I)Z" } : Jvm.MethodName)) ∈ dk_T := dk_in (i := 750) (by decide +kernel) rfl
theorem in_751 : (Cond.code ({ cls := "DominoKin$RuleBook", name := "readCondition", desc := "(I)Z" } : Jvm.MethodName) prog_10_method_17_code (3 : Nat) (Option.some Jvm.ClassFile.FieldType.boolean)) ∈ dk_T := dk_in (i := 751) (by decide +kernel) rfl
theorem in_752 : (Cond.methodLink "DominoKin$RuleBook" (103 : Nat) ({ cls := "DominoKin$RuleBook", name := "readAllOf", desc := "(I)Z" } : Jvm.MethodName)) ∈ dk_T := dk_in (i := 752) (by decide +kernel) rfl
theorem in_754 : (Cond.instanceMethod ({ cls := "DominoKin$RuleBook", name := "readAllOf", desc := "(I)Z" } : Jvm.MethodName)) ∈ dk_T := dk_in (i := 754) (by decide +kernel) rfl
theorem in_755 : (Cond.code ({ cls := "DominoKin$RuleBook", name := "readAllOf", desc := "(I)Z" } : Jvm.MethodName) prog_10_method_18_code (3 : Nat) (Option.some Jvm.ClassFile.FieldType.boolean)) ∈ dk_T := dk_in (i := 755) (by decide +kernel) rfl
theorem in_756 : (Cond.methodLink "DominoKin$RuleBook" (110 : Nat) ({ cls := "DominoKin$RuleBook", name := "readOne", desc := "(I)Z" } : Jvm.MethodName)) ∈ dk_T := dk_in (i := 756) (by decide +kernel) rfl
theorem in_758 : (Cond.instanceMethod ({ cls := "DominoKin$RuleBook", name := "readOne", desc := "(I)Z" } : Jvm.MethodName)) ∈ dk_T := dk_in (i := 758) (by decide +kernel) rfl
theorem in_759 : (Cond.code ({ cls := "DominoKin$RuleBook", name := "readOne", desc := "(I)Z" } : Jvm.MethodName) prog_10_method_19_code (4 : Nat) (Option.some Jvm.ClassFile.FieldType.boolean)) ∈ dk_T := dk_in (i := 759) (by decide +kernel) rfl
theorem in_760 : (Cond.methodLink "DominoKin$RuleBook" (100 : Nat) ({ cls := "DominoKin$RuleBook", name := "passes", desc := "(I)Z" } : Jvm.MethodName)) ∈ dk_T := dk_in (i := 760) (by decide +kernel) rfl
theorem in_762 : (Cond.instanceMethod ({ cls := "DominoKin$RuleBook", name := "passes", desc := "(I)Z" } : Jvm.MethodName)) ∈ dk_T := dk_in (i := 762) (by decide +kernel) rfl
theorem in_763 : (Cond.code ({ cls := "DominoKin$RuleBook", name := "passes", desc := "(I)Z" } : Jvm.MethodName) prog_10_method_16_code (2 : Nat) (Option.some Jvm.ClassFile.FieldType.boolean)) ∈ dk_T := dk_in (i := 763) (by decide +kernel) rfl
theorem in_764 : (Cond.methodLink "DominoKin$RuleBook" (113 : Nat) ({ cls := "DominoKin$RuleBook", name := "readComparison", desc := "()Z" } : Jvm.MethodName)) ∈ dk_T := dk_in (i := 764) (by decide +kernel) rfl
theorem in_766 : (Cond.instanceMethod ({ cls := "DominoKin$RuleBook", name := "readComparison", desc := "()Z" } : Jvm.MethodName)) ∈ dk_T := dk_in (i := 766) (by decide +kernel) rfl
theorem in_767 : (Cond.code ({ cls := "DominoKin$RuleBook", name := "readComparison", desc := "()Z" } : Jvm.MethodName) prog_10_method_20_code (4 : Nat) (Option.some Jvm.ClassFile.FieldType.boolean)) ∈ dk_T := dk_in (i := 767) (by decide +kernel) rfl
theorem in_768 : (Cond.methodLink "DominoKin$RuleBook" (116 : Nat) ({ cls := "DominoKin$RuleBook", name := "valueCode", desc := "(I)I" } : Jvm.MethodName)) ∈ dk_T := dk_in (i := 768) (by decide +kernel) rfl
theorem in_769 : (Cond.static ({ cls := "DominoKin$RuleBook", name := "valueCode", desc := "(I)I" } : Jvm.MethodName)) ∈ dk_T := dk_in (i := 769) (by decide +kernel) rfl
theorem in_770 : (Cond.code ({ cls := "DominoKin$RuleBook", name := "valueCode", desc := "(I)I" } : Jvm.MethodName) prog_10_method_21_code (2 : Nat) (Option.some Jvm.ClassFile.FieldType.int)) ∈ dk_T := dk_in (i := 770) (by decide +kernel) rfl
theorem in_771 : (Cond.methodLink "DominoKin$RuleBook" (106 : Nat) ({ cls := "DominoKin$RuleBook", name := "emit", desc := "(I)V" } : Jvm.MethodName)) ∈ dk_T := dk_in (i := 771) (by decide +kernel) rfl
theorem in_773 : (Cond.instanceMethod ({ cls := "DominoKin$RuleBook", name := "emit", desc := "(I)V" } : Jvm.MethodName)) ∈ dk_T := dk_in (i := 773) (by decide +kernel) rfl
theorem in_774 : (Cond.code ({ cls := "DominoKin$RuleBook", name := "emit", desc := "(I)V" } : Jvm.MethodName) prog_10_method_22_code (2 : Nat) (Option.none : Option Jvm.ClassFile.FieldType)) ∈ dk_T := dk_in (i := 774) (by decide +kernel) rfl
theorem in_775 : (Cond.methodLink "DominoKinLaw" (69 : Nat) ({ cls := "DominoKin", name := "year", desc := "()I" } : Jvm.MethodName)) ∈ dk_T := dk_in (i := 775) (by decide +kernel) rfl
theorem in_776 : (Cond.instanceMethod ({ cls := "DominoKin", name := "year", desc := "()I" } : Jvm.MethodName)) ∈ dk_T := dk_in (i := 776) (by decide +kernel) rfl
theorem in_777 : (Cond.selects "DominoKin" ({ cls := "DominoKin", name := "year", desc := "()I" } : Jvm.MethodName) ({ cls := "DominoKin", name := "year", desc := "()I" } : Jvm.MethodName)) ∈ dk_T := dk_in (i := 777) (by decide +kernel) rfl
theorem in_778 : (Cond.code ({ cls := "DominoKin", name := "year", desc := "()I" } : Jvm.MethodName) prog_1_method_14_code (1 : Nat) (Option.some Jvm.ClassFile.FieldType.int)) ∈ dk_T := dk_in (i := 778) (by decide +kernel) rfl
theorem in_779 : (Cond.methodLink "DominoKin" (216 : Nat) ({ cls := "DominoKin$Street", name := "leastWilling", desc := "(LDominoKin$Moment;)I" } : Jvm.MethodName)) ∈ dk_T := dk_in (i := 779) (by decide +kernel) rfl
theorem in_780 : (Cond.instanceMethod ({ cls := "DominoKin$Street", name := "leastWilling", desc := "(LDominoKin$Moment;)I" } : Jvm.MethodName)) ∈ dk_T := dk_in (i := 780) (by decide +kernel) rfl
theorem in_781 : (Cond.selects "DominoKin$Street" ({ cls := "DominoKin$Street", name := "leastWilling", desc := "(LDominoKin$Moment;)I" } : Jvm.MethodName) ({ cls := "DominoKin$Street", name := "leastWilling", desc := "(LDominoKin$Moment;)I" } : Jvm.MethodName)) ∈ dk_T := dk_in (i := 781) (by decide +kernel) rfl
theorem in_782 : (Cond.code ({ cls := "DominoKin$Street", name := "leastWilling", desc := "(LDominoKin$Moment;)I" } : Jvm.MethodName) prog_12_method_19_code (3 : Nat) (Option.some Jvm.ClassFile.FieldType.int)) ∈ dk_T := dk_in (i := 782) (by decide +kernel) rfl
theorem in_783 : (Cond.methodLink "DominoKin$Street" (153 : Nat) ({ cls := "DominoKin$Street", name := "mayFall", desc := "(LDominoKin$Moment;I)Z" } : Jvm.MethodName)) ∈ dk_T := dk_in (i := 783) (by decide +kernel) rfl
theorem in_784 : (Cond.methodLink "DominoKin" (219 : Nat) ({ cls := "DominoKin", name := "goOn", desc := "(I)I" } : Jvm.MethodName)) ∈ dk_T := dk_in (i := 784) (by decide +kernel) rfl
theorem in_786 : (Cond.instanceMethod ({ cls := "DominoKin", name := "goOn", desc := "(I)I" } : Jvm.MethodName)) ∈ dk_T := dk_in (i := 786) (by decide +kernel) rfl
theorem in_787 : (Cond.code ({ cls := "DominoKin", name := "goOn", desc := "(I)I" } : Jvm.MethodName) prog_1_method_59_code (3 : Nat) (Option.some Jvm.ClassFile.FieldType.int)) ∈ dk_T := dk_in (i := 787) (by decide +kernel) rfl
theorem in_788 : (Cond.methodLink "DominoKin" (241 : Nat) ({ cls := "DominoKin$Street", name := "passYear", desc := "(LDominoKin$Moment;I)I" } : Jvm.MethodName)) ∈ dk_T := dk_in (i := 788) (by decide +kernel) rfl
theorem in_789 : (Cond.instanceMethod ({ cls := "DominoKin$Street", name := "passYear", desc := "(LDominoKin$Moment;I)I" } : Jvm.MethodName)) ∈ dk_T := dk_in (i := 789) (by decide +kernel) rfl
theorem in_790 : (Cond.selects "DominoKin$Street" ({ cls := "DominoKin$Street", name := "passYear", desc := "(LDominoKin$Moment;I)I" } : Jvm.MethodName) ({ cls := "DominoKin$Street", name := "passYear", desc := "(LDominoKin$Moment;I)I" } : Jvm.MethodName)) ∈ dk_T := dk_in (i := 790) (by decide +kernel) rfl
theorem in_791 : (Cond.code ({ cls := "DominoKin$Street", name := "passYear", desc := "(LDominoKin$Moment;I)I" } : Jvm.MethodName) prog_12_method_23_code (7 : Nat) (Option.some Jvm.ClassFile.FieldType.int)) ∈ dk_T := dk_in (i := 791) (by decide +kernel) rfl
theorem in_792 : (Cond.methodLink "DominoKin$Street" (161 : Nat) ({ cls := "DominoKin$Street", name := "isPiece", desc := "(I)Z" } : Jvm.MethodName)) ∈ dk_T := dk_in (i := 792) (by decide +kernel) rfl
theorem in_793 : (Cond.methodLink "DominoKin$Street" (164 : Nat) ({ cls := "DominoKin$Street", name := "tell", desc := "(LDominoKin$Moment;I)I" } : Jvm.MethodName)) ∈ dk_T := dk_in (i := 793) (by decide +kernel) rfl
theorem in_795 : (Cond.instanceMethod ({ cls := "DominoKin$Street", name := "tell", desc := "(LDominoKin$Moment;I)I" } : Jvm.MethodName)) ∈ dk_T := dk_in (i := 795) (by decide +kernel) rfl
theorem in_796 : (Cond.code ({ cls := "DominoKin$Street", name := "tell", desc := "(LDominoKin$Moment;I)I" } : Jvm.MethodName) prog_12_method_24_code (5 : Nat) (Option.some Jvm.ClassFile.FieldType.int)) ∈ dk_T := dk_in (i := 796) (by decide +kernel) rfl
theorem in_797 : (Cond.methodLink "DominoKin$Street" (171 : Nat) ({ cls := "DominoKin$Street", name := "fall", desc := "(LDominoKin$Moment;I)V" } : Jvm.MethodName)) ∈ dk_T := dk_in (i := 797) (by decide +kernel) rfl
theorem in_798 : (Cond.instanceMethod ({ cls := "DominoKin$Street", name := "fall", desc := "(LDominoKin$Moment;I)V" } : Jvm.MethodName)) ∈ dk_T := dk_in (i := 798) (by decide +kernel) rfl
theorem in_799 : (Cond.selects "DominoKin$Street" ({ cls := "DominoKin$Street", name := "fall", desc := "(LDominoKin$Moment;I)V" } : Jvm.MethodName) ({ cls := "DominoKin$Street", name := "fall", desc := "(LDominoKin$Moment;I)V" } : Jvm.MethodName)) ∈ dk_T := dk_in (i := 799) (by decide +kernel) rfl
theorem in_800 : (Cond.code ({ cls := "DominoKin$Street", name := "fall", desc := "(LDominoKin$Moment;I)V" } : Jvm.MethodName) prog_12_method_22_code (5 : Nat) (Option.none : Option Jvm.ClassFile.FieldType)) ∈ dk_T := dk_in (i := 800) (by decide +kernel) rfl
theorem in_801 : (Cond.methodLink "DominoKin$Street" (157 : Nat) ({ cls := "DominoKin$Moment", name := "leanMore", desc := "(II)V" } : Jvm.MethodName)) ∈ dk_T := dk_in (i := 801) (by decide +kernel) rfl
theorem in_802 : (Cond.instanceMethod ({ cls := "DominoKin$Moment", name := "leanMore", desc := "(II)V" } : Jvm.MethodName)) ∈ dk_T := dk_in (i := 802) (by decide +kernel) rfl
theorem in_803 : (Cond.selects "DominoKin$Moment" ({ cls := "DominoKin$Moment", name := "leanMore", desc := "(II)V" } : Jvm.MethodName) ({ cls := "DominoKin$Moment", name := "leanMore", desc := "(II)V" } : Jvm.MethodName)) ∈ dk_T := dk_in (i := 803) (by decide +kernel) rfl
theorem in_804 : (Cond.code ({ cls := "DominoKin$Moment", name := "leanMore", desc := "(II)V" } : Jvm.MethodName) prog_6_method_5_code (3 : Nat) (Option.none : Option Jvm.ClassFile.FieldType)) ∈ dk_T := dk_in (i := 804) (by decide +kernel) rfl
theorem in_805 : (Cond.methodLink "DominoKin$Moment" (28 : Nat) ({ cls := "java/lang/Math", name := "min", desc := "(II)I" } : Jvm.MethodName)) ∈ dk_T := dk_in (i := 805) (by decide +kernel) rfl
theorem in_806 : (Cond.static ({ cls := "java/lang/Math", name := "min", desc := "(II)I" } : Jvm.MethodName)) ∈ dk_T := dk_in (i := 806) (by decide +kernel) rfl
theorem in_807 : (Cond.code ({ cls := "java/lang/Math", name := "min", desc := "(II)I" } : Jvm.MethodName) prog_16_method_69_code (2 : Nat) (Option.some Jvm.ClassFile.FieldType.int)) ∈ dk_T := dk_in (i := 807) (by decide +kernel) rfl
theorem in_808 : (Cond.methodLink "DominoKin$Street" (175 : Nat) ({ cls := "java/lang/Math", name := "max", desc := "(II)I" } : Jvm.MethodName)) ∈ dk_T := dk_in (i := 808) (by decide +kernel) rfl
theorem in_809 : (Cond.methodLink "DominoKin$Street" (167 : Nat) ({ cls := "DominoKin$Street", name := "toppleBent", desc := "(LDominoKin$Moment;)I" } : Jvm.MethodName)) ∈ dk_T := dk_in (i := 809) (by decide +kernel) rfl
theorem in_811 : (Cond.instanceMethod ({ cls := "DominoKin$Street", name := "toppleBent", desc := "(LDominoKin$Moment;)I" } : Jvm.MethodName)) ∈ dk_T := dk_in (i := 811) (by decide +kernel) rfl
theorem in_812 : (Cond.code ({ cls := "DominoKin$Street", name := "toppleBent", desc := "(LDominoKin$Moment;)I" } : Jvm.MethodName) prog_12_method_25_code (4 : Nat) (Option.some Jvm.ClassFile.FieldType.int)) ∈ dk_T := dk_in (i := 812) (by decide +kernel) rfl
theorem in_813 : (Cond.methodLink "DominoKin$Street" (180 : Nat) ({ cls := "java/lang/Integer", name := "bitCount", desc := "(I)I" } : Jvm.MethodName)) ∈ dk_T := dk_in (i := 813) (by decide +kernel) rfl
theorem in_814 : (Cond.static ({ cls := "java/lang/Integer", name := "bitCount", desc := "(I)I" } : Jvm.MethodName)) ∈ dk_T := dk_in (i := 814) (by decide +kernel) rfl
theorem in_815 : (Cond.code ({ cls := "java/lang/Integer", name := "bitCount", desc := "(I)I" } : Jvm.MethodName) prog_15_method_49_code (1 : Nat) (Option.some Jvm.ClassFile.FieldType.int)) ∈ dk_T := dk_in (i := 815) (by decide +kernel) rfl
theorem in_816 : (Cond.constant "java/lang/Integer" (265 : Nat) (1431655765 : Int32)) ∈ dk_T := dk_in (i := 816) (by decide +kernel) rfl
theorem in_817 : (Cond.constant "java/lang/Integer" (266 : Nat) (858993459 : Int32)) ∈ dk_T := dk_in (i := 817) (by decide +kernel) rfl
theorem in_818 : (Cond.constant "java/lang/Integer" (267 : Nat) (252645135 : Int32)) ∈ dk_T := dk_in (i := 818) (by decide +kernel) rfl
theorem in_819 : (Cond.methodLink "DominoKinLaw" (73 : Nat) ({ cls := "DominoKin", name := "on", desc := "(I)I" } : Jvm.MethodName)) ∈ dk_T := dk_in (i := 819) (by decide +kernel) rfl
theorem in_820 : (Cond.instanceMethod ({ cls := "DominoKin", name := "on", desc := "(I)I" } : Jvm.MethodName)) ∈ dk_T := dk_in (i := 820) (by decide +kernel) rfl
theorem in_821 : (Cond.selects "DominoKin" ({ cls := "DominoKin", name := "on", desc := "(I)I" } : Jvm.MethodName) ({ cls := "DominoKin", name := "on", desc := "(I)I" } : Jvm.MethodName)) ∈ dk_T := dk_in (i := 821) (by decide +kernel) rfl
theorem in_822 : (Cond.code ({ cls := "DominoKin", name := "on", desc := "(I)I" } : Jvm.MethodName) prog_1_method_15_code (2 : Nat) (Option.some Jvm.ClassFile.FieldType.int)) ∈ dk_T := dk_in (i := 822) (by decide +kernel) rfl
theorem in_823 : (Cond.methodLink "DominoKin" (222 : Nat) ({ cls := "DominoKin", name := "restWorth", desc := "(I)I" } : Jvm.MethodName)) ∈ dk_T := dk_in (i := 823) (by decide +kernel) rfl
theorem in_825 : (Cond.instanceMethod ({ cls := "DominoKin", name := "restWorth", desc := "(I)I" } : Jvm.MethodName)) ∈ dk_T := dk_in (i := 825) (by decide +kernel) rfl
theorem in_826 : (Cond.code ({ cls := "DominoKin", name := "restWorth", desc := "(I)I" } : Jvm.MethodName) prog_1_method_60_code (4 : Nat) (Option.some Jvm.ClassFile.FieldType.int)) ∈ dk_T := dk_in (i := 826) (by decide +kernel) rfl
theorem in_827 : (Cond.methodLink "DominoKin" (233 : Nat) ({ cls := "DominoKin$Moment", name := "take", desc := "(LDominoKin$Moment;)V" } : Jvm.MethodName)) ∈ dk_T := dk_in (i := 827) (by decide +kernel) rfl
theorem in_828 : (Cond.instanceMethod ({ cls := "DominoKin$Moment", name := "take", desc := "(LDominoKin$Moment;)V" } : Jvm.MethodName)) ∈ dk_T := dk_in (i := 828) (by decide +kernel) rfl
theorem in_829 : (Cond.selects "DominoKin$Moment" ({ cls := "DominoKin$Moment", name := "take", desc := "(LDominoKin$Moment;)V" } : Jvm.MethodName) ({ cls := "DominoKin$Moment", name := "take", desc := "(LDominoKin$Moment;)V" } : Jvm.MethodName)) ∈ dk_T := dk_in (i := 829) (by decide +kernel) rfl
theorem in_830 : (Cond.code ({ cls := "DominoKin$Moment", name := "take", desc := "(LDominoKin$Moment;)V" } : Jvm.MethodName) prog_6_method_2_code (2 : Nat) (Option.none : Option Jvm.ClassFile.FieldType)) ∈ dk_T := dk_in (i := 830) (by decide +kernel) rfl
theorem in_831 : (Cond.methodLink "DominoKin$Moment" (22 : Nat) ({ cls := "java/lang/System", name := "arraycopy", desc := "(Ljava/lang/Object;ILjava/lang/Object;II)V" } : Jvm.MethodName)) ∈ dk_T := dk_in (i := 831) (by decide +kernel) rfl
theorem in_832 : (Cond.static ({ cls := "java/lang/System", name := "arraycopy", desc := "(Ljava/lang/Object;ILjava/lang/Object;II)V" } : Jvm.MethodName)) ∈ dk_T := dk_in (i := 832) (by decide +kernel) rfl
theorem in_833 : (Cond.native ({ cls := "java/lang/System", name := "arraycopy", desc := "(Ljava/lang/Object;ILjava/lang/Object;II)V" } : Jvm.MethodName)) ∈ dk_T := dk_in (i := 833) (by decide +kernel) rfl
theorem in_834 : (Cond.methodLink "DominoKinLaw" (77 : Nat) ({ cls := "DominoKin", name := "when", desc := "(I)I" } : Jvm.MethodName)) ∈ dk_T := dk_in (i := 834) (by decide +kernel) rfl
theorem in_835 : (Cond.instanceMethod ({ cls := "DominoKin", name := "when", desc := "(I)I" } : Jvm.MethodName)) ∈ dk_T := dk_in (i := 835) (by decide +kernel) rfl
theorem in_836 : (Cond.selects "DominoKin" ({ cls := "DominoKin", name := "when", desc := "(I)I" } : Jvm.MethodName) ({ cls := "DominoKin", name := "when", desc := "(I)I" } : Jvm.MethodName)) ∈ dk_T := dk_in (i := 836) (by decide +kernel) rfl
theorem in_837 : (Cond.code ({ cls := "DominoKin", name := "when", desc := "(I)I" } : Jvm.MethodName) prog_1_method_16_code (2 : Nat) (Option.some Jvm.ClassFile.FieldType.int)) ∈ dk_T := dk_in (i := 837) (by decide +kernel) rfl
theorem in_838 : (Cond.methodLink "DominoKin" (225 : Nat) ({ cls := "DominoKin", name := "firstFallen", desc := "(IZ)I" } : Jvm.MethodName)) ∈ dk_T := dk_in (i := 838) (by decide +kernel) rfl
theorem in_840 : (Cond.instanceMethod ({ cls := "DominoKin", name := "firstFallen", desc := "(IZ)I" } : Jvm.MethodName)) ∈ dk_T := dk_in (i := 840) (by decide +kernel) rfl
theorem in_841 : (Cond.code ({ cls := "DominoKin", name := "firstFallen", desc := "(IZ)I" } : Jvm.MethodName) prog_1_method_61_code (4 : Nat) (Option.some Jvm.ClassFile.FieldType.int)) ∈ dk_T := dk_in (i := 841) (by decide +kernel) rfl
theorem in_842 : (Cond.methodLink "DominoKinLaw" (81 : Nat) ({ cls := "DominoKin", name := "gapFor", desc := "(I)I" } : Jvm.MethodName)) ∈ dk_T := dk_in (i := 842) (by decide +kernel) rfl
theorem in_843 : (Cond.instanceMethod ({ cls := "DominoKin", name := "gapFor", desc := "(I)I" } : Jvm.MethodName)) ∈ dk_T := dk_in (i := 843) (by decide +kernel) rfl
theorem in_844 : (Cond.selects "DominoKin" ({ cls := "DominoKin", name := "gapFor", desc := "(I)I" } : Jvm.MethodName) ({ cls := "DominoKin", name := "gapFor", desc := "(I)I" } : Jvm.MethodName)) ∈ dk_T := dk_in (i := 844) (by decide +kernel) rfl
theorem in_845 : (Cond.code ({ cls := "DominoKin", name := "gapFor", desc := "(I)I" } : Jvm.MethodName) prog_1_method_17_code (2 : Nat) (Option.some Jvm.ClassFile.FieldType.int)) ∈ dk_T := dk_in (i := 845) (by decide +kernel) rfl
theorem in_846 : (Cond.methodLink "DominoKin" (229 : Nat) ({ cls := "DominoKin", name := "bestFor", desc := "(III)I" } : Jvm.MethodName)) ∈ dk_T := dk_in (i := 846) (by decide +kernel) rfl
theorem in_848 : (Cond.instanceMethod ({ cls := "DominoKin", name := "bestFor", desc := "(III)I" } : Jvm.MethodName)) ∈ dk_T := dk_in (i := 848) (by decide +kernel) rfl
theorem in_849 : (Cond.code ({ cls := "DominoKin", name := "bestFor", desc := "(III)I" } : Jvm.MethodName) prog_1_method_62_code (9 : Nat) (Option.some Jvm.ClassFile.FieldType.int)) ∈ dk_T := dk_in (i := 849) (by decide +kernel) rfl
theorem in_850 : (Cond.methodLink "DominoKin" (372 : Nat) ({ cls := "DominoKin", name := "change", desc := "(III)I" } : Jvm.MethodName)) ∈ dk_T := dk_in (i := 850) (by decide +kernel) rfl
theorem in_851 : (Cond.methodLink "DominoKinLaw" (85 : Nat) ({ cls := "DominoKin", name := "roomFor", desc := "(I)I" } : Jvm.MethodName)) ∈ dk_T := dk_in (i := 851) (by decide +kernel) rfl
theorem in_852 : (Cond.instanceMethod ({ cls := "DominoKin", name := "roomFor", desc := "(I)I" } : Jvm.MethodName)) ∈ dk_T := dk_in (i := 852) (by decide +kernel) rfl
theorem in_853 : (Cond.selects "DominoKin" ({ cls := "DominoKin", name := "roomFor", desc := "(I)I" } : Jvm.MethodName) ({ cls := "DominoKin", name := "roomFor", desc := "(I)I" } : Jvm.MethodName)) ∈ dk_T := dk_in (i := 853) (by decide +kernel) rfl
theorem in_854 : (Cond.code ({ cls := "DominoKin", name := "roomFor", desc := "(I)I" } : Jvm.MethodName) prog_1_method_18_code (2 : Nat) (Option.some Jvm.ClassFile.FieldType.int)) ∈ dk_T := dk_in (i := 854) (by decide +kernel) rfl
theorem in_855 : (Cond.methodLink "DominoKinLaw" (89 : Nat) ({ cls := "DominoKin", name := "itself", desc := "(I)I" } : Jvm.MethodName)) ∈ dk_T := dk_in (i := 855) (by decide +kernel) rfl
theorem in_856 : (Cond.instanceMethod ({ cls := "DominoKin", name := "itself", desc := "(I)I" } : Jvm.MethodName)) ∈ dk_T := dk_in (i := 856) (by decide +kernel) rfl
theorem in_857 : (Cond.selects "DominoKin" ({ cls := "DominoKin", name := "itself", desc := "(I)I" } : Jvm.MethodName) ({ cls := "DominoKin", name := "itself", desc := "(I)I" } : Jvm.MethodName)) ∈ dk_T := dk_in (i := 857) (by decide +kernel) rfl
theorem in_858 : (Cond.code ({ cls := "DominoKin", name := "itself", desc := "(I)I" } : Jvm.MethodName) prog_1_method_19_code (2 : Nat) (Option.some Jvm.ClassFile.FieldType.int)) ∈ dk_T := dk_in (i := 858) (by decide +kernel) rfl
theorem in_859 : (Cond.methodLink "DominoKinLaw" (93 : Nat) ({ cls := "DominoKin", name := "least", desc := "(I)I" } : Jvm.MethodName)) ∈ dk_T := dk_in (i := 859) (by decide +kernel) rfl
theorem in_860 : (Cond.instanceMethod ({ cls := "DominoKin", name := "least", desc := "(I)I" } : Jvm.MethodName)) ∈ dk_T := dk_in (i := 860) (by decide +kernel) rfl
theorem in_861 : (Cond.selects "DominoKin" ({ cls := "DominoKin", name := "least", desc := "(I)I" } : Jvm.MethodName) ({ cls := "DominoKin", name := "least", desc := "(I)I" } : Jvm.MethodName)) ∈ dk_T := dk_in (i := 861) (by decide +kernel) rfl
theorem in_862 : (Cond.code ({ cls := "DominoKin", name := "least", desc := "(I)I" } : Jvm.MethodName) prog_1_method_20_code (3 : Nat) (Option.some Jvm.ClassFile.FieldType.int)) ∈ dk_T := dk_in (i := 862) (by decide +kernel) rfl
theorem in_863 : (Cond.methodLink "DominoKinLaw" (97 : Nat) ({ cls := "DominoKin", name := "wave", desc := "(II)I" } : Jvm.MethodName)) ∈ dk_T := dk_in (i := 863) (by decide +kernel) rfl
theorem in_864 : (Cond.instanceMethod ({ cls := "DominoKin", name := "wave", desc := "(II)I" } : Jvm.MethodName)) ∈ dk_T := dk_in (i := 864) (by decide +kernel) rfl
theorem in_865 : (Cond.selects "DominoKin" ({ cls := "DominoKin", name := "wave", desc := "(II)I" } : Jvm.MethodName) ({ cls := "DominoKin", name := "wave", desc := "(II)I" } : Jvm.MethodName)) ∈ dk_T := dk_in (i := 865) (by decide +kernel) rfl
theorem in_866 : (Cond.code ({ cls := "DominoKin", name := "wave", desc := "(II)I" } : Jvm.MethodName) prog_1_method_21_code (4 : Nat) (Option.some Jvm.ClassFile.FieldType.int)) ∈ dk_T := dk_in (i := 866) (by decide +kernel) rfl
theorem in_867 : (Cond.methodLink "DominoKin" (237 : Nat) ({ cls := "DominoKin$Street", name := "fall", desc := "(LDominoKin$Moment;I)V" } : Jvm.MethodName)) ∈ dk_T := dk_in (i := 867) (by decide +kernel) rfl
theorem in_868 : (Cond.methodLink "DominoKinLaw" (101 : Nat) ({ cls := "DominoKin", name := "chains", desc := "(I)I" } : Jvm.MethodName)) ∈ dk_T := dk_in (i := 868) (by decide +kernel) rfl
theorem in_869 : (Cond.instanceMethod ({ cls := "DominoKin", name := "chains", desc := "(I)I" } : Jvm.MethodName)) ∈ dk_T := dk_in (i := 869) (by decide +kernel) rfl
theorem in_870 : (Cond.selects "DominoKin" ({ cls := "DominoKin", name := "chains", desc := "(I)I" } : Jvm.MethodName) ({ cls := "DominoKin", name := "chains", desc := "(I)I" } : Jvm.MethodName)) ∈ dk_T := dk_in (i := 870) (by decide +kernel) rfl
theorem in_871 : (Cond.code ({ cls := "DominoKin", name := "chains", desc := "(I)I" } : Jvm.MethodName) prog_1_method_22_code (2 : Nat) (Option.some Jvm.ClassFile.FieldType.int)) ∈ dk_T := dk_in (i := 871) (by decide +kernel) rfl
theorem in_872 : (Cond.methodLink "DominoKin" (244 : Nat) ({ cls := "DominoKin", name := "countChains", desc := "()I" } : Jvm.MethodName)) ∈ dk_T := dk_in (i := 872) (by decide +kernel) rfl
theorem in_874 : (Cond.instanceMethod ({ cls := "DominoKin", name := "countChains", desc := "()I" } : Jvm.MethodName)) ∈ dk_T := dk_in (i := 874) (by decide +kernel) rfl
theorem in_875 : (Cond.code ({ cls := "DominoKin", name := "countChains", desc := "()I" } : Jvm.MethodName) prog_1_method_63_code (4 : Nat) (Option.some Jvm.ClassFile.FieldType.int)) ∈ dk_T := dk_in (i := 875) (by decide +kernel) rfl
theorem in_876 : (Cond.methodLink "DominoKin" (248 : Nat) ({ cls := "DominoKin$Street", name := "chainOf", desc := "(I)I" } : Jvm.MethodName)) ∈ dk_T := dk_in (i := 876) (by decide +kernel) rfl
theorem in_877 : (Cond.instanceMethod ({ cls := "DominoKin$Street", name := "chainOf", desc := "(I)I" } : Jvm.MethodName)) ∈ dk_T := dk_in (i := 877) (by decide +kernel) rfl
theorem in_878 : (Cond.selects "DominoKin$Street" ({ cls := "DominoKin$Street", name := "chainOf", desc := "(I)I" } : Jvm.MethodName) ({ cls := "DominoKin$Street", name := "chainOf", desc := "(I)I" } : Jvm.MethodName)) ∈ dk_T := dk_in (i := 878) (by decide +kernel) rfl
theorem in_879 : (Cond.code ({ cls := "DominoKin$Street", name := "chainOf", desc := "(I)I" } : Jvm.MethodName) prog_12_method_26_code (5 : Nat) (Option.some Jvm.ClassFile.FieldType.int)) ∈ dk_T := dk_in (i := 879) (by decide +kernel) rfl
theorem in_880 : (Cond.methodLink "DominoKin$Street" (185 : Nat) ({ cls := "DominoKin$Street", name := "isCloseToOne", desc := "(II)Z" } : Jvm.MethodName)) ∈ dk_T := dk_in (i := 880) (by decide +kernel) rfl
theorem in_882 : (Cond.instanceMethod ({ cls := "DominoKin$Street", name := "isCloseToOne", desc := "(II)Z" } : Jvm.MethodName)) ∈ dk_T := dk_in (i := 882) (by decide +kernel) rfl
theorem in_883 : (Cond.code ({ cls := "DominoKin$Street", name := "isCloseToOne", desc := "(II)Z" } : Jvm.MethodName) prog_12_method_27_code (4 : Nat) (Option.some Jvm.ClassFile.FieldType.boolean)) ∈ dk_T := dk_in (i := 883) (by decide +kernel) rfl
theorem in_884 : (Cond.methodLink "DominoKin$Street" (188 : Nat) ({ cls := "java/lang/Math", name := "abs", desc := "(I)I" } : Jvm.MethodName)) ∈ dk_T := dk_in (i := 884) (by decide +kernel) rfl
theorem in_885 : (Cond.static ({ cls := "java/lang/Math", name := "abs", desc := "(I)I" } : Jvm.MethodName)) ∈ dk_T := dk_in (i := 885) (by decide +kernel) rfl
theorem in_886 : (Cond.code ({ cls := "java/lang/Math", name := "abs", desc := "(I)I" } : Jvm.MethodName) prog_16_method_59_code (1 : Nat) (Option.some Jvm.ClassFile.FieldType.int)) ∈ dk_T := dk_in (i := 886) (by decide +kernel) rfl
theorem in_887 : (Cond.methodLink "DominoKin" (275 : Nat) ({ cls := "DominoKin", name := "leastOf", desc := "(I)I" } : Jvm.MethodName)) ∈ dk_T := dk_in (i := 887) (by decide +kernel) rfl
theorem in_888 : (Cond.static ({ cls := "DominoKin", name := "leastOf", desc := "(I)I" } : Jvm.MethodName)) ∈ dk_T := dk_in (i := 888) (by decide +kernel) rfl
theorem in_889 : (Cond.code ({ cls := "DominoKin", name := "leastOf", desc := "(I)I" } : Jvm.MethodName) prog_1_method_56_code (2 : Nat) (Option.some Jvm.ClassFile.FieldType.int)) ∈ dk_T := dk_in (i := 889) (by decide +kernel) rfl
theorem in_890 : (Cond.methodLink "DominoKinLaw" (105 : Nat) ({ cls := "DominoKin", name := "best", desc := "(I)I" } : Jvm.MethodName)) ∈ dk_T := dk_in (i := 890) (by decide +kernel) rfl
theorem in_891 : (Cond.instanceMethod ({ cls := "DominoKin", name := "best", desc := "(I)I" } : Jvm.MethodName)) ∈ dk_T := dk_in (i := 891) (by decide +kernel) rfl
theorem in_892 : (Cond.selects "DominoKin" ({ cls := "DominoKin", name := "best", desc := "(I)I" } : Jvm.MethodName) ({ cls := "DominoKin", name := "best", desc := "(I)I" } : Jvm.MethodName)) ∈ dk_T := dk_in (i := 892) (by decide +kernel) rfl
theorem in_893 : (Cond.code ({ cls := "DominoKin", name := "best", desc := "(I)I" } : Jvm.MethodName) prog_1_method_23_code (2 : Nat) (Option.some Jvm.ClassFile.FieldType.int)) ∈ dk_T := dk_in (i := 893) (by decide +kernel) rfl
theorem in_894 : (Cond.methodLink "DominoKin" (251 : Nat) ({ cls := "DominoKin$Planner", name := "start", desc := "()V" } : Jvm.MethodName)) ∈ dk_T := dk_in (i := 894) (by decide +kernel) rfl
theorem in_895 : (Cond.instanceMethod ({ cls := "DominoKin$Planner", name := "start", desc := "()V" } : Jvm.MethodName)) ∈ dk_T := dk_in (i := 895) (by decide +kernel) rfl
theorem in_896 : (Cond.selects "DominoKin$Planner" ({ cls := "DominoKin$Planner", name := "start", desc := "()V" } : Jvm.MethodName) ({ cls := "DominoKin$Planner", name := "start", desc := "()V" } : Jvm.MethodName)) ∈ dk_T := dk_in (i := 896) (by decide +kernel) rfl
theorem in_897 : (Cond.code ({ cls := "DominoKin$Planner", name := "start", desc := "()V" } : Jvm.MethodName) prog_8_method_2_code (1 : Nat) (Option.none : Option Jvm.ClassFile.FieldType)) ∈ dk_T := dk_in (i := 897) (by decide +kernel) rfl
theorem in_898 : (Cond.methodLink "DominoKin$Planner" (37 : Nat) ({ cls := "DominoKin$Moment", name := "take", desc := "(LDominoKin$Moment;)V" } : Jvm.MethodName)) ∈ dk_T := dk_in (i := 898) (by decide +kernel) rfl
theorem in_899 : (Cond.methodLink "DominoKin" (254 : Nat) ({ cls := "DominoKin$Planner", name := "bestFrom", desc := "(II)I" } : Jvm.MethodName)) ∈ dk_T := dk_in (i := 899) (by decide +kernel) rfl
theorem in_900 : (Cond.instanceMethod ({ cls := "DominoKin$Planner", name := "bestFrom", desc := "(II)I" } : Jvm.MethodName)) ∈ dk_T := dk_in (i := 900) (by decide +kernel) rfl
theorem in_901 : (Cond.selects "DominoKin$Planner" ({ cls := "DominoKin$Planner", name := "bestFrom", desc := "(II)I" } : Jvm.MethodName) ({ cls := "DominoKin$Planner", name := "bestFrom", desc := "(II)I" } : Jvm.MethodName)) ∈ dk_T := dk_in (i := 901) (by decide +kernel) rfl
theorem in_902 : (Cond.code ({ cls := "DominoKin$Planner", name := "bestFrom", desc := "(II)I" } : Jvm.MethodName) prog_8_method_5_code (10 : Nat) (Option.some Jvm.ClassFile.FieldType.int)) ∈ dk_T := dk_in (i := 902) (by decide +kernel) rfl
theorem in_903 : (Cond.methodLink "DominoKin$Planner" (49 : Nat) ({ cls := "DominoKin$Planner", name := "isLast", desc := "(II)Z" } : Jvm.MethodName)) ∈ dk_T := dk_in (i := 903) (by decide +kernel) rfl
theorem in_905 : (Cond.instanceMethod ({ cls := "DominoKin$Planner", name := "isLast", desc := "(II)Z" } : Jvm.MethodName)) ∈ dk_T := dk_in (i := 905) (by decide +kernel) rfl
theorem in_906 : (Cond.code ({ cls := "DominoKin$Planner", name := "isLast", desc := "(II)Z" } : Jvm.MethodName) prog_8_method_3_code (3 : Nat) (Option.some Jvm.ClassFile.FieldType.boolean)) ∈ dk_T := dk_in (i := 906) (by decide +kernel) rfl
theorem in_907 : (Cond.methodLink "DominoKin$Planner" (41 : Nat) ({ cls := "DominoKin$Street", name := "isOver", desc := "(LDominoKin$Moment;)Z" } : Jvm.MethodName)) ∈ dk_T := dk_in (i := 907) (by decide +kernel) rfl
theorem in_908 : (Cond.methodLink "DominoKin$Planner" (53 : Nat) ({ cls := "DominoKin$Planner", name := "goDeeper", desc := "(II)I" } : Jvm.MethodName)) ∈ dk_T := dk_in (i := 908) (by decide +kernel) rfl
theorem in_910 : (Cond.instanceMethod ({ cls := "DominoKin$Planner", name := "goDeeper", desc := "(II)I" } : Jvm.MethodName)) ∈ dk_T := dk_in (i := 910) (by decide +kernel) rfl
theorem in_911 : (Cond.code ({ cls := "DominoKin$Planner", name := "goDeeper", desc := "(II)I" } : Jvm.MethodName) prog_8_method_4_code (4 : Nat) (Option.some Jvm.ClassFile.FieldType.int)) ∈ dk_T := dk_in (i := 911) (by decide +kernel) rfl
theorem in_912 : (Cond.methodLink "DominoKin$Planner" (45 : Nat) ({ cls := "DominoKin$Street", name := "passYear", desc := "(LDominoKin$Moment;I)I" } : Jvm.MethodName)) ∈ dk_T := dk_in (i := 912) (by decide +kernel) rfl
theorem in_913 : (Cond.methodLink "DominoKin$Planner" (57 : Nat) ({ cls := "DominoKin$Planner", name := "bestFrom", desc := "(II)I" } : Jvm.MethodName)) ∈ dk_T := dk_in (i := 913) (by decide +kernel) rfl
theorem in_914 : (Cond.methodLink "DominoKin$Planner" (60 : Nat) ({ cls := "DominoKin$Planner", name := "noteFirst", desc := "(II)V" } : Jvm.MethodName)) ∈ dk_T := dk_in (i := 914) (by decide +kernel) rfl
theorem in_916 : (Cond.instanceMethod ({ cls := "DominoKin$Planner", name := "noteFirst", desc := "(II)V" } : Jvm.MethodName)) ∈ dk_T := dk_in (i := 916) (by decide +kernel) rfl
theorem in_917 : (Cond.code ({ cls := "DominoKin$Planner", name := "noteFirst", desc := "(II)V" } : Jvm.MethodName) prog_8_method_6_code (4 : Nat) (Option.none : Option Jvm.ClassFile.FieldType)) ∈ dk_T := dk_in (i := 917) (by decide +kernel) rfl
theorem in_918 : (Cond.methodLink "DominoKin$Planner" (68 : Nat) ({ cls := "DominoKin$Street", name := "isIdle", desc := "(LDominoKin$Moment;I)Z" } : Jvm.MethodName)) ∈ dk_T := dk_in (i := 918) (by decide +kernel) rfl
theorem in_919 : (Cond.instanceMethod ({ cls := "DominoKin$Street", name := "isIdle", desc := "(LDominoKin$Moment;I)Z" } : Jvm.MethodName)) ∈ dk_T := dk_in (i := 919) (by decide +kernel) rfl
theorem in_920 : (Cond.selects "DominoKin$Street" ({ cls := "DominoKin$Street", name := "isIdle", desc := "(LDominoKin$Moment;I)Z" } : Jvm.MethodName) ({ cls := "DominoKin$Street", name := "isIdle", desc := "(LDominoKin$Moment;I)Z" } : Jvm.MethodName)) ∈ dk_T := dk_in (i := 920) (by decide +kernel) rfl
theorem in_921 : (Cond.code ({ cls := "DominoKin$Street", name := "isIdle", desc := "(LDominoKin$Moment;I)Z" } : Jvm.MethodName) prog_12_method_21_code (4 : Nat) (Option.some Jvm.ClassFile.FieldType.boolean)) ∈ dk_T := dk_in (i := 921) (by decide +kernel) rfl
theorem in_922 : (Cond.methodLink "DominoKinLaw" (109 : Nat) ({ cls := "DominoKin", name := "ith", desc := "(II)I" } : Jvm.MethodName)) ∈ dk_T := dk_in (i := 922) (by decide +kernel) rfl
theorem in_923 : (Cond.instanceMethod ({ cls := "DominoKin", name := "ith", desc := "(II)I" } : Jvm.MethodName)) ∈ dk_T := dk_in (i := 923) (by decide +kernel) rfl
theorem in_924 : (Cond.selects "DominoKin" ({ cls := "DominoKin", name := "ith", desc := "(II)I" } : Jvm.MethodName) ({ cls := "DominoKin", name := "ith", desc := "(II)I" } : Jvm.MethodName)) ∈ dk_T := dk_in (i := 924) (by decide +kernel) rfl
theorem in_925 : (Cond.code ({ cls := "DominoKin", name := "ith", desc := "(II)I" } : Jvm.MethodName) prog_1_method_24_code (3 : Nat) (Option.some Jvm.ClassFile.FieldType.int)) ∈ dk_T := dk_in (i := 925) (by decide +kernel) rfl
theorem in_926 : (Cond.methodLink "DominoKin" (257 : Nat) ({ cls := "DominoKin", name := "planLength", desc := "(I)I" } : Jvm.MethodName)) ∈ dk_T := dk_in (i := 926) (by decide +kernel) rfl
theorem in_928 : (Cond.instanceMethod ({ cls := "DominoKin", name := "planLength", desc := "(I)I" } : Jvm.MethodName)) ∈ dk_T := dk_in (i := 928) (by decide +kernel) rfl
theorem in_929 : (Cond.code ({ cls := "DominoKin", name := "planLength", desc := "(I)I" } : Jvm.MethodName) prog_1_method_64_code (2 : Nat) (Option.some Jvm.ClassFile.FieldType.int)) ∈ dk_T := dk_in (i := 929) (by decide +kernel) rfl
theorem in_930 : (Cond.methodLink "DominoKin" (375 : Nat) ({ cls := "java/lang/Math", name := "min", desc := "(II)I" } : Jvm.MethodName)) ∈ dk_T := dk_in (i := 930) (by decide +kernel) rfl
theorem in_931 : (Cond.methodLink "DominoKin" (380 : Nat) ({ cls := "java/lang/Math", name := "max", desc := "(II)I" } : Jvm.MethodName)) ∈ dk_T := dk_in (i := 931) (by decide +kernel) rfl
theorem in_932 : (Cond.methodLink "DominoKinLaw" (113 : Nat) ({ cls := "DominoKin", name := "ways", desc := "(I)I" } : Jvm.MethodName)) ∈ dk_T := dk_in (i := 932) (by decide +kernel) rfl
theorem in_933 : (Cond.instanceMethod ({ cls := "DominoKin", name := "ways", desc := "(I)I" } : Jvm.MethodName)) ∈ dk_T := dk_in (i := 933) (by decide +kernel) rfl
theorem in_934 : (Cond.selects "DominoKin" ({ cls := "DominoKin", name := "ways", desc := "(I)I" } : Jvm.MethodName) ({ cls := "DominoKin", name := "ways", desc := "(I)I" } : Jvm.MethodName)) ∈ dk_T := dk_in (i := 934) (by decide +kernel) rfl
theorem in_935 : (Cond.code ({ cls := "DominoKin", name := "ways", desc := "(I)I" } : Jvm.MethodName) prog_1_method_25_code (2 : Nat) (Option.some Jvm.ClassFile.FieldType.int)) ∈ dk_T := dk_in (i := 935) (by decide +kernel) rfl
theorem in_936 : (Cond.methodLink "DominoKinLaw" (117 : Nat) ({ cls := "DominoKin", name := "line", desc := "(II)I" } : Jvm.MethodName)) ∈ dk_T := dk_in (i := 936) (by decide +kernel) rfl
theorem in_937 : (Cond.instanceMethod ({ cls := "DominoKin", name := "line", desc := "(II)I" } : Jvm.MethodName)) ∈ dk_T := dk_in (i := 937) (by decide +kernel) rfl
theorem in_938 : (Cond.selects "DominoKin" ({ cls := "DominoKin", name := "line", desc := "(II)I" } : Jvm.MethodName) ({ cls := "DominoKin", name := "line", desc := "(II)I" } : Jvm.MethodName)) ∈ dk_T := dk_in (i := 938) (by decide +kernel) rfl
theorem in_939 : (Cond.code ({ cls := "DominoKin", name := "line", desc := "(II)I" } : Jvm.MethodName) prog_1_method_26_code (4 : Nat) (Option.some Jvm.ClassFile.FieldType.int)) ∈ dk_T := dk_in (i := 939) (by decide +kernel) rfl
theorem in_940 : (Cond.methodLink "DominoKin" (266 : Nat) ({ cls := "DominoKin$Street", name := "isSet", desc := "(I)Z" } : Jvm.MethodName)) ∈ dk_T := dk_in (i := 940) (by decide +kernel) rfl
theorem in_941 : (Cond.instanceMethod ({ cls := "DominoKin$Street", name := "isSet", desc := "(I)Z" } : Jvm.MethodName)) ∈ dk_T := dk_in (i := 941) (by decide +kernel) rfl
theorem in_942 : (Cond.selects "DominoKin$Street" ({ cls := "DominoKin$Street", name := "isSet", desc := "(I)Z" } : Jvm.MethodName) ({ cls := "DominoKin$Street", name := "isSet", desc := "(I)Z" } : Jvm.MethodName)) ∈ dk_T := dk_in (i := 942) (by decide +kernel) rfl
theorem in_943 : (Cond.code ({ cls := "DominoKin$Street", name := "isSet", desc := "(I)Z" } : Jvm.MethodName) prog_12_method_9_code (2 : Nat) (Option.some Jvm.ClassFile.FieldType.boolean)) ∈ dk_T := dk_in (i := 943) (by decide +kernel) rfl
theorem in_944 : (Cond.methodLink "DominoKin" (269 : Nat) ({ cls := "DominoKin$Planner", name := "fewestFrom", desc := "(III)I" } : Jvm.MethodName)) ∈ dk_T := dk_in (i := 944) (by decide +kernel) rfl
theorem in_945 : (Cond.instanceMethod ({ cls := "DominoKin$Planner", name := "fewestFrom", desc := "(III)I" } : Jvm.MethodName)) ∈ dk_T := dk_in (i := 945) (by decide +kernel) rfl
theorem in_946 : (Cond.selects "DominoKin$Planner" ({ cls := "DominoKin$Planner", name := "fewestFrom", desc := "(III)I" } : Jvm.MethodName) ({ cls := "DominoKin$Planner", name := "fewestFrom", desc := "(III)I" } : Jvm.MethodName)) ∈ dk_T := dk_in (i := 946) (by decide +kernel) rfl
theorem in_947 : (Cond.code ({ cls := "DominoKin$Planner", name := "fewestFrom", desc := "(III)I" } : Jvm.MethodName) prog_8_method_7_code (6 : Nat) (Option.some Jvm.ClassFile.FieldType.int)) ∈ dk_T := dk_in (i := 947) (by decide +kernel) rfl
theorem in_948 : (Cond.methodLink "DominoKin$Planner" (75 : Nat) ({ cls := "DominoKin$Planner", name := "fewestFrom", desc := "(III)I" } : Jvm.MethodName)) ∈ dk_T := dk_in (i := 948) (by decide +kernel) rfl
theorem in_949 : (Cond.methodLink "DominoKin$Planner" (79 : Nat) ({ cls := "java/lang/Math", name := "min", desc := "(II)I" } : Jvm.MethodName)) ∈ dk_T := dk_in (i := 949) (by decide +kernel) rfl
theorem in_950 : (Cond.methodLink "DominoKinLaw" (121 : Nat) ({ cls := "DominoKin", name := "bars", desc := "(II)I" } : Jvm.MethodName)) ∈ dk_T := dk_in (i := 950) (by decide +kernel) rfl
theorem in_951 : (Cond.instanceMethod ({ cls := "DominoKin", name := "bars", desc := "(II)I" } : Jvm.MethodName)) ∈ dk_T := dk_in (i := 951) (by decide +kernel) rfl
theorem in_952 : (Cond.selects "DominoKin" ({ cls := "DominoKin", name := "bars", desc := "(II)I" } : Jvm.MethodName) ({ cls := "DominoKin", name := "bars", desc := "(II)I" } : Jvm.MethodName)) ∈ dk_T := dk_in (i := 952) (by decide +kernel) rfl
theorem in_953 : (Cond.code ({ cls := "DominoKin", name := "bars", desc := "(II)I" } : Jvm.MethodName) prog_1_method_27_code (4 : Nat) (Option.some Jvm.ClassFile.FieldType.int)) ∈ dk_T := dk_in (i := 953) (by decide +kernel) rfl
theorem in_954 : (Cond.methodLink "DominoKin" (272 : Nat) ({ cls := "DominoKin$Planner", name := "reachFrom", desc := "(II)I" } : Jvm.MethodName)) ∈ dk_T := dk_in (i := 954) (by decide +kernel) rfl
theorem in_955 : (Cond.instanceMethod ({ cls := "DominoKin$Planner", name := "reachFrom", desc := "(II)I" } : Jvm.MethodName)) ∈ dk_T := dk_in (i := 955) (by decide +kernel) rfl
theorem in_956 : (Cond.selects "DominoKin$Planner" ({ cls := "DominoKin$Planner", name := "reachFrom", desc := "(II)I" } : Jvm.MethodName) ({ cls := "DominoKin$Planner", name := "reachFrom", desc := "(II)I" } : Jvm.MethodName)) ∈ dk_T := dk_in (i := 956) (by decide +kernel) rfl
theorem in_957 : (Cond.code ({ cls := "DominoKin$Planner", name := "reachFrom", desc := "(II)I" } : Jvm.MethodName) prog_8_method_8_code (5 : Nat) (Option.some Jvm.ClassFile.FieldType.int)) ∈ dk_T := dk_in (i := 957) (by decide +kernel) rfl
theorem in_958 : (Cond.methodLink "DominoKin$Planner" (84 : Nat) ({ cls := "DominoKin$Planner", name := "reachFrom", desc := "(II)I" } : Jvm.MethodName)) ∈ dk_T := dk_in (i := 958) (by decide +kernel) rfl
theorem in_959 : (Cond.methodLink "DominoKinLaw" (125 : Nat) ({ cls := "DominoKin", name := "game", desc := "(I)I" } : Jvm.MethodName)) ∈ dk_T := dk_in (i := 959) (by decide +kernel) rfl
theorem in_960 : (Cond.instanceMethod ({ cls := "DominoKin", name := "game", desc := "(I)I" } : Jvm.MethodName)) ∈ dk_T := dk_in (i := 960) (by decide +kernel) rfl
theorem in_961 : (Cond.selects "DominoKin" ({ cls := "DominoKin", name := "game", desc := "(I)I" } : Jvm.MethodName) ({ cls := "DominoKin", name := "game", desc := "(I)I" } : Jvm.MethodName)) ∈ dk_T := dk_in (i := 961) (by decide +kernel) rfl
theorem in_962 : (Cond.code ({ cls := "DominoKin", name := "game", desc := "(I)I" } : Jvm.MethodName) prog_1_method_28_code (2 : Nat) (Option.some Jvm.ClassFile.FieldType.int)) ∈ dk_T := dk_in (i := 962) (by decide +kernel) rfl
theorem in_963 : (Cond.methodLink "DominoKin" (278 : Nat) ({ cls := "DominoKin$Planner", name := "gameFrom", desc := "(II)I" } : Jvm.MethodName)) ∈ dk_T := dk_in (i := 963) (by decide +kernel) rfl
theorem in_964 : (Cond.instanceMethod ({ cls := "DominoKin$Planner", name := "gameFrom", desc := "(II)I" } : Jvm.MethodName)) ∈ dk_T := dk_in (i := 964) (by decide +kernel) rfl
theorem in_965 : (Cond.selects "DominoKin$Planner" ({ cls := "DominoKin$Planner", name := "gameFrom", desc := "(II)I" } : Jvm.MethodName) ({ cls := "DominoKin$Planner", name := "gameFrom", desc := "(II)I" } : Jvm.MethodName)) ∈ dk_T := dk_in (i := 965) (by decide +kernel) rfl
theorem in_966 : (Cond.code ({ cls := "DominoKin$Planner", name := "gameFrom", desc := "(II)I" } : Jvm.MethodName) prog_8_method_9_code (8 : Nat) (Option.some Jvm.ClassFile.FieldType.int)) ∈ dk_T := dk_in (i := 966) (by decide +kernel) rfl
theorem in_967 : (Cond.methodLink "DominoKin$Planner" (87 : Nat) ({ cls := "DominoKin$Planner", name := "gameFrom", desc := "(II)I" } : Jvm.MethodName)) ∈ dk_T := dk_in (i := 967) (by decide +kernel) rfl
theorem in_968 : (Cond.methodLink "DominoKinLaw" (129 : Nat) ({ cls := "DominoKin", name := "play", desc := "(I)I" } : Jvm.MethodName)) ∈ dk_T := dk_in (i := 968) (by decide +kernel) rfl
theorem in_969 : (Cond.instanceMethod ({ cls := "DominoKin", name := "play", desc := "(I)I" } : Jvm.MethodName)) ∈ dk_T := dk_in (i := 969) (by decide +kernel) rfl
theorem in_970 : (Cond.selects "DominoKin" ({ cls := "DominoKin", name := "play", desc := "(I)I" } : Jvm.MethodName) ({ cls := "DominoKin", name := "play", desc := "(I)I" } : Jvm.MethodName)) ∈ dk_T := dk_in (i := 970) (by decide +kernel) rfl
theorem in_971 : (Cond.code ({ cls := "DominoKin", name := "play", desc := "(I)I" } : Jvm.MethodName) prog_1_method_29_code (2 : Nat) (Option.some Jvm.ClassFile.FieldType.int)) ∈ dk_T := dk_in (i := 971) (by decide +kernel) rfl
theorem in_972 : (Cond.methodLink "DominoKinLaw" (133 : Nat) ({ cls := "DominoKin", name := "report", desc := "(IIII)I" } : Jvm.MethodName)) ∈ dk_T := dk_in (i := 972) (by decide +kernel) rfl
theorem in_973 : (Cond.instanceMethod ({ cls := "DominoKin", name := "report", desc := "(IIII)I" } : Jvm.MethodName)) ∈ dk_T := dk_in (i := 973) (by decide +kernel) rfl
theorem in_974 : (Cond.selects "DominoKin" ({ cls := "DominoKin", name := "report", desc := "(IIII)I" } : Jvm.MethodName) ({ cls := "DominoKin", name := "report", desc := "(IIII)I" } : Jvm.MethodName)) ∈ dk_T := dk_in (i := 974) (by decide +kernel) rfl
theorem in_975 : (Cond.code ({ cls := "DominoKin", name := "report", desc := "(IIII)I" } : Jvm.MethodName) prog_1_method_30_code (6 : Nat) (Option.some Jvm.ClassFile.FieldType.int)) ∈ dk_T := dk_in (i := 975) (by decide +kernel) rfl
theorem in_976 : (Cond.methodLink "DominoKin" (288 : Nat) ({ cls := "DominoKin$Reports", name := "add", desc := "(IIII)I" } : Jvm.MethodName)) ∈ dk_T := dk_in (i := 976) (by decide +kernel) rfl
theorem in_977 : (Cond.instanceMethod ({ cls := "DominoKin$Reports", name := "add", desc := "(IIII)I" } : Jvm.MethodName)) ∈ dk_T := dk_in (i := 977) (by decide +kernel) rfl
theorem in_978 : (Cond.selects "DominoKin$Reports" ({ cls := "DominoKin$Reports", name := "add", desc := "(IIII)I" } : Jvm.MethodName) ({ cls := "DominoKin$Reports", name := "add", desc := "(IIII)I" } : Jvm.MethodName)) ∈ dk_T := dk_in (i := 978) (by decide +kernel) rfl
theorem in_979 : (Cond.code ({ cls := "DominoKin$Reports", name := "add", desc := "(IIII)I" } : Jvm.MethodName) prog_9_method_3_code (6 : Nat) (Option.some Jvm.ClassFile.FieldType.int)) ∈ dk_T := dk_in (i := 979) (by decide +kernel) rfl
theorem in_980 : (Cond.methodLink "DominoKinLaw" (137 : Nat) ({ cls := "DominoKin", name := "forget", desc := "()I" } : Jvm.MethodName)) ∈ dk_T := dk_in (i := 980) (by decide +kernel) rfl
theorem in_981 : (Cond.instanceMethod ({ cls := "DominoKin", name := "forget", desc := "()I" } : Jvm.MethodName)) ∈ dk_T := dk_in (i := 981) (by decide +kernel) rfl
theorem in_982 : (Cond.selects "DominoKin" ({ cls := "DominoKin", name := "forget", desc := "()I" } : Jvm.MethodName) ({ cls := "DominoKin", name := "forget", desc := "()I" } : Jvm.MethodName)) ∈ dk_T := dk_in (i := 982) (by decide +kernel) rfl
theorem in_983 : (Cond.code ({ cls := "DominoKin", name := "forget", desc := "()I" } : Jvm.MethodName) prog_1_method_31_code (2 : Nat) (Option.some Jvm.ClassFile.FieldType.int)) ∈ dk_T := dk_in (i := 983) (by decide +kernel) rfl
theorem in_984 : (Cond.methodLink "DominoKinLaw" (141 : Nat) ({ cls := "DominoKin", name := "lone", desc := "(I)I" } : Jvm.MethodName)) ∈ dk_T := dk_in (i := 984) (by decide +kernel) rfl
theorem in_985 : (Cond.instanceMethod ({ cls := "DominoKin", name := "lone", desc := "(I)I" } : Jvm.MethodName)) ∈ dk_T := dk_in (i := 985) (by decide +kernel) rfl
theorem in_986 : (Cond.selects "DominoKin" ({ cls := "DominoKin", name := "lone", desc := "(I)I" } : Jvm.MethodName) ({ cls := "DominoKin", name := "lone", desc := "(I)I" } : Jvm.MethodName)) ∈ dk_T := dk_in (i := 986) (by decide +kernel) rfl
theorem in_987 : (Cond.code ({ cls := "DominoKin", name := "lone", desc := "(I)I" } : Jvm.MethodName) prog_1_method_32_code (3 : Nat) (Option.some Jvm.ClassFile.FieldType.int)) ∈ dk_T := dk_in (i := 987) (by decide +kernel) rfl
theorem in_988 : (Cond.methodLink "DominoKin" (289 : Nat) ({ cls := "DominoKin$Reports", name := "search", desc := "(LDominoKin$Street;)V" } : Jvm.MethodName)) ∈ dk_T := dk_in (i := 988) (by decide +kernel) rfl
theorem in_989 : (Cond.instanceMethod ({ cls := "DominoKin$Reports", name := "search", desc := "(LDominoKin$Street;)V" } : Jvm.MethodName)) ∈ dk_T := dk_in (i := 989) (by decide +kernel) rfl
theorem in_990 : (Cond.selects "DominoKin$Reports" ({ cls := "DominoKin$Reports", name := "search", desc := "(LDominoKin$Street;)V" } : Jvm.MethodName) ({ cls := "DominoKin$Reports", name := "search", desc := "(LDominoKin$Street;)V" } : Jvm.MethodName)) ∈ dk_T := dk_in (i := 990) (by decide +kernel) rfl
theorem in_991 : (Cond.code ({ cls := "DominoKin$Reports", name := "search", desc := "(LDominoKin$Street;)V" } : Jvm.MethodName) prog_9_method_4_code (5 : Nat) (Option.none : Option Jvm.ClassFile.FieldType)) ∈ dk_T := dk_in (i := 991) (by decide +kernel) rfl
theorem in_992 : (Cond.methodLink "DominoKin$Reports" (49 : Nat) ({ cls := "DominoKin$Reports", name := "noteLone", desc := "(LDominoKin$Street;III)V" } : Jvm.MethodName)) ∈ dk_T := dk_in (i := 992) (by decide +kernel) rfl
theorem in_994 : (Cond.instanceMethod ({ cls := "DominoKin$Reports", name := "noteLone", desc := "(LDominoKin$Street;III)V" } : Jvm.MethodName)) ∈ dk_T := dk_in (i := 994) (by decide +kernel) rfl
theorem in_995 : (Cond.code ({ cls := "DominoKin$Reports", name := "noteLone", desc := "(LDominoKin$Street;III)V" } : Jvm.MethodName) prog_9_method_5_code (6 : Nat) (Option.none : Option Jvm.ClassFile.FieldType)) ∈ dk_T := dk_in (i := 995) (by decide +kernel) rfl
theorem in_996 : (Cond.methodLink "DominoKin$Reports" (59 : Nat) ({ cls := "DominoKin$Reports", name := "brokenBy", desc := "(LDominoKin$Street;LDominoKin$Piece;II)I" } : Jvm.MethodName)) ∈ dk_T := dk_in (i := 996) (by decide +kernel) rfl
theorem in_998 : (Cond.instanceMethod ({ cls := "DominoKin$Reports", name := "brokenBy", desc := "(LDominoKin$Street;LDominoKin$Piece;II)I" } : Jvm.MethodName)) ∈ dk_T := dk_in (i := 998) (by decide +kernel) rfl
theorem in_999 : (Cond.code ({ cls := "DominoKin$Reports", name := "brokenBy", desc := "(LDominoKin$Street;LDominoKin$Piece;II)I" } : Jvm.MethodName) prog_9_method_6_code (12 : Nat) (Option.some Jvm.ClassFile.FieldType.int)) ∈ dk_T := dk_in (i := 999) (by decide +kernel) rfl
theorem in_1000 : (Cond.methodLink "DominoKin$Reports" (69 : Nat) ({ cls := "DominoKin$Piece", name := "bears", desc := "(II)I" } : Jvm.MethodName)) ∈ dk_T := dk_in (i := 1000) (by decide +kernel) rfl
theorem in_1001 : (Cond.methodLink "DominoKin$Reports" (75 : Nat) ({ cls := "DominoKin$Reports", name := "lastYear", desc := "()I" } : Jvm.MethodName)) ∈ dk_T := dk_in (i := 1001) (by decide +kernel) rfl
theorem in_1003 : (Cond.instanceMethod ({ cls := "DominoKin$Reports", name := "lastYear", desc := "()I" } : Jvm.MethodName)) ∈ dk_T := dk_in (i := 1003) (by decide +kernel) rfl
theorem in_1004 : (Cond.code ({ cls := "DominoKin$Reports", name := "lastYear", desc := "()I" } : Jvm.MethodName) prog_9_method_8_code (3 : Nat) (Option.some Jvm.ClassFile.FieldType.int)) ∈ dk_T := dk_in (i := 1004) (by decide +kernel) rfl
theorem in_1005 : (Cond.methodLink "DominoKin$Reports" (97 : Nat) ({ cls := "java/lang/Math", name := "max", desc := "(II)I" } : Jvm.MethodName)) ∈ dk_T := dk_in (i := 1005) (by decide +kernel) rfl
theorem in_1006 : (Cond.methodLink "DominoKin$Reports" (79 : Nat) ({ cls := "DominoKin$Reports", name := "brokenBehind", desc := "(III)I" } : Jvm.MethodName)) ∈ dk_T := dk_in (i := 1006) (by decide +kernel) rfl
theorem in_1008 : (Cond.instanceMethod ({ cls := "DominoKin$Reports", name := "brokenBehind", desc := "(III)I" } : Jvm.MethodName)) ∈ dk_T := dk_in (i := 1008) (by decide +kernel) rfl
theorem in_1009 : (Cond.code ({ cls := "DominoKin$Reports", name := "brokenBehind", desc := "(III)I" } : Jvm.MethodName) prog_9_method_7_code (7 : Nat) (Option.some Jvm.ClassFile.FieldType.int)) ∈ dk_T := dk_in (i := 1009) (by decide +kernel) rfl
theorem in_1010 : (Cond.methodLink "DominoKin$Reports" (83 : Nat) ({ cls := "DominoKin$Street", name := "wordOf", desc := "(I)I" } : Jvm.MethodName)) ∈ dk_T := dk_in (i := 1010) (by decide +kernel) rfl
theorem in_1011 : (Cond.methodLink "DominoKin$Reports" (86 : Nat) ({ cls := "DominoKin$Street", name := "hushOf", desc := "(I)I" } : Jvm.MethodName)) ∈ dk_T := dk_in (i := 1011) (by decide +kernel) rfl
theorem in_1012 : (Cond.methodLink "DominoKin$Reports" (89 : Nat) ({ cls := "DominoKin$Piece", name := "leansMore", desc := "(III)I" } : Jvm.MethodName)) ∈ dk_T := dk_in (i := 1012) (by decide +kernel) rfl
theorem in_1013 : (Cond.methodLink "DominoKin$Reports" (92 : Nat) ({ cls := "java/lang/Math", name := "min", desc := "(II)I" } : Jvm.MethodName)) ∈ dk_T := dk_in (i := 1013) (by decide +kernel) rfl
theorem in_1014 : (Cond.methodLink "DominoKin$Reports" (63 : Nat) ({ cls := "java/lang/Integer", name := "bitCount", desc := "(I)I" } : Jvm.MethodName)) ∈ dk_T := dk_in (i := 1014) (by decide +kernel) rfl
theorem in_1015 : (Cond.methodLink "DominoKinLaw" (145 : Nat) ({ cls := "DominoKin", name := "liar", desc := "()I" } : Jvm.MethodName)) ∈ dk_T := dk_in (i := 1015) (by decide +kernel) rfl
theorem in_1016 : (Cond.instanceMethod ({ cls := "DominoKin", name := "liar", desc := "()I" } : Jvm.MethodName)) ∈ dk_T := dk_in (i := 1016) (by decide +kernel) rfl
theorem in_1017 : (Cond.selects "DominoKin" ({ cls := "DominoKin", name := "liar", desc := "()I" } : Jvm.MethodName) ({ cls := "DominoKin", name := "liar", desc := "()I" } : Jvm.MethodName)) ∈ dk_T := dk_in (i := 1017) (by decide +kernel) rfl
theorem in_1018 : (Cond.code ({ cls := "DominoKin", name := "liar", desc := "()I" } : Jvm.MethodName) prog_1_method_33_code (2 : Nat) (Option.some Jvm.ClassFile.FieldType.int)) ∈ dk_T := dk_in (i := 1018) (by decide +kernel) rfl
theorem in_1019 : (Cond.methodLink "DominoKinLaw" (149 : Nat) ({ cls := "DominoKin", name := "seed", desc := "(I)I" } : Jvm.MethodName)) ∈ dk_T := dk_in (i := 1019) (by decide +kernel) rfl
theorem in_1020 : (Cond.instanceMethod ({ cls := "DominoKin", name := "seed", desc := "(I)I" } : Jvm.MethodName)) ∈ dk_T := dk_in (i := 1020) (by decide +kernel) rfl
theorem in_1021 : (Cond.selects "DominoKin" ({ cls := "DominoKin", name := "seed", desc := "(I)I" } : Jvm.MethodName) ({ cls := "DominoKin", name := "seed", desc := "(I)I" } : Jvm.MethodName)) ∈ dk_T := dk_in (i := 1021) (by decide +kernel) rfl
theorem in_1022 : (Cond.code ({ cls := "DominoKin", name := "seed", desc := "(I)I" } : Jvm.MethodName) prog_1_method_34_code (3 : Nat) (Option.some Jvm.ClassFile.FieldType.int)) ∈ dk_T := dk_in (i := 1022) (by decide +kernel) rfl
theorem in_1023 : (Cond.methodLink "DominoKinLaw" (153 : Nat) ({ cls := "DominoKin", name := "lot", desc := "()I" } : Jvm.MethodName)) ∈ dk_T := dk_in (i := 1023) (by decide +kernel) rfl
theorem in_1024 : (Cond.instanceMethod ({ cls := "DominoKin", name := "lot", desc := "()I" } : Jvm.MethodName)) ∈ dk_T := dk_in (i := 1024) (by decide +kernel) rfl
theorem in_1025 : (Cond.selects "DominoKin" ({ cls := "DominoKin", name := "lot", desc := "()I" } : Jvm.MethodName) ({ cls := "DominoKin", name := "lot", desc := "()I" } : Jvm.MethodName)) ∈ dk_T := dk_in (i := 1025) (by decide +kernel) rfl
theorem in_1026 : (Cond.code ({ cls := "DominoKin", name := "lot", desc := "()I" } : Jvm.MethodName) prog_1_method_35_code (1 : Nat) (Option.some Jvm.ClassFile.FieldType.int)) ∈ dk_T := dk_in (i := 1026) (by decide +kernel) rfl
theorem in_1027 : (Cond.methodLink "DominoKin" (310 : Nat) ({ cls := "DominoKin", name := "nextLot", desc := "(I)I" } : Jvm.MethodName)) ∈ dk_T := dk_in (i := 1027) (by decide +kernel) rfl
theorem in_1028 : (Cond.static ({ cls := "DominoKin", name := "nextLot", desc := "(I)I" } : Jvm.MethodName)) ∈ dk_T := dk_in (i := 1028) (by decide +kernel) rfl
theorem in_1029 : (Cond.code ({ cls := "DominoKin", name := "nextLot", desc := "(I)I" } : Jvm.MethodName) prog_1_method_57_code (1 : Nat) (Option.some Jvm.ClassFile.FieldType.int)) ∈ dk_T := dk_in (i := 1029) (by decide +kernel) rfl
theorem in_1030 : (Cond.constant "DominoKin" (371 : Nat) (1103515245 : Int32)) ∈ dk_T := dk_in (i := 1030) (by decide +kernel) rfl
theorem in_1031 : (Cond.methodLink "DominoKin" (313 : Nat) ({ cls := "DominoKin$Street", name := "actByLot", desc := "(I)I" } : Jvm.MethodName)) ∈ dk_T := dk_in (i := 1031) (by decide +kernel) rfl
theorem in_1032 : (Cond.instanceMethod ({ cls := "DominoKin$Street", name := "actByLot", desc := "(I)I" } : Jvm.MethodName)) ∈ dk_T := dk_in (i := 1032) (by decide +kernel) rfl
theorem in_1033 : (Cond.selects "DominoKin$Street" ({ cls := "DominoKin$Street", name := "actByLot", desc := "(I)I" } : Jvm.MethodName) ({ cls := "DominoKin$Street", name := "actByLot", desc := "(I)I" } : Jvm.MethodName)) ∈ dk_T := dk_in (i := 1033) (by decide +kernel) rfl
theorem in_1034 : (Cond.code ({ cls := "DominoKin$Street", name := "actByLot", desc := "(I)I" } : Jvm.MethodName) prog_12_method_20_code (2 : Nat) (Option.some Jvm.ClassFile.FieldType.int)) ∈ dk_T := dk_in (i := 1034) (by decide +kernel) rfl
theorem in_1035 : (Cond.methodLink "DominoKinLaw" (157 : Nat) ({ cls := "DominoKin", name := "times", desc := "(II)I" } : Jvm.MethodName)) ∈ dk_T := dk_in (i := 1035) (by decide +kernel) rfl
theorem in_1036 : (Cond.instanceMethod ({ cls := "DominoKin", name := "times", desc := "(II)I" } : Jvm.MethodName)) ∈ dk_T := dk_in (i := 1036) (by decide +kernel) rfl
theorem in_1037 : (Cond.selects "DominoKin" ({ cls := "DominoKin", name := "times", desc := "(II)I" } : Jvm.MethodName) ({ cls := "DominoKin", name := "times", desc := "(II)I" } : Jvm.MethodName)) ∈ dk_T := dk_in (i := 1037) (by decide +kernel) rfl
theorem in_1038 : (Cond.code ({ cls := "DominoKin", name := "times", desc := "(II)I" } : Jvm.MethodName) prog_1_method_36_code (8 : Nat) (Option.some Jvm.ClassFile.FieldType.int)) ∈ dk_T := dk_in (i := 1038) (by decide +kernel) rfl
theorem in_1039 : (Cond.methodLink "DominoKinLaw" (161 : Nat) ({ cls := "DominoKin", name := "prove", desc := "(I)I" } : Jvm.MethodName)) ∈ dk_T := dk_in (i := 1039) (by decide +kernel) rfl
theorem in_1040 : (Cond.instanceMethod ({ cls := "DominoKin", name := "prove", desc := "(I)I" } : Jvm.MethodName)) ∈ dk_T := dk_in (i := 1040) (by decide +kernel) rfl
theorem in_1041 : (Cond.selects "DominoKin" ({ cls := "DominoKin", name := "prove", desc := "(I)I" } : Jvm.MethodName) ({ cls := "DominoKin", name := "prove", desc := "(I)I" } : Jvm.MethodName)) ∈ dk_T := dk_in (i := 1041) (by decide +kernel) rfl
theorem in_1042 : (Cond.code ({ cls := "DominoKin", name := "prove", desc := "(I)I" } : Jvm.MethodName) prog_1_method_37_code (4 : Nat) (Option.some Jvm.ClassFile.FieldType.int)) ∈ dk_T := dk_in (i := 1042) (by decide +kernel) rfl
theorem in_1043 : (Cond.methodLink "DominoKinLaw" (165 : Nat) ({ cls := "DominoKin", name := "row", desc := "(II)I" } : Jvm.MethodName)) ∈ dk_T := dk_in (i := 1043) (by decide +kernel) rfl
theorem in_1044 : (Cond.instanceMethod ({ cls := "DominoKin", name := "row", desc := "(II)I" } : Jvm.MethodName)) ∈ dk_T := dk_in (i := 1044) (by decide +kernel) rfl
theorem in_1045 : (Cond.selects "DominoKin" ({ cls := "DominoKin", name := "row", desc := "(II)I" } : Jvm.MethodName) ({ cls := "DominoKin", name := "row", desc := "(II)I" } : Jvm.MethodName)) ∈ dk_T := dk_in (i := 1045) (by decide +kernel) rfl
theorem in_1046 : (Cond.code ({ cls := "DominoKin", name := "row", desc := "(II)I" } : Jvm.MethodName) prog_1_method_38_code (3 : Nat) (Option.some Jvm.ClassFile.FieldType.int)) ∈ dk_T := dk_in (i := 1046) (by decide +kernel) rfl
theorem in_1047 : (Cond.methodLink "DominoKinLaw" (169 : Nat) ({ cls := "DominoKin", name := "alterRow", desc := "(III)I" } : Jvm.MethodName)) ∈ dk_T := dk_in (i := 1047) (by decide +kernel) rfl
theorem in_1048 : (Cond.instanceMethod ({ cls := "DominoKin", name := "alterRow", desc := "(III)I" } : Jvm.MethodName)) ∈ dk_T := dk_in (i := 1048) (by decide +kernel) rfl
theorem in_1049 : (Cond.selects "DominoKin" ({ cls := "DominoKin", name := "alterRow", desc := "(III)I" } : Jvm.MethodName) ({ cls := "DominoKin", name := "alterRow", desc := "(III)I" } : Jvm.MethodName)) ∈ dk_T := dk_in (i := 1049) (by decide +kernel) rfl
theorem in_1050 : (Cond.code ({ cls := "DominoKin", name := "alterRow", desc := "(III)I" } : Jvm.MethodName) prog_1_method_39_code (4 : Nat) (Option.some Jvm.ClassFile.FieldType.int)) ∈ dk_T := dk_in (i := 1050) (by decide +kernel) rfl
theorem in_1051 : (Cond.methodLink "DominoKinLaw" (173 : Nat) ({ cls := "DominoKin", name := "judge", desc := "()I" } : Jvm.MethodName)) ∈ dk_T := dk_in (i := 1051) (by decide +kernel) rfl
theorem in_1052 : (Cond.instanceMethod ({ cls := "DominoKin", name := "judge", desc := "()I" } : Jvm.MethodName)) ∈ dk_T := dk_in (i := 1052) (by decide +kernel) rfl
theorem in_1053 : (Cond.selects "DominoKin" ({ cls := "DominoKin", name := "judge", desc := "()I" } : Jvm.MethodName) ({ cls := "DominoKin", name := "judge", desc := "()I" } : Jvm.MethodName)) ∈ dk_T := dk_in (i := 1053) (by decide +kernel) rfl
theorem in_1054 : (Cond.code ({ cls := "DominoKin", name := "judge", desc := "()I" } : Jvm.MethodName) prog_1_method_40_code (4 : Nat) (Option.some Jvm.ClassFile.FieldType.int)) ∈ dk_T := dk_in (i := 1054) (by decide +kernel) rfl
theorem in_1055 : (Cond.methodLink "DominoKin" (316 : Nat) ({ cls := "DominoKin$Street", name := "isAct", desc := "(I)Z" } : Jvm.MethodName)) ∈ dk_T := dk_in (i := 1055) (by decide +kernel) rfl
theorem in_1056 : (Cond.instanceMethod ({ cls := "DominoKin$Street", name := "isAct", desc := "(I)Z" } : Jvm.MethodName)) ∈ dk_T := dk_in (i := 1056) (by decide +kernel) rfl
theorem in_1057 : (Cond.selects "DominoKin$Street" ({ cls := "DominoKin$Street", name := "isAct", desc := "(I)Z" } : Jvm.MethodName) ({ cls := "DominoKin$Street", name := "isAct", desc := "(I)Z" } : Jvm.MethodName)) ∈ dk_T := dk_in (i := 1057) (by decide +kernel) rfl
theorem in_1058 : (Cond.code ({ cls := "DominoKin$Street", name := "isAct", desc := "(I)Z" } : Jvm.MethodName) prog_12_method_8_code (2 : Nat) (Option.some Jvm.ClassFile.FieldType.boolean)) ∈ dk_T := dk_in (i := 1058) (by decide +kernel) rfl
theorem in_1059 : (Cond.methodLink "DominoKinLaw" (177 : Nat) ({ cls := "DominoKin", name := "sheet", desc := "(III)I" } : Jvm.MethodName)) ∈ dk_T := dk_in (i := 1059) (by decide +kernel) rfl
theorem in_1060 : (Cond.instanceMethod ({ cls := "DominoKin", name := "sheet", desc := "(III)I" } : Jvm.MethodName)) ∈ dk_T := dk_in (i := 1060) (by decide +kernel) rfl
theorem in_1061 : (Cond.selects "DominoKin" ({ cls := "DominoKin", name := "sheet", desc := "(III)I" } : Jvm.MethodName) ({ cls := "DominoKin", name := "sheet", desc := "(III)I" } : Jvm.MethodName)) ∈ dk_T := dk_in (i := 1061) (by decide +kernel) rfl
theorem in_1062 : (Cond.code ({ cls := "DominoKin", name := "sheet", desc := "(III)I" } : Jvm.MethodName) prog_1_method_41_code (4 : Nat) (Option.some Jvm.ClassFile.FieldType.int)) ∈ dk_T := dk_in (i := 1062) (by decide +kernel) rfl
theorem in_1063 : (Cond.methodLink "DominoKinLaw" (181 : Nat) ({ cls := "DominoKin", name := "write", desc := "(III)I" } : Jvm.MethodName)) ∈ dk_T := dk_in (i := 1063) (by decide +kernel) rfl
theorem in_1064 : (Cond.instanceMethod ({ cls := "DominoKin", name := "write", desc := "(III)I" } : Jvm.MethodName)) ∈ dk_T := dk_in (i := 1064) (by decide +kernel) rfl
theorem in_1065 : (Cond.selects "DominoKin" ({ cls := "DominoKin", name := "write", desc := "(III)I" } : Jvm.MethodName) ({ cls := "DominoKin", name := "write", desc := "(III)I" } : Jvm.MethodName)) ∈ dk_T := dk_in (i := 1065) (by decide +kernel) rfl
theorem in_1066 : (Cond.code ({ cls := "DominoKin", name := "write", desc := "(III)I" } : Jvm.MethodName) prog_1_method_42_code (4 : Nat) (Option.some Jvm.ClassFile.FieldType.int)) ∈ dk_T := dk_in (i := 1066) (by decide +kernel) rfl
theorem in_1067 : (Cond.methodLink "DominoKin" (319 : Nat) ({ cls := "DominoKin", name := "narrowed", desc := "(II)I" } : Jvm.MethodName)) ∈ dk_T := dk_in (i := 1067) (by decide +kernel) rfl
theorem in_1068 : (Cond.static ({ cls := "DominoKin", name := "narrowed", desc := "(II)I" } : Jvm.MethodName)) ∈ dk_T := dk_in (i := 1068) (by decide +kernel) rfl
theorem in_1069 : (Cond.code ({ cls := "DominoKin", name := "narrowed", desc := "(II)I" } : Jvm.MethodName) prog_1_method_58_code (2 : Nat) (Option.some Jvm.ClassFile.FieldType.int)) ∈ dk_T := dk_in (i := 1069) (by decide +kernel) rfl
theorem in_1070 : (Cond.methodLink "DominoKinLaw" (185 : Nat) ({ cls := "DominoKin", name := "item", desc := "(III)I" } : Jvm.MethodName)) ∈ dk_T := dk_in (i := 1070) (by decide +kernel) rfl
theorem in_1071 : (Cond.instanceMethod ({ cls := "DominoKin", name := "item", desc := "(III)I" } : Jvm.MethodName)) ∈ dk_T := dk_in (i := 1071) (by decide +kernel) rfl
theorem in_1072 : (Cond.selects "DominoKin" ({ cls := "DominoKin", name := "item", desc := "(III)I" } : Jvm.MethodName) ({ cls := "DominoKin", name := "item", desc := "(III)I" } : Jvm.MethodName)) ∈ dk_T := dk_in (i := 1072) (by decide +kernel) rfl
theorem in_1073 : (Cond.code ({ cls := "DominoKin", name := "item", desc := "(III)I" } : Jvm.MethodName) prog_1_method_43_code (4 : Nat) (Option.some Jvm.ClassFile.FieldType.int)) ∈ dk_T := dk_in (i := 1073) (by decide +kernel) rfl
theorem in_1074 : (Cond.methodLink "DominoKinLaw" (189 : Nat) ({ cls := "DominoKin", name := "goAll", desc := "(III)I" } : Jvm.MethodName)) ∈ dk_T := dk_in (i := 1074) (by decide +kernel) rfl
theorem in_1075 : (Cond.instanceMethod ({ cls := "DominoKin", name := "goAll", desc := "(III)I" } : Jvm.MethodName)) ∈ dk_T := dk_in (i := 1075) (by decide +kernel) rfl
theorem in_1076 : (Cond.selects "DominoKin" ({ cls := "DominoKin", name := "goAll", desc := "(III)I" } : Jvm.MethodName) ({ cls := "DominoKin", name := "goAll", desc := "(III)I" } : Jvm.MethodName)) ∈ dk_T := dk_in (i := 1076) (by decide +kernel) rfl
theorem in_1077 : (Cond.code ({ cls := "DominoKin", name := "goAll", desc := "(III)I" } : Jvm.MethodName) prog_1_method_44_code (8 : Nat) (Option.some Jvm.ClassFile.FieldType.int)) ∈ dk_T := dk_in (i := 1077) (by decide +kernel) rfl
theorem in_1078 : (Cond.methodLink "DominoKin" (322 : Nat) ({ cls := "DominoKin", name := "refusalOfActs", desc := "(II)I" } : Jvm.MethodName)) ∈ dk_T := dk_in (i := 1078) (by decide +kernel) rfl
theorem in_1080 : (Cond.instanceMethod ({ cls := "DominoKin", name := "refusalOfActs", desc := "(II)I" } : Jvm.MethodName)) ∈ dk_T := dk_in (i := 1080) (by decide +kernel) rfl
theorem in_1081 : (Cond.code ({ cls := "DominoKin", name := "refusalOfActs", desc := "(II)I" } : Jvm.MethodName) prog_1_method_65_code (3 : Nat) (Option.some Jvm.ClassFile.FieldType.int)) ∈ dk_T := dk_in (i := 1081) (by decide +kernel) rfl
theorem in_1082 : (Cond.methodLink "DominoKinLaw" (193 : Nat) ({ cls := "DominoKin", name := "wouldBe", desc := "(III)I" } : Jvm.MethodName)) ∈ dk_T := dk_in (i := 1082) (by decide +kernel) rfl
theorem in_1083 : (Cond.instanceMethod ({ cls := "DominoKin", name := "wouldBe", desc := "(III)I" } : Jvm.MethodName)) ∈ dk_T := dk_in (i := 1083) (by decide +kernel) rfl
theorem in_1084 : (Cond.selects "DominoKin" ({ cls := "DominoKin", name := "wouldBe", desc := "(III)I" } : Jvm.MethodName) ({ cls := "DominoKin", name := "wouldBe", desc := "(III)I" } : Jvm.MethodName)) ∈ dk_T := dk_in (i := 1084) (by decide +kernel) rfl
theorem in_1085 : (Cond.code ({ cls := "DominoKin", name := "wouldBe", desc := "(III)I" } : Jvm.MethodName) prog_1_method_45_code (8 : Nat) (Option.some Jvm.ClassFile.FieldType.int)) ∈ dk_T := dk_in (i := 1085) (by decide +kernel) rfl
theorem in_1086 : (Cond.methodLink "DominoKinLaw" (197 : Nat) ({ cls := "DominoKin", name := "shelf", desc := "(III)I" } : Jvm.MethodName)) ∈ dk_T := dk_in (i := 1086) (by decide +kernel) rfl
theorem in_1087 : (Cond.instanceMethod ({ cls := "DominoKin", name := "shelf", desc := "(III)I" } : Jvm.MethodName)) ∈ dk_T := dk_in (i := 1087) (by decide +kernel) rfl
theorem in_1088 : (Cond.selects "DominoKin" ({ cls := "DominoKin", name := "shelf", desc := "(III)I" } : Jvm.MethodName) ({ cls := "DominoKin", name := "shelf", desc := "(III)I" } : Jvm.MethodName)) ∈ dk_T := dk_in (i := 1088) (by decide +kernel) rfl
theorem in_1089 : (Cond.code ({ cls := "DominoKin", name := "shelf", desc := "(III)I" } : Jvm.MethodName) prog_1_method_46_code (4 : Nat) (Option.some Jvm.ClassFile.FieldType.int)) ∈ dk_T := dk_in (i := 1089) (by decide +kernel) rfl
theorem in_1090 : (Cond.methodLink "DominoKin" (325 : Nat) ({ cls := "DominoKin", name := "put", desc := "(III)I" } : Jvm.MethodName)) ∈ dk_T := dk_in (i := 1090) (by decide +kernel) rfl
theorem in_1092 : (Cond.instanceMethod ({ cls := "DominoKin", name := "put", desc := "(III)I" } : Jvm.MethodName)) ∈ dk_T := dk_in (i := 1092) (by decide +kernel) rfl
theorem in_1093 : (Cond.code ({ cls := "DominoKin", name := "put", desc := "(III)I" } : Jvm.MethodName) prog_1_method_66_code (4 : Nat) (Option.some Jvm.ClassFile.FieldType.int)) ∈ dk_T := dk_in (i := 1093) (by decide +kernel) rfl
theorem in_1094 : (Cond.methodLink "DominoKinLaw" (201 : Nat) ({ cls := "DominoKin", name := "taken", desc := "(II)I" } : Jvm.MethodName)) ∈ dk_T := dk_in (i := 1094) (by decide +kernel) rfl
theorem in_1095 : (Cond.instanceMethod ({ cls := "DominoKin", name := "taken", desc := "(II)I" } : Jvm.MethodName)) ∈ dk_T := dk_in (i := 1095) (by decide +kernel) rfl
