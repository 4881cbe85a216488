/-! what the tables say of it all -/
def tbX : List Cond := lw_tbl.filter goodWord
theorem tbX_good : GoodIn tbX tbX := fun w h => ⟨h, good_of_word (List.mem_filter.mp h).2⟩
theorem tb_t {w : Cond} (h : w ∈ tables_1) (g : goodWord w = true) : w ∈ tbX := List.mem_filter.mpr ⟨List.mem_append_right _ h, g⟩
theorem tb_s {w : Cond} {i : Nat} (h : (k2_sels lw_privs)[i]? = some w) (g : goodWord w = true) : w ∈ tbX := List.mem_filter.mpr ⟨List.mem_append_left _ (List.mem_of_getElem? h), g⟩
theorem tb_1 {w : Cond} {i : Nat} (h : tables_1_1[i]? = some w) (g : goodWord w = true) : w ∈ tbX := tb_t (List.mem_append_left _ (List.mem_of_getElem? h)) g
theorem tb_2 {w : Cond} {i : Nat} (h : tables_1_2[i]? = some w) (g : goodWord w = true) : w ∈ tbX := tb_t (List.mem_append_right _ (List.mem_append_left _ (List.mem_of_getElem? h))) g
theorem tb_3 {w : Cond} {i : Nat} (h : tables_1_3[i]? = some w) (g : goodWord w = true) : w ∈ tbX := tb_t (List.mem_append_right _ (List.mem_append_right _ (List.mem_append_left _ (List.mem_of_getElem? h)))) g
theorem tb_4 {w : Cond} {i : Nat} (h : tables_1_4[i]? = some w) (g : goodWord w = true) : w ∈ tbX := tb_t (List.mem_append_right _ (List.mem_append_right _ (List.mem_append_right _ (List.mem_append_left _ (List.mem_of_getElem? h))))) g
theorem tb_5 {w : Cond} {i : Nat} (h : tables_1_5[i]? = some w) (g : goodWord w = true) : w ∈ tbX := tb_t (List.mem_append_right _ (List.mem_append_right _ (List.mem_append_right _ (List.mem_append_right _ (List.mem_append_left _ (List.mem_of_getElem? h)))))) g
theorem tb_6 {w : Cond} {i : Nat} (h : tables_1_6[i]? = some w) (g : goodWord w = true) : w ∈ tbX := tb_t (List.mem_append_right _ (List.mem_append_right _ (List.mem_append_right _ (List.mem_append_right _ (List.mem_append_right _ (List.mem_append_left _ (List.mem_of_getElem? h))))))) g
theorem tb_7 {w : Cond} {i : Nat} (h : tables_1_7[i]? = some w) (g : goodWord w = true) : w ∈ tbX := tb_t (List.mem_append_right _ (List.mem_append_right _ (List.mem_append_right _ (List.mem_append_right _ (List.mem_append_right _ (List.mem_append_right _ (List.mem_append_left _ (List.mem_of_getElem? h)))))))) g
theorem tb_8 {w : Cond} {i : Nat} (h : tables_1_8[i]? = some w) (g : goodWord w = true) : w ∈ tbX := tb_t (List.mem_append_right _ (List.mem_append_right _ (List.mem_append_right _ (List.mem_append_right _ (List.mem_append_right _ (List.mem_append_right _ (List.mem_append_right _ (List.mem_of_getElem? h)))))))) g
theorem t_213 : (Jvm.Cond.fieldLink "SchoolLosing$Chances" (9 : Nat) "SchoolLosing$Chances" "ends" "[J") ∈ tbX := tb_1 (i := 213) rfl rfl
theorem t_215 : (Jvm.Cond.fieldLink "SchoolLosing$Chances" (15 : Nat) "SchoolLosing$Chances" "reached" "[J") ∈ tbX := tb_1 (i := 215) rfl rfl
theorem t_275 : (Jvm.Cond.fieldLink "SchoolLosing$Chances" (26 : Nat) "SchoolLosing$Text" "side" "[I") ∈ tbX := tb_2 (i := 35) rfl rfl
theorem t_280 : (Jvm.Cond.fieldLink "SchoolLosing$Chances" (32 : Nat) "SchoolLosing$Text" "margin" "[I") ∈ tbX := tb_2 (i := 40) rfl rfl
theorem t_200 : (Jvm.Cond.fieldLink "SchoolLosing$Chances" (35 : Nat) "SchoolLosing$Wants" "moves" "[I") ∈ tbX := tb_1 (i := 200) rfl rfl
theorem t_284 : (Jvm.Cond.fieldLink "SchoolLosing$Chances" (44 : Nat) "SchoolLosing$Text" "moves" "[I") ∈ tbX := tb_2 (i := 44) rfl rfl
theorem t_292 : (Jvm.Cond.fieldLink "SchoolLosing$Chances" (45 : Nat) "SchoolLosing$Text" "to" "[I") ∈ tbX := tb_2 (i := 52) rfl rfl
theorem t_227 : (Jvm.Cond.fieldLink "SchoolLosing$Choice" (9 : Nat) "SchoolLosing$Choice" "cost" "[I") ∈ tbX := tb_1 (i := 227) rfl rfl
theorem t_229 : (Jvm.Cond.fieldLink "SchoolLosing$Choice" (13 : Nat) "SchoolLosing$Choice" "needs" "[I") ∈ tbX := tb_1 (i := 229) rfl rfl
theorem t_231 : (Jvm.Cond.fieldLink "SchoolLosing$Choice" (16 : Nat) "SchoolLosing$Choice" "least" "[I") ∈ tbX := tb_1 (i := 231) rfl rfl
theorem t_233 : (Jvm.Cond.fieldLink "SchoolLosing$Choice" (25 : Nat) "SchoolLosing$Choice" "items" "I") ∈ tbX := tb_1 (i := 233) rfl rfl
theorem t_168 : (Jvm.Cond.fieldLink "SchoolLosing$Going" (9 : Nat) "SchoolLosing$Going" "now" "[I") ∈ tbX := tb_1 (i := 168) rfl rfl
theorem t_170 : (Jvm.Cond.fieldLink "SchoolLosing$Going" (15 : Nat) "SchoolLosing$Going" "held" "[Z") ∈ tbX := tb_1 (i := 170) rfl rfl
theorem t_172 : (Jvm.Cond.fieldLink "SchoolLosing$Going" (19 : Nat) "SchoolLosing$Going" "past" "[I") ∈ tbX := tb_1 (i := 172) rfl rfl
theorem t_173 : (Jvm.Cond.fieldLink "SchoolLosing$Going" (22 : Nat) "SchoolLosing$Going" "slots" "[I") ∈ tbX := tb_1 (i := 173) rfl rfl
theorem t_175 : (Jvm.Cond.fieldLink "SchoolLosing$Going" (31 : Nat) "SchoolLosing$Going" "pasts" "I") ∈ tbX := tb_1 (i := 175) rfl rfl
theorem t_174 : (Jvm.Cond.fieldLink "SchoolLosing$Going" (35 : Nat) "SchoolLosing$Going" "nextPast" "I") ∈ tbX := tb_1 (i := 174) rfl rfl
theorem t_255 : (Jvm.Cond.fieldLink "SchoolLosing$Laws" (11 : Nat) "SchoolLosing$Laws" "marks" "[I") ∈ tbX := tb_2 (i := 15) rfl rfl
theorem t_256 : (Jvm.Cond.fieldLink "SchoolLosing$Laws" (15 : Nat) "SchoolLosing$Laws" "vars" "[I") ∈ tbX := tb_2 (i := 16) rfl rfl
theorem t_257 : (Jvm.Cond.fieldLink "SchoolLosing$Laws" (18 : Nat) "SchoolLosing$Laws" "stack" "[I") ∈ tbX := tb_2 (i := 17) rfl rfl
theorem t_258 : (Jvm.Cond.fieldLink "SchoolLosing$Laws" (21 : Nat) "SchoolLosing$Laws" "starts" "[I") ∈ tbX := tb_2 (i := 18) rfl rfl
theorem t_260 : (Jvm.Cond.fieldLink "SchoolLosing$Laws" (24 : Nat) "SchoolLosing$Laws" "length" "I") ∈ tbX := tb_2 (i := 20) rfl rfl
theorem t_120 : (Jvm.Cond.fieldLink "SchoolLosing$Reader" (12 : Nat) "SchoolLosing$Reader" "tokens" "LSchoolLosing$Tokens;") ∈ tbX := tb_1 (i := 120) rfl rfl
theorem t_122 : (Jvm.Cond.fieldLink "SchoolLosing$Reader" (18 : Nat) "SchoolLosing$Reader" "names" "[J") ∈ tbX := tb_1 (i := 122) rfl rfl
theorem t_123 : (Jvm.Cond.fieldLink "SchoolLosing$Reader" (22 : Nat) "SchoolLosing$Reader" "sorts" "[I") ∈ tbX := tb_1 (i := 123) rfl rfl
theorem t_124 : (Jvm.Cond.fieldLink "SchoolLosing$Reader" (26 : Nat) "SchoolLosing$Reader" "numbers" "[I") ∈ tbX := tb_1 (i := 124) rfl rfl
theorem t_125 : (Jvm.Cond.fieldLink "SchoolLosing$Reader" (29 : Nat) "SchoolLosing$Reader" "waiting" "[I") ∈ tbX := tb_1 (i := 125) rfl rfl
theorem t_131 : (Jvm.Cond.fieldLink "SchoolLosing$Reader" (32 : Nat) "SchoolLosing$Reader" "faultPlace" "I") ∈ tbX := tb_1 (i := 131) rfl rfl
theorem t_128 : (Jvm.Cond.fieldLink "SchoolLosing$Reader" (36 : Nat) "SchoolLosing$Reader" "text" "LSchoolLosing$Text;") ∈ tbX := tb_1 (i := 128) rfl rfl
theorem t_127 : (Jvm.Cond.fieldLink "SchoolLosing$Reader" (45 : Nat) "SchoolLosing$Reader" "known" "I") ∈ tbX := tb_1 (i := 127) rfl rfl
theorem t_129 : (Jvm.Cond.fieldLink "SchoolLosing$Reader" (48 : Nat) "SchoolLosing$Reader" "next" "I") ∈ tbX := tb_1 (i := 129) rfl rfl
theorem t_130 : (Jvm.Cond.fieldLink "SchoolLosing$Reader" (51 : Nat) "SchoolLosing$Reader" "fault" "I") ∈ tbX := tb_1 (i := 130) rfl rfl
theorem t_133 : (Jvm.Cond.fieldLink "SchoolLosing$Reader" (54 : Nat) "SchoolLosing$Reader" "laterFault" "I") ∈ tbX := tb_1 (i := 133) rfl rfl
theorem t_134 : (Jvm.Cond.fieldLink "SchoolLosing$Reader" (57 : Nat) "SchoolLosing$Reader" "laterPlace" "I") ∈ tbX := tb_1 (i := 134) rfl rfl
theorem t_338 : (Jvm.Cond.fieldLink "SchoolLosing$Reader" (100 : Nat) "SchoolLosing$Text" "seed" "I") ∈ tbX := tb_2 (i := 98) rfl rfl
theorem t_323 : (Jvm.Cond.fieldLink "SchoolLosing$Reader" (106 : Nat) "SchoolLosing$Text" "positions" "I") ∈ tbX := tb_2 (i := 83) rfl rfl
theorem t_276 : (Jvm.Cond.fieldLink "SchoolLosing$Reader" (117 : Nat) "SchoolLosing$Text" "side" "[I") ∈ tbX := tb_2 (i := 36) rfl rfl
theorem t_281 : (Jvm.Cond.fieldLink "SchoolLosing$Reader" (120 : Nat) "SchoolLosing$Text" "margin" "[I") ∈ tbX := tb_2 (i := 41) rfl rfl
theorem t_286 : (Jvm.Cond.fieldLink "SchoolLosing$Reader" (123 : Nat) "SchoolLosing$Text" "moves" "[I") ∈ tbX := tb_2 (i := 46) rfl rfl
theorem t_289 : (Jvm.Cond.fieldLink "SchoolLosing$Reader" (126 : Nat) "SchoolLosing$Text" "deep" "[I") ∈ tbX := tb_2 (i := 49) rfl rfl
theorem t_297 : (Jvm.Cond.fieldLink "SchoolLosing$Reader" (147 : Nat) "SchoolLosing$Text" "shows" "[I") ∈ tbX := tb_2 (i := 57) rfl rfl
theorem t_294 : (Jvm.Cond.fieldLink "SchoolLosing$Reader" (150 : Nat) "SchoolLosing$Text" "to" "[I") ∈ tbX := tb_2 (i := 54) rfl rfl
theorem t_326 : (Jvm.Cond.fieldLink "SchoolLosing$Reader" (158 : Nat) "SchoolLosing$Text" "men" "I") ∈ tbX := tb_2 (i := 86) rfl rfl
theorem t_300 : (Jvm.Cond.fieldLink "SchoolLosing$Reader" (161 : Nat) "SchoolLosing$Text" "skill" "[I") ∈ tbX := tb_2 (i := 60) rfl rfl
theorem t_303 : (Jvm.Cond.fieldLink "SchoolLosing$Reader" (164 : Nat) "SchoolLosing$Text" "eye" "[I") ∈ tbX := tb_2 (i := 63) rfl rfl
theorem t_329 : (Jvm.Cond.fieldLink "SchoolLosing$Reader" (167 : Nat) "SchoolLosing$Text" "lessons" "I") ∈ tbX := tb_2 (i := 89) rfl rfl
theorem t_306 : (Jvm.Cond.fieldLink "SchoolLosing$Reader" (170 : Nat) "SchoolLosing$Text" "hours" "[I") ∈ tbX := tb_2 (i := 66) rfl rfl
theorem t_309 : (Jvm.Cond.fieldLink "SchoolLosing$Reader" (173 : Nat) "SchoolLosing$Text" "needs" "[I") ∈ tbX := tb_2 (i := 69) rfl rfl
theorem t_332 : (Jvm.Cond.fieldLink "SchoolLosing$Reader" (176 : Nat) "SchoolLosing$Text" "courts" "I") ∈ tbX := tb_2 (i := 92) rfl rfl
theorem t_312 : (Jvm.Cond.fieldLink "SchoolLosing$Reader" (179 : Nat) "SchoolLosing$Text" "pride" "[I") ∈ tbX := tb_2 (i := 72) rfl rfl
theorem t_335 : (Jvm.Cond.fieldLink "SchoolLosing$Reader" (182 : Nat) "SchoolLosing$Text" "dice" "I") ∈ tbX := tb_2 (i := 95) rfl rfl
theorem t_315 : (Jvm.Cond.fieldLink "SchoolLosing$Reader" (185 : Nat) "SchoolLosing$Text" "faces" "[I") ∈ tbX := tb_2 (i := 75) rfl rfl
theorem t_319 : (Jvm.Cond.fieldLink "SchoolLosing$Reader" (188 : Nat) "SchoolLosing$Text" "laws" "LSchoolLosing$Laws;") ∈ tbX := tb_2 (i := 79) rfl rfl
theorem t_261 : (Jvm.Cond.fieldLink "SchoolLosing$Reader" (192 : Nat) "SchoolLosing$Laws" "length" "I") ∈ tbX := tb_2 (i := 21) rfl rfl
theorem t_259 : (Jvm.Cond.fieldLink "SchoolLosing$Reader" (206 : Nat) "SchoolLosing$Laws" "starts" "[I") ∈ tbX := tb_2 (i := 19) rfl rfl
theorem t_126 : (Jvm.Cond.fieldLink "SchoolLosing$Reader" (209 : Nat) "SchoolLosing$Reader" "waits" "I") ∈ tbX := tb_1 (i := 126) rfl rfl
theorem t_100 : (Jvm.Cond.fieldLink "SchoolLosing$Reader" (221 : Nat) "SchoolLosing$Tokens" "values" "[J") ∈ tbX := tb_1 (i := 100) rfl rfl
theorem t_96 : (Jvm.Cond.fieldLink "SchoolLosing$Reader" (224 : Nat) "SchoolLosing$Tokens" "kinds" "[I") ∈ tbX := tb_1 (i := 96) rfl rfl
theorem t_98 : (Jvm.Cond.fieldLink "SchoolLosing$Reader" (227 : Nat) "SchoolLosing$Tokens" "places" "[I") ∈ tbX := tb_1 (i := 98) rfl rfl
theorem t_273 : (Jvm.Cond.fieldLink "SchoolLosing$Text" (9 : Nat) "SchoolLosing$Text" "side" "[I") ∈ tbX := tb_2 (i := 33) rfl rfl
theorem t_278 : (Jvm.Cond.fieldLink "SchoolLosing$Text" (15 : Nat) "SchoolLosing$Text" "margin" "[I") ∈ tbX := tb_2 (i := 38) rfl rfl
theorem t_283 : (Jvm.Cond.fieldLink "SchoolLosing$Text" (18 : Nat) "SchoolLosing$Text" "moves" "[I") ∈ tbX := tb_2 (i := 43) rfl rfl
theorem t_288 : (Jvm.Cond.fieldLink "SchoolLosing$Text" (21 : Nat) "SchoolLosing$Text" "deep" "[I") ∈ tbX := tb_2 (i := 48) rfl rfl
theorem t_291 : (Jvm.Cond.fieldLink "SchoolLosing$Text" (24 : Nat) "SchoolLosing$Text" "to" "[I") ∈ tbX := tb_2 (i := 51) rfl rfl
theorem t_296 : (Jvm.Cond.fieldLink "SchoolLosing$Text" (27 : Nat) "SchoolLosing$Text" "shows" "[I") ∈ tbX := tb_2 (i := 56) rfl rfl
theorem t_299 : (Jvm.Cond.fieldLink "SchoolLosing$Text" (30 : Nat) "SchoolLosing$Text" "skill" "[I") ∈ tbX := tb_2 (i := 59) rfl rfl
theorem t_302 : (Jvm.Cond.fieldLink "SchoolLosing$Text" (33 : Nat) "SchoolLosing$Text" "eye" "[I") ∈ tbX := tb_2 (i := 62) rfl rfl
theorem t_305 : (Jvm.Cond.fieldLink "SchoolLosing$Text" (36 : Nat) "SchoolLosing$Text" "hours" "[I") ∈ tbX := tb_2 (i := 65) rfl rfl
theorem t_308 : (Jvm.Cond.fieldLink "SchoolLosing$Text" (39 : Nat) "SchoolLosing$Text" "needs" "[I") ∈ tbX := tb_2 (i := 68) rfl rfl
theorem t_311 : (Jvm.Cond.fieldLink "SchoolLosing$Text" (42 : Nat) "SchoolLosing$Text" "pride" "[I") ∈ tbX := tb_2 (i := 71) rfl rfl
theorem t_314 : (Jvm.Cond.fieldLink "SchoolLosing$Text" (45 : Nat) "SchoolLosing$Text" "faces" "[I") ∈ tbX := tb_2 (i := 74) rfl rfl
theorem t_316 : (Jvm.Cond.fieldLink "SchoolLosing$Text" (48 : Nat) "SchoolLosing$Text" "lower" "[I") ∈ tbX := tb_2 (i := 76) rfl rfl
theorem t_318 : (Jvm.Cond.fieldLink "SchoolLosing$Text" (54 : Nat) "SchoolLosing$Text" "laws" "LSchoolLosing$Laws;") ∈ tbX := tb_2 (i := 78) rfl rfl
theorem t_321 : (Jvm.Cond.fieldLink "SchoolLosing$Text" (58 : Nat) "SchoolLosing$Text" "positions" "I") ∈ tbX := tb_2 (i := 81) rfl rfl
theorem t_325 : (Jvm.Cond.fieldLink "SchoolLosing$Text" (62 : Nat) "SchoolLosing$Text" "men" "I") ∈ tbX := tb_2 (i := 85) rfl rfl
theorem t_328 : (Jvm.Cond.fieldLink "SchoolLosing$Text" (65 : Nat) "SchoolLosing$Text" "lessons" "I") ∈ tbX := tb_2 (i := 88) rfl rfl
theorem t_331 : (Jvm.Cond.fieldLink "SchoolLosing$Text" (68 : Nat) "SchoolLosing$Text" "courts" "I") ∈ tbX := tb_2 (i := 91) rfl rfl
theorem t_334 : (Jvm.Cond.fieldLink "SchoolLosing$Text" (71 : Nat) "SchoolLosing$Text" "dice" "I") ∈ tbX := tb_2 (i := 94) rfl rfl
theorem t_337 : (Jvm.Cond.fieldLink "SchoolLosing$Text" (74 : Nat) "SchoolLosing$Text" "seed" "I") ∈ tbX := tb_2 (i := 97) rfl rfl
theorem t_94 : (Jvm.Cond.fieldLink "SchoolLosing$Tokens" (9 : Nat) "SchoolLosing$Tokens" "tape" "[B") ∈ tbX := tb_1 (i := 94) rfl rfl
theorem t_95 : (Jvm.Cond.fieldLink "SchoolLosing$Tokens" (15 : Nat) "SchoolLosing$Tokens" "kinds" "[I") ∈ tbX := tb_1 (i := 95) rfl rfl
theorem t_97 : (Jvm.Cond.fieldLink "SchoolLosing$Tokens" (19 : Nat) "SchoolLosing$Tokens" "places" "[I") ∈ tbX := tb_1 (i := 97) rfl rfl
theorem t_99 : (Jvm.Cond.fieldLink "SchoolLosing$Tokens" (22 : Nat) "SchoolLosing$Tokens" "values" "[J") ∈ tbX := tb_1 (i := 99) rfl rfl
theorem t_101 : (Jvm.Cond.fieldLink "SchoolLosing$Tokens" (26 : Nat) "SchoolLosing$Tokens" "words" "[J") ∈ tbX := tb_1 (i := 101) rfl rfl
theorem t_103 : (Jvm.Cond.fieldLink "SchoolLosing$Tokens" (45 : Nat) "SchoolLosing$Tokens" "length" "I") ∈ tbX := tb_1 (i := 103) rfl rfl
theorem t_197 : (Jvm.Cond.fieldLink "SchoolLosing$Wants" (9 : Nat) "SchoolLosing$Wants" "ends" "[I") ∈ tbX := tb_1 (i := 197) rfl rfl
theorem t_199 : (Jvm.Cond.fieldLink "SchoolLosing$Wants" (15 : Nat) "SchoolLosing$Wants" "moves" "[I") ∈ tbX := tb_1 (i := 199) rfl rfl
theorem t_322 : (Jvm.Cond.fieldLink "SchoolLosing$Wants" (18 : Nat) "SchoolLosing$Text" "positions" "I") ∈ tbX := tb_2 (i := 82) rfl rfl
theorem t_274 : (Jvm.Cond.fieldLink "SchoolLosing$Wants" (24 : Nat) "SchoolLosing$Text" "side" "[I") ∈ tbX := tb_2 (i := 34) rfl rfl
theorem t_279 : (Jvm.Cond.fieldLink "SchoolLosing$Wants" (27 : Nat) "SchoolLosing$Text" "margin" "[I") ∈ tbX := tb_2 (i := 39) rfl rfl
theorem t_285 : (Jvm.Cond.fieldLink "SchoolLosing$Wants" (37 : Nat) "SchoolLosing$Text" "moves" "[I") ∈ tbX := tb_2 (i := 45) rfl rfl
theorem t_293 : (Jvm.Cond.fieldLink "SchoolLosing$Wants" (42 : Nat) "SchoolLosing$Text" "to" "[I") ∈ tbX := tb_2 (i := 53) rfl rfl
theorem t_404 : (Jvm.Cond.fieldLink "SchoolLosing" (12 : Nat) "SchoolLosing" "reader" "LSchoolLosing$Reader;") ∈ tbX := tb_2 (i := 164) rfl rfl
theorem t_121 : (Jvm.Cond.fieldLink "SchoolLosing" (16 : Nat) "SchoolLosing$Reader" "tokens" "LSchoolLosing$Tokens;") ∈ tbX := tb_1 (i := 121) rfl rfl
theorem t_405 : (Jvm.Cond.fieldLink "SchoolLosing" (20 : Nat) "SchoolLosing" "tokens" "LSchoolLosing$Tokens;") ∈ tbX := tb_2 (i := 165) rfl rfl
theorem t_406 : (Jvm.Cond.fieldLink "SchoolLosing" (24 : Nat) "SchoolLosing" "going" "LSchoolLosing$Going;") ∈ tbX := tb_2 (i := 166) rfl rfl
theorem t_407 : (Jvm.Cond.fieldLink "SchoolLosing" (31 : Nat) "SchoolLosing" "byWant" "LSchoolLosing$Wants;") ∈ tbX := tb_2 (i := 167) rfl rfl
theorem t_408 : (Jvm.Cond.fieldLink "SchoolLosing" (38 : Nat) "SchoolLosing" "chances" "LSchoolLosing$Chances;") ∈ tbX := tb_2 (i := 168) rfl rfl
theorem t_409 : (Jvm.Cond.fieldLink "SchoolLosing" (45 : Nat) "SchoolLosing" "choice" "LSchoolLosing$Choice;") ∈ tbX := tb_2 (i := 169) rfl rfl
theorem t_410 : (Jvm.Cond.fieldLink "SchoolLosing" (49 : Nat) "SchoolLosing" "sure" "[I") ∈ tbX := tb_2 (i := 170) rfl rfl
theorem t_411 : (Jvm.Cond.fieldLink "SchoolLosing" (53 : Nat) "SchoolLosing" "paid" "[J") ∈ tbX := tb_2 (i := 171) rfl rfl
theorem t_412 : (Jvm.Cond.fieldLink "SchoolLosing" (57 : Nat) "SchoolLosing" "toldMan" "[I") ∈ tbX := tb_2 (i := 172) rfl rfl
theorem t_413 : (Jvm.Cond.fieldLink "SchoolLosing" (60 : Nat) "SchoolLosing" "toldTurn" "[I") ∈ tbX := tb_2 (i := 173) rfl rfl
theorem t_414 : (Jvm.Cond.fieldLink "SchoolLosing" (63 : Nat) "SchoolLosing" "toldMove" "[I") ∈ tbX := tb_2 (i := 174) rfl rfl
theorem t_415 : (Jvm.Cond.fieldLink "SchoolLosing" (69 : Nat) "SchoolLosing" "text" "LSchoolLosing$Text;") ∈ tbX := tb_2 (i := 175) rfl rfl
theorem t_416 : (Jvm.Cond.fieldLink "SchoolLosing" (73 : Nat) "SchoolLosing" "spare" "LSchoolLosing$Text;") ∈ tbX := tb_2 (i := 176) rfl rfl
theorem t_418 : (Jvm.Cond.fieldLink "SchoolLosing" (76 : Nat) "SchoolLosing" "faultPlace" "I") ∈ tbX := tb_2 (i := 178) rfl rfl
theorem t_102 : (Jvm.Cond.fieldLink "SchoolLosing" (84 : Nat) "SchoolLosing$Tokens" "length" "I") ∈ tbX := tb_1 (i := 102) rfl rfl
theorem t_132 : (Jvm.Cond.fieldLink "SchoolLosing" (100 : Nat) "SchoolLosing$Reader" "faultPlace" "I") ∈ tbX := tb_1 (i := 132) rfl rfl
theorem t_417 : (Jvm.Cond.fieldLink "SchoolLosing" (101 : Nat) "SchoolLosing" "told" "I") ∈ tbX := tb_2 (i := 177) rfl rfl
theorem t_277 : (Jvm.Cond.fieldLink "SchoolLosing" (108 : Nat) "SchoolLosing$Text" "side" "[I") ∈ tbX := tb_2 (i := 37) rfl rfl
theorem t_282 : (Jvm.Cond.fieldLink "SchoolLosing" (111 : Nat) "SchoolLosing$Text" "margin" "[I") ∈ tbX := tb_2 (i := 42) rfl rfl
theorem t_287 : (Jvm.Cond.fieldLink "SchoolLosing" (114 : Nat) "SchoolLosing$Text" "moves" "[I") ∈ tbX := tb_2 (i := 47) rfl rfl
theorem t_290 : (Jvm.Cond.fieldLink "SchoolLosing" (117 : Nat) "SchoolLosing$Text" "deep" "[I") ∈ tbX := tb_2 (i := 50) rfl rfl
theorem t_298 : (Jvm.Cond.fieldLink "SchoolLosing" (124 : Nat) "SchoolLosing$Text" "shows" "[I") ∈ tbX := tb_2 (i := 58) rfl rfl
theorem t_295 : (Jvm.Cond.fieldLink "SchoolLosing" (127 : Nat) "SchoolLosing$Text" "to" "[I") ∈ tbX := tb_2 (i := 55) rfl rfl
theorem t_304 : (Jvm.Cond.fieldLink "SchoolLosing" (138 : Nat) "SchoolLosing$Text" "eye" "[I") ∈ tbX := tb_2 (i := 64) rfl rfl
theorem t_169 : (Jvm.Cond.fieldLink "SchoolLosing" (141 : Nat) "SchoolLosing$Going" "now" "[I") ∈ tbX := tb_1 (i := 169) rfl rfl
theorem t_324 : (Jvm.Cond.fieldLink "SchoolLosing" (152 : Nat) "SchoolLosing$Text" "positions" "I") ∈ tbX := tb_2 (i := 84) rfl rfl
theorem t_327 : (Jvm.Cond.fieldLink "SchoolLosing" (155 : Nat) "SchoolLosing$Text" "men" "I") ∈ tbX := tb_2 (i := 87) rfl rfl
theorem t_330 : (Jvm.Cond.fieldLink "SchoolLosing" (158 : Nat) "SchoolLosing$Text" "lessons" "I") ∈ tbX := tb_2 (i := 90) rfl rfl
theorem t_333 : (Jvm.Cond.fieldLink "SchoolLosing" (161 : Nat) "SchoolLosing$Text" "courts" "I") ∈ tbX := tb_2 (i := 93) rfl rfl
theorem t_336 : (Jvm.Cond.fieldLink "SchoolLosing" (164 : Nat) "SchoolLosing$Text" "dice" "I") ∈ tbX := tb_2 (i := 96) rfl rfl
theorem t_176 : (Jvm.Cond.fieldLink "SchoolLosing" (167 : Nat) "SchoolLosing$Going" "pasts" "I") ∈ tbX := tb_1 (i := 176) rfl rfl
theorem t_310 : (Jvm.Cond.fieldLink "SchoolLosing" (189 : Nat) "SchoolLosing$Text" "needs" "[I") ∈ tbX := tb_2 (i := 70) rfl rfl
theorem t_171 : (Jvm.Cond.fieldLink "SchoolLosing" (207 : Nat) "SchoolLosing$Going" "held" "[Z") ∈ tbX := tb_1 (i := 171) rfl rfl
theorem t_198 : (Jvm.Cond.fieldLink "SchoolLosing" (218 : Nat) "SchoolLosing$Wants" "ends" "[I") ∈ tbX := tb_1 (i := 198) rfl rfl
theorem t_201 : (Jvm.Cond.fieldLink "SchoolLosing" (221 : Nat) "SchoolLosing$Wants" "moves" "[I") ∈ tbX := tb_1 (i := 201) rfl rfl
theorem t_214 : (Jvm.Cond.fieldLink "SchoolLosing" (240 : Nat) "SchoolLosing$Chances" "ends" "[J") ∈ tbX := tb_1 (i := 214) rfl rfl
theorem t_230 : (Jvm.Cond.fieldLink "SchoolLosing" (251 : Nat) "SchoolLosing$Choice" "needs" "[I") ∈ tbX := tb_1 (i := 230) rfl rfl
theorem t_228 : (Jvm.Cond.fieldLink "SchoolLosing" (252 : Nat) "SchoolLosing$Choice" "cost" "[I") ∈ tbX := tb_1 (i := 228) rfl rfl
theorem t_232 : (Jvm.Cond.fieldLink "SchoolLosing" (258 : Nat) "SchoolLosing$Choice" "least" "[I") ∈ tbX := tb_1 (i := 232) rfl rfl
theorem t_320 : (Jvm.Cond.fieldLink "SchoolLosing" (264 : Nat) "SchoolLosing$Text" "laws" "LSchoolLosing$Laws;") ∈ tbX := tb_2 (i := 80) rfl rfl
theorem t_313 : (Jvm.Cond.fieldLink "SchoolLosing" (268 : Nat) "SchoolLosing$Text" "pride" "[I") ∈ tbX := tb_2 (i := 73) rfl rfl
theorem t_317 : (Jvm.Cond.fieldLink "SchoolLosing" (282 : Nat) "SchoolLosing$Text" "lower" "[I") ∈ tbX := tb_2 (i := 77) rfl rfl
theorem t_301 : (Jvm.Cond.fieldLink "SchoolLosing" (310 : Nat) "SchoolLosing$Text" "skill" "[I") ∈ tbX := tb_2 (i := 61) rfl rfl
theorem t_307 : (Jvm.Cond.fieldLink "SchoolLosing" (316 : Nat) "SchoolLosing$Text" "hours" "[I") ∈ tbX := tb_2 (i := 67) rfl rfl
theorem t_339 : (Jvm.Cond.fieldLink "SchoolLosing" (329 : Nat) "SchoolLosing$Text" "seed" "I") ∈ tbX := tb_2 (i := 99) rfl rfl
theorem t_1058 : (Jvm.Cond.fieldLink "SchoolLosingModel" (13 : Nat) "SchoolLosingModel" "tape" "[B") ∈ tbX := tb_5 (i := 98) rfl rfl
theorem t_1060 : (Jvm.Cond.fieldLink "SchoolLosingModel" (17 : Nat) "SchoolLosingModel" "text" "[B") ∈ tbX := tb_5 (i := 100) rfl rfl
theorem t_1062 : (Jvm.Cond.fieldLink "SchoolLosingModel" (20 : Nat) "SchoolLosingModel" "tKind" "[I") ∈ tbX := tb_5 (i := 102) rfl rfl
theorem t_1063 : (Jvm.Cond.fieldLink "SchoolLosingModel" (24 : Nat) "SchoolLosingModel" "tPlace" "[I") ∈ tbX := tb_5 (i := 103) rfl rfl
theorem t_1064 : (Jvm.Cond.fieldLink "SchoolLosingModel" (27 : Nat) "SchoolLosingModel" "tValue" "[I") ∈ tbX := tb_5 (i := 104) rfl rfl
theorem t_1065 : (Jvm.Cond.fieldLink "SchoolLosingModel" (30 : Nat) "SchoolLosingModel" "tName" "[J") ∈ tbX := tb_5 (i := 105) rfl rfl
theorem t_1066 : (Jvm.Cond.fieldLink "SchoolLosingModel" (34 : Nat) "SchoolLosingModel" "keys" "[J") ∈ tbX := tb_5 (i := 106) rfl rfl
theorem t_1074 : (Jvm.Cond.fieldLink "SchoolLosingModel" (37 : Nat) "SchoolLosingModel" "place" "I") ∈ tbX := tb_5 (i := 114) rfl rfl
theorem t_1078 : (Jvm.Cond.fieldLink "SchoolLosingModel" (40 : Nat) "SchoolLosingModel" "nameOf" "[J") ∈ tbX := tb_5 (i := 118) rfl rfl
theorem t_1079 : (Jvm.Cond.fieldLink "SchoolLosingModel" (43 : Nat) "SchoolLosingModel" "nameSort" "[I") ∈ tbX := tb_5 (i := 119) rfl rfl
theorem t_1080 : (Jvm.Cond.fieldLink "SchoolLosingModel" (46 : Nat) "SchoolLosingModel" "nameAt" "[I") ∈ tbX := tb_5 (i := 120) rfl rfl
theorem t_1081 : (Jvm.Cond.fieldLink "SchoolLosingModel" (49 : Nat) "SchoolLosingModel" "positions" "[I") ∈ tbX := tb_5 (i := 121) rfl rfl
theorem t_1082 : (Jvm.Cond.fieldLink "SchoolLosingModel" (52 : Nat) "SchoolLosingModel" "turnOf" "[I") ∈ tbX := tb_5 (i := 122) rfl rfl
theorem t_1083 : (Jvm.Cond.fieldLink "SchoolLosingModel" (55 : Nat) "SchoolLosingModel" "marginOf" "[I") ∈ tbX := tb_5 (i := 123) rfl rfl
theorem t_1084 : (Jvm.Cond.fieldLink "SchoolLosingModel" (58 : Nat) "SchoolLosingModel" "movesOf" "[I") ∈ tbX := tb_5 (i := 124) rfl rfl
theorem t_1085 : (Jvm.Cond.fieldLink "SchoolLosingModel" (61 : Nat) "SchoolLosingModel" "deepOf" "[I") ∈ tbX := tb_5 (i := 125) rfl rfl
theorem t_1086 : (Jvm.Cond.fieldLink "SchoolLosingModel" (64 : Nat) "SchoolLosingModel" "moveTo" "[I") ∈ tbX := tb_5 (i := 126) rfl rfl
theorem t_1087 : (Jvm.Cond.fieldLink "SchoolLosingModel" (67 : Nat) "SchoolLosingModel" "moveShows" "[I") ∈ tbX := tb_5 (i := 127) rfl rfl
theorem t_1088 : (Jvm.Cond.fieldLink "SchoolLosingModel" (70 : Nat) "SchoolLosingModel" "men" "[I") ∈ tbX := tb_5 (i := 128) rfl rfl
theorem t_1089 : (Jvm.Cond.fieldLink "SchoolLosingModel" (73 : Nat) "SchoolLosingModel" "skillTold" "[I") ∈ tbX := tb_5 (i := 129) rfl rfl
theorem t_1090 : (Jvm.Cond.fieldLink "SchoolLosingModel" (76 : Nat) "SchoolLosingModel" "eyeOf" "[I") ∈ tbX := tb_5 (i := 130) rfl rfl
theorem t_1091 : (Jvm.Cond.fieldLink "SchoolLosingModel" (79 : Nat) "SchoolLosingModel" "lessons" "[I") ∈ tbX := tb_5 (i := 131) rfl rfl
theorem t_1092 : (Jvm.Cond.fieldLink "SchoolLosingModel" (82 : Nat) "SchoolLosingModel" "hoursOf" "[I") ∈ tbX := tb_5 (i := 132) rfl rfl
theorem t_1093 : (Jvm.Cond.fieldLink "SchoolLosingModel" (85 : Nat) "SchoolLosingModel" "needsOf" "[I") ∈ tbX := tb_5 (i := 133) rfl rfl
theorem t_1094 : (Jvm.Cond.fieldLink "SchoolLosingModel" (88 : Nat) "SchoolLosingModel" "courts" "[I") ∈ tbX := tb_5 (i := 134) rfl rfl
theorem t_1095 : (Jvm.Cond.fieldLink "SchoolLosingModel" (91 : Nat) "SchoolLosingModel" "prideOf" "[I") ∈ tbX := tb_5 (i := 135) rfl rfl
theorem t_1096 : (Jvm.Cond.fieldLink "SchoolLosingModel" (94 : Nat) "SchoolLosingModel" "dice" "[I") ∈ tbX := tb_5 (i := 136) rfl rfl
theorem t_1097 : (Jvm.Cond.fieldLink "SchoolLosingModel" (97 : Nat) "SchoolLosingModel" "faceOf" "[I") ∈ tbX := tb_5 (i := 137) rfl rfl
theorem t_1098 : (Jvm.Cond.fieldLink "SchoolLosingModel" (100 : Nat) "SchoolLosingModel" "seed" "[I") ∈ tbX := tb_5 (i := 138) rfl rfl
theorem t_1099 : (Jvm.Cond.fieldLink "SchoolLosingModel" (103 : Nat) "SchoolLosingModel" "lawFirst" "[I") ∈ tbX := tb_5 (i := 139) rfl rfl
theorem t_1100 : (Jvm.Cond.fieldLink "SchoolLosingModel" (106 : Nat) "SchoolLosingModel" "lawLast" "[I") ∈ tbX := tb_5 (i := 140) rfl rfl
theorem t_1102 : (Jvm.Cond.fieldLink "SchoolLosingModel" (109 : Nat) "SchoolLosingModel" "hasTest" "[Z") ∈ tbX := tb_5 (i := 142) rfl rfl
theorem t_1103 : (Jvm.Cond.fieldLink "SchoolLosingModel" (113 : Nat) "SchoolLosingModel" "testFrom" "[I") ∈ tbX := tb_5 (i := 143) rfl rfl
theorem t_1104 : (Jvm.Cond.fieldLink "SchoolLosingModel" (116 : Nat) "SchoolLosingModel" "testMid" "[I") ∈ tbX := tb_5 (i := 144) rfl rfl
theorem t_1105 : (Jvm.Cond.fieldLink "SchoolLosingModel" (119 : Nat) "SchoolLosingModel" "testTo" "[I") ∈ tbX := tb_5 (i := 145) rfl rfl
theorem t_1106 : (Jvm.Cond.fieldLink "SchoolLosingModel" (122 : Nat) "SchoolLosingModel" "termTo" "[I") ∈ tbX := tb_5 (i := 146) rfl rfl
theorem t_1108 : (Jvm.Cond.fieldLink "SchoolLosingModel" (125 : Nat) "SchoolLosingModel" "code" "[I") ∈ tbX := tb_5 (i := 148) rfl rfl
theorem t_1109 : (Jvm.Cond.fieldLink "SchoolLosingModel" (128 : Nat) "SchoolLosingModel" "codeInt" "[I") ∈ tbX := tb_5 (i := 149) rfl rfl
theorem t_1110 : (Jvm.Cond.fieldLink "SchoolLosingModel" (131 : Nat) "SchoolLosingModel" "waits" "[I") ∈ tbX := tb_5 (i := 150) rfl rfl
theorem t_1112 : (Jvm.Cond.fieldLink "SchoolLosingModel" (134 : Nat) "SchoolLosingModel" "variables" "[I") ∈ tbX := tb_5 (i := 152) rfl rfl
theorem t_1113 : (Jvm.Cond.fieldLink "SchoolLosingModel" (137 : Nat) "SchoolLosingModel" "pile" "[I") ∈ tbX := tb_5 (i := 153) rfl rfl
theorem t_1115 : (Jvm.Cond.fieldLink "SchoolLosingModel" (140 : Nat) "SchoolLosingModel" "now" "[I") ∈ tbX := tb_5 (i := 155) rfl rfl
theorem t_1116 : (Jvm.Cond.fieldLink "SchoolLosingModel" (143 : Nat) "SchoolLosingModel" "row" "[I") ∈ tbX := tb_5 (i := 156) rfl rfl
theorem t_1117 : (Jvm.Cond.fieldLink "SchoolLosingModel" (146 : Nat) "SchoolLosingModel" "wanted" "[I") ∈ tbX := tb_5 (i := 157) rfl rfl
theorem t_1118 : (Jvm.Cond.fieldLink "SchoolLosingModel" (149 : Nat) "SchoolLosingModel" "wantMove" "[I") ∈ tbX := tb_5 (i := 158) rfl rfl
theorem t_1120 : (Jvm.Cond.fieldLink "SchoolLosingModel" (152 : Nat) "SchoolLosingModel" "history" "[I") ∈ tbX := tb_5 (i := 160) rfl rfl
theorem t_1121 : (Jvm.Cond.fieldLink "SchoolLosingModel" (155 : Nat) "SchoolLosingModel" "isSure" "[Z") ∈ tbX := tb_5 (i := 161) rfl rfl
theorem t_1122 : (Jvm.Cond.fieldLink "SchoolLosingModel" (158 : Nat) "SchoolLosingModel" "oftenBy" "[I") ∈ tbX := tb_5 (i := 162) rfl rfl
theorem t_1127 : (Jvm.Cond.fieldLink "SchoolLosingModel" (161 : Nat) "SchoolLosingModel" "toldMan" "[I") ∈ tbX := tb_5 (i := 167) rfl rfl
theorem t_1128 : (Jvm.Cond.fieldLink "SchoolLosingModel" (164 : Nat) "SchoolLosingModel" "toldAt" "[I") ∈ tbX := tb_5 (i := 168) rfl rfl
theorem t_1129 : (Jvm.Cond.fieldLink "SchoolLosingModel" (167 : Nat) "SchoolLosingModel" "toldMove" "[I") ∈ tbX := tb_5 (i := 169) rfl rfl
theorem t_1130 : (Jvm.Cond.fieldLink "SchoolLosingModel" (170 : Nat) "SchoolLosingModel" "isHeld" "[Z") ∈ tbX := tb_5 (i := 170) rfl rfl
theorem t_1131 : (Jvm.Cond.fieldLink "SchoolLosingModel" (173 : Nat) "SchoolLosingModel" "heldRows" "[I") ∈ tbX := tb_5 (i := 171) rfl rfl
theorem t_1059 : (Jvm.Cond.fieldLink "SchoolLosingModel" (190 : Nat) "SchoolLosingModel" "taped" "I") ∈ tbX := tb_5 (i := 99) rfl rfl
theorem t_1061 : (Jvm.Cond.fieldLink "SchoolLosingModel" (196 : Nat) "SchoolLosingModel" "size" "I") ∈ tbX := tb_5 (i := 101) rfl rfl
theorem t_1067 : (Jvm.Cond.fieldLink "SchoolLosingModel" (205 : Nat) "SchoolLosingModel" "tokens" "I") ∈ tbX := tb_5 (i := 107) rfl rfl
theorem t_1070 : (Jvm.Cond.fieldLink "SchoolLosingModel" (227 : Nat) "SchoolLosingModel" "fault" "I") ∈ tbX := tb_5 (i := 110) rfl rfl
theorem t_1068 : (Jvm.Cond.fieldLink "SchoolLosingModel" (230 : Nat) "SchoolLosingModel" "t" "I") ∈ tbX := tb_5 (i := 108) rfl rfl
theorem t_1071 : (Jvm.Cond.fieldLink "SchoolLosingModel" (233 : Nat) "SchoolLosingModel" "faultPlace" "I") ∈ tbX := tb_5 (i := 111) rfl rfl
theorem t_1072 : (Jvm.Cond.fieldLink "SchoolLosingModel" (236 : Nat) "SchoolLosingModel" "worst" "I") ∈ tbX := tb_5 (i := 112) rfl rfl
theorem t_1073 : (Jvm.Cond.fieldLink "SchoolLosingModel" (239 : Nat) "SchoolLosingModel" "worstPlace" "I") ∈ tbX := tb_5 (i := 113) rfl rfl
theorem t_1069 : (Jvm.Cond.fieldLink "SchoolLosingModel" (254 : Nat) "SchoolLosingModel" "open" "I") ∈ tbX := tb_5 (i := 109) rfl rfl
theorem t_1075 : (Jvm.Cond.fieldLink "SchoolLosingModel" (257 : Nat) "SchoolLosingModel" "live" "I") ∈ tbX := tb_5 (i := 115) rfl rfl
theorem t_1076 : (Jvm.Cond.fieldLink "SchoolLosingModel" (260 : Nat) "SchoolLosingModel" "side" "I") ∈ tbX := tb_5 (i := 116) rfl rfl
theorem t_1077 : (Jvm.Cond.fieldLink "SchoolLosingModel" (263 : Nat) "SchoolLosingModel" "names" "I") ∈ tbX := tb_5 (i := 117) rfl rfl
theorem t_1101 : (Jvm.Cond.fieldLink "SchoolLosingModel" (266 : Nat) "SchoolLosingModel" "branches" "I") ∈ tbX := tb_5 (i := 141) rfl rfl
theorem t_1107 : (Jvm.Cond.fieldLink "SchoolLosingModel" (269 : Nat) "SchoolLosingModel" "codes" "I") ∈ tbX := tb_5 (i := 147) rfl rfl
theorem t_1119 : (Jvm.Cond.fieldLink "SchoolLosingModel" (275 : Nat) "SchoolLosingModel" "undos" "I") ∈ tbX := tb_5 (i := 159) rfl rfl
theorem t_1126 : (Jvm.Cond.fieldLink "SchoolLosingModel" (278 : Nat) "SchoolLosingModel" "told" "I") ∈ tbX := tb_5 (i := 166) rfl rfl
theorem t_1111 : (Jvm.Cond.fieldLink "SchoolLosingModel" (333 : Nat) "SchoolLosingModel" "waiting" "I") ∈ tbX := tb_5 (i := 151) rfl rfl
theorem t_1114 : (Jvm.Cond.fieldLink "SchoolLosingModel" (346 : Nat) "SchoolLosingModel" "isBroken" "Z") ∈ tbX := tb_5 (i := 154) rfl rfl
theorem t_1124 : (Jvm.Cond.fieldLink "SchoolLosingModel" (463 : Nat) "SchoolLosingModel" "bestWay" "I") ∈ tbX := tb_5 (i := 164) rfl rfl
theorem t_1123 : (Jvm.Cond.fieldLink "SchoolLosingModel" (469 : Nat) "SchoolLosingModel" "bestHours" "I") ∈ tbX := tb_5 (i := 163) rfl rfl
theorem t_1125 : (Jvm.Cond.fieldLink "SchoolLosingModel" (481 : Nat) "SchoolLosingModel" "bestSuits" "I") ∈ tbX := tb_5 (i := 165) rfl rfl
theorem t_1717 : (Jvm.Cond.fieldLink "java/lang/String" (9 : Nat) "java/lang/String" "value" "[B") ∈ tbX := tb_8 (i := 37) rfl rfl
theorem t_1718 : (Jvm.Cond.fieldLink "java/lang/String" (15 : Nat) "java/lang/String" "coder" "B") ∈ tbX := tb_8 (i := 38) rfl rfl
theorem t_211 : (Jvm.Cond.code ({ cls := "SchoolLosing$Chances", name := "<init>", desc := "()V" } : Jvm.MethodName) prog_2_method_1_code (1 : Nat) (Option.none : Option Jvm.ClassFile.FieldType)) ∈ tbX := tb_1 (i := 211) rfl rfl
theorem t_10 : (Jvm.Cond.initialized "SchoolLosing$Chances") ∈ tbX := tb_1 (i := 10) rfl rfl
theorem t_908 : (Jvm.Cond.code ({ cls := "SchoolLosing$Chances", name := "look", desc := "(LSchoolLosing$Text;LSchoolLosing$Wants;III)V" } : Jvm.MethodName) prog_2_method_2_code (7 : Nat) (Option.none : Option Jvm.ClassFile.FieldType)) ∈ tbX := tb_4 (i := 188) rfl rfl
theorem t_916 : (Jvm.Cond.code ({ cls := "SchoolLosing$Chances", name := "leave", desc := "(LSchoolLosing$Text;III)V" } : Jvm.MethodName) prog_2_method_3_code (7 : Nat) (Option.none : Option Jvm.ClassFile.FieldType)) ∈ tbX := tb_4 (i := 196) rfl rfl
theorem t_932 : (Jvm.Cond.code ({ cls := "SchoolLosing$Chances", name := "likeliest", desc := "()I" } : Jvm.MethodName) prog_2_method_4_code (3 : Nat) (Option.some Jvm.ClassFile.FieldType.int)) ∈ tbX := tb_4 (i := 212) rfl rfl
theorem t_920 : (Jvm.Cond.code ({ cls := "SchoolLosing$Chances", name := "weight", desc := "(IZI)I" } : Jvm.MethodName) prog_2_method_5_code (4 : Nat) (Option.some Jvm.ClassFile.FieldType.int)) ∈ tbX := tb_4 (i := 200) rfl rfl
theorem t_225 : (Jvm.Cond.code ({ cls := "SchoolLosing$Choice", name := "<init>", desc := "()V" } : Jvm.MethodName) prog_3_method_1_code (1 : Nat) (Option.none : Option Jvm.ClassFile.FieldType)) ∈ tbX := tb_1 (i := 225) rfl rfl
theorem t_11 : (Jvm.Cond.initialized "SchoolLosing$Choice") ∈ tbX := tb_1 (i := 11) rfl rfl
theorem t_940 : (Jvm.Cond.code ({ cls := "SchoolLosing$Choice", name := "look", desc := "(II)V" } : Jvm.MethodName) prog_3_method_2_code (5 : Nat) (Option.none : Option Jvm.ClassFile.FieldType)) ∈ tbX := tb_4 (i := 220) rfl rfl
theorem t_955 : (Jvm.Cond.code ({ cls := "SchoolLosing$Choice", name := "pick", desc := "(I)I" } : Jvm.MethodName) prog_3_method_3_code (4 : Nat) (Option.some Jvm.ClassFile.FieldType.int)) ∈ tbX := tb_4 (i := 235) rfl rfl
theorem t_946 : (Jvm.Cond.code ({ cls := "SchoolLosing$Choice", name := "firstBest", desc := "(II)I" } : Jvm.MethodName) prog_3_method_4_code (5 : Nat) (Option.some Jvm.ClassFile.FieldType.int)) ∈ tbX := tb_4 (i := 226) rfl rfl
theorem t_950 : (Jvm.Cond.code ({ cls := "SchoolLosing$Choice", name := "costOf", desc := "(III)I" } : Jvm.MethodName) prog_3_method_5_code (5 : Nat) (Option.some Jvm.ClassFile.FieldType.int)) ∈ tbX := tb_4 (i := 230) rfl rfl
theorem t_166 : (Jvm.Cond.code ({ cls := "SchoolLosing$Going", name := "<init>", desc := "()V" } : Jvm.MethodName) prog_4_method_1_code (1 : Nat) (Option.none : Option Jvm.ClassFile.FieldType)) ∈ tbX := tb_1 (i := 166) rfl rfl
theorem t_8 : (Jvm.Cond.initialized "SchoolLosing$Going") ∈ tbX := tb_1 (i := 8) rfl rfl
theorem t_400 : (Jvm.Cond.code ({ cls := "SchoolLosing$Going", name := "clear", desc := "()V" } : Jvm.MethodName) prog_4_method_2_code (2 : Nat) (Option.none : Option Jvm.ClassFile.FieldType)) ∈ tbX := tb_2 (i := 160) rfl rfl
theorem t_749 : (Jvm.Cond.code ({ cls := "SchoolLosing$Going", name := "remember", desc := "()V" } : Jvm.MethodName) prog_4_method_3_code (1 : Nat) (Option.none : Option Jvm.ClassFile.FieldType)) ∈ tbX := tb_4 (i := 29) rfl rfl
theorem t_836 : (Jvm.Cond.code ({ cls := "SchoolLosing$Going", name := "comeBack", desc := "()Z" } : Jvm.MethodName) prog_4_method_4_code (1 : Nat) (Option.some Jvm.ClassFile.FieldType.boolean)) ∈ tbX := tb_4 (i := 116) rfl rfl
theorem t_844 : (Jvm.Cond.code ({ cls := "SchoolLosing$Going", name := "keep", desc := "(I)V" } : Jvm.MethodName) prog_4_method_5_code (2 : Nat) (Option.none : Option Jvm.ClassFile.FieldType)) ∈ tbX := tb_4 (i := 124) rfl rfl
theorem t_852 : (Jvm.Cond.code ({ cls := "SchoolLosing$Going", name := "goOnFrom", desc := "(I)V" } : Jvm.MethodName) prog_4_method_6_code (2 : Nat) (Option.none : Option Jvm.ClassFile.FieldType)) ∈ tbX := tb_4 (i := 132) rfl rfl
theorem t_734 : (Jvm.Cond.code ({ cls := "SchoolLosing$Going", name := "heldSlots", desc := "()I" } : Jvm.MethodName) prog_4_method_7_code (3 : Nat) (Option.some Jvm.ClassFile.FieldType.int)) ∈ tbX := tb_4 (i := 14) rfl rfl
theorem t_253 : (Jvm.Cond.code ({ cls := "SchoolLosing$Laws", name := "<init>", desc := "()V" } : Jvm.MethodName) prog_5_method_1_code (1 : Nat) (Option.none : Option Jvm.ClassFile.FieldType)) ∈ tbX := tb_2 (i := 13) rfl rfl
theorem t_13 : (Jvm.Cond.initialized "SchoolLosing$Laws") ∈ tbX := tb_1 (i := 13) rfl rfl
theorem t_388 : (Jvm.Cond.code ({ cls := "SchoolLosing$Laws", name := "clear", desc := "()V" } : Jvm.MethodName) prog_5_method_2_code (1 : Nat) (Option.none : Option Jvm.ClassFile.FieldType)) ∈ tbX := tb_2 (i := 148) rfl rfl
theorem t_392 : (Jvm.Cond.code ({ cls := "SchoolLosing$Laws", name := "writeShort", desc := "(II)V" } : Jvm.MethodName) prog_5_method_3_code (3 : Nat) (Option.none : Option Jvm.ClassFile.FieldType)) ∈ tbX := tb_2 (i := 152) rfl rfl
theorem t_396 : (Jvm.Cond.code ({ cls := "SchoolLosing$Laws", name := "write", desc := "(I)V" } : Jvm.MethodName) prog_5_method_4_code (2 : Nat) (Option.none : Option Jvm.ClassFile.FieldType)) ∈ tbX := tb_2 (i := 156) rfl rfl
theorem t_667 : (Jvm.Cond.code ({ cls := "SchoolLosing$Laws", name := "aimAtNext", desc := "(I)V" } : Jvm.MethodName) prog_5_method_5_code (2 : Nat) (Option.none : Option Jvm.ClassFile.FieldType)) ∈ tbX := tb_3 (i := 187) rfl rfl
theorem t_796 : (Jvm.Cond.code ({ cls := "SchoolLosing$Laws", name := "seeing", desc := "(IIII)I" } : Jvm.MethodName) prog_5_method_6_code (5 : Nat) (Option.some Jvm.ClassFile.FieldType.int)) ∈ tbX := tb_4 (i := 76) rfl rfl
theorem t_824 : (Jvm.Cond.code ({ cls := "SchoolLosing$Laws", name := "learning", desc := "(IIII)I" } : Jvm.MethodName) prog_5_method_7_code (5 : Nat) (Option.some Jvm.ClassFile.FieldType.int)) ∈ tbX := tb_4 (i := 104) rfl rfl
theorem t_963 : (Jvm.Cond.code ({ cls := "SchoolLosing$Laws", name := "suiting", desc := "(III)I" } : Jvm.MethodName) prog_5_method_8_code (4 : Nat) (Option.some Jvm.ClassFile.FieldType.int)) ∈ tbX := tb_5 (i := 3) rfl rfl
theorem t_996 : (Jvm.Cond.code ({ cls := "SchoolLosing$Laws", name := "payment", desc := "(I)I" } : Jvm.MethodName) prog_5_method_9_code (2 : Nat) (Option.some Jvm.ClassFile.FieldType.int)) ∈ tbX := tb_5 (i := 36) rfl rfl
theorem t_801 : (Jvm.Cond.code ({ cls := "SchoolLosing$Laws", name := "value", desc := "(I)I" } : Jvm.MethodName) prog_5_method_10_code (8 : Nat) (Option.some Jvm.ClassFile.FieldType.int)) ∈ tbX := tb_4 (i := 81) rfl rfl
theorem t_804 : (Jvm.Cond.code ({ cls := "SchoolLosing$Laws", name := "joined", desc := "(III)I" } : Jvm.MethodName) prog_5_method_11_code (3 : Nat) (Option.some Jvm.ClassFile.FieldType.int)) ∈ tbX := tb_4 (i := 84) rfl rfl
theorem t_32 : (Jvm.Cond.code ({ cls := "SchoolLosing$Reader", name := "<init>", desc := "()V" } : Jvm.MethodName) prog_6_method_1_code (1 : Nat) (Option.none : Option Jvm.ClassFile.FieldType)) ∈ tbX := tb_1 (i := 32) rfl rfl
theorem t_2 : (Jvm.Cond.initialized "SchoolLosing$Reader") ∈ tbX := tb_1 (i := 2) rfl rfl
theorem t_564 : (Jvm.Cond.code ({ cls := "SchoolLosing$Reader", name := "readAll", desc := "(LSchoolLosing$Text;)I" } : Jvm.MethodName) prog_6_method_2_code (3 : Nat) (Option.some Jvm.ClassFile.FieldType.int)) ∈ tbX := tb_3 (i := 84) rfl rfl
theorem t_573 : (Jvm.Cond.code ({ cls := "SchoolLosing$Reader", name := "readTell", desc := "(I)V" } : Jvm.MethodName) prog_6_method_3_code (2 : Nat) (Option.none : Option Jvm.ClassFile.FieldType)) ∈ tbX := tb_3 (i := 93) rfl rfl
theorem t_577 : (Jvm.Cond.code ({ cls := "SchoolLosing$Reader", name := "readEnd", desc := "()V" } : Jvm.MethodName) prog_6_method_4_code (6 : Nat) (Option.none : Option Jvm.ClassFile.FieldType)) ∈ tbX := tb_3 (i := 97) rfl rfl
theorem t_613 : (Jvm.Cond.code ({ cls := "SchoolLosing$Reader", name := "readTurn", desc := "()V" } : Jvm.MethodName) prog_6_method_5_code (6 : Nat) (Option.none : Option Jvm.ClassFile.FieldType)) ∈ tbX := tb_3 (i := 133) rfl rfl
theorem t_621 : (Jvm.Cond.code ({ cls := "SchoolLosing$Reader", name := "readMove", desc := "(II)V" } : Jvm.MethodName) prog_6_method_6_code (5 : Nat) (Option.none : Option Jvm.ClassFile.FieldType)) ∈ tbX := tb_3 (i := 141) rfl rfl
theorem t_630 : (Jvm.Cond.code ({ cls := "SchoolLosing$Reader", name := "readMan", desc := "()V" } : Jvm.MethodName) prog_6_method_7_code (3 : Nat) (Option.none : Option Jvm.ClassFile.FieldType)) ∈ tbX := tb_3 (i := 150) rfl rfl
theorem t_634 : (Jvm.Cond.code ({ cls := "SchoolLosing$Reader", name := "readLesson", desc := "()V" } : Jvm.MethodName) prog_6_method_8_code (8 : Nat) (Option.none : Option Jvm.ClassFile.FieldType)) ∈ tbX := tb_3 (i := 154) rfl rfl
theorem t_638 : (Jvm.Cond.code ({ cls := "SchoolLosing$Reader", name := "readCourt", desc := "()V" } : Jvm.MethodName) prog_6_method_9_code (3 : Nat) (Option.none : Option Jvm.ClassFile.FieldType)) ∈ tbX := tb_3 (i := 158) rfl rfl
theorem t_642 : (Jvm.Cond.code ({ cls := "SchoolLosing$Reader", name := "readDie", desc := "()V" } : Jvm.MethodName) prog_6_method_10_code (4 : Nat) (Option.none : Option Jvm.ClassFile.FieldType)) ∈ tbX := tb_3 (i := 162) rfl rfl
theorem t_646 : (Jvm.Cond.code ({ cls := "SchoolLosing$Reader", name := "readLaw", desc := "(I)V" } : Jvm.MethodName) prog_6_method_11_code (5 : Nat) (Option.none : Option Jvm.ClassFile.FieldType)) ∈ tbX := tb_3 (i := 166) rfl rfl
theorem t_650 : (Jvm.Cond.code ({ cls := "SchoolLosing$Reader", name := "readSum", desc := "()V" } : Jvm.MethodName) prog_6_method_12_code (5 : Nat) (Option.none : Option Jvm.ClassFile.FieldType)) ∈ tbX := tb_3 (i := 170) rfl rfl
theorem t_658 : (Jvm.Cond.code ({ cls := "SchoolLosing$Reader", name := "readUnit", desc := "(I)V" } : Jvm.MethodName) prog_6_method_13_code (2 : Nat) (Option.none : Option Jvm.ClassFile.FieldType)) ∈ tbX := tb_3 (i := 178) rfl rfl
theorem t_654 : (Jvm.Cond.code ({ cls := "SchoolLosing$Reader", name := "keepAside", desc := "(I)V" } : Jvm.MethodName) prog_6_method_14_code (2 : Nat) (Option.none : Option Jvm.ClassFile.FieldType)) ∈ tbX := tb_3 (i := 174) rfl rfl
theorem t_663 : (Jvm.Cond.code ({ cls := "SchoolLosing$Reader", name := "writeWaiting", desc := "(I)V" } : Jvm.MethodName) prog_6_method_15_code (2 : Nat) (Option.none : Option Jvm.ClassFile.FieldType)) ∈ tbX := tb_3 (i := 183) rfl rfl
theorem t_569 : (Jvm.Cond.code ({ cls := "SchoolLosing$Reader", name := "kind", desc := "()I" } : Jvm.MethodName) prog_6_method_16_code (1 : Nat) (Option.some Jvm.ClassFile.FieldType.int)) ∈ tbX := tb_3 (i := 89) rfl rfl
theorem t_617 : (Jvm.Cond.code ({ cls := "SchoolLosing$Reader", name := "here", desc := "()I" } : Jvm.MethodName) prog_6_method_17_code (1 : Nat) (Option.some Jvm.ClassFile.FieldType.int)) ∈ tbX := tb_3 (i := 137) rfl rfl
theorem t_589 : (Jvm.Cond.code ({ cls := "SchoolLosing$Reader", name := "take", desc := "(I)Z" } : Jvm.MethodName) prog_6_method_18_code (2 : Nat) (Option.some Jvm.ClassFile.FieldType.boolean)) ∈ tbX := tb_3 (i := 109) rfl rfl
theorem t_581 : (Jvm.Cond.code ({ cls := "SchoolLosing$Reader", name := "opens", desc := "(III)Z" } : Jvm.MethodName) prog_6_method_19_code (4 : Nat) (Option.some Jvm.ClassFile.FieldType.boolean)) ∈ tbX := tb_3 (i := 101) rfl rfl
theorem t_605 : (Jvm.Cond.code ({ cls := "SchoolLosing$Reader", name := "takeInt", desc := "(II)I" } : Jvm.MethodName) prog_6_method_20_code (5 : Nat) (Option.some Jvm.ClassFile.FieldType.int)) ∈ tbX := tb_3 (i := 125) rfl rfl
theorem t_593 : (Jvm.Cond.code ({ cls := "SchoolLosing$Reader", name := "takeNewName", desc := "()J" } : Jvm.MethodName) prog_6_method_21_code (2 : Nat) (Option.some Jvm.ClassFile.FieldType.long)) ∈ tbX := tb_3 (i := 113) rfl rfl
theorem t_625 : (Jvm.Cond.code ({ cls := "SchoolLosing$Reader", name := "takeKnown", desc := "(I)I" } : Jvm.MethodName) prog_6_method_22_code (4 : Nat) (Option.some Jvm.ClassFile.FieldType.int)) ∈ tbX := tb_3 (i := 145) rfl rfl
theorem t_597 : (Jvm.Cond.code ({ cls := "SchoolLosing$Reader", name := "indexOf", desc := "(J)I" } : Jvm.MethodName) prog_6_method_23_code (4 : Nat) (Option.some Jvm.ClassFile.FieldType.int)) ∈ tbX := tb_3 (i := 117) rfl rfl
theorem t_609 : (Jvm.Cond.code ({ cls := "SchoolLosing$Reader", name := "know", desc := "(JII)V" } : Jvm.MethodName) prog_6_method_24_code (5 : Nat) (Option.none : Option Jvm.ClassFile.FieldType)) ∈ tbX := tb_3 (i := 129) rfl rfl
theorem t_585 : (Jvm.Cond.code ({ cls := "SchoolLosing$Reader", name := "stop", desc := "(I)V" } : Jvm.MethodName) prog_6_method_25_code (2 : Nat) (Option.none : Option Jvm.ClassFile.FieldType)) ∈ tbX := tb_3 (i := 105) rfl rfl
theorem t_601 : (Jvm.Cond.code ({ cls := "SchoolLosing$Reader", name := "note", desc := "(II)V" } : Jvm.MethodName) prog_6_method_26_code (4 : Nat) (Option.none : Option Jvm.ClassFile.FieldType)) ∈ tbX := tb_3 (i := 121) rfl rfl
theorem t_247 : (Jvm.Cond.code ({ cls := "SchoolLosing$Text", name := "<init>", desc := "()V" } : Jvm.MethodName) prog_7_method_1_code (1 : Nat) (Option.none : Option Jvm.ClassFile.FieldType)) ∈ tbX := tb_2 (i := 7) rfl rfl
theorem t_12 : (Jvm.Cond.initialized "SchoolLosing$Text") ∈ tbX := tb_1 (i := 12) rfl rfl
theorem t_384 : (Jvm.Cond.code ({ cls := "SchoolLosing$Text", name := "clear", desc := "()V" } : Jvm.MethodName) prog_7_method_2_code (1 : Nat) (Option.none : Option Jvm.ClassFile.FieldType)) ∈ tbX := tb_2 (i := 144) rfl rfl
theorem t_671 : (Jvm.Cond.code ({ cls := "SchoolLosing$Text", name := "compareDice", desc := "()V" } : Jvm.MethodName) prog_7_method_3_code (3 : Nat) (Option.none : Option Jvm.ClassFile.FieldType)) ∈ tbX := tb_3 (i := 191) rfl rfl
theorem t_675 : (Jvm.Cond.code ({ cls := "SchoolLosing$Text", name := "throwsLower", desc := "(II)I" } : Jvm.MethodName) prog_7_method_4_code (6 : Nat) (Option.some Jvm.ClassFile.FieldType.int)) ∈ tbX := tb_3 (i := 195) rfl rfl
theorem t_38 : (Jvm.Cond.code ({ cls := "SchoolLosing$Tokens", name := "<init>", desc := "()V" } : Jvm.MethodName) prog_8_method_1_code (4 : Nat) (Option.none : Option Jvm.ClassFile.FieldType)) ∈ tbX := tb_1 (i := 38) rfl rfl
theorem t_3 : (Jvm.Cond.initialized "SchoolLosing$Tokens") ∈ tbX := tb_1 (i := 3) rfl rfl
theorem t_457 : (Jvm.Cond.code ({ cls := "SchoolLosing$Tokens", name := "addFour", desc := "(I)V" } : Jvm.MethodName) prog_8_method_2_code (3 : Nat) (Option.none : Option Jvm.ClassFile.FieldType)) ∈ tbX := tb_2 (i := 217) rfl rfl
theorem t_469 : (Jvm.Cond.code ({ cls := "SchoolLosing$Tokens", name := "split", desc := "()V" } : Jvm.MethodName) prog_8_method_3_code (4 : Nat) (Option.none : Option Jvm.ClassFile.FieldType)) ∈ tbX := tb_2 (i := 229) rfl rfl
theorem t_473 : (Jvm.Cond.code ({ cls := "SchoolLosing$Tokens", name := "behindBlanks", desc := "(I)I" } : Jvm.MethodName) prog_8_method_4_code (3 : Nat) (Option.some Jvm.ClassFile.FieldType.int)) ∈ tbX := tb_2 (i := 233) rfl rfl
theorem t_480 : (Jvm.Cond.code ({ cls := "SchoolLosing$Tokens", name := "splitOne", desc := "(II)I" } : Jvm.MethodName) prog_8_method_5_code (4 : Nat) (Option.some Jvm.ClassFile.FieldType.int)) ∈ tbX := tb_3 (i := 0) rfl rfl
theorem t_487 : (Jvm.Cond.code ({ cls := "SchoolLosing$Tokens", name := "splitWord", desc := "(II)I" } : Jvm.MethodName) prog_8_method_6_code (4 : Nat) (Option.some Jvm.ClassFile.FieldType.int)) ∈ tbX := tb_3 (i := 7) rfl rfl
theorem t_491 : (Jvm.Cond.code ({ cls := "SchoolLosing$Tokens", name := "kindOfWord", desc := "(J)I" } : Jvm.MethodName) prog_8_method_7_code (4 : Nat) (Option.some Jvm.ClassFile.FieldType.int)) ∈ tbX := tb_3 (i := 11) rfl rfl
theorem t_498 : (Jvm.Cond.code ({ cls := "SchoolLosing$Tokens", name := "splitNumber", desc := "(II)I" } : Jvm.MethodName) prog_8_method_8_code (4 : Nat) (Option.some Jvm.ClassFile.FieldType.int)) ∈ tbX := tb_3 (i := 18) rfl rfl
theorem t_91 : (Jvm.Cond.code ({ cls := "SchoolLosing$Tokens", name := "withLetter", desc := "(JI)J" } : Jvm.MethodName) prog_8_method_9_code (3 : Nat) (Option.some Jvm.ClassFile.FieldType.long)) ∈ tbX := tb_1 (i := 91) rfl rfl
theorem t_476 : (Jvm.Cond.code ({ cls := "SchoolLosing$Tokens", name := "isBlank", desc := "(I)Z" } : Jvm.MethodName) prog_8_method_10_code (1 : Nat) (Option.some Jvm.ClassFile.FieldType.boolean)) ∈ tbX := tb_2 (i := 236) rfl rfl
theorem t_483 : (Jvm.Cond.code ({ cls := "SchoolLosing$Tokens", name := "isLetter", desc := "(I)Z" } : Jvm.MethodName) prog_8_method_11_code (1 : Nat) (Option.some Jvm.ClassFile.FieldType.boolean)) ∈ tbX := tb_3 (i := 3) rfl rfl
theorem t_494 : (Jvm.Cond.code ({ cls := "SchoolLosing$Tokens", name := "isDigit", desc := "(I)Z" } : Jvm.MethodName) prog_8_method_12_code (1 : Nat) (Option.some Jvm.ClassFile.FieldType.boolean)) ∈ tbX := tb_3 (i := 14) rfl rfl
theorem t_195 : (Jvm.Cond.code ({ cls := "SchoolLosing$Wants", name := "<init>", desc := "()V" } : Jvm.MethodName) prog_9_method_1_code (1 : Nat) (Option.none : Option Jvm.ClassFile.FieldType)) ∈ tbX := tb_1 (i := 195) rfl rfl
theorem t_9 : (Jvm.Cond.initialized "SchoolLosing$Wants") ∈ tbX := tb_1 (i := 9) rfl rfl
theorem t_773 : (Jvm.Cond.code ({ cls := "SchoolLosing$Wants", name := "look", desc := "(LSchoolLosing$Text;II)V" } : Jvm.MethodName) prog_9_method_2_code (5 : Nat) (Option.none : Option Jvm.ClassFile.FieldType)) ∈ tbX := tb_4 (i := 53) rfl rfl
theorem t_1022 : (Jvm.Cond.code ({ cls := "SchoolLosing$Wants", name := "lookAgainstWinner", desc := "(LSchoolLosing$Text;II)V" } : Jvm.MethodName) prog_9_method_3_code (4 : Nat) (Option.none : Option Jvm.ClassFile.FieldType)) ∈ tbX := tb_5 (i := 62) rfl rfl
theorem t_777 : (Jvm.Cond.code ({ cls := "SchoolLosing$Wants", name := "choose", desc := "(LSchoolLosing$Text;II)V" } : Jvm.MethodName) prog_9_method_4_code (6 : Nat) (Option.none : Option Jvm.ClassFile.FieldType)) ∈ tbX := tb_4 (i := 57) rfl rfl
theorem t_781 : (Jvm.Cond.code ({ cls := "SchoolLosing$Wants", name := "liking", desc := "(LSchoolLosing$Text;III)I" } : Jvm.MethodName) prog_9_method_5_code (7 : Nat) (Option.some Jvm.ClassFile.FieldType.int)) ∈ tbX := tb_4 (i := 61) rfl rfl
theorem t_24 : (Jvm.Cond.code ({ cls := "SchoolLosing", name := "<init>", desc := "()V" } : Jvm.MethodName) prog_1_method_1_code (1 : Nat) (Option.none : Option Jvm.ClassFile.FieldType)) ∈ tbX := tb_1 (i := 24) rfl rfl
theorem t_1 : (Jvm.Cond.initialized "SchoolLosing") ∈ tbX := tb_1 (i := 1) rfl rfl
theorem t_453 : (Jvm.Cond.code ({ cls := "SchoolLosing", name := "feed", desc := "(IIIII)I" } : Jvm.MethodName) prog_1_method_2_code (6 : Nat) (Option.some Jvm.ClassFile.FieldType.int)) ∈ tbX := tb_2 (i := 213) rfl rfl
theorem t_461 : (Jvm.Cond.code ({ cls := "SchoolLosing", name := "back", desc := "(I)I" } : Jvm.MethodName) prog_1_method_3_code (2 : Nat) (Option.some Jvm.ClassFile.FieldType.int)) ∈ tbX := tb_2 (i := 221) rfl rfl
theorem t_465 : (Jvm.Cond.code ({ cls := "SchoolLosing", name := "read", desc := "()I" } : Jvm.MethodName) prog_1_method_4_code (3 : Nat) (Option.some Jvm.ClassFile.FieldType.int)) ∈ tbX := tb_2 (i := 225) rfl rfl
theorem t_679 : (Jvm.Cond.code ({ cls := "SchoolLosing", name := "place", desc := "()I" } : Jvm.MethodName) prog_1_method_5_code (1 : Nat) (Option.some Jvm.ClassFile.FieldType.int)) ∈ tbX := tb_3 (i := 199) rfl rfl
theorem t_683 : (Jvm.Cond.code ({ cls := "SchoolLosing", name := "position", desc := "(II)I" } : Jvm.MethodName) prog_1_method_6_code (3 : Nat) (Option.some Jvm.ClassFile.FieldType.int)) ∈ tbX := tb_3 (i := 203) rfl rfl
theorem t_691 : (Jvm.Cond.code ({ cls := "SchoolLosing", name := "move", desc := "(IIZ)I" } : Jvm.MethodName) prog_1_method_7_code (5 : Nat) (Option.some Jvm.ClassFile.FieldType.int)) ∈ tbX := tb_3 (i := 211) rfl rfl
theorem t_699 : (Jvm.Cond.code ({ cls := "SchoolLosing", name := "man", desc := "(II)I" } : Jvm.MethodName) prog_1_method_8_code (3 : Nat) (Option.some Jvm.ClassFile.FieldType.int)) ∈ tbX := tb_3 (i := 219) rfl rfl
theorem t_722 : (Jvm.Cond.code ({ cls := "SchoolLosing", name := "game", desc := "(I)I" } : Jvm.MethodName) prog_1_method_9_code (2 : Nat) (Option.some Jvm.ClassFile.FieldType.int)) ∈ tbX := tb_4 (i := 2) rfl rfl
theorem t_730 : (Jvm.Cond.code ({ cls := "SchoolLosing", name := "count", desc := "(I)I" } : Jvm.MethodName) prog_1_method_10_code (2 : Nat) (Option.some Jvm.ClassFile.FieldType.int)) ∈ tbX := tb_4 (i := 10) rfl rfl
theorem t_738 : (Jvm.Cond.code ({ cls := "SchoolLosing", name := "begin", desc := "(IIIII)Z" } : Jvm.MethodName) prog_1_method_11_code (7 : Nat) (Option.some Jvm.ClassFile.FieldType.boolean)) ∈ tbX := tb_4 (i := 18) rfl rfl
theorem t_757 : (Jvm.Cond.code ({ cls := "SchoolLosing", name := "steps", desc := "(I)I" } : Jvm.MethodName) prog_1_method_12_code (3 : Nat) (Option.some Jvm.ClassFile.FieldType.int)) ∈ tbX := tb_4 (i := 37) rfl rfl
theorem t_812 : (Jvm.Cond.code ({ cls := "SchoolLosing", name := "make", desc := "(I)I" } : Jvm.MethodName) prog_1_method_13_code (3 : Nat) (Option.some Jvm.ClassFile.FieldType.int)) ∈ tbX := tb_4 (i := 92) rfl rfl
theorem t_816 : (Jvm.Cond.code ({ cls := "SchoolLosing", name := "learn", desc := "(II)I" } : Jvm.MethodName) prog_1_method_14_code (6 : Nat) (Option.some Jvm.ClassFile.FieldType.int)) ∈ tbX := tb_4 (i := 96) rfl rfl
theorem t_832 : (Jvm.Cond.code ({ cls := "SchoolLosing", name := "undo", desc := "()Z" } : Jvm.MethodName) prog_1_method_15_code (1 : Nat) (Option.some Jvm.ClassFile.FieldType.boolean)) ∈ tbX := tb_4 (i := 112) rfl rfl
theorem t_840 : (Jvm.Cond.code ({ cls := "SchoolLosing", name := "hold", desc := "(I)Z" } : Jvm.MethodName) prog_1_method_16_code (2 : Nat) (Option.some Jvm.ClassFile.FieldType.boolean)) ∈ tbX := tb_4 (i := 120) rfl rfl
theorem t_848 : (Jvm.Cond.code ({ cls := "SchoolLosing", name := "restore", desc := "(I)Z" } : Jvm.MethodName) prog_1_method_17_code (2 : Nat) (Option.some Jvm.ClassFile.FieldType.boolean)) ∈ tbX := tb_4 (i := 128) rfl rfl
theorem t_856 : (Jvm.Cond.code ({ cls := "SchoolLosing", name := "want", desc := "(III)I" } : Jvm.MethodName) prog_1_method_18_code (4 : Nat) (Option.some Jvm.ClassFile.FieldType.int)) ∈ tbX := tb_4 (i := 136) rfl rfl
theorem t_860 : (Jvm.Cond.code ({ cls := "SchoolLosing", name := "wants", desc := "(III)I" } : Jvm.MethodName) prog_1_method_19_code (4 : Nat) (Option.some Jvm.ClassFile.FieldType.int)) ∈ tbX := tb_4 (i := 140) rfl rfl
theorem t_864 : (Jvm.Cond.code ({ cls := "SchoolLosing", name := "surely", desc := "(IIIII)I" } : Jvm.MethodName) prog_1_method_20_code (6 : Nat) (Option.some Jvm.ClassFile.FieldType.int)) ∈ tbX := tb_4 (i := 144) rfl rfl
theorem t_884 : (Jvm.Cond.code ({ cls := "SchoolLosing", name := "loses", desc := "(IIII)I" } : Jvm.MethodName) prog_1_method_21_code (5 : Nat) (Option.some Jvm.ClassFile.FieldType.int)) ∈ tbX := tb_4 (i := 164) rfl rfl
theorem t_888 : (Jvm.Cond.code ({ cls := "SchoolLosing", name := "seen", desc := "(IIIII)I" } : Jvm.MethodName) prog_1_method_22_code (6 : Nat) (Option.some Jvm.ClassFile.FieldType.int)) ∈ tbX := tb_4 (i := 168) rfl rfl
theorem t_892 : (Jvm.Cond.code ({ cls := "SchoolLosing", name := "cup", desc := "(Z)I" } : Jvm.MethodName) prog_1_method_23_code (6 : Nat) (Option.some Jvm.ClassFile.FieldType.int)) ∈ tbX := tb_4 (i := 172) rfl rfl
theorem t_896 : (Jvm.Cond.code ({ cls := "SchoolLosing", name := "likely", desc := "(IIIIIZ)I" } : Jvm.MethodName) prog_1_method_24_code (7 : Nat) (Option.some Jvm.ClassFile.FieldType.int)) ∈ tbX := tb_4 (i := 176) rfl rfl
theorem t_928 : (Jvm.Cond.code ({ cls := "SchoolLosing", name := "most", desc := "(IIII)I" } : Jvm.MethodName) prog_1_method_25_code (5 : Nat) (Option.some Jvm.ClassFile.FieldType.int)) ∈ tbX := tb_4 (i := 208) rfl rfl
theorem t_936 : (Jvm.Cond.code ({ cls := "SchoolLosing", name := "order", desc := "(I)I" } : Jvm.MethodName) prog_1_method_26_code (4 : Nat) (Option.some Jvm.ClassFile.FieldType.int)) ∈ tbX := tb_4 (i := 216) rfl rfl
theorem t_959 : (Jvm.Cond.code ({ cls := "SchoolLosing", name := "courts", desc := "(I)I" } : Jvm.MethodName) prog_1_method_27_code (5 : Nat) (Option.some Jvm.ClassFile.FieldType.int)) ∈ tbX := tb_4 (i := 239) rfl rfl
theorem t_967 : (Jvm.Cond.code ({ cls := "SchoolLosing", name := "less", desc := "(IIZ)I" } : Jvm.MethodName) prog_1_method_28_code (4 : Nat) (Option.some Jvm.ClassFile.FieldType.int)) ∈ tbX := tb_5 (i := 7) rfl rfl
theorem t_976 : (Jvm.Cond.code ({ cls := "SchoolLosing", name := "reply", desc := "(I)I" } : Jvm.MethodName) prog_1_method_29_code (2 : Nat) (Option.some Jvm.ClassFile.FieldType.int)) ∈ tbX := tb_5 (i := 16) rfl rfl
theorem t_984 : (Jvm.Cond.code ({ cls := "SchoolLosing", name := "rests", desc := "(I)I" } : Jvm.MethodName) prog_1_method_30_code (5 : Nat) (Option.some Jvm.ClassFile.FieldType.int)) ∈ tbX := tb_5 (i := 24) rfl rfl
theorem t_992 : (Jvm.Cond.code ({ cls := "SchoolLosing", name := "fine", desc := "()I" } : Jvm.MethodName) prog_1_method_31_code (8 : Nat) (Option.some Jvm.ClassFile.FieldType.int)) ∈ tbX := tb_5 (i := 32) rfl rfl
theorem t_1002 : (Jvm.Cond.code ({ cls := "SchoolLosing", name := "pays", desc := "(I)I" } : Jvm.MethodName) prog_1_method_32_code (2 : Nat) (Option.some Jvm.ClassFile.FieldType.int)) ∈ tbX := tb_5 (i := 42) rfl rfl
theorem t_1006 : (Jvm.Cond.code ({ cls := "SchoolLosing", name := "tell", desc := "(III)I" } : Jvm.MethodName) prog_1_method_33_code (4 : Nat) (Option.some Jvm.ClassFile.FieldType.int)) ∈ tbX := tb_5 (i := 46) rfl rfl
theorem t_1010 : (Jvm.Cond.code ({ cls := "SchoolLosing", name := "forget", desc := "()I" } : Jvm.MethodName) prog_1_method_34_code (2 : Nat) (Option.some Jvm.ClassFile.FieldType.int)) ∈ tbX := tb_5 (i := 50) rfl rfl
theorem t_1014 : (Jvm.Cond.code ({ cls := "SchoolLosing", name := "meant", desc := "(IIZ)I" } : Jvm.MethodName) prog_1_method_35_code (8 : Nat) (Option.some Jvm.ClassFile.FieldType.int)) ∈ tbX := tb_5 (i := 54) rfl rfl
theorem t_1028 : (Jvm.Cond.code ({ cls := "SchoolLosing", name := "set", desc := "()I" } : Jvm.MethodName) prog_1_method_36_code (8 : Nat) (Option.some Jvm.ClassFile.FieldType.int)) ∈ tbX := tb_5 (i := 68) rfl rfl
theorem t_687 : (Jvm.Cond.code ({ cls := "SchoolLosing", name := "isPosition", desc := "(I)Z" } : Jvm.MethodName) prog_1_method_37_code (2 : Nat) (Option.some Jvm.ClassFile.FieldType.boolean)) ∈ tbX := tb_3 (i := 207) rfl rfl
theorem t_742 : (Jvm.Cond.code ({ cls := "SchoolLosing", name := "isTurn", desc := "(I)Z" } : Jvm.MethodName) prog_1_method_38_code (2 : Nat) (Option.some Jvm.ClassFile.FieldType.boolean)) ∈ tbX := tb_4 (i := 22) rfl rfl
theorem t_695 : (Jvm.Cond.code ({ cls := "SchoolLosing", name := "isMove", desc := "(II)Z" } : Jvm.MethodName) prog_1_method_39_code (3 : Nat) (Option.some Jvm.ClassFile.FieldType.boolean)) ∈ tbX := tb_3 (i := 215) rfl rfl
theorem t_703 : (Jvm.Cond.code ({ cls := "SchoolLosing", name := "isMan", desc := "(I)Z" } : Jvm.MethodName) prog_1_method_40_code (2 : Nat) (Option.some Jvm.ClassFile.FieldType.boolean)) ∈ tbX := tb_3 (i := 223) rfl rfl
theorem t_971 : (Jvm.Cond.code ({ cls := "SchoolLosing", name := "isDie", desc := "(I)Z" } : Jvm.MethodName) prog_1_method_41_code (2 : Nat) (Option.some Jvm.ClassFile.FieldType.boolean)) ∈ tbX := tb_5 (i := 11) rfl rfl
theorem t_726 : (Jvm.Cond.code ({ cls := "SchoolLosing", name := "isOn", desc := "()Z" } : Jvm.MethodName) prog_1_method_42_code (1 : Nat) (Option.some Jvm.ClassFile.FieldType.boolean)) ∈ tbX := tb_4 (i := 6) rfl rfl
theorem t_745 : (Jvm.Cond.code ({ cls := "SchoolLosing", name := "areAims", desc := "(II)Z" } : Jvm.MethodName) prog_1_method_43_code (2 : Nat) (Option.some Jvm.ClassFile.FieldType.boolean)) ∈ tbX := tb_4 (i := 25) rfl rfl
theorem t_868 : (Jvm.Cond.code ({ cls := "SchoolLosing", name := "canAskSurely", desc := "(IIII)Z" } : Jvm.MethodName) prog_1_method_44_code (5 : Nat) (Option.some Jvm.ClassFile.FieldType.boolean)) ∈ tbX := tb_4 (i := 148) rfl rfl
theorem t_900 : (Jvm.Cond.code ({ cls := "SchoolLosing", name := "canAskLikely", desc := "(IIII)Z" } : Jvm.MethodName) prog_1_method_45_code (5 : Nat) (Option.some Jvm.ClassFile.FieldType.boolean)) ∈ tbX := tb_4 (i := 180) rfl rfl
theorem t_711 : (Jvm.Cond.code ({ cls := "SchoolLosing", name := "manCell", desc := "(II)I" } : Jvm.MethodName) prog_1_method_46_code (2 : Nat) (Option.some Jvm.ClassFile.FieldType.int)) ∈ tbX := tb_3 (i := 231) rfl rfl
theorem t_708 : (Jvm.Cond.code ({ cls := "SchoolLosing", name := "skillOf", desc := "(I)I" } : Jvm.MethodName) prog_1_method_47_code (2 : Nat) (Option.some Jvm.ClassFile.FieldType.int)) ∈ tbX := tb_3 (i := 228) rfl rfl
theorem t_820 : (Jvm.Cond.code ({ cls := "SchoolLosing", name := "hoursOf", desc := "(III)I" } : Jvm.MethodName) prog_1_method_48_code (4 : Nat) (Option.some Jvm.ClassFile.FieldType.int)) ∈ tbX := tb_4 (i := 100) rfl rfl
theorem t_827 : (Jvm.Cond.code ({ cls := "SchoolLosing", name := "heldToLimits", desc := "(I)I" } : Jvm.MethodName) prog_1_method_49_code (1 : Nat) (Option.some Jvm.ClassFile.FieldType.int)) ∈ tbX := tb_4 (i := 107) rfl rfl
theorem t_792 : (Jvm.Cond.code ({ cls := "SchoolLosing", name := "isSeen", desc := "(IIII)Z" } : Jvm.MethodName) prog_1_method_50_code (5 : Nat) (Option.some Jvm.ClassFile.FieldType.boolean)) ∈ tbX := tb_4 (i := 72) rfl rfl
theorem t_768 : (Jvm.Cond.code ({ cls := "SchoolLosing", name := "stirred", desc := "(II)I" } : Jvm.MethodName) prog_1_method_51_code (3 : Nat) (Option.some Jvm.ClassFile.FieldType.int)) ∈ tbX := tb_4 (i := 48) rfl rfl
theorem t_765 : (Jvm.Cond.code ({ cls := "SchoolLosing", name := "lot", desc := "(II)I" } : Jvm.MethodName) prog_1_method_52_code (4 : Nat) (Option.some Jvm.ClassFile.FieldType.int)) ∈ tbX := tb_4 (i := 45) rfl rfl
theorem t_761 : (Jvm.Cond.code ({ cls := "SchoolLosing", name := "moveOfStep", desc := "()I" } : Jvm.MethodName) prog_1_method_53_code (4 : Nat) (Option.some Jvm.ClassFile.FieldType.int)) ∈ tbX := tb_4 (i := 41) rfl rfl
theorem t_788 : (Jvm.Cond.code ({ cls := "SchoolLosing", name := "goBy", desc := "(I)V" } : Jvm.MethodName) prog_1_method_54_code (7 : Nat) (Option.none : Option Jvm.ClassFile.FieldType)) ∈ tbX := tb_4 (i := 68) rfl rfl
theorem t_808 : (Jvm.Cond.code ({ cls := "SchoolLosing", name := "endFor", desc := "(II)V" } : Jvm.MethodName) prog_1_method_55_code (5 : Nat) (Option.none : Option Jvm.ClassFile.FieldType)) ∈ tbX := tb_4 (i := 88) rfl rfl
theorem t_872 : (Jvm.Cond.code ({ cls := "SchoolLosing", name := "sureLosses", desc := "(IIII)I" } : Jvm.MethodName) prog_1_method_56_code (7 : Nat) (Option.some Jvm.ClassFile.FieldType.int)) ∈ tbX := tb_4 (i := 152) rfl rfl
theorem t_876 : (Jvm.Cond.code ({ cls := "SchoolLosing", name := "sureByOwnMove", desc := "(III)I" } : Jvm.MethodName) prog_1_method_57_code (7 : Nat) (Option.some Jvm.ClassFile.FieldType.int)) ∈ tbX := tb_4 (i := 156) rfl rfl
theorem t_880 : (Jvm.Cond.code ({ cls := "SchoolLosing", name := "sureByAnyMove", desc := "(I)I" } : Jvm.MethodName) prog_1_method_58_code (4 : Nat) (Option.some Jvm.ClassFile.FieldType.int)) ∈ tbX := tb_4 (i := 160) rfl rfl
theorem t_904 : (Jvm.Cond.code ({ cls := "SchoolLosing", name := "lookAtChances", desc := "(IIII)V" } : Jvm.MethodName) prog_1_method_59_code (5 : Nat) (Option.none : Option Jvm.ClassFile.FieldType)) ∈ tbX := tb_4 (i := 184) rfl rfl
theorem t_1018 : (Jvm.Cond.code ({ cls := "SchoolLosing", name := "weightOfKnown", desc := "(III)J" } : Jvm.MethodName) prog_1_method_60_code (8 : Nat) (Option.some Jvm.ClassFile.FieldType.long)) ∈ tbX := tb_5 (i := 58) rfl rfl
theorem t_980 : (Jvm.Cond.code ({ cls := "SchoolLosing", name := "bestReply", desc := "(I)I" } : Jvm.MethodName) prog_1_method_61_code (4 : Nat) (Option.some Jvm.ClassFile.FieldType.int)) ∈ tbX := tb_5 (i := 20) rfl rfl
theorem t_988 : (Jvm.Cond.code ({ cls := "SchoolLosing", name := "isBestReply", desc := "(II)Z" } : Jvm.MethodName) prog_1_method_62_code (3 : Nat) (Option.some Jvm.ClassFile.FieldType.boolean)) ∈ tbX := tb_5 (i := 28) rfl rfl
theorem t_924 : (Jvm.Cond.code ({ cls := "SchoolLosing", name := "lessened", desc := "(JJZ)I" } : Jvm.MethodName) prog_1_method_63_code (12 : Nat) (Option.some Jvm.ClassFile.FieldType.int)) ∈ tbX := tb_4 (i := 204) rfl rfl
theorem t_1033 : (Jvm.Cond.code ({ cls := "SchoolLosingModel", name := "<init>", desc := "()V" } : Jvm.MethodName) prog_11_method_2_code (1 : Nat) (Option.none : Option Jvm.ClassFile.FieldType)) ∈ tbX := tb_5 (i := 73) rfl rfl
theorem t_15 : (Jvm.Cond.initialized "SchoolLosingModel") ∈ tbX := tb_1 (i := 15) rfl rfl
theorem t_1286 : (Jvm.Cond.code ({ cls := "SchoolLosingModel", name := "feed", desc := "(IIIII)I" } : Jvm.MethodName) prog_11_method_3_code (6 : Nat) (Option.some Jvm.ClassFile.FieldType.int)) ∈ tbX := tb_6 (i := 86) rfl rfl
theorem t_1290 : (Jvm.Cond.code ({ cls := "SchoolLosingModel", name := "put", desc := "(I)V" } : Jvm.MethodName) prog_11_method_4_code (3 : Nat) (Option.none : Option Jvm.ClassFile.FieldType)) ∈ tbX := tb_6 (i := 90) rfl rfl
theorem t_1294 : (Jvm.Cond.code ({ cls := "SchoolLosingModel", name := "back", desc := "(I)I" } : Jvm.MethodName) prog_11_method_5_code (2 : Nat) (Option.some Jvm.ClassFile.FieldType.int)) ∈ tbX := tb_6 (i := 94) rfl rfl
theorem t_1306 : (Jvm.Cond.code ({ cls := "SchoolLosingModel", name := "byteAt", desc := "(I)I" } : Jvm.MethodName) prog_11_method_6_code (2 : Nat) (Option.some Jvm.ClassFile.FieldType.int)) ∈ tbX := tb_6 (i := 106) rfl rfl
theorem t_1316 : (Jvm.Cond.code ({ cls := "SchoolLosingModel", name := "isDigit", desc := "(I)Z" } : Jvm.MethodName) prog_11_method_7_code (1 : Nat) (Option.some Jvm.ClassFile.FieldType.boolean)) ∈ tbX := tb_6 (i := 116) rfl rfl
theorem t_1313 : (Jvm.Cond.code ({ cls := "SchoolLosingModel", name := "isLetter", desc := "(I)Z" } : Jvm.MethodName) prog_11_method_8_code (1 : Nat) (Option.some Jvm.ClassFile.FieldType.boolean)) ∈ tbX := tb_6 (i := 113) rfl rfl
theorem t_1044 : (Jvm.Cond.code ({ cls := "SchoolLosingModel", name := "appends", desc := "(JI)J" } : Jvm.MethodName) prog_11_method_9_code (3 : Nat) (Option.some Jvm.ClassFile.FieldType.long)) ∈ tbX := tb_5 (i := 84) rfl rfl
theorem t_1041 : (Jvm.Cond.code ({ cls := "SchoolLosingModel", name := "word", desc := "(IIIIIII)J" } : Jvm.MethodName) prog_11_method_10_code (7 : Nat) (Option.some Jvm.ClassFile.FieldType.long)) ∈ tbX := tb_5 (i := 81) rfl rfl
theorem t_1310 : (Jvm.Cond.code ({ cls := "SchoolLosingModel", name := "token", desc := "(IIIJ)V" } : Jvm.MethodName) prog_11_method_11_code (6 : Nat) (Option.none : Option Jvm.ClassFile.FieldType)) ∈ tbX := tb_6 (i := 110) rfl rfl
theorem t_1302 : (Jvm.Cond.code ({ cls := "SchoolLosingModel", name := "cut", desc := "()V" } : Jvm.MethodName) prog_11_method_12_code (8 : Nat) (Option.none : Option Jvm.ClassFile.FieldType)) ∈ tbX := tb_6 (i := 102) rfl rfl
theorem t_1320 : (Jvm.Cond.code ({ cls := "SchoolLosingModel", name := "sign", desc := "(III)I" } : Jvm.MethodName) prog_11_method_13_code (5 : Nat) (Option.some Jvm.ClassFile.FieldType.int)) ∈ tbX := tb_6 (i := 120) rfl rfl
theorem t_1324 : (Jvm.Cond.code ({ cls := "SchoolLosingModel", name := "is", desc := "(I)Z" } : Jvm.MethodName) prog_11_method_14_code (2 : Nat) (Option.some Jvm.ClassFile.FieldType.boolean)) ∈ tbX := tb_6 (i := 124) rfl rfl
theorem t_1336 : (Jvm.Cond.code ({ cls := "SchoolLosingModel", name := "fail", desc := "(I)V" } : Jvm.MethodName) prog_11_method_15_code (2 : Nat) (Option.none : Option Jvm.ClassFile.FieldType)) ∈ tbX := tb_6 (i := 136) rfl rfl
theorem t_1356 : (Jvm.Cond.code ({ cls := "SchoolLosingModel", name := "wrong", desc := "(II)V" } : Jvm.MethodName) prog_11_method_16_code (4 : Nat) (Option.none : Option Jvm.ClassFile.FieldType)) ∈ tbX := tb_6 (i := 156) rfl rfl
theorem t_1340 : (Jvm.Cond.code ({ cls := "SchoolLosingModel", name := "goesOn", desc := "()V" } : Jvm.MethodName) prog_11_method_17_code (1 : Nat) (Option.none : Option Jvm.ClassFile.FieldType)) ∈ tbX := tb_6 (i := 140) rfl rfl
theorem t_1352 : (Jvm.Cond.code ({ cls := "SchoolLosingModel", name := "must", desc := "(I)V" } : Jvm.MethodName) prog_11_method_18_code (2 : Nat) (Option.none : Option Jvm.ClassFile.FieldType)) ∈ tbX := tb_6 (i := 152) rfl rfl
theorem t_1038 : (Jvm.Cond.code ({ cls := "SchoolLosingModel", name := "plain", desc := "(I)V" } : Jvm.MethodName) prog_11_method_19_code (3 : Nat) (Option.none : Option Jvm.ClassFile.FieldType)) ∈ tbX := tb_5 (i := 78) rfl rfl
theorem t_1298 : (Jvm.Cond.code ({ cls := "SchoolLosingModel", name := "read", desc := "()I" } : Jvm.MethodName) prog_11_method_20_code (2 : Nat) (Option.some Jvm.ClassFile.FieldType.int)) ∈ tbX := tb_6 (i := 98) rfl rfl
theorem t_1416 : (Jvm.Cond.code ({ cls := "SchoolLosingModel", name := "place", desc := "()I" } : Jvm.MethodName) prog_11_method_21_code (1 : Nat) (Option.some Jvm.ClassFile.FieldType.int)) ∈ tbX := tb_6 (i := 216) rfl rfl
theorem t_1332 : (Jvm.Cond.code ({ cls := "SchoolLosingModel", name := "roomFor", desc := "(II)V" } : Jvm.MethodName) prog_11_method_22_code (3 : Nat) (Option.none : Option Jvm.ClassFile.FieldType)) ∈ tbX := tb_6 (i := 132) rfl rfl
theorem t_1328 : (Jvm.Cond.code ({ cls := "SchoolLosingModel", name := "tellOne", desc := "()V" } : Jvm.MethodName) prog_11_method_23_code (2 : Nat) (Option.none : Option Jvm.ClassFile.FieldType)) ∈ tbX := tb_6 (i := 128) rfl rfl
theorem t_1348 : (Jvm.Cond.code ({ cls := "SchoolLosingModel", name := "named", desc := "()I" } : Jvm.MethodName) prog_11_method_24_code (3 : Nat) (Option.some Jvm.ClassFile.FieldType.int)) ∈ tbX := tb_6 (i := 148) rfl rfl
theorem t_1364 : (Jvm.Cond.code ({ cls := "SchoolLosingModel", name := "ends", desc := "(III)V" } : Jvm.MethodName) prog_11_method_25_code (4 : Nat) (Option.none : Option Jvm.ClassFile.FieldType)) ∈ tbX := tb_6 (i := 164) rfl rfl
theorem t_1372 : (Jvm.Cond.code ({ cls := "SchoolLosingModel", name := "known", desc := "(I)I" } : Jvm.MethodName) prog_11_method_26_code (4 : Nat) (Option.some Jvm.ClassFile.FieldType.int)) ∈ tbX := tb_6 (i := 172) rfl rfl
theorem t_1360 : (Jvm.Cond.code ({ cls := "SchoolLosingModel", name := "bounded", desc := "(II)I" } : Jvm.MethodName) prog_11_method_27_code (4 : Nat) (Option.some Jvm.ClassFile.FieldType.int)) ∈ tbX := tb_6 (i := 160) rfl rfl
theorem t_1344 : (Jvm.Cond.code ({ cls := "SchoolLosingModel", name := "tellEnd", desc := "()V" } : Jvm.MethodName) prog_11_method_28_code (5 : Nat) (Option.none : Option Jvm.ClassFile.FieldType)) ∈ tbX := tb_6 (i := 144) rfl rfl
theorem t_1368 : (Jvm.Cond.code ({ cls := "SchoolLosingModel", name := "tellTurn", desc := "()V" } : Jvm.MethodName) prog_11_method_29_code (6 : Nat) (Option.none : Option Jvm.ClassFile.FieldType)) ∈ tbX := tb_6 (i := 168) rfl rfl
theorem t_1376 : (Jvm.Cond.code ({ cls := "SchoolLosingModel", name := "tellMan", desc := "()V" } : Jvm.MethodName) prog_11_method_30_code (3 : Nat) (Option.none : Option Jvm.ClassFile.FieldType)) ∈ tbX := tb_6 (i := 176) rfl rfl
theorem t_1380 : (Jvm.Cond.code ({ cls := "SchoolLosingModel", name := "tellLesson", desc := "()V" } : Jvm.MethodName) prog_11_method_31_code (6 : Nat) (Option.none : Option Jvm.ClassFile.FieldType)) ∈ tbX := tb_6 (i := 180) rfl rfl
theorem t_1384 : (Jvm.Cond.code ({ cls := "SchoolLosingModel", name := "tellCourt", desc := "()V" } : Jvm.MethodName) prog_11_method_32_code (2 : Nat) (Option.none : Option Jvm.ClassFile.FieldType)) ∈ tbX := tb_6 (i := 184) rfl rfl
theorem t_1388 : (Jvm.Cond.code ({ cls := "SchoolLosingModel", name := "tellDie", desc := "()V" } : Jvm.MethodName) prog_11_method_33_code (4 : Nat) (Option.none : Option Jvm.ClassFile.FieldType)) ∈ tbX := tb_6 (i := 188) rfl rfl
theorem t_1392 : (Jvm.Cond.code ({ cls := "SchoolLosingModel", name := "tellLaw", desc := "(I)V" } : Jvm.MethodName) prog_11_method_34_code (4 : Nat) (Option.none : Option Jvm.ClassFile.FieldType)) ∈ tbX := tb_6 (i := 192) rfl rfl
theorem t_1412 : (Jvm.Cond.code ({ cls := "SchoolLosingModel", name := "term", desc := "()V" } : Jvm.MethodName) prog_11_method_35_code (1 : Nat) (Option.none : Option Jvm.ClassFile.FieldType)) ∈ tbX := tb_6 (i := 212) rfl rfl
theorem t_1404 : (Jvm.Cond.code ({ cls := "SchoolLosingModel", name := "emit", desc := "(II)V" } : Jvm.MethodName) prog_11_method_36_code (3 : Nat) (Option.none : Option Jvm.ClassFile.FieldType)) ∈ tbX := tb_6 (i := 204) rfl rfl
theorem t_1408 : (Jvm.Cond.code ({ cls := "SchoolLosingModel", name := "comesOut", desc := "(Z)V" } : Jvm.MethodName) prog_11_method_37_code (3 : Nat) (Option.none : Option Jvm.ClassFile.FieldType)) ∈ tbX := tb_6 (i := 208) rfl rfl
theorem t_1396 : (Jvm.Cond.code ({ cls := "SchoolLosingModel", name := "expression", desc := "()V" } : Jvm.MethodName) prog_11_method_38_code (3 : Nat) (Option.none : Option Jvm.ClassFile.FieldType)) ∈ tbX := tb_6 (i := 196) rfl rfl
theorem t_1400 : (Jvm.Cond.code ({ cls := "SchoolLosingModel", name := "unit", desc := "()V" } : Jvm.MethodName) prog_11_method_39_code (1 : Nat) (Option.none : Option Jvm.ClassFile.FieldType)) ∈ tbX := tb_6 (i := 200) rfl rfl
theorem t_1525 : (Jvm.Cond.code ({ cls := "SchoolLosingModel", name := "termOf", desc := "(II)I" } : Jvm.MethodName) prog_11_method_40_code (8 : Nat) (Option.some Jvm.ClassFile.FieldType.int)) ∈ tbX := tb_7 (i := 85) rfl rfl
theorem t_1427 : (Jvm.Cond.code ({ cls := "SchoolLosingModel", name := "in", desc := "(III)Z" } : Jvm.MethodName) prog_11_method_41_code (3 : Nat) (Option.some Jvm.ClassFile.FieldType.boolean)) ∈ tbX := tb_6 (i := 227) rfl rfl
theorem t_1467 : (Jvm.Cond.code ({ cls := "SchoolLosingModel", name := "bits", desc := "(I)I" } : Jvm.MethodName) prog_11_method_42_code (3 : Nat) (Option.some Jvm.ClassFile.FieldType.int)) ∈ tbX := tb_7 (i := 27) rfl rfl
theorem t_1424 : (Jvm.Cond.code ({ cls := "SchoolLosingModel", name := "isPosition", desc := "(I)Z" } : Jvm.MethodName) prog_11_method_43_code (2 : Nat) (Option.some Jvm.ClassFile.FieldType.boolean)) ∈ tbX := tb_6 (i := 224) rfl rfl
theorem t_1455 : (Jvm.Cond.code ({ cls := "SchoolLosingModel", name := "isMan", desc := "(I)Z" } : Jvm.MethodName) prog_11_method_44_code (2 : Nat) (Option.some Jvm.ClassFile.FieldType.boolean)) ∈ tbX := tb_7 (i := 15) rfl rfl
theorem t_1478 : (Jvm.Cond.code ({ cls := "SchoolLosingModel", name := "isAim", desc := "(I)Z" } : Jvm.MethodName) prog_11_method_45_code (1 : Nat) (Option.some Jvm.ClassFile.FieldType.boolean)) ∈ tbX := tb_7 (i := 38) rfl rfl
theorem t_1431 : (Jvm.Cond.code ({ cls := "SchoolLosingModel", name := "turnAt", desc := "(I)I" } : Jvm.MethodName) prog_11_method_46_code (2 : Nat) (Option.some Jvm.ClassFile.FieldType.int)) ∈ tbX := tb_6 (i := 231) rfl rfl
theorem t_1435 : (Jvm.Cond.code ({ cls := "SchoolLosingModel", name := "manyMoves", desc := "(I)I" } : Jvm.MethodName) prog_11_method_47_code (2 : Nat) (Option.some Jvm.ClassFile.FieldType.int)) ∈ tbX := tb_6 (i := 235) rfl rfl
theorem t_1447 : (Jvm.Cond.code ({ cls := "SchoolLosingModel", name := "leadsTo", desc := "(II)I" } : Jvm.MethodName) prog_11_method_48_code (3 : Nat) (Option.some Jvm.ClassFile.FieldType.int)) ∈ tbX := tb_7 (i := 7) rfl rfl
theorem t_1049 : (Jvm.Cond.code ({ cls := "SchoolLosingModel", name := "begins", desc := "()V" } : Jvm.MethodName) prog_11_method_49_code (2 : Nat) (Option.none : Option Jvm.ClassFile.FieldType)) ∈ tbX := tb_5 (i := 89) rfl rfl
theorem t_1053 : (Jvm.Cond.code ({ cls := "SchoolLosingModel", name := "noGame", desc := "()V" } : Jvm.MethodName) prog_11_method_50_code (2 : Nat) (Option.none : Option Jvm.ClassFile.FieldType)) ∈ tbX := tb_5 (i := 93) rfl rfl
theorem t_1057 : (Jvm.Cond.code ({ cls := "SchoolLosingModel", name := "keepsRow", desc := "()V" } : Jvm.MethodName) prog_11_method_51_code (2 : Nat) (Option.none : Option Jvm.ClassFile.FieldType)) ∈ tbX := tb_5 (i := 97) rfl rfl
theorem t_1460 : (Jvm.Cond.code ({ cls := "SchoolLosingModel", name := "copies", desc := "()V" } : Jvm.MethodName) prog_11_method_52_code (2 : Nat) (Option.none : Option Jvm.ClassFile.FieldType)) ∈ tbX := tb_7 (i := 20) rfl rfl
theorem t_1504 : (Jvm.Cond.code ({ cls := "SchoolLosingModel", name := "mixed", desc := "(II)I" } : Jvm.MethodName) prog_11_method_53_code (3 : Nat) (Option.some Jvm.ClassFile.FieldType.int)) ∈ tbX := tb_7 (i := 64) rfl rfl
theorem t_1501 : (Jvm.Cond.code ({ cls := "SchoolLosingModel", name := "lotOf", desc := "(II)I" } : Jvm.MethodName) prog_11_method_54_code (3 : Nat) (Option.some Jvm.ClassFile.FieldType.int)) ∈ tbX := tb_7 (i := 61) rfl rfl
theorem t_1464 : (Jvm.Cond.code ({ cls := "SchoolLosingModel", name := "skillOf", desc := "(I)I" } : Jvm.MethodName) prog_11_method_55_code (3 : Nat) (Option.some Jvm.ClassFile.FieldType.int)) ∈ tbX := tb_7 (i := 24) rfl rfl
theorem t_1517 : (Jvm.Cond.code ({ cls := "SchoolLosingModel", name := "looks", desc := "()V" } : Jvm.MethodName) prog_11_method_56_code (2 : Nat) (Option.none : Option Jvm.ClassFile.FieldType)) ∈ tbX := tb_7 (i := 77) rfl rfl
theorem t_1521 : (Jvm.Cond.code ({ cls := "SchoolLosingModel", name := "asks", desc := "(II)I" } : Jvm.MethodName) prog_11_method_57_code (7 : Nat) (Option.some Jvm.ClassFile.FieldType.int)) ∈ tbX := tb_7 (i := 81) rfl rfl
theorem t_1544 : (Jvm.Cond.code ({ cls := "SchoolLosingModel", name := "held", desc := "(I)I" } : Jvm.MethodName) prog_11_method_58_code (1 : Nat) (Option.some Jvm.ClassFile.FieldType.int)) ∈ tbX := tb_7 (i := 104) rfl rfl
theorem t_1513 : (Jvm.Cond.code ({ cls := "SchoolLosingModel", name := "isSeen", desc := "(IIIII)Z" } : Jvm.MethodName) prog_11_method_59_code (6 : Nat) (Option.some Jvm.ClassFile.FieldType.boolean)) ∈ tbX := tb_7 (i := 73) rfl rfl
theorem t_1541 : (Jvm.Cond.code ({ cls := "SchoolLosingModel", name := "learnsIn", desc := "(III)I" } : Jvm.MethodName) prog_11_method_60_code (4 : Nat) (Option.some Jvm.ClassFile.FieldType.int)) ∈ tbX := tb_7 (i := 101) rfl rfl
theorem t_1497 : (Jvm.Cond.code ({ cls := "SchoolLosingModel", name := "ratherBy", desc := "(II)I" } : Jvm.MethodName) prog_11_method_61_code (2 : Nat) (Option.some Jvm.ClassFile.FieldType.int)) ∈ tbX := tb_7 (i := 57) rfl rfl
theorem t_1494 : (Jvm.Cond.code ({ cls := "SchoolLosingModel", name := "fillsWant", desc := "(II)V" } : Jvm.MethodName) prog_11_method_62_code (7 : Nat) (Option.none : Option Jvm.ClassFile.FieldType)) ∈ tbX := tb_7 (i := 54) rfl rfl
theorem t_1529 : (Jvm.Cond.code ({ cls := "SchoolLosingModel", name := "oneIsOver", desc := "(II)V" } : Jvm.MethodName) prog_11_method_63_code (4 : Nat) (Option.none : Option Jvm.ClassFile.FieldType)) ∈ tbX := tb_7 (i := 89) rfl rfl
theorem t_1509 : (Jvm.Cond.code ({ cls := "SchoolLosingModel", name := "makes", desc := "(I)V" } : Jvm.MethodName) prog_11_method_64_code (5 : Nat) (Option.none : Option Jvm.ClassFile.FieldType)) ∈ tbX := tb_7 (i := 69) rfl rfl
theorem t_1490 : (Jvm.Cond.code ({ cls := "SchoolLosingModel", name := "stepGoes", desc := "()V" } : Jvm.MethodName) prog_11_method_65_code (3 : Nat) (Option.none : Option Jvm.ClassFile.FieldType)) ∈ tbX := tb_7 (i := 50) rfl rfl
theorem t_1420 : (Jvm.Cond.code ({ cls := "SchoolLosingModel", name := "position", desc := "(II)I" } : Jvm.MethodName) prog_11_method_66_code (3 : Nat) (Option.some Jvm.ClassFile.FieldType.int)) ∈ tbX := tb_6 (i := 220) rfl rfl
theorem t_1443 : (Jvm.Cond.code ({ cls := "SchoolLosingModel", name := "isMove", desc := "(II)Z" } : Jvm.MethodName) prog_11_method_67_code (3 : Nat) (Option.some Jvm.ClassFile.FieldType.boolean)) ∈ tbX := tb_7 (i := 3) rfl rfl
theorem t_1439 : (Jvm.Cond.code ({ cls := "SchoolLosingModel", name := "move", desc := "(IIZ)I" } : Jvm.MethodName) prog_11_method_68_code (4 : Nat) (Option.some Jvm.ClassFile.FieldType.int)) ∈ tbX := tb_6 (i := 239) rfl rfl
theorem t_1451 : (Jvm.Cond.code ({ cls := "SchoolLosingModel", name := "man", desc := "(II)I" } : Jvm.MethodName) prog_11_method_69_code (3 : Nat) (Option.some Jvm.ClassFile.FieldType.int)) ∈ tbX := tb_7 (i := 11) rfl rfl
theorem t_1471 : (Jvm.Cond.code ({ cls := "SchoolLosingModel", name := "game", desc := "(I)I" } : Jvm.MethodName) prog_11_method_70_code (2 : Nat) (Option.some Jvm.ClassFile.FieldType.int)) ∈ tbX := tb_7 (i := 31) rfl rfl
theorem t_1482 : (Jvm.Cond.code ({ cls := "SchoolLosingModel", name := "keeps", desc := "()V" } : Jvm.MethodName) prog_11_method_71_code (2 : Nat) (Option.none : Option Jvm.ClassFile.FieldType)) ∈ tbX := tb_7 (i := 42) rfl rfl
theorem t_1475 : (Jvm.Cond.code ({ cls := "SchoolLosingModel", name := "begin", desc := "(IIIII)Z" } : Jvm.MethodName) prog_11_method_72_code (6 : Nat) (Option.some Jvm.ClassFile.FieldType.boolean)) ∈ tbX := tb_7 (i := 35) rfl rfl
theorem t_1486 : (Jvm.Cond.code ({ cls := "SchoolLosingModel", name := "steps", desc := "(I)I" } : Jvm.MethodName) prog_11_method_73_code (3 : Nat) (Option.some Jvm.ClassFile.FieldType.int)) ∈ tbX := tb_7 (i := 46) rfl rfl
theorem t_1533 : (Jvm.Cond.code ({ cls := "SchoolLosingModel", name := "make", desc := "(I)I" } : Jvm.MethodName) prog_11_method_74_code (3 : Nat) (Option.some Jvm.ClassFile.FieldType.int)) ∈ tbX := tb_7 (i := 93) rfl rfl
theorem t_1537 : (Jvm.Cond.code ({ cls := "SchoolLosingModel", name := "learn", desc := "(II)I" } : Jvm.MethodName) prog_11_method_75_code (4 : Nat) (Option.some Jvm.ClassFile.FieldType.int)) ∈ tbX := tb_7 (i := 97) rfl rfl
theorem t_1548 : (Jvm.Cond.code ({ cls := "SchoolLosingModel", name := "undo", desc := "()Z" } : Jvm.MethodName) prog_11_method_76_code (2 : Nat) (Option.some Jvm.ClassFile.FieldType.boolean)) ∈ tbX := tb_7 (i := 108) rfl rfl
theorem t_1552 : (Jvm.Cond.code ({ cls := "SchoolLosingModel", name := "want", desc := "(III)I" } : Jvm.MethodName) prog_11_method_77_code (4 : Nat) (Option.some Jvm.ClassFile.FieldType.int)) ∈ tbX := tb_7 (i := 112) rfl rfl
theorem t_1556 : (Jvm.Cond.code ({ cls := "SchoolLosingModel", name := "wants", desc := "(III)I" } : Jvm.MethodName) prog_11_method_78_code (4 : Nat) (Option.some Jvm.ClassFile.FieldType.int)) ∈ tbX := tb_7 (i := 116) rfl rfl
theorem t_1568 : (Jvm.Cond.code ({ cls := "SchoolLosingModel", name := "fillsSure", desc := "(IIII)V" } : Jvm.MethodName) prog_11_method_79_code (11 : Nat) (Option.none : Option Jvm.ClassFile.FieldType)) ∈ tbX := tb_7 (i := 128) rfl rfl
theorem t_1564 : (Jvm.Cond.code ({ cls := "SchoolLosingModel", name := "isSurely", desc := "(IIII)Z" } : Jvm.MethodName) prog_11_method_80_code (5 : Nat) (Option.some Jvm.ClassFile.FieldType.boolean)) ∈ tbX := tb_7 (i := 124) rfl rfl
theorem t_1560 : (Jvm.Cond.code ({ cls := "SchoolLosingModel", name := "surely", desc := "(IIIII)I" } : Jvm.MethodName) prog_11_method_81_code (6 : Nat) (Option.some Jvm.ClassFile.FieldType.int)) ∈ tbX := tb_7 (i := 120) rfl rfl
theorem t_1572 : (Jvm.Cond.code ({ cls := "SchoolLosingModel", name := "loses", desc := "(IIII)I" } : Jvm.MethodName) prog_11_method_82_code (7 : Nat) (Option.some Jvm.ClassFile.FieldType.int)) ∈ tbX := tb_7 (i := 132) rfl rfl
theorem t_1576 : (Jvm.Cond.code ({ cls := "SchoolLosingModel", name := "seen", desc := "(IIIII)I" } : Jvm.MethodName) prog_11_method_83_code (6 : Nat) (Option.some Jvm.ClassFile.FieldType.int)) ∈ tbX := tb_7 (i := 136) rfl rfl
theorem t_1580 : (Jvm.Cond.code ({ cls := "SchoolLosingModel", name := "cup", desc := "(Z)I" } : Jvm.MethodName) prog_11_method_84_code (5 : Nat) (Option.some Jvm.ClassFile.FieldType.int)) ∈ tbX := tb_7 (i := 140) rfl rfl
theorem t_1599 : (Jvm.Cond.code ({ cls := "SchoolLosingModel", name := "sixtieths", desc := "(III)I" } : Jvm.MethodName) prog_11_method_85_code (5 : Nat) (Option.some Jvm.ClassFile.FieldType.int)) ∈ tbX := tb_7 (i := 159) rfl rfl
theorem t_1595 : (Jvm.Cond.code ({ cls := "SchoolLosingModel", name := "sixties", desc := "(I)I" } : Jvm.MethodName) prog_11_method_86_code (3 : Nat) (Option.some Jvm.ClassFile.FieldType.int)) ∈ tbX := tb_7 (i := 155) rfl rfl
theorem t_1592 : (Jvm.Cond.code ({ cls := "SchoolLosingModel", name := "fillsOften", desc := "(IIII)V" } : Jvm.MethodName) prog_11_method_87_code (9 : Nat) (Option.none : Option Jvm.ClassFile.FieldType)) ∈ tbX := tb_7 (i := 152) rfl rfl
theorem t_1605 : (Jvm.Cond.code ({ cls := "SchoolLosingModel", name := "common", desc := "(II)I" } : Jvm.MethodName) prog_11_method_88_code (5 : Nat) (Option.some Jvm.ClassFile.FieldType.int)) ∈ tbX := tb_7 (i := 165) rfl rfl
theorem t_1602 : (Jvm.Cond.code ({ cls := "SchoolLosingModel", name := "lineOf", desc := "(IIZ)I" } : Jvm.MethodName) prog_11_method_89_code (4 : Nat) (Option.some Jvm.ClassFile.FieldType.int)) ∈ tbX := tb_7 (i := 162) rfl rfl
theorem t_1588 : (Jvm.Cond.code ({ cls := "SchoolLosingModel", name := "isLikely", desc := "(IIII)Z" } : Jvm.MethodName) prog_11_method_90_code (5 : Nat) (Option.some Jvm.ClassFile.FieldType.boolean)) ∈ tbX := tb_7 (i := 148) rfl rfl
theorem t_1584 : (Jvm.Cond.code ({ cls := "SchoolLosingModel", name := "likely", desc := "(IIIIIZ)I" } : Jvm.MethodName) prog_11_method_91_code (7 : Nat) (Option.some Jvm.ClassFile.FieldType.int)) ∈ tbX := tb_7 (i := 144) rfl rfl
theorem t_1609 : (Jvm.Cond.code ({ cls := "SchoolLosingModel", name := "most", desc := "(IIII)I" } : Jvm.MethodName) prog_11_method_92_code (8 : Nat) (Option.some Jvm.ClassFile.FieldType.int)) ∈ tbX := tb_7 (i := 169) rfl rfl
theorem t_1620 : (Jvm.Cond.code ({ cls := "SchoolLosingModel", name := "sixes", desc := "(I)I" } : Jvm.MethodName) prog_11_method_93_code (3 : Nat) (Option.some Jvm.ClassFile.FieldType.int)) ∈ tbX := tb_7 (i := 180) rfl rfl
theorem t_1624 : (Jvm.Cond.code ({ cls := "SchoolLosingModel", name := "hoursBy", desc := "(I)I" } : Jvm.MethodName) prog_11_method_94_code (7 : Nat) (Option.some Jvm.ClassFile.FieldType.int)) ∈ tbX := tb_7 (i := 184) rfl rfl
theorem t_1617 : (Jvm.Cond.code ({ cls := "SchoolLosingModel", name := "fillsOrder", desc := "()V" } : Jvm.MethodName) prog_11_method_95_code (3 : Nat) (Option.none : Option Jvm.ClassFile.FieldType)) ∈ tbX := tb_7 (i := 177) rfl rfl
theorem t_1613 : (Jvm.Cond.code ({ cls := "SchoolLosingModel", name := "order", desc := "(I)I" } : Jvm.MethodName) prog_11_method_96_code (2 : Nat) (Option.some Jvm.ClassFile.FieldType.int)) ∈ tbX := tb_7 (i := 173) rfl rfl
theorem t_1640 : (Jvm.Cond.code ({ cls := "SchoolLosingModel", name := "suitsBy", desc := "(II)I" } : Jvm.MethodName) prog_11_method_97_code (3 : Nat) (Option.some Jvm.ClassFile.FieldType.int)) ∈ tbX := tb_7 (i := 200) rfl rfl
theorem t_1636 : (Jvm.Cond.code ({ cls := "SchoolLosingModel", name := "suitsAll", desc := "(I)I" } : Jvm.MethodName) prog_11_method_98_code (7 : Nat) (Option.some Jvm.ClassFile.FieldType.int)) ∈ tbX := tb_7 (i := 196) rfl rfl
theorem t_1632 : (Jvm.Cond.code ({ cls := "SchoolLosingModel", name := "fillsCourts", desc := "()V" } : Jvm.MethodName) prog_11_method_99_code (3 : Nat) (Option.none : Option Jvm.ClassFile.FieldType)) ∈ tbX := tb_7 (i := 192) rfl rfl
theorem t_1628 : (Jvm.Cond.code ({ cls := "SchoolLosingModel", name := "courts", desc := "(I)I" } : Jvm.MethodName) prog_11_method_100_code (2 : Nat) (Option.some Jvm.ClassFile.FieldType.int)) ∈ tbX := tb_7 (i := 188) rfl rfl
theorem t_1648 : (Jvm.Cond.code ({ cls := "SchoolLosingModel", name := "isDie", desc := "(I)Z" } : Jvm.MethodName) prog_11_method_101_code (2 : Nat) (Option.some Jvm.ClassFile.FieldType.boolean)) ∈ tbX := tb_7 (i := 208) rfl rfl
theorem t_1652 : (Jvm.Cond.code ({ cls := "SchoolLosingModel", name := "lessOf", desc := "(II)I" } : Jvm.MethodName) prog_11_method_102_code (5 : Nat) (Option.some Jvm.ClassFile.FieldType.int)) ∈ tbX := tb_7 (i := 212) rfl rfl
theorem t_1644 : (Jvm.Cond.code ({ cls := "SchoolLosingModel", name := "less", desc := "(IIZ)I" } : Jvm.MethodName) prog_11_method_103_code (4 : Nat) (Option.some Jvm.ClassFile.FieldType.int)) ∈ tbX := tb_7 (i := 204) rfl rfl
theorem t_1656 : (Jvm.Cond.code ({ cls := "SchoolLosingModel", name := "reply", desc := "(I)I" } : Jvm.MethodName) prog_11_method_104_code (4 : Nat) (Option.some Jvm.ClassFile.FieldType.int)) ∈ tbX := tb_7 (i := 216) rfl rfl
theorem t_1664 : (Jvm.Cond.code ({ cls := "SchoolLosingModel", name := "isResting", desc := "(II)Z" } : Jvm.MethodName) prog_11_method_105_code (4 : Nat) (Option.some Jvm.ClassFile.FieldType.boolean)) ∈ tbX := tb_7 (i := 224) rfl rfl
theorem t_1660 : (Jvm.Cond.code ({ cls := "SchoolLosingModel", name := "rests", desc := "(I)I" } : Jvm.MethodName) prog_11_method_106_code (5 : Nat) (Option.some Jvm.ClassFile.FieldType.int)) ∈ tbX := tb_7 (i := 220) rfl rfl
theorem t_1676 : (Jvm.Cond.code ({ cls := "SchoolLosingModel", name := "paysFor", desc := "(I)I" } : Jvm.MethodName) prog_11_method_107_code (2 : Nat) (Option.some Jvm.ClassFile.FieldType.int)) ∈ tbX := tb_7 (i := 236) rfl rfl
theorem t_1672 : (Jvm.Cond.code ({ cls := "SchoolLosingModel", name := "isEnough", desc := "(I)Z" } : Jvm.MethodName) prog_11_method_108_code (7 : Nat) (Option.some Jvm.ClassFile.FieldType.boolean)) ∈ tbX := tb_7 (i := 232) rfl rfl
theorem t_1668 : (Jvm.Cond.code ({ cls := "SchoolLosingModel", name := "fine", desc := "()I" } : Jvm.MethodName) prog_11_method_109_code (2 : Nat) (Option.some Jvm.ClassFile.FieldType.int)) ∈ tbX := tb_7 (i := 228) rfl rfl
theorem t_1680 : (Jvm.Cond.code ({ cls := "SchoolLosingModel", name := "pays", desc := "(I)I" } : Jvm.MethodName) prog_11_method_110_code (2 : Nat) (Option.some Jvm.ClassFile.FieldType.int)) ∈ tbX := tb_8 (i := 0) rfl rfl
theorem t_1684 : (Jvm.Cond.code ({ cls := "SchoolLosingModel", name := "tell", desc := "(III)I" } : Jvm.MethodName) prog_11_method_111_code (4 : Nat) (Option.some Jvm.ClassFile.FieldType.int)) ∈ tbX := tb_8 (i := 4) rfl rfl
theorem t_1688 : (Jvm.Cond.code ({ cls := "SchoolLosingModel", name := "forget", desc := "()I" } : Jvm.MethodName) prog_11_method_112_code (2 : Nat) (Option.some Jvm.ClassFile.FieldType.int)) ∈ tbX := tb_8 (i := 8) rfl rfl
theorem t_1696 : (Jvm.Cond.code ({ cls := "SchoolLosingModel", name := "oftenWith", desc := "(III)I" } : Jvm.MethodName) prog_11_method_113_code (6 : Nat) (Option.some Jvm.ClassFile.FieldType.int)) ∈ tbX := tb_8 (i := 16) rfl rfl
theorem t_1692 : (Jvm.Cond.code ({ cls := "SchoolLosingModel", name := "meant", desc := "(IIZ)I" } : Jvm.MethodName) prog_11_method_114_code (6 : Nat) (Option.some Jvm.ClassFile.FieldType.int)) ∈ tbX := tb_8 (i := 12) rfl rfl
theorem t_1700 : (Jvm.Cond.code ({ cls := "SchoolLosingModel", name := "fillsFor", desc := "(II)V" } : Jvm.MethodName) prog_11_method_115_code (3 : Nat) (Option.none : Option Jvm.ClassFile.FieldType)) ∈ tbX := tb_8 (i := 20) rfl rfl
theorem t_1704 : (Jvm.Cond.code ({ cls := "SchoolLosingModel", name := "set", desc := "()I" } : Jvm.MethodName) prog_11_method_116_code (7 : Nat) (Option.some Jvm.ClassFile.FieldType.int)) ∈ tbX := tb_8 (i := 24) rfl rfl
theorem t_1708 : (Jvm.Cond.code ({ cls := "SchoolLosingModel", name := "hold", desc := "(I)Z" } : Jvm.MethodName) prog_11_method_117_code (3 : Nat) (Option.some Jvm.ClassFile.FieldType.boolean)) ∈ tbX := tb_8 (i := 28) rfl rfl
theorem t_1712 : (Jvm.Cond.code ({ cls := "SchoolLosingModel", name := "restore", desc := "(I)Z" } : Jvm.MethodName) prog_11_method_118_code (3 : Nat) (Option.some Jvm.ClassFile.FieldType.boolean)) ∈ tbX := tb_8 (i := 32) rfl rfl
theorem t_1716 : (Jvm.Cond.code ({ cls := "SchoolLosingModel", name := "count", desc := "(I)I" } : Jvm.MethodName) prog_11_method_119_code (2 : Nat) (Option.some Jvm.ClassFile.FieldType.int)) ∈ tbX := tb_8 (i := 36) rfl rfl
theorem t_714 : (Jvm.Cond.code ({ cls := "java/lang/Integer", name := "bitCount", desc := "(I)I" } : Jvm.MethodName) prog_13_method_49_code (1 : Nat) (Option.some Jvm.ClassFile.FieldType.int)) ∈ tbX := tb_3 (i := 234) rfl rfl
theorem t_18 : (Jvm.Cond.initialized "java/lang/Integer") ∈ tbX := tb_1 (i := 18) rfl rfl
theorem t_44 : (Jvm.Cond.code ({ cls := "java/lang/String", name := "length", desc := "()I" } : Jvm.MethodName) prog_15_method_54_code (1 : Nat) (Option.some Jvm.ClassFile.FieldType.int)) ∈ tbX := tb_1 (i := 44) rfl rfl
theorem t_4 : (Jvm.Cond.initialized "java/lang/String") ∈ tbX := tb_1 (i := 4) rfl rfl
theorem t_54 : (Jvm.Cond.code ({ cls := "java/lang/String", name := "charAt", desc := "(I)C" } : Jvm.MethodName) prog_15_method_56_code (2 : Nat) (Option.some Jvm.ClassFile.FieldType.char)) ∈ tbX := tb_1 (i := 54) rfl rfl
theorem t_505 : (Jvm.Cond.code ({ cls := "java/lang/String", name := "indexOf", desc := "(I)I" } : Jvm.MethodName) prog_15_method_79_code (2 : Nat) (Option.some Jvm.ClassFile.FieldType.int)) ∈ tbX := tb_3 (i := 25) rfl rfl
theorem t_509 : (Jvm.Cond.code ({ cls := "java/lang/String", name := "indexOf", desc := "(II)I" } : Jvm.MethodName) prog_15_method_80_code (3 : Nat) (Option.some Jvm.ClassFile.FieldType.int)) ∈ tbX := tb_3 (i := 29) rfl rfl
theorem t_48 : (Jvm.Cond.code ({ cls := "java/lang/String", name := "coder", desc := "()B" } : Jvm.MethodName) prog_15_method_152_code (1 : Nat) (Option.some Jvm.ClassFile.FieldType.byte)) ∈ tbX := tb_1 (i := 48) rfl rfl
theorem t_58 : (Jvm.Cond.code ({ cls := "java/lang/String", name := "isLatin1", desc := "()Z" } : Jvm.MethodName) prog_15_method_154_code (1 : Nat) (Option.some Jvm.ClassFile.FieldType.boolean)) ∈ tbX := tb_1 (i := 58) rfl rfl
theorem t_64 : (Jvm.Cond.code ({ cls := "java/lang/String", name := "checkIndex", desc := "(II)V" } : Jvm.MethodName) prog_15_method_155_code (2 : Nat) (Option.none : Option Jvm.ClassFile.FieldType)) ∈ tbX := tb_1 (i := 64) rfl rfl
theorem t_61 : (Jvm.Cond.code ({ cls := "java/lang/StringLatin1", name := "charAt", desc := "([BI)C" } : Jvm.MethodName) prog_16_method_2_code (2 : Nat) (Option.some Jvm.ClassFile.FieldType.char)) ∈ tbX := tb_1 (i := 61) rfl rfl
theorem t_5 : (Jvm.Cond.initialized "java/lang/StringLatin1") ∈ tbX := tb_1 (i := 5) rfl rfl
theorem t_516 : (Jvm.Cond.code ({ cls := "java/lang/StringLatin1", name := "canEncode", desc := "(I)Z" } : Jvm.MethodName) prog_16_method_4_code (1 : Nat) (Option.some Jvm.ClassFile.FieldType.boolean)) ∈ tbX := tb_3 (i := 36) rfl rfl
theorem t_513 : (Jvm.Cond.code ({ cls := "java/lang/StringLatin1", name := "indexOf", desc := "([BIII)I" } : Jvm.MethodName) prog_16_method_22_code (4 : Nat) (Option.some Jvm.ClassFile.FieldType.int)) ∈ tbX := tb_3 (i := 33) rfl rfl
theorem t_525 : (Jvm.Cond.code ({ cls := "java/lang/StringLatin1", name := "indexOfChar", desc := "([BIII)I" } : Jvm.MethodName) prog_16_method_23_code (6 : Nat) (Option.some Jvm.ClassFile.FieldType.int)) ∈ tbX := tb_3 (i := 45) rfl rfl
theorem t_911 : (Jvm.Cond.code ({ cls := "java/util/Arrays", name := "fill", desc := "([JJ)V" } : Jvm.MethodName) prog_19_method_101_code (5 : Nat) (Option.none : Option Jvm.ClassFile.FieldType)) ∈ tbX := tb_4 (i := 191) rfl rfl
theorem t_14 : (Jvm.Cond.initialized "java/util/Arrays") ∈ tbX := tb_1 (i := 14) rfl rfl
theorem t_403 : (Jvm.Cond.code ({ cls := "java/util/Arrays", name := "fill", desc := "([II)V" } : Jvm.MethodName) prog_19_method_103_code (4 : Nat) (Option.none : Option Jvm.ClassFile.FieldType)) ∈ tbX := tb_2 (i := 163) rfl rfl
theorem t_69 : (Jvm.Cond.code ({ cls := "jdk/internal/util/Preconditions", name := "checkIndex", desc := "(IILjava/util/function/BiFunction;)I" } : Jvm.MethodName) prog_20_method_11_code (3 : Nat) (Option.some Jvm.ClassFile.FieldType.int)) ∈ tbX := tb_1 (i := 69) rfl rfl
theorem t_6 : (Jvm.Cond.initialized "jdk/internal/util/Preconditions") ∈ tbX := tb_1 (i := 6) rfl rfl
theorem t_212 : (Jvm.Cond.methodLink "SchoolLosing$Chances" (3 : Nat) ({ cls := "java/lang/Object", name := "<init>", desc := "()V" } : Jvm.MethodName)) ∈ tbX := tb_1 (i := 212) rfl rfl
theorem t_909 : (Jvm.Cond.methodLink "SchoolLosing$Chances" (18 : Nat) ({ cls := "java/util/Arrays", name := "fill", desc := "([JJ)V" } : Jvm.MethodName)) ∈ tbX := tb_4 (i := 189) rfl rfl
theorem t_910 : (Jvm.Cond.static ({ cls := "java/util/Arrays", name := "fill", desc := "([JJ)V" } : Jvm.MethodName)) ∈ tbX := tb_4 (i := 190) rfl rfl
theorem t_913 : (Jvm.Cond.methodLink "SchoolLosing$Chances" (40 : Nat) ({ cls := "SchoolLosing$Chances", name := "leave", desc := "(LSchoolLosing$Text;III)V" } : Jvm.MethodName)) ∈ tbX := tb_4 (i := 193) rfl rfl
theorem t_915 : (Jvm.Cond.instanceMethod ({ cls := "SchoolLosing$Chances", name := "leave", desc := "(LSchoolLosing$Text;III)V" } : Jvm.MethodName)) ∈ tbX := tb_4 (i := 195) rfl rfl
theorem ts_52 : (Cond.selects "SchoolLosing$Chances" ⟨"SchoolLosing$Chances", "leave", "(LSchoolLosing$Text;III)V"⟩ ⟨"SchoolLosing$Chances", "leave", "(LSchoolLosing$Text;III)V"⟩) ∈ tbX := tb_s (i := 52) rfl rfl
theorem t_918 : (Jvm.Cond.methodLink "SchoolLosing$Chances" (50 : Nat) ({ cls := "SchoolLosing$Chances", name := "weight", desc := "(IZI)I" } : Jvm.MethodName)) ∈ tbX := tb_4 (i := 198) rfl rfl
theorem t_919 : (Jvm.Cond.static ({ cls := "SchoolLosing$Chances", name := "weight", desc := "(IZI)I" } : Jvm.MethodName)) ∈ tbX := tb_4 (i := 199) rfl rfl
theorem t_226 : (Jvm.Cond.methodLink "SchoolLosing$Choice" (1 : Nat) ({ cls := "java/lang/Object", name := "<init>", desc := "()V" } : Jvm.MethodName)) ∈ tbX := tb_1 (i := 226) rfl rfl
theorem t_941 : (Jvm.Cond.methodLink "SchoolLosing$Choice" (19 : Nat) ({ cls := "java/lang/Math", name := "min", desc := "(II)I" } : Jvm.MethodName)) ∈ tbX := tb_4 (i := 221) rfl rfl
theorem t_942 : (Jvm.Cond.methodLink "SchoolLosing$Choice" (29 : Nat) ({ cls := "java/lang/Integer", name := "bitCount", desc := "(I)I" } : Jvm.MethodName)) ∈ tbX := tb_4 (i := 222) rfl rfl
theorem t_713 : (Jvm.Cond.static ({ cls := "java/lang/Integer", name := "bitCount", desc := "(I)I" } : Jvm.MethodName)) ∈ tbX := tb_3 (i := 233) rfl rfl
theorem t_943 : (Jvm.Cond.methodLink "SchoolLosing$Choice" (35 : Nat) ({ cls := "SchoolLosing$Choice", name := "firstBest", desc := "(II)I" } : Jvm.MethodName)) ∈ tbX := tb_4 (i := 223) rfl rfl
theorem t_945 : (Jvm.Cond.instanceMethod ({ cls := "SchoolLosing$Choice", name := "firstBest", desc := "(II)I" } : Jvm.MethodName)) ∈ tbX := tb_4 (i := 225) rfl rfl
theorem ts_53 : (Cond.selects "SchoolLosing$Choice" ⟨"SchoolLosing$Choice", "firstBest", "(II)I"⟩ ⟨"SchoolLosing$Choice", "firstBest", "(II)I"⟩) ∈ tbX := tb_s (i := 53) rfl rfl
theorem t_947 : (Jvm.Cond.methodLink "SchoolLosing$Choice" (38 : Nat) ({ cls := "SchoolLosing$Choice", name := "costOf", desc := "(III)I" } : Jvm.MethodName)) ∈ tbX := tb_4 (i := 227) rfl rfl
theorem t_949 : (Jvm.Cond.instanceMethod ({ cls := "SchoolLosing$Choice", name := "costOf", desc := "(III)I" } : Jvm.MethodName)) ∈ tbX := tb_4 (i := 229) rfl rfl
theorem ts_54 : (Cond.selects "SchoolLosing$Choice" ⟨"SchoolLosing$Choice", "costOf", "(III)I"⟩ ⟨"SchoolLosing$Choice", "costOf", "(III)I"⟩) ∈ tbX := tb_s (i := 54) rfl rfl
theorem t_167 : (Jvm.Cond.methodLink "SchoolLosing$Going" (3 : Nat) ({ cls := "java/lang/Object", name := "<init>", desc := "()V" } : Jvm.MethodName)) ∈ tbX := tb_1 (i := 167) rfl rfl
theorem t_401 : (Jvm.Cond.methodLink "SchoolLosing$Going" (25 : Nat) ({ cls := "java/util/Arrays", name := "fill", desc := "([II)V" } : Jvm.MethodName)) ∈ tbX := tb_2 (i := 161) rfl rfl
theorem t_402 : (Jvm.Cond.static ({ cls := "java/util/Arrays", name := "fill", desc := "([II)V" } : Jvm.MethodName)) ∈ tbX := tb_2 (i := 162) rfl rfl
theorem t_750 : (Jvm.Cond.methodLink "SchoolLosing$Going" (38 : Nat) ({ cls := "java/lang/System", name := "arraycopy", desc := "(Ljava/lang/Object;ILjava/lang/Object;II)V" } : Jvm.MethodName)) ∈ tbX := tb_4 (i := 30) rfl rfl
theorem t_753 : (Jvm.Cond.methodLink "SchoolLosing$Going" (44 : Nat) ({ cls := "java/lang/Math", name := "min", desc := "(II)I" } : Jvm.MethodName)) ∈ tbX := tb_4 (i := 33) rfl rfl
theorem t_254 : (Jvm.Cond.methodLink "SchoolLosing$Laws" (5 : Nat) ({ cls := "java/lang/Object", name := "<init>", desc := "()V" } : Jvm.MethodName)) ∈ tbX := tb_2 (i := 14) rfl rfl
theorem t_389 : (Jvm.Cond.methodLink "SchoolLosing$Laws" (28 : Nat) ({ cls := "SchoolLosing$Laws", name := "writeShort", desc := "(II)V" } : Jvm.MethodName)) ∈ tbX := tb_2 (i := 149) rfl rfl
theorem t_391 : (Jvm.Cond.instanceMethod ({ cls := "SchoolLosing$Laws", name := "writeShort", desc := "(II)V" } : Jvm.MethodName)) ∈ tbX := tb_2 (i := 151) rfl rfl
theorem ts_0 : (Cond.selects "SchoolLosing$Laws" ⟨"SchoolLosing$Laws", "writeShort", "(II)V"⟩ ⟨"SchoolLosing$Laws", "writeShort", "(II)V"⟩) ∈ tbX := tb_s (i := 0) rfl rfl
theorem t_393 : (Jvm.Cond.methodLink "SchoolLosing$Laws" (32 : Nat) ({ cls := "SchoolLosing$Laws", name := "write", desc := "(I)V" } : Jvm.MethodName)) ∈ tbX := tb_2 (i := 153) rfl rfl
theorem t_394 : (Jvm.Cond.instanceMethod ({ cls := "SchoolLosing$Laws", name := "write", desc := "(I)V" } : Jvm.MethodName)) ∈ tbX := tb_2 (i := 154) rfl rfl
theorem t_395 : (Jvm.Cond.selects "SchoolLosing$Laws" ({ cls := "SchoolLosing$Laws", name := "write", desc := "(I)V" } : Jvm.MethodName) ({ cls := "SchoolLosing$Laws", name := "write", desc := "(I)V" } : Jvm.MethodName)) ∈ tbX := tb_2 (i := 155) rfl rfl
theorem t_797 : (Jvm.Cond.methodLink "SchoolLosing$Laws" (36 : Nat) ({ cls := "java/util/Arrays", name := "fill", desc := "([II)V" } : Jvm.MethodName)) ∈ tbX := tb_4 (i := 77) rfl rfl
theorem t_798 : (Jvm.Cond.methodLink "SchoolLosing$Laws" (42 : Nat) ({ cls := "SchoolLosing$Laws", name := "value", desc := "(I)I" } : Jvm.MethodName)) ∈ tbX := tb_4 (i := 78) rfl rfl
theorem t_800 : (Jvm.Cond.instanceMethod ({ cls := "SchoolLosing$Laws", name := "value", desc := "(I)I" } : Jvm.MethodName)) ∈ tbX := tb_4 (i := 80) rfl rfl
theorem ts_43 : (Cond.selects "SchoolLosing$Laws" ⟨"SchoolLosing$Laws", "value", "(I)I"⟩ ⟨"SchoolLosing$Laws", "value", "(I)I"⟩) ∈ tbX := tb_s (i := 43) rfl rfl
theorem t_802 : (Jvm.Cond.methodLink "SchoolLosing$Laws" (46 : Nat) ({ cls := "SchoolLosing$Laws", name := "joined", desc := "(III)I" } : Jvm.MethodName)) ∈ tbX := tb_4 (i := 82) rfl rfl
theorem t_803 : (Jvm.Cond.static ({ cls := "SchoolLosing$Laws", name := "joined", desc := "(III)I" } : Jvm.MethodName)) ∈ tbX := tb_4 (i := 83) rfl rfl
theorem t_33 : (Jvm.Cond.methodLink "SchoolLosing$Reader" (3 : Nat) ({ cls := "java/lang/Object", name := "<init>", desc := "()V" } : Jvm.MethodName)) ∈ tbX := tb_1 (i := 33) rfl rfl
theorem t_36 : (Jvm.Cond.methodLink "SchoolLosing$Reader" (11 : Nat) ({ cls := "SchoolLosing$Tokens", name := "<init>", desc := "()V" } : Jvm.MethodName)) ∈ tbX := tb_1 (i := 36) rfl rfl
theorem t_37 : (Jvm.Cond.instanceMethod ({ cls := "SchoolLosing$Tokens", name := "<init>", desc := "()V" } : Jvm.MethodName)) ∈ tbX := tb_1 (i := 37) rfl rfl
theorem t_565 : (Jvm.Cond.methodLink "SchoolLosing$Reader" (40 : Nat) ({ cls := "SchoolLosing$Text", name := "clear", desc := "()V" } : Jvm.MethodName)) ∈ tbX := tb_3 (i := 85) rfl rfl
theorem t_382 : (Jvm.Cond.instanceMethod ({ cls := "SchoolLosing$Text", name := "clear", desc := "()V" } : Jvm.MethodName)) ∈ tbX := tb_2 (i := 142) rfl rfl
theorem t_383 : (Jvm.Cond.selects "SchoolLosing$Text" ({ cls := "SchoolLosing$Text", name := "clear", desc := "()V" } : Jvm.MethodName) ({ cls := "SchoolLosing$Text", name := "clear", desc := "()V" } : Jvm.MethodName)) ∈ tbX := tb_2 (i := 143) rfl rfl
theorem t_566 : (Jvm.Cond.methodLink "SchoolLosing$Reader" (60 : Nat) ({ cls := "SchoolLosing$Reader", name := "kind", desc := "()I" } : Jvm.MethodName)) ∈ tbX := tb_3 (i := 86) rfl rfl
theorem t_568 : (Jvm.Cond.instanceMethod ({ cls := "SchoolLosing$Reader", name := "kind", desc := "()I" } : Jvm.MethodName)) ∈ tbX := tb_3 (i := 88) rfl rfl
theorem ts_6 : (Cond.selects "SchoolLosing$Reader" ⟨"SchoolLosing$Reader", "kind", "()I"⟩ ⟨"SchoolLosing$Reader", "kind", "()I"⟩) ∈ tbX := tb_s (i := 6) rfl rfl
theorem t_570 : (Jvm.Cond.methodLink "SchoolLosing$Reader" (64 : Nat) ({ cls := "SchoolLosing$Reader", name := "readTell", desc := "(I)V" } : Jvm.MethodName)) ∈ tbX := tb_3 (i := 90) rfl rfl
theorem t_572 : (Jvm.Cond.instanceMethod ({ cls := "SchoolLosing$Reader", name := "readTell", desc := "(I)V" } : Jvm.MethodName)) ∈ tbX := tb_3 (i := 92) rfl rfl
theorem ts_7 : (Cond.selects "SchoolLosing$Reader" ⟨"SchoolLosing$Reader", "readTell", "(I)V"⟩ ⟨"SchoolLosing$Reader", "readTell", "(I)V"⟩) ∈ tbX := tb_s (i := 7) rfl rfl
theorem t_668 : (Jvm.Cond.methodLink "SchoolLosing$Reader" (68 : Nat) ({ cls := "SchoolLosing$Text", name := "compareDice", desc := "()V" } : Jvm.MethodName)) ∈ tbX := tb_3 (i := 188) rfl rfl
theorem t_669 : (Jvm.Cond.instanceMethod ({ cls := "SchoolLosing$Text", name := "compareDice", desc := "()V" } : Jvm.MethodName)) ∈ tbX := tb_3 (i := 189) rfl rfl
theorem t_670 : (Jvm.Cond.selects "SchoolLosing$Text" ({ cls := "SchoolLosing$Text", name := "compareDice", desc := "()V" } : Jvm.MethodName) ({ cls := "SchoolLosing$Text", name := "compareDice", desc := "()V" } : Jvm.MethodName)) ∈ tbX := tb_3 (i := 190) rfl rfl
theorem t_574 : (Jvm.Cond.methodLink "SchoolLosing$Reader" (71 : Nat) ({ cls := "SchoolLosing$Reader", name := "readEnd", desc := "()V" } : Jvm.MethodName)) ∈ tbX := tb_3 (i := 94) rfl rfl
theorem t_576 : (Jvm.Cond.instanceMethod ({ cls := "SchoolLosing$Reader", name := "readEnd", desc := "()V" } : Jvm.MethodName)) ∈ tbX := tb_3 (i := 96) rfl rfl
theorem ts_8 : (Cond.selects "SchoolLosing$Reader" ⟨"SchoolLosing$Reader", "readEnd", "()V"⟩ ⟨"SchoolLosing$Reader", "readEnd", "()V"⟩) ∈ tbX := tb_s (i := 8) rfl rfl
theorem t_610 : (Jvm.Cond.methodLink "SchoolLosing$Reader" (74 : Nat) ({ cls := "SchoolLosing$Reader", name := "readTurn", desc := "()V" } : Jvm.MethodName)) ∈ tbX := tb_3 (i := 130) rfl rfl
theorem t_612 : (Jvm.Cond.instanceMethod ({ cls := "SchoolLosing$Reader", name := "readTurn", desc := "()V" } : Jvm.MethodName)) ∈ tbX := tb_3 (i := 132) rfl rfl
theorem ts_17 : (Cond.selects "SchoolLosing$Reader" ⟨"SchoolLosing$Reader", "readTurn", "()V"⟩ ⟨"SchoolLosing$Reader", "readTurn", "()V"⟩) ∈ tbX := tb_s (i := 17) rfl rfl
theorem t_627 : (Jvm.Cond.methodLink "SchoolLosing$Reader" (77 : Nat) ({ cls := "SchoolLosing$Reader", name := "readMan", desc := "()V" } : Jvm.MethodName)) ∈ tbX := tb_3 (i := 147) rfl rfl
theorem t_629 : (Jvm.Cond.instanceMethod ({ cls := "SchoolLosing$Reader", name := "readMan", desc := "()V" } : Jvm.MethodName)) ∈ tbX := tb_3 (i := 149) rfl rfl
theorem ts_21 : (Cond.selects "SchoolLosing$Reader" ⟨"SchoolLosing$Reader", "readMan", "()V"⟩ ⟨"SchoolLosing$Reader", "readMan", "()V"⟩) ∈ tbX := tb_s (i := 21) rfl rfl
theorem t_631 : (Jvm.Cond.methodLink "SchoolLosing$Reader" (80 : Nat) ({ cls := "SchoolLosing$Reader", name := "readLesson", desc := "()V" } : Jvm.MethodName)) ∈ tbX := tb_3 (i := 151) rfl rfl
theorem t_633 : (Jvm.Cond.instanceMethod ({ cls := "SchoolLosing$Reader", name := "readLesson", desc := "()V" } : Jvm.MethodName)) ∈ tbX := tb_3 (i := 153) rfl rfl
theorem ts_22 : (Cond.selects "SchoolLosing$Reader" ⟨"SchoolLosing$Reader", "readLesson", "()V"⟩ ⟨"SchoolLosing$Reader", "readLesson", "()V"⟩) ∈ tbX := tb_s (i := 22) rfl rfl
theorem t_635 : (Jvm.Cond.methodLink "SchoolLosing$Reader" (83 : Nat) ({ cls := "SchoolLosing$Reader", name := "readCourt", desc := "()V" } : Jvm.MethodName)) ∈ tbX := tb_3 (i := 155) rfl rfl
theorem t_637 : (Jvm.Cond.instanceMethod ({ cls := "SchoolLosing$Reader", name := "readCourt", desc := "()V" } : Jvm.MethodName)) ∈ tbX := tb_3 (i := 157) rfl rfl
theorem ts_23 : (Cond.selects "SchoolLosing$Reader" ⟨"SchoolLosing$Reader", "readCourt", "()V"⟩ ⟨"SchoolLosing$Reader", "readCourt", "()V"⟩) ∈ tbX := tb_s (i := 23) rfl rfl
theorem t_639 : (Jvm.Cond.methodLink "SchoolLosing$Reader" (86 : Nat) ({ cls := "SchoolLosing$Reader", name := "readDie", desc := "()V" } : Jvm.MethodName)) ∈ tbX := tb_3 (i := 159) rfl rfl
theorem t_641 : (Jvm.Cond.instanceMethod ({ cls := "SchoolLosing$Reader", name := "readDie", desc := "()V" } : Jvm.MethodName)) ∈ tbX := tb_3 (i := 161) rfl rfl
theorem ts_24 : (Cond.selects "SchoolLosing$Reader" ⟨"SchoolLosing$Reader", "readDie", "()V"⟩ ⟨"SchoolLosing$Reader", "readDie", "()V"⟩) ∈ tbX := tb_s (i := 24) rfl rfl
theorem t_643 : (Jvm.Cond.methodLink "SchoolLosing$Reader" (89 : Nat) ({ cls := "SchoolLosing$Reader", name := "readLaw", desc := "(I)V" } : Jvm.MethodName)) ∈ tbX := tb_3 (i := 163) rfl rfl
theorem t_645 : (Jvm.Cond.instanceMethod ({ cls := "SchoolLosing$Reader", name := "readLaw", desc := "(I)V" } : Jvm.MethodName)) ∈ tbX := tb_3 (i := 165) rfl rfl
theorem ts_25 : (Cond.selects "SchoolLosing$Reader" ⟨"SchoolLosing$Reader", "readLaw", "(I)V"⟩ ⟨"SchoolLosing$Reader", "readLaw", "(I)V"⟩) ∈ tbX := tb_s (i := 25) rfl rfl
theorem t_586 : (Jvm.Cond.methodLink "SchoolLosing$Reader" (92 : Nat) ({ cls := "SchoolLosing$Reader", name := "take", desc := "(I)Z" } : Jvm.MethodName)) ∈ tbX := tb_3 (i := 106) rfl rfl
theorem t_588 : (Jvm.Cond.instanceMethod ({ cls := "SchoolLosing$Reader", name := "take", desc := "(I)Z" } : Jvm.MethodName)) ∈ tbX := tb_3 (i := 108) rfl rfl
theorem ts_11 : (Cond.selects "SchoolLosing$Reader" ⟨"SchoolLosing$Reader", "take", "(I)Z"⟩ ⟨"SchoolLosing$Reader", "take", "(I)Z"⟩) ∈ tbX := tb_s (i := 11) rfl rfl
theorem t_602 : (Jvm.Cond.methodLink "SchoolLosing$Reader" (96 : Nat) ({ cls := "SchoolLosing$Reader", name := "takeInt", desc := "(II)I" } : Jvm.MethodName)) ∈ tbX := tb_3 (i := 122) rfl rfl
theorem t_604 : (Jvm.Cond.instanceMethod ({ cls := "SchoolLosing$Reader", name := "takeInt", desc := "(II)I" } : Jvm.MethodName)) ∈ tbX := tb_3 (i := 124) rfl rfl
theorem ts_15 : (Cond.selects "SchoolLosing$Reader" ⟨"SchoolLosing$Reader", "takeInt", "(II)I"⟩ ⟨"SchoolLosing$Reader", "takeInt", "(II)I"⟩) ∈ tbX := tb_s (i := 15) rfl rfl
theorem t_582 : (Jvm.Cond.methodLink "SchoolLosing$Reader" (103 : Nat) ({ cls := "SchoolLosing$Reader", name := "stop", desc := "(I)V" } : Jvm.MethodName)) ∈ tbX := tb_3 (i := 102) rfl rfl
theorem t_584 : (Jvm.Cond.instanceMethod ({ cls := "SchoolLosing$Reader", name := "stop", desc := "(I)V" } : Jvm.MethodName)) ∈ tbX := tb_3 (i := 104) rfl rfl
theorem ts_10 : (Cond.selects "SchoolLosing$Reader" ⟨"SchoolLosing$Reader", "stop", "(I)V"⟩ ⟨"SchoolLosing$Reader", "stop", "(I)V"⟩) ∈ tbX := tb_s (i := 10) rfl rfl
theorem t_578 : (Jvm.Cond.methodLink "SchoolLosing$Reader" (109 : Nat) ({ cls := "SchoolLosing$Reader", name := "opens", desc := "(III)Z" } : Jvm.MethodName)) ∈ tbX := tb_3 (i := 98) rfl rfl
theorem t_580 : (Jvm.Cond.instanceMethod ({ cls := "SchoolLosing$Reader", name := "opens", desc := "(III)Z" } : Jvm.MethodName)) ∈ tbX := tb_3 (i := 100) rfl rfl
theorem ts_9 : (Cond.selects "SchoolLosing$Reader" ⟨"SchoolLosing$Reader", "opens", "(III)Z"⟩ ⟨"SchoolLosing$Reader", "opens", "(III)Z"⟩) ∈ tbX := tb_s (i := 9) rfl rfl
theorem t_590 : (Jvm.Cond.methodLink "SchoolLosing$Reader" (113 : Nat) ({ cls := "SchoolLosing$Reader", name := "takeNewName", desc := "()J" } : Jvm.MethodName)) ∈ tbX := tb_3 (i := 110) rfl rfl
theorem t_592 : (Jvm.Cond.instanceMethod ({ cls := "SchoolLosing$Reader", name := "takeNewName", desc := "()J" } : Jvm.MethodName)) ∈ tbX := tb_3 (i := 112) rfl rfl
theorem ts_12 : (Cond.selects "SchoolLosing$Reader" ⟨"SchoolLosing$Reader", "takeNewName", "()J"⟩ ⟨"SchoolLosing$Reader", "takeNewName", "()J"⟩) ∈ tbX := tb_s (i := 12) rfl rfl
theorem t_606 : (Jvm.Cond.methodLink "SchoolLosing$Reader" (129 : Nat) ({ cls := "SchoolLosing$Reader", name := "know", desc := "(JII)V" } : Jvm.MethodName)) ∈ tbX := tb_3 (i := 126) rfl rfl
theorem t_608 : (Jvm.Cond.instanceMethod ({ cls := "SchoolLosing$Reader", name := "know", desc := "(JII)V" } : Jvm.MethodName)) ∈ tbX := tb_3 (i := 128) rfl rfl
theorem ts_16 : (Cond.selects "SchoolLosing$Reader" ⟨"SchoolLosing$Reader", "know", "(JII)V"⟩ ⟨"SchoolLosing$Reader", "know", "(JII)V"⟩) ∈ tbX := tb_s (i := 16) rfl rfl
theorem t_614 : (Jvm.Cond.methodLink "SchoolLosing$Reader" (133 : Nat) ({ cls := "SchoolLosing$Reader", name := "here", desc := "()I" } : Jvm.MethodName)) ∈ tbX := tb_3 (i := 134) rfl rfl
theorem t_616 : (Jvm.Cond.instanceMethod ({ cls := "SchoolLosing$Reader", name := "here", desc := "()I" } : Jvm.MethodName)) ∈ tbX := tb_3 (i := 136) rfl rfl
theorem ts_18 : (Cond.selects "SchoolLosing$Reader" ⟨"SchoolLosing$Reader", "here", "()I"⟩ ⟨"SchoolLosing$Reader", "here", "()I"⟩) ∈ tbX := tb_s (i := 18) rfl rfl
theorem t_618 : (Jvm.Cond.methodLink "SchoolLosing$Reader" (136 : Nat) ({ cls := "SchoolLosing$Reader", name := "readMove", desc := "(II)V" } : Jvm.MethodName)) ∈ tbX := tb_3 (i := 138) rfl rfl
theorem t_620 : (Jvm.Cond.instanceMethod ({ cls := "SchoolLosing$Reader", name := "readMove", desc := "(II)V" } : Jvm.MethodName)) ∈ tbX := tb_3 (i := 140) rfl rfl
theorem ts_19 : (Cond.selects "SchoolLosing$Reader" ⟨"SchoolLosing$Reader", "readMove", "(II)V"⟩ ⟨"SchoolLosing$Reader", "readMove", "(II)V"⟩) ∈ tbX := tb_s (i := 19) rfl rfl
theorem t_598 : (Jvm.Cond.methodLink "SchoolLosing$Reader" (140 : Nat) ({ cls := "SchoolLosing$Reader", name := "note", desc := "(II)V" } : Jvm.MethodName)) ∈ tbX := tb_3 (i := 118) rfl rfl
theorem t_600 : (Jvm.Cond.instanceMethod ({ cls := "SchoolLosing$Reader", name := "note", desc := "(II)V" } : Jvm.MethodName)) ∈ tbX := tb_3 (i := 120) rfl rfl
theorem ts_14 : (Cond.selects "SchoolLosing$Reader" ⟨"SchoolLosing$Reader", "note", "(II)V"⟩ ⟨"SchoolLosing$Reader", "note", "(II)V"⟩) ∈ tbX := tb_s (i := 14) rfl rfl
theorem t_622 : (Jvm.Cond.methodLink "SchoolLosing$Reader" (143 : Nat) ({ cls := "SchoolLosing$Reader", name := "takeKnown", desc := "(I)I" } : Jvm.MethodName)) ∈ tbX := tb_3 (i := 142) rfl rfl
theorem t_624 : (Jvm.Cond.instanceMethod ({ cls := "SchoolLosing$Reader", name := "takeKnown", desc := "(I)I" } : Jvm.MethodName)) ∈ tbX := tb_3 (i := 144) rfl rfl
theorem ts_20 : (Cond.selects "SchoolLosing$Reader" ⟨"SchoolLosing$Reader", "takeKnown", "(I)I"⟩ ⟨"SchoolLosing$Reader", "takeKnown", "(I)I"⟩) ∈ tbX := tb_s (i := 20) rfl rfl
theorem t_626 : (Jvm.Cond.methodLink "SchoolLosing$Reader" (153 : Nat) ({ cls := "java/lang/Math", name := "max", desc := "(II)I" } : Jvm.MethodName)) ∈ tbX := tb_3 (i := 146) rfl rfl
theorem t_647 : (Jvm.Cond.methodLink "SchoolLosing$Reader" (197 : Nat) ({ cls := "SchoolLosing$Reader", name := "readSum", desc := "()V" } : Jvm.MethodName)) ∈ tbX := tb_3 (i := 167) rfl rfl
theorem t_649 : (Jvm.Cond.instanceMethod ({ cls := "SchoolLosing$Reader", name := "readSum", desc := "()V" } : Jvm.MethodName)) ∈ tbX := tb_3 (i := 169) rfl rfl
theorem ts_26 : (Cond.selects "SchoolLosing$Reader" ⟨"SchoolLosing$Reader", "readSum", "()V"⟩ ⟨"SchoolLosing$Reader", "readSum", "()V"⟩) ∈ tbX := tb_s (i := 26) rfl rfl
theorem t_659 : (Jvm.Cond.methodLink "SchoolLosing$Reader" (200 : Nat) ({ cls := "SchoolLosing$Laws", name := "write", desc := "(I)V" } : Jvm.MethodName)) ∈ tbX := tb_3 (i := 179) rfl rfl
theorem t_664 : (Jvm.Cond.methodLink "SchoolLosing$Reader" (203 : Nat) ({ cls := "SchoolLosing$Laws", name := "aimAtNext", desc := "(I)V" } : Jvm.MethodName)) ∈ tbX := tb_3 (i := 184) rfl rfl
theorem t_665 : (Jvm.Cond.instanceMethod ({ cls := "SchoolLosing$Laws", name := "aimAtNext", desc := "(I)V" } : Jvm.MethodName)) ∈ tbX := tb_3 (i := 185) rfl rfl
theorem t_666 : (Jvm.Cond.selects "SchoolLosing$Laws" ({ cls := "SchoolLosing$Laws", name := "aimAtNext", desc := "(I)V" } : Jvm.MethodName) ({ cls := "SchoolLosing$Laws", name := "aimAtNext", desc := "(I)V" } : Jvm.MethodName)) ∈ tbX := tb_3 (i := 186) rfl rfl
theorem t_651 : (Jvm.Cond.methodLink "SchoolLosing$Reader" (212 : Nat) ({ cls := "SchoolLosing$Reader", name := "keepAside", desc := "(I)V" } : Jvm.MethodName)) ∈ tbX := tb_3 (i := 171) rfl rfl
theorem t_653 : (Jvm.Cond.instanceMethod ({ cls := "SchoolLosing$Reader", name := "keepAside", desc := "(I)V" } : Jvm.MethodName)) ∈ tbX := tb_3 (i := 173) rfl rfl
theorem ts_27 : (Cond.selects "SchoolLosing$Reader" ⟨"SchoolLosing$Reader", "keepAside", "(I)V"⟩ ⟨"SchoolLosing$Reader", "keepAside", "(I)V"⟩) ∈ tbX := tb_s (i := 27) rfl rfl
theorem t_655 : (Jvm.Cond.methodLink "SchoolLosing$Reader" (215 : Nat) ({ cls := "SchoolLosing$Reader", name := "readUnit", desc := "(I)V" } : Jvm.MethodName)) ∈ tbX := tb_3 (i := 175) rfl rfl
theorem t_657 : (Jvm.Cond.instanceMethod ({ cls := "SchoolLosing$Reader", name := "readUnit", desc := "(I)V" } : Jvm.MethodName)) ∈ tbX := tb_3 (i := 177) rfl rfl
theorem ts_28 : (Cond.selects "SchoolLosing$Reader" ⟨"SchoolLosing$Reader", "readUnit", "(I)V"⟩ ⟨"SchoolLosing$Reader", "readUnit", "(I)V"⟩) ∈ tbX := tb_s (i := 28) rfl rfl
theorem t_660 : (Jvm.Cond.methodLink "SchoolLosing$Reader" (218 : Nat) ({ cls := "SchoolLosing$Reader", name := "writeWaiting", desc := "(I)V" } : Jvm.MethodName)) ∈ tbX := tb_3 (i := 180) rfl rfl
theorem t_662 : (Jvm.Cond.instanceMethod ({ cls := "SchoolLosing$Reader", name := "writeWaiting", desc := "(I)V" } : Jvm.MethodName)) ∈ tbX := tb_3 (i := 182) rfl rfl
theorem ts_29 : (Cond.selects "SchoolLosing$Reader" ⟨"SchoolLosing$Reader", "writeWaiting", "(I)V"⟩ ⟨"SchoolLosing$Reader", "writeWaiting", "(I)V"⟩) ∈ tbX := tb_s (i := 29) rfl rfl
theorem t_594 : (Jvm.Cond.methodLink "SchoolLosing$Reader" (230 : Nat) ({ cls := "SchoolLosing$Reader", name := "indexOf", desc := "(J)I" } : Jvm.MethodName)) ∈ tbX := tb_3 (i := 114) rfl rfl
theorem t_596 : (Jvm.Cond.instanceMethod ({ cls := "SchoolLosing$Reader", name := "indexOf", desc := "(J)I" } : Jvm.MethodName)) ∈ tbX := tb_3 (i := 116) rfl rfl
theorem ts_13 : (Cond.selects "SchoolLosing$Reader" ⟨"SchoolLosing$Reader", "indexOf", "(J)I"⟩ ⟨"SchoolLosing$Reader", "indexOf", "(J)I"⟩) ∈ tbX := tb_s (i := 13) rfl rfl
theorem t_248 : (Jvm.Cond.methodLink "SchoolLosing$Text" (3 : Nat) ({ cls := "java/lang/Object", name := "<init>", desc := "()V" } : Jvm.MethodName)) ∈ tbX := tb_2 (i := 8) rfl rfl
theorem t_252 : (Jvm.Cond.instanceMethod ({ cls := "SchoolLosing$Laws", name := "<init>", desc := "()V" } : Jvm.MethodName)) ∈ tbX := tb_2 (i := 12) rfl rfl
theorem t_385 : (Jvm.Cond.methodLink "SchoolLosing$Text" (77 : Nat) ({ cls := "SchoolLosing$Laws", name := "clear", desc := "()V" } : Jvm.MethodName)) ∈ tbX := tb_2 (i := 145) rfl rfl
theorem t_386 : (Jvm.Cond.instanceMethod ({ cls := "SchoolLosing$Laws", name := "clear", desc := "()V" } : Jvm.MethodName)) ∈ tbX := tb_2 (i := 146) rfl rfl
theorem t_387 : (Jvm.Cond.selects "SchoolLosing$Laws" ({ cls := "SchoolLosing$Laws", name := "clear", desc := "()V" } : Jvm.MethodName) ({ cls := "SchoolLosing$Laws", name := "clear", desc := "()V" } : Jvm.MethodName)) ∈ tbX := tb_2 (i := 147) rfl rfl
theorem t_672 : (Jvm.Cond.methodLink "SchoolLosing$Text" (80 : Nat) ({ cls := "SchoolLosing$Text", name := "throwsLower", desc := "(II)I" } : Jvm.MethodName)) ∈ tbX := tb_3 (i := 192) rfl rfl
theorem t_674 : (Jvm.Cond.instanceMethod ({ cls := "SchoolLosing$Text", name := "throwsLower", desc := "(II)I" } : Jvm.MethodName)) ∈ tbX := tb_3 (i := 194) rfl rfl
theorem ts_30 : (Cond.selects "SchoolLosing$Text" ⟨"SchoolLosing$Text", "throwsLower", "(II)I"⟩ ⟨"SchoolLosing$Text", "throwsLower", "(II)I"⟩) ∈ tbX := tb_s (i := 30) rfl rfl
theorem t_39 : (Jvm.Cond.methodLink "SchoolLosing$Tokens" (3 : Nat) ({ cls := "java/lang/Object", name := "<init>", desc := "()V" } : Jvm.MethodName)) ∈ tbX := tb_1 (i := 39) rfl rfl
theorem t_41 : (Jvm.Cond.methodLink "SchoolLosing$Tokens" (31 : Nat) ({ cls := "java/lang/String", name := "length", desc := "()I" } : Jvm.MethodName)) ∈ tbX := tb_1 (i := 41) rfl rfl
theorem t_42 : (Jvm.Cond.instanceMethod ({ cls := "java/lang/String", name := "length", desc := "()I" } : Jvm.MethodName)) ∈ tbX := tb_1 (i := 42) rfl rfl
theorem t_43 : (Jvm.Cond.selects "java/lang/String" ({ cls := "java/lang/String", name := "length", desc := "()I" } : Jvm.MethodName) ({ cls := "java/lang/String", name := "length", desc := "()I" } : Jvm.MethodName)) ∈ tbX := tb_1 (i := 43) rfl rfl
theorem t_51 : (Jvm.Cond.methodLink "SchoolLosing$Tokens" (37 : Nat) ({ cls := "java/lang/String", name := "charAt", desc := "(I)C" } : Jvm.MethodName)) ∈ tbX := tb_1 (i := 51) rfl rfl
theorem t_52 : (Jvm.Cond.instanceMethod ({ cls := "java/lang/String", name := "charAt", desc := "(I)C" } : Jvm.MethodName)) ∈ tbX := tb_1 (i := 52) rfl rfl
theorem t_53 : (Jvm.Cond.selects "java/lang/String" ({ cls := "java/lang/String", name := "charAt", desc := "(I)C" } : Jvm.MethodName) ({ cls := "java/lang/String", name := "charAt", desc := "(I)C" } : Jvm.MethodName)) ∈ tbX := tb_1 (i := 53) rfl rfl
theorem t_89 : (Jvm.Cond.methodLink "SchoolLosing$Tokens" (41 : Nat) ({ cls := "SchoolLosing$Tokens", name := "withLetter", desc := "(JI)J" } : Jvm.MethodName)) ∈ tbX := tb_1 (i := 89) rfl rfl
theorem t_90 : (Jvm.Cond.static ({ cls := "SchoolLosing$Tokens", name := "withLetter", desc := "(JI)J" } : Jvm.MethodName)) ∈ tbX := tb_1 (i := 90) rfl rfl
theorem t_470 : (Jvm.Cond.methodLink "SchoolLosing$Tokens" (48 : Nat) ({ cls := "SchoolLosing$Tokens", name := "behindBlanks", desc := "(I)I" } : Jvm.MethodName)) ∈ tbX := tb_2 (i := 230) rfl rfl
theorem t_472 : (Jvm.Cond.instanceMethod ({ cls := "SchoolLosing$Tokens", name := "behindBlanks", desc := "(I)I" } : Jvm.MethodName)) ∈ tbX := tb_2 (i := 232) rfl rfl
theorem ts_1 : (Cond.selects "SchoolLosing$Tokens" ⟨"SchoolLosing$Tokens", "behindBlanks", "(I)I"⟩ ⟨"SchoolLosing$Tokens", "behindBlanks", "(I)I"⟩) ∈ tbX := tb_s (i := 1) rfl rfl
theorem t_477 : (Jvm.Cond.methodLink "SchoolLosing$Tokens" (52 : Nat) ({ cls := "SchoolLosing$Tokens", name := "splitOne", desc := "(II)I" } : Jvm.MethodName)) ∈ tbX := tb_2 (i := 237) rfl rfl
theorem t_479 : (Jvm.Cond.instanceMethod ({ cls := "SchoolLosing$Tokens", name := "splitOne", desc := "(II)I" } : Jvm.MethodName)) ∈ tbX := tb_2 (i := 239) rfl rfl
theorem ts_2 : (Cond.selects "SchoolLosing$Tokens" ⟨"SchoolLosing$Tokens", "splitOne", "(II)I"⟩ ⟨"SchoolLosing$Tokens", "splitOne", "(II)I"⟩) ∈ tbX := tb_s (i := 2) rfl rfl
theorem t_474 : (Jvm.Cond.methodLink "SchoolLosing$Tokens" (56 : Nat) ({ cls := "SchoolLosing$Tokens", name := "isBlank", desc := "(I)Z" } : Jvm.MethodName)) ∈ tbX := tb_2 (i := 234) rfl rfl
theorem t_475 : (Jvm.Cond.static ({ cls := "SchoolLosing$Tokens", name := "isBlank", desc := "(I)Z" } : Jvm.MethodName)) ∈ tbX := tb_2 (i := 235) rfl rfl
theorem t_481 : (Jvm.Cond.methodLink "SchoolLosing$Tokens" (60 : Nat) ({ cls := "SchoolLosing$Tokens", name := "isLetter", desc := "(I)Z" } : Jvm.MethodName)) ∈ tbX := tb_3 (i := 1) rfl rfl
theorem t_482 : (Jvm.Cond.static ({ cls := "SchoolLosing$Tokens", name := "isLetter", desc := "(I)Z" } : Jvm.MethodName)) ∈ tbX := tb_3 (i := 2) rfl rfl
theorem t_484 : (Jvm.Cond.methodLink "SchoolLosing$Tokens" (63 : Nat) ({ cls := "SchoolLosing$Tokens", name := "splitWord", desc := "(II)I" } : Jvm.MethodName)) ∈ tbX := tb_3 (i := 4) rfl rfl
theorem t_486 : (Jvm.Cond.instanceMethod ({ cls := "SchoolLosing$Tokens", name := "splitWord", desc := "(II)I" } : Jvm.MethodName)) ∈ tbX := tb_3 (i := 6) rfl rfl
theorem ts_3 : (Cond.selects "SchoolLosing$Tokens" ⟨"SchoolLosing$Tokens", "splitWord", "(II)I"⟩ ⟨"SchoolLosing$Tokens", "splitWord", "(II)I"⟩) ∈ tbX := tb_s (i := 3) rfl rfl
theorem t_492 : (Jvm.Cond.methodLink "SchoolLosing$Tokens" (66 : Nat) ({ cls := "SchoolLosing$Tokens", name := "isDigit", desc := "(I)Z" } : Jvm.MethodName)) ∈ tbX := tb_3 (i := 12) rfl rfl
theorem t_493 : (Jvm.Cond.static ({ cls := "SchoolLosing$Tokens", name := "isDigit", desc := "(I)Z" } : Jvm.MethodName)) ∈ tbX := tb_3 (i := 13) rfl rfl
theorem t_495 : (Jvm.Cond.methodLink "SchoolLosing$Tokens" (69 : Nat) ({ cls := "SchoolLosing$Tokens", name := "splitNumber", desc := "(II)I" } : Jvm.MethodName)) ∈ tbX := tb_3 (i := 15) rfl rfl
theorem t_497 : (Jvm.Cond.instanceMethod ({ cls := "SchoolLosing$Tokens", name := "splitNumber", desc := "(II)I" } : Jvm.MethodName)) ∈ tbX := tb_3 (i := 17) rfl rfl
theorem ts_5 : (Cond.selects "SchoolLosing$Tokens" ⟨"SchoolLosing$Tokens", "splitNumber", "(II)I"⟩ ⟨"SchoolLosing$Tokens", "splitNumber", "(II)I"⟩) ∈ tbX := tb_s (i := 5) rfl rfl
theorem t_502 : (Jvm.Cond.methodLink "SchoolLosing$Tokens" (74 : Nat) ({ cls := "java/lang/String", name := "indexOf", desc := "(I)I" } : Jvm.MethodName)) ∈ tbX := tb_3 (i := 22) rfl rfl
theorem t_503 : (Jvm.Cond.instanceMethod ({ cls := "java/lang/String", name := "indexOf", desc := "(I)I" } : Jvm.MethodName)) ∈ tbX := tb_3 (i := 23) rfl rfl
theorem t_504 : (Jvm.Cond.selects "java/lang/String" ({ cls := "java/lang/String", name := "indexOf", desc := "(I)I" } : Jvm.MethodName) ({ cls := "java/lang/String", name := "indexOf", desc := "(I)I" } : Jvm.MethodName)) ∈ tbX := tb_3 (i := 24) rfl rfl
theorem t_488 : (Jvm.Cond.methodLink "SchoolLosing$Tokens" (77 : Nat) ({ cls := "SchoolLosing$Tokens", name := "kindOfWord", desc := "(J)I" } : Jvm.MethodName)) ∈ tbX := tb_3 (i := 8) rfl rfl
theorem t_490 : (Jvm.Cond.instanceMethod ({ cls := "SchoolLosing$Tokens", name := "kindOfWord", desc := "(J)I" } : Jvm.MethodName)) ∈ tbX := tb_3 (i := 10) rfl rfl
theorem ts_4 : (Cond.selects "SchoolLosing$Tokens" ⟨"SchoolLosing$Tokens", "kindOfWord", "(J)I"⟩ ⟨"SchoolLosing$Tokens", "kindOfWord", "(J)I"⟩) ∈ tbX := tb_s (i := 4) rfl rfl
theorem t_196 : (Jvm.Cond.methodLink "SchoolLosing$Wants" (3 : Nat) ({ cls := "java/lang/Object", name := "<init>", desc := "()V" } : Jvm.MethodName)) ∈ tbX := tb_1 (i := 196) rfl rfl
theorem t_774 : (Jvm.Cond.methodLink "SchoolLosing$Wants" (30 : Nat) ({ cls := "SchoolLosing$Wants", name := "choose", desc := "(LSchoolLosing$Text;II)V" } : Jvm.MethodName)) ∈ tbX := tb_4 (i := 54) rfl rfl
theorem t_776 : (Jvm.Cond.instanceMethod ({ cls := "SchoolLosing$Wants", name := "choose", desc := "(LSchoolLosing$Text;II)V" } : Jvm.MethodName)) ∈ tbX := tb_4 (i := 56) rfl rfl
theorem ts_39 : (Cond.selects "SchoolLosing$Wants" ⟨"SchoolLosing$Wants", "choose", "(LSchoolLosing$Text;II)V"⟩ ⟨"SchoolLosing$Wants", "choose", "(LSchoolLosing$Text;II)V"⟩) ∈ tbX := tb_s (i := 39) rfl rfl
theorem t_1023 : (Jvm.Cond.methodLink "SchoolLosing$Wants" (34 : Nat) ({ cls := "SchoolLosing$Wants", name := "look", desc := "(LSchoolLosing$Text;II)V" } : Jvm.MethodName)) ∈ tbX := tb_5 (i := 63) rfl rfl
theorem t_771 : (Jvm.Cond.instanceMethod ({ cls := "SchoolLosing$Wants", name := "look", desc := "(LSchoolLosing$Text;II)V" } : Jvm.MethodName)) ∈ tbX := tb_4 (i := 51) rfl rfl
theorem t_772 : (Jvm.Cond.selects "SchoolLosing$Wants" ({ cls := "SchoolLosing$Wants", name := "look", desc := "(LSchoolLosing$Text;II)V" } : Jvm.MethodName) ({ cls := "SchoolLosing$Wants", name := "look", desc := "(LSchoolLosing$Text;II)V" } : Jvm.MethodName)) ∈ tbX := tb_4 (i := 52) rfl rfl
theorem t_778 : (Jvm.Cond.methodLink "SchoolLosing$Wants" (38 : Nat) ({ cls := "SchoolLosing$Wants", name := "liking", desc := "(LSchoolLosing$Text;III)I" } : Jvm.MethodName)) ∈ tbX := tb_4 (i := 58) rfl rfl
theorem t_780 : (Jvm.Cond.instanceMethod ({ cls := "SchoolLosing$Wants", name := "liking", desc := "(LSchoolLosing$Text;III)I" } : Jvm.MethodName)) ∈ tbX := tb_4 (i := 60) rfl rfl
theorem ts_40 : (Cond.selects "SchoolLosing$Wants" ⟨"SchoolLosing$Wants", "liking", "(LSchoolLosing$Text;III)I"⟩ ⟨"SchoolLosing$Wants", "liking", "(LSchoolLosing$Text;III)I"⟩) ∈ tbX := tb_s (i := 40) rfl rfl
theorem t_782 : (Jvm.Cond.methodLink "SchoolLosing$Wants" (45 : Nat) ({ cls := "java/lang/Math", name := "abs", desc := "(I)I" } : Jvm.MethodName)) ∈ tbX := tb_4 (i := 62) rfl rfl
theorem t_25 : (Jvm.Cond.methodLink "SchoolLosing" (3 : Nat) ({ cls := "java/lang/Object", name := "<init>", desc := "()V" } : Jvm.MethodName)) ∈ tbX := tb_1 (i := 25) rfl rfl
theorem t_31 : (Jvm.Cond.instanceMethod ({ cls := "SchoolLosing$Reader", name := "<init>", desc := "()V" } : Jvm.MethodName)) ∈ tbX := tb_1 (i := 31) rfl rfl
theorem t_165 : (Jvm.Cond.instanceMethod ({ cls := "SchoolLosing$Going", name := "<init>", desc := "()V" } : Jvm.MethodName)) ∈ tbX := tb_1 (i := 165) rfl rfl
theorem t_194 : (Jvm.Cond.instanceMethod ({ cls := "SchoolLosing$Wants", name := "<init>", desc := "()V" } : Jvm.MethodName)) ∈ tbX := tb_1 (i := 194) rfl rfl
theorem t_210 : (Jvm.Cond.instanceMethod ({ cls := "SchoolLosing$Chances", name := "<init>", desc := "()V" } : Jvm.MethodName)) ∈ tbX := tb_1 (i := 210) rfl rfl
theorem t_224 : (Jvm.Cond.instanceMethod ({ cls := "SchoolLosing$Choice", name := "<init>", desc := "()V" } : Jvm.MethodName)) ∈ tbX := tb_1 (i := 224) rfl rfl
theorem t_246 : (Jvm.Cond.instanceMethod ({ cls := "SchoolLosing$Text", name := "<init>", desc := "()V" } : Jvm.MethodName)) ∈ tbX := tb_2 (i := 6) rfl rfl
theorem t_381 : (Jvm.Cond.methodLink "SchoolLosing" (80 : Nat) ({ cls := "SchoolLosing$Text", name := "clear", desc := "()V" } : Jvm.MethodName)) ∈ tbX := tb_2 (i := 141) rfl rfl
theorem t_397 : (Jvm.Cond.methodLink "SchoolLosing" (83 : Nat) ({ cls := "SchoolLosing$Going", name := "clear", desc := "()V" } : Jvm.MethodName)) ∈ tbX := tb_2 (i := 157) rfl rfl
theorem t_398 : (Jvm.Cond.instanceMethod ({ cls := "SchoolLosing$Going", name := "clear", desc := "()V" } : Jvm.MethodName)) ∈ tbX := tb_2 (i := 158) rfl rfl
theorem t_399 : (Jvm.Cond.selects "SchoolLosing$Going" ({ cls := "SchoolLosing$Going", name := "clear", desc := "()V" } : Jvm.MethodName) ({ cls := "SchoolLosing$Going", name := "clear", desc := "()V" } : Jvm.MethodName)) ∈ tbX := tb_2 (i := 159) rfl rfl
theorem t_454 : (Jvm.Cond.methodLink "SchoolLosing" (89 : Nat) ({ cls := "SchoolLosing$Tokens", name := "addFour", desc := "(I)V" } : Jvm.MethodName)) ∈ tbX := tb_2 (i := 214) rfl rfl
theorem t_455 : (Jvm.Cond.instanceMethod ({ cls := "SchoolLosing$Tokens", name := "addFour", desc := "(I)V" } : Jvm.MethodName)) ∈ tbX := tb_2 (i := 215) rfl rfl
theorem t_456 : (Jvm.Cond.selects "SchoolLosing$Tokens" ({ cls := "SchoolLosing$Tokens", name := "addFour", desc := "(I)V" } : Jvm.MethodName) ({ cls := "SchoolLosing$Tokens", name := "addFour", desc := "(I)V" } : Jvm.MethodName)) ∈ tbX := tb_2 (i := 216) rfl rfl
theorem t_466 : (Jvm.Cond.methodLink "SchoolLosing" (93 : Nat) ({ cls := "SchoolLosing$Tokens", name := "split", desc := "()V" } : Jvm.MethodName)) ∈ tbX := tb_2 (i := 226) rfl rfl
theorem t_467 : (Jvm.Cond.instanceMethod ({ cls := "SchoolLosing$Tokens", name := "split", desc := "()V" } : Jvm.MethodName)) ∈ tbX := tb_2 (i := 227) rfl rfl
theorem t_468 : (Jvm.Cond.selects "SchoolLosing$Tokens" ({ cls := "SchoolLosing$Tokens", name := "split", desc := "()V" } : Jvm.MethodName) ({ cls := "SchoolLosing$Tokens", name := "split", desc := "()V" } : Jvm.MethodName)) ∈ tbX := tb_2 (i := 228) rfl rfl
theorem t_561 : (Jvm.Cond.methodLink "SchoolLosing" (96 : Nat) ({ cls := "SchoolLosing$Reader", name := "readAll", desc := "(LSchoolLosing$Text;)I" } : Jvm.MethodName)) ∈ tbX := tb_3 (i := 81) rfl rfl
theorem t_562 : (Jvm.Cond.instanceMethod ({ cls := "SchoolLosing$Reader", name := "readAll", desc := "(LSchoolLosing$Text;)I" } : Jvm.MethodName)) ∈ tbX := tb_3 (i := 82) rfl rfl
theorem t_563 : (Jvm.Cond.selects "SchoolLosing$Reader" ({ cls := "SchoolLosing$Reader", name := "readAll", desc := "(LSchoolLosing$Text;)I" } : Jvm.MethodName) ({ cls := "SchoolLosing$Reader", name := "readAll", desc := "(LSchoolLosing$Text;)I" } : Jvm.MethodName)) ∈ tbX := tb_3 (i := 83) rfl rfl
theorem t_684 : (Jvm.Cond.methodLink "SchoolLosing" (104 : Nat) ({ cls := "SchoolLosing", name := "isPosition", desc := "(I)Z" } : Jvm.MethodName)) ∈ tbX := tb_3 (i := 204) rfl rfl
theorem t_686 : (Jvm.Cond.instanceMethod ({ cls := "SchoolLosing", name := "isPosition", desc := "(I)Z" } : Jvm.MethodName)) ∈ tbX := tb_3 (i := 206) rfl rfl
theorem ts_31 : (Cond.selects "SchoolLosing" ⟨"SchoolLosing", "isPosition", "(I)Z"⟩ ⟨"SchoolLosing", "isPosition", "(I)Z"⟩) ∈ tbX := tb_s (i := 31) rfl rfl
theorem t_692 : (Jvm.Cond.methodLink "SchoolLosing" (120 : Nat) ({ cls := "SchoolLosing", name := "isMove", desc := "(II)Z" } : Jvm.MethodName)) ∈ tbX := tb_3 (i := 212) rfl rfl
theorem t_694 : (Jvm.Cond.instanceMethod ({ cls := "SchoolLosing", name := "isMove", desc := "(II)Z" } : Jvm.MethodName)) ∈ tbX := tb_3 (i := 214) rfl rfl
theorem ts_32 : (Cond.selects "SchoolLosing" ⟨"SchoolLosing", "isMove", "(II)Z"⟩ ⟨"SchoolLosing", "isMove", "(II)Z"⟩) ∈ tbX := tb_s (i := 32) rfl rfl
theorem t_700 : (Jvm.Cond.methodLink "SchoolLosing" (130 : Nat) ({ cls := "SchoolLosing", name := "isMan", desc := "(I)Z" } : Jvm.MethodName)) ∈ tbX := tb_3 (i := 220) rfl rfl
theorem t_702 : (Jvm.Cond.instanceMethod ({ cls := "SchoolLosing", name := "isMan", desc := "(I)Z" } : Jvm.MethodName)) ∈ tbX := tb_3 (i := 222) rfl rfl
theorem ts_33 : (Cond.selects "SchoolLosing" ⟨"SchoolLosing", "isMan", "(I)Z"⟩ ⟨"SchoolLosing", "isMan", "(I)Z"⟩) ∈ tbX := tb_s (i := 33) rfl rfl
theorem t_705 : (Jvm.Cond.methodLink "SchoolLosing" (134 : Nat) ({ cls := "SchoolLosing", name := "skillOf", desc := "(I)I" } : Jvm.MethodName)) ∈ tbX := tb_3 (i := 225) rfl rfl
theorem t_707 : (Jvm.Cond.instanceMethod ({ cls := "SchoolLosing", name := "skillOf", desc := "(I)I" } : Jvm.MethodName)) ∈ tbX := tb_3 (i := 227) rfl rfl
theorem ts_34 : (Cond.selects "SchoolLosing" ⟨"SchoolLosing", "skillOf", "(I)I"⟩ ⟨"SchoolLosing", "skillOf", "(I)I"⟩) ∈ tbX := tb_s (i := 34) rfl rfl
theorem t_709 : (Jvm.Cond.methodLink "SchoolLosing" (144 : Nat) ({ cls := "SchoolLosing", name := "manCell", desc := "(II)I" } : Jvm.MethodName)) ∈ tbX := tb_3 (i := 229) rfl rfl
theorem t_710 : (Jvm.Cond.static ({ cls := "SchoolLosing", name := "manCell", desc := "(II)I" } : Jvm.MethodName)) ∈ tbX := tb_3 (i := 230) rfl rfl
theorem t_723 : (Jvm.Cond.methodLink "SchoolLosing" (148 : Nat) ({ cls := "SchoolLosing", name := "isOn", desc := "()Z" } : Jvm.MethodName)) ∈ tbX := tb_4 (i := 3) rfl rfl
theorem t_725 : (Jvm.Cond.instanceMethod ({ cls := "SchoolLosing", name := "isOn", desc := "()Z" } : Jvm.MethodName)) ∈ tbX := tb_4 (i := 5) rfl rfl
theorem ts_35 : (Cond.selects "SchoolLosing" ⟨"SchoolLosing", "isOn", "()Z"⟩ ⟨"SchoolLosing", "isOn", "()Z"⟩) ∈ tbX := tb_s (i := 35) rfl rfl
theorem t_731 : (Jvm.Cond.methodLink "SchoolLosing" (170 : Nat) ({ cls := "SchoolLosing$Going", name := "heldSlots", desc := "()I" } : Jvm.MethodName)) ∈ tbX := tb_4 (i := 11) rfl rfl
theorem t_732 : (Jvm.Cond.instanceMethod ({ cls := "SchoolLosing$Going", name := "heldSlots", desc := "()I" } : Jvm.MethodName)) ∈ tbX := tb_4 (i := 12) rfl rfl
theorem t_733 : (Jvm.Cond.selects "SchoolLosing$Going" ({ cls := "SchoolLosing$Going", name := "heldSlots", desc := "()I" } : Jvm.MethodName) ({ cls := "SchoolLosing$Going", name := "heldSlots", desc := "()I" } : Jvm.MethodName)) ∈ tbX := tb_4 (i := 13) rfl rfl
theorem t_739 : (Jvm.Cond.methodLink "SchoolLosing" (174 : Nat) ({ cls := "SchoolLosing", name := "isTurn", desc := "(I)Z" } : Jvm.MethodName)) ∈ tbX := tb_4 (i := 19) rfl rfl
theorem t_741 : (Jvm.Cond.instanceMethod ({ cls := "SchoolLosing", name := "isTurn", desc := "(I)Z" } : Jvm.MethodName)) ∈ tbX := tb_4 (i := 21) rfl rfl
theorem ts_36 : (Cond.selects "SchoolLosing" ⟨"SchoolLosing", "isTurn", "(I)Z"⟩ ⟨"SchoolLosing", "isTurn", "(I)Z"⟩) ∈ tbX := tb_s (i := 36) rfl rfl
theorem t_743 : (Jvm.Cond.methodLink "SchoolLosing" (177 : Nat) ({ cls := "SchoolLosing", name := "areAims", desc := "(II)Z" } : Jvm.MethodName)) ∈ tbX := tb_4 (i := 23) rfl rfl
theorem t_744 : (Jvm.Cond.static ({ cls := "SchoolLosing", name := "areAims", desc := "(II)Z" } : Jvm.MethodName)) ∈ tbX := tb_4 (i := 24) rfl rfl
theorem t_746 : (Jvm.Cond.methodLink "SchoolLosing" (180 : Nat) ({ cls := "SchoolLosing$Going", name := "remember", desc := "()V" } : Jvm.MethodName)) ∈ tbX := tb_4 (i := 26) rfl rfl
theorem t_747 : (Jvm.Cond.instanceMethod ({ cls := "SchoolLosing$Going", name := "remember", desc := "()V" } : Jvm.MethodName)) ∈ tbX := tb_4 (i := 27) rfl rfl
theorem t_748 : (Jvm.Cond.selects "SchoolLosing$Going" ({ cls := "SchoolLosing$Going", name := "remember", desc := "()V" } : Jvm.MethodName) ({ cls := "SchoolLosing$Going", name := "remember", desc := "()V" } : Jvm.MethodName)) ∈ tbX := tb_4 (i := 28) rfl rfl
theorem t_758 : (Jvm.Cond.methodLink "SchoolLosing" (183 : Nat) ({ cls := "SchoolLosing", name := "moveOfStep", desc := "()I" } : Jvm.MethodName)) ∈ tbX := tb_4 (i := 38) rfl rfl
theorem t_760 : (Jvm.Cond.instanceMethod ({ cls := "SchoolLosing", name := "moveOfStep", desc := "()I" } : Jvm.MethodName)) ∈ tbX := tb_4 (i := 40) rfl rfl
theorem ts_37 : (Cond.selects "SchoolLosing" ⟨"SchoolLosing", "moveOfStep", "()I"⟩ ⟨"SchoolLosing", "moveOfStep", "()I"⟩) ∈ tbX := tb_s (i := 37) rfl rfl
theorem t_785 : (Jvm.Cond.methodLink "SchoolLosing" (186 : Nat) ({ cls := "SchoolLosing", name := "goBy", desc := "(I)V" } : Jvm.MethodName)) ∈ tbX := tb_4 (i := 65) rfl rfl
theorem t_787 : (Jvm.Cond.instanceMethod ({ cls := "SchoolLosing", name := "goBy", desc := "(I)V" } : Jvm.MethodName)) ∈ tbX := tb_4 (i := 67) rfl rfl
theorem ts_41 : (Cond.selects "SchoolLosing" ⟨"SchoolLosing", "goBy", "(I)V"⟩ ⟨"SchoolLosing", "goBy", "(I)V"⟩) ∈ tbX := tb_s (i := 41) rfl rfl
theorem t_712 : (Jvm.Cond.methodLink "SchoolLosing" (192 : Nat) ({ cls := "java/lang/Integer", name := "bitCount", desc := "(I)I" } : Jvm.MethodName)) ∈ tbX := tb_3 (i := 232) rfl rfl
theorem t_817 : (Jvm.Cond.methodLink "SchoolLosing" (197 : Nat) ({ cls := "SchoolLosing", name := "hoursOf", desc := "(III)I" } : Jvm.MethodName)) ∈ tbX := tb_4 (i := 97) rfl rfl
theorem t_819 : (Jvm.Cond.instanceMethod ({ cls := "SchoolLosing", name := "hoursOf", desc := "(III)I" } : Jvm.MethodName)) ∈ tbX := tb_4 (i := 99) rfl rfl
theorem ts_45 : (Cond.selects "SchoolLosing" ⟨"SchoolLosing", "hoursOf", "(III)I"⟩ ⟨"SchoolLosing", "hoursOf", "(III)I"⟩) ∈ tbX := tb_s (i := 45) rfl rfl
theorem t_833 : (Jvm.Cond.methodLink "SchoolLosing" (201 : Nat) ({ cls := "SchoolLosing$Going", name := "comeBack", desc := "()Z" } : Jvm.MethodName)) ∈ tbX := tb_4 (i := 113) rfl rfl
theorem t_834 : (Jvm.Cond.instanceMethod ({ cls := "SchoolLosing$Going", name := "comeBack", desc := "()Z" } : Jvm.MethodName)) ∈ tbX := tb_4 (i := 114) rfl rfl
theorem t_835 : (Jvm.Cond.selects "SchoolLosing$Going" ({ cls := "SchoolLosing$Going", name := "comeBack", desc := "()Z" } : Jvm.MethodName) ({ cls := "SchoolLosing$Going", name := "comeBack", desc := "()Z" } : Jvm.MethodName)) ∈ tbX := tb_4 (i := 115) rfl rfl
theorem t_841 : (Jvm.Cond.methodLink "SchoolLosing" (204 : Nat) ({ cls := "SchoolLosing$Going", name := "keep", desc := "(I)V" } : Jvm.MethodName)) ∈ tbX := tb_4 (i := 121) rfl rfl
theorem t_842 : (Jvm.Cond.instanceMethod ({ cls := "SchoolLosing$Going", name := "keep", desc := "(I)V" } : Jvm.MethodName)) ∈ tbX := tb_4 (i := 122) rfl rfl
theorem t_843 : (Jvm.Cond.selects "SchoolLosing$Going" ({ cls := "SchoolLosing$Going", name := "keep", desc := "(I)V" } : Jvm.MethodName) ({ cls := "SchoolLosing$Going", name := "keep", desc := "(I)V" } : Jvm.MethodName)) ∈ tbX := tb_4 (i := 123) rfl rfl
theorem t_849 : (Jvm.Cond.methodLink "SchoolLosing" (211 : Nat) ({ cls := "SchoolLosing$Going", name := "goOnFrom", desc := "(I)V" } : Jvm.MethodName)) ∈ tbX := tb_4 (i := 129) rfl rfl
theorem t_850 : (Jvm.Cond.instanceMethod ({ cls := "SchoolLosing$Going", name := "goOnFrom", desc := "(I)V" } : Jvm.MethodName)) ∈ tbX := tb_4 (i := 130) rfl rfl
theorem t_851 : (Jvm.Cond.selects "SchoolLosing$Going" ({ cls := "SchoolLosing$Going", name := "goOnFrom", desc := "(I)V" } : Jvm.MethodName) ({ cls := "SchoolLosing$Going", name := "goOnFrom", desc := "(I)V" } : Jvm.MethodName)) ∈ tbX := tb_4 (i := 131) rfl rfl
theorem t_770 : (Jvm.Cond.methodLink "SchoolLosing" (214 : Nat) ({ cls := "SchoolLosing$Wants", name := "look", desc := "(LSchoolLosing$Text;II)V" } : Jvm.MethodName)) ∈ tbX := tb_4 (i := 50) rfl rfl
theorem t_865 : (Jvm.Cond.methodLink "SchoolLosing" (222 : Nat) ({ cls := "SchoolLosing", name := "canAskSurely", desc := "(IIII)Z" } : Jvm.MethodName)) ∈ tbX := tb_4 (i := 145) rfl rfl
theorem t_867 : (Jvm.Cond.instanceMethod ({ cls := "SchoolLosing", name := "canAskSurely", desc := "(IIII)Z" } : Jvm.MethodName)) ∈ tbX := tb_4 (i := 147) rfl rfl
theorem ts_46 : (Cond.selects "SchoolLosing" ⟨"SchoolLosing", "canAskSurely", "(IIII)Z"⟩ ⟨"SchoolLosing", "canAskSurely", "(IIII)Z"⟩) ∈ tbX := tb_s (i := 46) rfl rfl
theorem t_869 : (Jvm.Cond.methodLink "SchoolLosing" (226 : Nat) ({ cls := "SchoolLosing", name := "sureLosses", desc := "(IIII)I" } : Jvm.MethodName)) ∈ tbX := tb_4 (i := 149) rfl rfl
theorem t_871 : (Jvm.Cond.instanceMethod ({ cls := "SchoolLosing", name := "sureLosses", desc := "(IIII)I" } : Jvm.MethodName)) ∈ tbX := tb_4 (i := 151) rfl rfl
theorem ts_47 : (Cond.selects "SchoolLosing" ⟨"SchoolLosing", "sureLosses", "(IIII)I"⟩ ⟨"SchoolLosing", "sureLosses", "(IIII)I"⟩) ∈ tbX := tb_s (i := 47) rfl rfl
theorem t_789 : (Jvm.Cond.methodLink "SchoolLosing" (230 : Nat) ({ cls := "SchoolLosing", name := "isSeen", desc := "(IIII)Z" } : Jvm.MethodName)) ∈ tbX := tb_4 (i := 69) rfl rfl
theorem t_791 : (Jvm.Cond.instanceMethod ({ cls := "SchoolLosing", name := "isSeen", desc := "(IIII)Z" } : Jvm.MethodName)) ∈ tbX := tb_4 (i := 71) rfl rfl
theorem ts_42 : (Cond.selects "SchoolLosing" ⟨"SchoolLosing", "isSeen", "(IIII)Z"⟩ ⟨"SchoolLosing", "isSeen", "(IIII)Z"⟩) ∈ tbX := tb_s (i := 42) rfl rfl
theorem t_897 : (Jvm.Cond.methodLink "SchoolLosing" (233 : Nat) ({ cls := "SchoolLosing", name := "canAskLikely", desc := "(IIII)Z" } : Jvm.MethodName)) ∈ tbX := tb_4 (i := 177) rfl rfl
theorem t_899 : (Jvm.Cond.instanceMethod ({ cls := "SchoolLosing", name := "canAskLikely", desc := "(IIII)Z" } : Jvm.MethodName)) ∈ tbX := tb_4 (i := 179) rfl rfl
theorem ts_50 : (Cond.selects "SchoolLosing" ⟨"SchoolLosing", "canAskLikely", "(IIII)Z"⟩ ⟨"SchoolLosing", "canAskLikely", "(IIII)Z"⟩) ∈ tbX := tb_s (i := 50) rfl rfl
theorem t_901 : (Jvm.Cond.methodLink "SchoolLosing" (236 : Nat) ({ cls := "SchoolLosing", name := "lookAtChances", desc := "(IIII)V" } : Jvm.MethodName)) ∈ tbX := tb_4 (i := 181) rfl rfl
theorem t_903 : (Jvm.Cond.instanceMethod ({ cls := "SchoolLosing", name := "lookAtChances", desc := "(IIII)V" } : Jvm.MethodName)) ∈ tbX := tb_4 (i := 183) rfl rfl
theorem ts_51 : (Cond.selects "SchoolLosing" ⟨"SchoolLosing", "lookAtChances", "(IIII)V"⟩ ⟨"SchoolLosing", "lookAtChances", "(IIII)V"⟩) ∈ tbX := tb_s (i := 51) rfl rfl
theorem t_922 : (Jvm.Cond.methodLink "SchoolLosing" (244 : Nat) ({ cls := "SchoolLosing", name := "lessened", desc := "(JJZ)I" } : Jvm.MethodName)) ∈ tbX := tb_4 (i := 202) rfl rfl
theorem t_923 : (Jvm.Cond.static ({ cls := "SchoolLosing", name := "lessened", desc := "(JJZ)I" } : Jvm.MethodName)) ∈ tbX := tb_4 (i := 203) rfl rfl
theorem t_929 : (Jvm.Cond.methodLink "SchoolLosing" (248 : Nat) ({ cls := "SchoolLosing$Chances", name := "likeliest", desc := "()I" } : Jvm.MethodName)) ∈ tbX := tb_4 (i := 209) rfl rfl
theorem t_930 : (Jvm.Cond.instanceMethod ({ cls := "SchoolLosing$Chances", name := "likeliest", desc := "()I" } : Jvm.MethodName)) ∈ tbX := tb_4 (i := 210) rfl rfl
theorem t_931 : (Jvm.Cond.selects "SchoolLosing$Chances" ({ cls := "SchoolLosing$Chances", name := "likeliest", desc := "()I" } : Jvm.MethodName) ({ cls := "SchoolLosing$Chances", name := "likeliest", desc := "()I" } : Jvm.MethodName)) ∈ tbX := tb_4 (i := 211) rfl rfl
theorem t_937 : (Jvm.Cond.methodLink "SchoolLosing" (255 : Nat) ({ cls := "SchoolLosing$Choice", name := "look", desc := "(II)V" } : Jvm.MethodName)) ∈ tbX := tb_4 (i := 217) rfl rfl
theorem t_938 : (Jvm.Cond.instanceMethod ({ cls := "SchoolLosing$Choice", name := "look", desc := "(II)V" } : Jvm.MethodName)) ∈ tbX := tb_4 (i := 218) rfl rfl
theorem t_939 : (Jvm.Cond.selects "SchoolLosing$Choice" ({ cls := "SchoolLosing$Choice", name := "look", desc := "(II)V" } : Jvm.MethodName) ({ cls := "SchoolLosing$Choice", name := "look", desc := "(II)V" } : Jvm.MethodName)) ∈ tbX := tb_4 (i := 219) rfl rfl
theorem t_952 : (Jvm.Cond.methodLink "SchoolLosing" (261 : Nat) ({ cls := "SchoolLosing$Choice", name := "pick", desc := "(I)I" } : Jvm.MethodName)) ∈ tbX := tb_4 (i := 232) rfl rfl
theorem t_953 : (Jvm.Cond.instanceMethod ({ cls := "SchoolLosing$Choice", name := "pick", desc := "(I)I" } : Jvm.MethodName)) ∈ tbX := tb_4 (i := 233) rfl rfl
theorem t_954 : (Jvm.Cond.selects "SchoolLosing$Choice" ({ cls := "SchoolLosing$Choice", name := "pick", desc := "(I)I" } : Jvm.MethodName) ({ cls := "SchoolLosing$Choice", name := "pick", desc := "(I)I" } : Jvm.MethodName)) ∈ tbX := tb_4 (i := 234) rfl rfl
theorem t_960 : (Jvm.Cond.methodLink "SchoolLosing" (271 : Nat) ({ cls := "SchoolLosing$Laws", name := "suiting", desc := "(III)I" } : Jvm.MethodName)) ∈ tbX := tb_5 (i := 0) rfl rfl
theorem t_961 : (Jvm.Cond.instanceMethod ({ cls := "SchoolLosing$Laws", name := "suiting", desc := "(III)I" } : Jvm.MethodName)) ∈ tbX := tb_5 (i := 1) rfl rfl
theorem t_962 : (Jvm.Cond.selects "SchoolLosing$Laws" ({ cls := "SchoolLosing$Laws", name := "suiting", desc := "(III)I" } : Jvm.MethodName) ({ cls := "SchoolLosing$Laws", name := "suiting", desc := "(III)I" } : Jvm.MethodName)) ∈ tbX := tb_5 (i := 2) rfl rfl
theorem t_825 : (Jvm.Cond.methodLink "SchoolLosing" (276 : Nat) ({ cls := "SchoolLosing", name := "heldToLimits", desc := "(I)I" } : Jvm.MethodName)) ∈ tbX := tb_4 (i := 105) rfl rfl
theorem t_826 : (Jvm.Cond.static ({ cls := "SchoolLosing", name := "heldToLimits", desc := "(I)I" } : Jvm.MethodName)) ∈ tbX := tb_4 (i := 106) rfl rfl
theorem t_968 : (Jvm.Cond.methodLink "SchoolLosing" (279 : Nat) ({ cls := "SchoolLosing", name := "isDie", desc := "(I)Z" } : Jvm.MethodName)) ∈ tbX := tb_5 (i := 8) rfl rfl
theorem t_970 : (Jvm.Cond.instanceMethod ({ cls := "SchoolLosing", name := "isDie", desc := "(I)Z" } : Jvm.MethodName)) ∈ tbX := tb_5 (i := 10) rfl rfl
theorem ts_55 : (Cond.selects "SchoolLosing" ⟨"SchoolLosing", "isDie", "(I)Z"⟩ ⟨"SchoolLosing", "isDie", "(I)Z"⟩) ∈ tbX := tb_s (i := 55) rfl rfl
theorem t_977 : (Jvm.Cond.methodLink "SchoolLosing" (287 : Nat) ({ cls := "SchoolLosing", name := "bestReply", desc := "(I)I" } : Jvm.MethodName)) ∈ tbX := tb_5 (i := 17) rfl rfl
theorem t_979 : (Jvm.Cond.instanceMethod ({ cls := "SchoolLosing", name := "bestReply", desc := "(I)I" } : Jvm.MethodName)) ∈ tbX := tb_5 (i := 19) rfl rfl
theorem ts_56 : (Cond.selects "SchoolLosing" ⟨"SchoolLosing", "bestReply", "(I)I"⟩ ⟨"SchoolLosing", "bestReply", "(I)I"⟩) ∈ tbX := tb_s (i := 56) rfl rfl
theorem t_985 : (Jvm.Cond.methodLink "SchoolLosing" (290 : Nat) ({ cls := "SchoolLosing", name := "isBestReply", desc := "(II)Z" } : Jvm.MethodName)) ∈ tbX := tb_5 (i := 25) rfl rfl
theorem t_987 : (Jvm.Cond.instanceMethod ({ cls := "SchoolLosing", name := "isBestReply", desc := "(II)Z" } : Jvm.MethodName)) ∈ tbX := tb_5 (i := 27) rfl rfl
theorem ts_57 : (Cond.selects "SchoolLosing" ⟨"SchoolLosing", "isBestReply", "(II)Z"⟩ ⟨"SchoolLosing", "isBestReply", "(II)Z"⟩) ∈ tbX := tb_s (i := 57) rfl rfl
theorem t_993 : (Jvm.Cond.methodLink "SchoolLosing" (293 : Nat) ({ cls := "SchoolLosing$Laws", name := "payment", desc := "(I)I" } : Jvm.MethodName)) ∈ tbX := tb_5 (i := 33) rfl rfl
theorem t_994 : (Jvm.Cond.instanceMethod ({ cls := "SchoolLosing$Laws", name := "payment", desc := "(I)I" } : Jvm.MethodName)) ∈ tbX := tb_5 (i := 34) rfl rfl
theorem t_995 : (Jvm.Cond.selects "SchoolLosing$Laws" ({ cls := "SchoolLosing$Laws", name := "payment", desc := "(I)I" } : Jvm.MethodName) ({ cls := "SchoolLosing$Laws", name := "payment", desc := "(I)I" } : Jvm.MethodName)) ∈ tbX := tb_5 (i := 35) rfl rfl
theorem t_997 : (Jvm.Cond.methodLink "SchoolLosing" (296 : Nat) ({ cls := "java/lang/Math", name := "abs", desc := "(I)I" } : Jvm.MethodName)) ∈ tbX := tb_5 (i := 37) rfl rfl
theorem t_1015 : (Jvm.Cond.methodLink "SchoolLosing" (303 : Nat) ({ cls := "SchoolLosing", name := "weightOfKnown", desc := "(III)J" } : Jvm.MethodName)) ∈ tbX := tb_5 (i := 55) rfl rfl
theorem t_1017 : (Jvm.Cond.instanceMethod ({ cls := "SchoolLosing", name := "weightOfKnown", desc := "(III)J" } : Jvm.MethodName)) ∈ tbX := tb_5 (i := 57) rfl rfl
theorem ts_58 : (Cond.selects "SchoolLosing" ⟨"SchoolLosing", "weightOfKnown", "(III)J"⟩ ⟨"SchoolLosing", "weightOfKnown", "(III)J"⟩) ∈ tbX := tb_s (i := 58) rfl rfl
theorem t_1019 : (Jvm.Cond.methodLink "SchoolLosing" (307 : Nat) ({ cls := "SchoolLosing$Wants", name := "lookAgainstWinner", desc := "(LSchoolLosing$Text;II)V" } : Jvm.MethodName)) ∈ tbX := tb_5 (i := 59) rfl rfl
theorem t_1020 : (Jvm.Cond.instanceMethod ({ cls := "SchoolLosing$Wants", name := "lookAgainstWinner", desc := "(LSchoolLosing$Text;II)V" } : Jvm.MethodName)) ∈ tbX := tb_5 (i := 60) rfl rfl
theorem t_1021 : (Jvm.Cond.selects "SchoolLosing$Wants" ({ cls := "SchoolLosing$Wants", name := "lookAgainstWinner", desc := "(LSchoolLosing$Text;II)V" } : Jvm.MethodName) ({ cls := "SchoolLosing$Wants", name := "lookAgainstWinner", desc := "(LSchoolLosing$Text;II)V" } : Jvm.MethodName)) ∈ tbX := tb_5 (i := 61) rfl rfl
theorem t_718 : (Jvm.Cond.methodLink "SchoolLosing" (313 : Nat) ({ cls := "java/lang/Math", name := "min", desc := "(II)I" } : Jvm.MethodName)) ∈ tbX := tb_3 (i := 238) rfl rfl
theorem t_821 : (Jvm.Cond.methodLink "SchoolLosing" (319 : Nat) ({ cls := "SchoolLosing$Laws", name := "learning", desc := "(IIII)I" } : Jvm.MethodName)) ∈ tbX := tb_4 (i := 101) rfl rfl
theorem t_822 : (Jvm.Cond.instanceMethod ({ cls := "SchoolLosing$Laws", name := "learning", desc := "(IIII)I" } : Jvm.MethodName)) ∈ tbX := tb_4 (i := 102) rfl rfl
theorem t_823 : (Jvm.Cond.selects "SchoolLosing$Laws" ({ cls := "SchoolLosing$Laws", name := "learning", desc := "(IIII)I" } : Jvm.MethodName) ({ cls := "SchoolLosing$Laws", name := "learning", desc := "(IIII)I" } : Jvm.MethodName)) ∈ tbX := tb_4 (i := 103) rfl rfl
theorem t_828 : (Jvm.Cond.methodLink "SchoolLosing" (322 : Nat) ({ cls := "java/lang/Math", name := "max", desc := "(II)I" } : Jvm.MethodName)) ∈ tbX := tb_4 (i := 108) rfl rfl
theorem t_793 : (Jvm.Cond.methodLink "SchoolLosing" (325 : Nat) ({ cls := "SchoolLosing$Laws", name := "seeing", desc := "(IIII)I" } : Jvm.MethodName)) ∈ tbX := tb_4 (i := 73) rfl rfl
theorem t_794 : (Jvm.Cond.instanceMethod ({ cls := "SchoolLosing$Laws", name := "seeing", desc := "(IIII)I" } : Jvm.MethodName)) ∈ tbX := tb_4 (i := 74) rfl rfl
theorem t_795 : (Jvm.Cond.selects "SchoolLosing$Laws" ({ cls := "SchoolLosing$Laws", name := "seeing", desc := "(IIII)I" } : Jvm.MethodName) ({ cls := "SchoolLosing$Laws", name := "seeing", desc := "(IIII)I" } : Jvm.MethodName)) ∈ tbX := tb_4 (i := 75) rfl rfl
theorem t_766 : (Jvm.Cond.methodLink "SchoolLosing" (332 : Nat) ({ cls := "SchoolLosing", name := "stirred", desc := "(II)I" } : Jvm.MethodName)) ∈ tbX := tb_4 (i := 46) rfl rfl
theorem t_767 : (Jvm.Cond.static ({ cls := "SchoolLosing", name := "stirred", desc := "(II)I" } : Jvm.MethodName)) ∈ tbX := tb_4 (i := 47) rfl rfl
theorem t_762 : (Jvm.Cond.methodLink "SchoolLosing" (335 : Nat) ({ cls := "SchoolLosing", name := "lot", desc := "(II)I" } : Jvm.MethodName)) ∈ tbX := tb_4 (i := 42) rfl rfl
theorem t_764 : (Jvm.Cond.instanceMethod ({ cls := "SchoolLosing", name := "lot", desc := "(II)I" } : Jvm.MethodName)) ∈ tbX := tb_4 (i := 44) rfl rfl
theorem ts_38 : (Cond.selects "SchoolLosing" ⟨"SchoolLosing", "lot", "(II)I"⟩ ⟨"SchoolLosing", "lot", "(II)I"⟩) ∈ tbX := tb_s (i := 38) rfl rfl
theorem t_805 : (Jvm.Cond.methodLink "SchoolLosing" (338 : Nat) ({ cls := "SchoolLosing", name := "endFor", desc := "(II)V" } : Jvm.MethodName)) ∈ tbX := tb_4 (i := 85) rfl rfl
theorem t_807 : (Jvm.Cond.instanceMethod ({ cls := "SchoolLosing", name := "endFor", desc := "(II)V" } : Jvm.MethodName)) ∈ tbX := tb_4 (i := 87) rfl rfl
theorem ts_44 : (Cond.selects "SchoolLosing" ⟨"SchoolLosing", "endFor", "(II)V"⟩ ⟨"SchoolLosing", "endFor", "(II)V"⟩) ∈ tbX := tb_s (i := 44) rfl rfl
theorem t_873 : (Jvm.Cond.methodLink "SchoolLosing" (341 : Nat) ({ cls := "SchoolLosing", name := "sureByOwnMove", desc := "(III)I" } : Jvm.MethodName)) ∈ tbX := tb_4 (i := 153) rfl rfl
theorem t_875 : (Jvm.Cond.instanceMethod ({ cls := "SchoolLosing", name := "sureByOwnMove", desc := "(III)I" } : Jvm.MethodName)) ∈ tbX := tb_4 (i := 155) rfl rfl
theorem ts_48 : (Cond.selects "SchoolLosing" ⟨"SchoolLosing", "sureByOwnMove", "(III)I"⟩ ⟨"SchoolLosing", "sureByOwnMove", "(III)I"⟩) ∈ tbX := tb_s (i := 48) rfl rfl
theorem t_877 : (Jvm.Cond.methodLink "SchoolLosing" (344 : Nat) ({ cls := "SchoolLosing", name := "sureByAnyMove", desc := "(I)I" } : Jvm.MethodName)) ∈ tbX := tb_4 (i := 157) rfl rfl
theorem t_879 : (Jvm.Cond.instanceMethod ({ cls := "SchoolLosing", name := "sureByAnyMove", desc := "(I)I" } : Jvm.MethodName)) ∈ tbX := tb_4 (i := 159) rfl rfl
theorem ts_49 : (Cond.selects "SchoolLosing" ⟨"SchoolLosing", "sureByAnyMove", "(I)I"⟩ ⟨"SchoolLosing", "sureByAnyMove", "(I)I"⟩) ∈ tbX := tb_s (i := 49) rfl rfl
theorem t_905 : (Jvm.Cond.methodLink "SchoolLosing" (347 : Nat) ({ cls := "SchoolLosing$Chances", name := "look", desc := "(LSchoolLosing$Text;LSchoolLosing$Wants;III)V" } : Jvm.MethodName)) ∈ tbX := tb_4 (i := 185) rfl rfl
theorem t_906 : (Jvm.Cond.instanceMethod ({ cls := "SchoolLosing$Chances", name := "look", desc := "(LSchoolLosing$Text;LSchoolLosing$Wants;III)V" } : Jvm.MethodName)) ∈ tbX := tb_4 (i := 186) rfl rfl
theorem t_907 : (Jvm.Cond.selects "SchoolLosing$Chances" ({ cls := "SchoolLosing$Chances", name := "look", desc := "(LSchoolLosing$Text;LSchoolLosing$Wants;III)V" } : Jvm.MethodName) ({ cls := "SchoolLosing$Chances", name := "look", desc := "(LSchoolLosing$Text;LSchoolLosing$Wants;III)V" } : Jvm.MethodName)) ∈ tbX := tb_4 (i := 187) rfl rfl
theorem t_1024 : (Jvm.Cond.methodLink "SchoolLosing" (350 : Nat) ({ cls := "SchoolLosing$Chances", name := "weight", desc := "(IZI)I" } : Jvm.MethodName)) ∈ tbX := tb_5 (i := 64) rfl rfl
theorem t_1034 : (Jvm.Cond.methodLink "SchoolLosingModel" (7 : Nat) ({ cls := "java/lang/Object", name := "<init>", desc := "()V" } : Jvm.MethodName)) ∈ tbX := tb_5 (i := 74) rfl rfl
theorem t_1035 : (Jvm.Cond.methodLink "SchoolLosingModel" (176 : Nat) ({ cls := "SchoolLosingModel", name := "plain", desc := "(I)V" } : Jvm.MethodName)) ∈ tbX := tb_5 (i := 75) rfl rfl
theorem t_1037 : (Jvm.Cond.instanceMethod ({ cls := "SchoolLosingModel", name := "plain", desc := "(I)V" } : Jvm.MethodName)) ∈ tbX := tb_5 (i := 77) rfl rfl
theorem ts_59 : (Cond.selects "SchoolLosingModel" ⟨"SchoolLosingModel", "plain", "(I)V"⟩ ⟨"SchoolLosingModel", "plain", "(I)V"⟩) ∈ tbX := tb_s (i := 59) rfl rfl
theorem t_1039 : (Jvm.Cond.methodLink "SchoolLosingModel" (180 : Nat) ({ cls := "SchoolLosingModel", name := "word", desc := "(IIIIIII)J" } : Jvm.MethodName)) ∈ tbX := tb_5 (i := 79) rfl rfl
theorem t_1040 : (Jvm.Cond.static ({ cls := "SchoolLosingModel", name := "word", desc := "(IIIIIII)J" } : Jvm.MethodName)) ∈ tbX := tb_5 (i := 80) rfl rfl
theorem t_1046 : (Jvm.Cond.methodLink "SchoolLosingModel" (184 : Nat) ({ cls := "SchoolLosingModel", name := "begins", desc := "()V" } : Jvm.MethodName)) ∈ tbX := tb_5 (i := 86) rfl rfl
theorem t_1048 : (Jvm.Cond.instanceMethod ({ cls := "SchoolLosingModel", name := "begins", desc := "()V" } : Jvm.MethodName)) ∈ tbX := tb_5 (i := 88) rfl rfl
theorem ts_60 : (Cond.selects "SchoolLosingModel" ⟨"SchoolLosingModel", "begins", "()V"⟩ ⟨"SchoolLosingModel", "begins", "()V"⟩) ∈ tbX := tb_s (i := 60) rfl rfl
theorem t_1054 : (Jvm.Cond.methodLink "SchoolLosingModel" (187 : Nat) ({ cls := "SchoolLosingModel", name := "keepsRow", desc := "()V" } : Jvm.MethodName)) ∈ tbX := tb_5 (i := 94) rfl rfl
theorem t_1056 : (Jvm.Cond.instanceMethod ({ cls := "SchoolLosingModel", name := "keepsRow", desc := "()V" } : Jvm.MethodName)) ∈ tbX := tb_5 (i := 96) rfl rfl
theorem ts_62 : (Cond.selects "SchoolLosingModel" ⟨"SchoolLosingModel", "keepsRow", "()V"⟩ ⟨"SchoolLosingModel", "keepsRow", "()V"⟩) ∈ tbX := tb_s (i := 62) rfl rfl
theorem t_1287 : (Jvm.Cond.methodLink "SchoolLosingModel" (193 : Nat) ({ cls := "SchoolLosingModel", name := "put", desc := "(I)V" } : Jvm.MethodName)) ∈ tbX := tb_6 (i := 87) rfl rfl
theorem t_1289 : (Jvm.Cond.instanceMethod ({ cls := "SchoolLosingModel", name := "put", desc := "(I)V" } : Jvm.MethodName)) ∈ tbX := tb_6 (i := 89) rfl rfl
theorem ts_63 : (Cond.selects "SchoolLosingModel" ⟨"SchoolLosingModel", "put", "(I)V"⟩ ⟨"SchoolLosingModel", "put", "(I)V"⟩) ∈ tbX := tb_s (i := 63) rfl rfl
theorem t_1042 : (Jvm.Cond.methodLink "SchoolLosingModel" (201 : Nat) ({ cls := "SchoolLosingModel", name := "appends", desc := "(JI)J" } : Jvm.MethodName)) ∈ tbX := tb_5 (i := 82) rfl rfl
theorem t_1043 : (Jvm.Cond.static ({ cls := "SchoolLosingModel", name := "appends", desc := "(JI)J" } : Jvm.MethodName)) ∈ tbX := tb_5 (i := 83) rfl rfl
theorem t_1303 : (Jvm.Cond.methodLink "SchoolLosingModel" (208 : Nat) ({ cls := "SchoolLosingModel", name := "byteAt", desc := "(I)I" } : Jvm.MethodName)) ∈ tbX := tb_6 (i := 103) rfl rfl
theorem t_1305 : (Jvm.Cond.instanceMethod ({ cls := "SchoolLosingModel", name := "byteAt", desc := "(I)I" } : Jvm.MethodName)) ∈ tbX := tb_6 (i := 105) rfl rfl
theorem ts_65 : (Cond.selects "SchoolLosingModel" ⟨"SchoolLosingModel", "byteAt", "(I)I"⟩ ⟨"SchoolLosingModel", "byteAt", "(I)I"⟩) ∈ tbX := tb_s (i := 65) rfl rfl
theorem t_1307 : (Jvm.Cond.methodLink "SchoolLosingModel" (212 : Nat) ({ cls := "SchoolLosingModel", name := "token", desc := "(IIIJ)V" } : Jvm.MethodName)) ∈ tbX := tb_6 (i := 107) rfl rfl
theorem t_1309 : (Jvm.Cond.instanceMethod ({ cls := "SchoolLosingModel", name := "token", desc := "(IIIJ)V" } : Jvm.MethodName)) ∈ tbX := tb_6 (i := 109) rfl rfl
theorem ts_66 : (Cond.selects "SchoolLosingModel" ⟨"SchoolLosingModel", "token", "(IIIJ)V"⟩ ⟨"SchoolLosingModel", "token", "(IIIJ)V"⟩) ∈ tbX := tb_s (i := 66) rfl rfl
theorem t_1311 : (Jvm.Cond.methodLink "SchoolLosingModel" (216 : Nat) ({ cls := "SchoolLosingModel", name := "isLetter", desc := "(I)Z" } : Jvm.MethodName)) ∈ tbX := tb_6 (i := 111) rfl rfl
theorem t_1312 : (Jvm.Cond.static ({ cls := "SchoolLosingModel", name := "isLetter", desc := "(I)Z" } : Jvm.MethodName)) ∈ tbX := tb_6 (i := 112) rfl rfl
theorem t_1314 : (Jvm.Cond.methodLink "SchoolLosingModel" (220 : Nat) ({ cls := "SchoolLosingModel", name := "isDigit", desc := "(I)Z" } : Jvm.MethodName)) ∈ tbX := tb_6 (i := 114) rfl rfl
theorem t_1315 : (Jvm.Cond.static ({ cls := "SchoolLosingModel", name := "isDigit", desc := "(I)Z" } : Jvm.MethodName)) ∈ tbX := tb_6 (i := 115) rfl rfl
theorem t_1317 : (Jvm.Cond.methodLink "SchoolLosingModel" (223 : Nat) ({ cls := "SchoolLosingModel", name := "sign", desc := "(III)I" } : Jvm.MethodName)) ∈ tbX := tb_6 (i := 117) rfl rfl
theorem t_1319 : (Jvm.Cond.instanceMethod ({ cls := "SchoolLosingModel", name := "sign", desc := "(III)I" } : Jvm.MethodName)) ∈ tbX := tb_6 (i := 119) rfl rfl
theorem ts_67 : (Cond.selects "SchoolLosingModel" ⟨"SchoolLosingModel", "sign", "(III)I"⟩ ⟨"SchoolLosingModel", "sign", "(III)I"⟩) ∈ tbX := tb_s (i := 67) rfl rfl
theorem t_1333 : (Jvm.Cond.methodLink "SchoolLosingModel" (242 : Nat) ({ cls := "SchoolLosingModel", name := "fail", desc := "(I)V" } : Jvm.MethodName)) ∈ tbX := tb_6 (i := 133) rfl rfl
theorem t_1335 : (Jvm.Cond.instanceMethod ({ cls := "SchoolLosingModel", name := "fail", desc := "(I)V" } : Jvm.MethodName)) ∈ tbX := tb_6 (i := 135) rfl rfl
theorem ts_71 : (Cond.selects "SchoolLosingModel" ⟨"SchoolLosingModel", "fail", "(I)V"⟩ ⟨"SchoolLosingModel", "fail", "(I)V"⟩) ∈ tbX := tb_s (i := 71) rfl rfl
theorem t_1321 : (Jvm.Cond.methodLink "SchoolLosingModel" (245 : Nat) ({ cls := "SchoolLosingModel", name := "is", desc := "(I)Z" } : Jvm.MethodName)) ∈ tbX := tb_6 (i := 121) rfl rfl
theorem t_1323 : (Jvm.Cond.instanceMethod ({ cls := "SchoolLosingModel", name := "is", desc := "(I)Z" } : Jvm.MethodName)) ∈ tbX := tb_6 (i := 123) rfl rfl
theorem ts_68 : (Cond.selects "SchoolLosingModel" ⟨"SchoolLosingModel", "is", "(I)Z"⟩ ⟨"SchoolLosingModel", "is", "(I)Z"⟩) ∈ tbX := tb_s (i := 68) rfl rfl
theorem t_1337 : (Jvm.Cond.methodLink "SchoolLosingModel" (248 : Nat) ({ cls := "SchoolLosingModel", name := "goesOn", desc := "()V" } : Jvm.MethodName)) ∈ tbX := tb_6 (i := 137) rfl rfl
theorem t_1339 : (Jvm.Cond.instanceMethod ({ cls := "SchoolLosingModel", name := "goesOn", desc := "()V" } : Jvm.MethodName)) ∈ tbX := tb_6 (i := 139) rfl rfl
theorem ts_72 : (Cond.selects "SchoolLosingModel" ⟨"SchoolLosingModel", "goesOn", "()V"⟩ ⟨"SchoolLosingModel", "goesOn", "()V"⟩) ∈ tbX := tb_s (i := 72) rfl rfl
theorem t_1299 : (Jvm.Cond.methodLink "SchoolLosingModel" (251 : Nat) ({ cls := "SchoolLosingModel", name := "cut", desc := "()V" } : Jvm.MethodName)) ∈ tbX := tb_6 (i := 99) rfl rfl
theorem t_1301 : (Jvm.Cond.instanceMethod ({ cls := "SchoolLosingModel", name := "cut", desc := "()V" } : Jvm.MethodName)) ∈ tbX := tb_6 (i := 101) rfl rfl
theorem ts_64 : (Cond.selects "SchoolLosingModel" ⟨"SchoolLosingModel", "cut", "()V"⟩ ⟨"SchoolLosingModel", "cut", "()V"⟩) ∈ tbX := tb_s (i := 64) rfl rfl
theorem t_1325 : (Jvm.Cond.methodLink "SchoolLosingModel" (272 : Nat) ({ cls := "SchoolLosingModel", name := "tellOne", desc := "()V" } : Jvm.MethodName)) ∈ tbX := tb_6 (i := 125) rfl rfl
theorem t_1327 : (Jvm.Cond.instanceMethod ({ cls := "SchoolLosingModel", name := "tellOne", desc := "()V" } : Jvm.MethodName)) ∈ tbX := tb_6 (i := 127) rfl rfl
theorem ts_69 : (Cond.selects "SchoolLosingModel" ⟨"SchoolLosingModel", "tellOne", "()V"⟩ ⟨"SchoolLosingModel", "tellOne", "()V"⟩) ∈ tbX := tb_s (i := 69) rfl rfl
theorem t_1329 : (Jvm.Cond.methodLink "SchoolLosingModel" (281 : Nat) ({ cls := "SchoolLosingModel", name := "roomFor", desc := "(II)V" } : Jvm.MethodName)) ∈ tbX := tb_6 (i := 129) rfl rfl
theorem t_1331 : (Jvm.Cond.instanceMethod ({ cls := "SchoolLosingModel", name := "roomFor", desc := "(II)V" } : Jvm.MethodName)) ∈ tbX := tb_6 (i := 131) rfl rfl
theorem ts_70 : (Cond.selects "SchoolLosingModel" ⟨"SchoolLosingModel", "roomFor", "(II)V"⟩ ⟨"SchoolLosingModel", "roomFor", "(II)V"⟩) ∈ tbX := tb_s (i := 70) rfl rfl
theorem t_1341 : (Jvm.Cond.methodLink "SchoolLosingModel" (285 : Nat) ({ cls := "SchoolLosingModel", name := "tellEnd", desc := "()V" } : Jvm.MethodName)) ∈ tbX := tb_6 (i := 141) rfl rfl
theorem t_1343 : (Jvm.Cond.instanceMethod ({ cls := "SchoolLosingModel", name := "tellEnd", desc := "()V" } : Jvm.MethodName)) ∈ tbX := tb_6 (i := 143) rfl rfl
theorem ts_73 : (Cond.selects "SchoolLosingModel" ⟨"SchoolLosingModel", "tellEnd", "()V"⟩ ⟨"SchoolLosingModel", "tellEnd", "()V"⟩) ∈ tbX := tb_s (i := 73) rfl rfl
theorem t_1365 : (Jvm.Cond.methodLink "SchoolLosingModel" (288 : Nat) ({ cls := "SchoolLosingModel", name := "tellTurn", desc := "()V" } : Jvm.MethodName)) ∈ tbX := tb_6 (i := 165) rfl rfl
theorem t_1367 : (Jvm.Cond.instanceMethod ({ cls := "SchoolLosingModel", name := "tellTurn", desc := "()V" } : Jvm.MethodName)) ∈ tbX := tb_6 (i := 167) rfl rfl
theorem ts_79 : (Cond.selects "SchoolLosingModel" ⟨"SchoolLosingModel", "tellTurn", "()V"⟩ ⟨"SchoolLosingModel", "tellTurn", "()V"⟩) ∈ tbX := tb_s (i := 79) rfl rfl
theorem t_1373 : (Jvm.Cond.methodLink "SchoolLosingModel" (291 : Nat) ({ cls := "SchoolLosingModel", name := "tellMan", desc := "()V" } : Jvm.MethodName)) ∈ tbX := tb_6 (i := 173) rfl rfl
theorem t_1375 : (Jvm.Cond.instanceMethod ({ cls := "SchoolLosingModel", name := "tellMan", desc := "()V" } : Jvm.MethodName)) ∈ tbX := tb_6 (i := 175) rfl rfl
theorem ts_81 : (Cond.selects "SchoolLosingModel" ⟨"SchoolLosingModel", "tellMan", "()V"⟩ ⟨"SchoolLosingModel", "tellMan", "()V"⟩) ∈ tbX := tb_s (i := 81) rfl rfl
theorem t_1377 : (Jvm.Cond.methodLink "SchoolLosingModel" (294 : Nat) ({ cls := "SchoolLosingModel", name := "tellLesson", desc := "()V" } : Jvm.MethodName)) ∈ tbX := tb_6 (i := 177) rfl rfl
theorem t_1379 : (Jvm.Cond.instanceMethod ({ cls := "SchoolLosingModel", name := "tellLesson", desc := "()V" } : Jvm.MethodName)) ∈ tbX := tb_6 (i := 179) rfl rfl
theorem ts_82 : (Cond.selects "SchoolLosingModel" ⟨"SchoolLosingModel", "tellLesson", "()V"⟩ ⟨"SchoolLosingModel", "tellLesson", "()V"⟩) ∈ tbX := tb_s (i := 82) rfl rfl
theorem t_1381 : (Jvm.Cond.methodLink "SchoolLosingModel" (297 : Nat) ({ cls := "SchoolLosingModel", name := "tellCourt", desc := "()V" } : Jvm.MethodName)) ∈ tbX := tb_6 (i := 181) rfl rfl
theorem t_1383 : (Jvm.Cond.instanceMethod ({ cls := "SchoolLosingModel", name := "tellCourt", desc := "()V" } : Jvm.MethodName)) ∈ tbX := tb_6 (i := 183) rfl rfl
theorem ts_83 : (Cond.selects "SchoolLosingModel" ⟨"SchoolLosingModel", "tellCourt", "()V"⟩ ⟨"SchoolLosingModel", "tellCourt", "()V"⟩) ∈ tbX := tb_s (i := 83) rfl rfl
theorem t_1385 : (Jvm.Cond.methodLink "SchoolLosingModel" (300 : Nat) ({ cls := "SchoolLosingModel", name := "tellDie", desc := "()V" } : Jvm.MethodName)) ∈ tbX := tb_6 (i := 185) rfl rfl
theorem t_1387 : (Jvm.Cond.instanceMethod ({ cls := "SchoolLosingModel", name := "tellDie", desc := "()V" } : Jvm.MethodName)) ∈ tbX := tb_6 (i := 187) rfl rfl
theorem ts_84 : (Cond.selects "SchoolLosingModel" ⟨"SchoolLosingModel", "tellDie", "()V"⟩ ⟨"SchoolLosingModel", "tellDie", "()V"⟩) ∈ tbX := tb_s (i := 84) rfl rfl
theorem t_1357 : (Jvm.Cond.methodLink "SchoolLosingModel" (303 : Nat) ({ cls := "SchoolLosingModel", name := "bounded", desc := "(II)I" } : Jvm.MethodName)) ∈ tbX := tb_6 (i := 157) rfl rfl
theorem t_1359 : (Jvm.Cond.instanceMethod ({ cls := "SchoolLosingModel", name := "bounded", desc := "(II)I" } : Jvm.MethodName)) ∈ tbX := tb_6 (i := 159) rfl rfl
theorem ts_77 : (Cond.selects "SchoolLosingModel" ⟨"SchoolLosingModel", "bounded", "(II)I"⟩ ⟨"SchoolLosingModel", "bounded", "(II)I"⟩) ∈ tbX := tb_s (i := 77) rfl rfl
theorem t_1349 : (Jvm.Cond.methodLink "SchoolLosingModel" (307 : Nat) ({ cls := "SchoolLosingModel", name := "must", desc := "(I)V" } : Jvm.MethodName)) ∈ tbX := tb_6 (i := 149) rfl rfl
theorem t_1351 : (Jvm.Cond.instanceMethod ({ cls := "SchoolLosingModel", name := "must", desc := "(I)V" } : Jvm.MethodName)) ∈ tbX := tb_6 (i := 151) rfl rfl
theorem ts_75 : (Cond.selects "SchoolLosingModel" ⟨"SchoolLosingModel", "must", "(I)V"⟩ ⟨"SchoolLosingModel", "must", "(I)V"⟩) ∈ tbX := tb_s (i := 75) rfl rfl
theorem t_1389 : (Jvm.Cond.methodLink "SchoolLosingModel" (310 : Nat) ({ cls := "SchoolLosingModel", name := "tellLaw", desc := "(I)V" } : Jvm.MethodName)) ∈ tbX := tb_6 (i := 189) rfl rfl
theorem t_1391 : (Jvm.Cond.instanceMethod ({ cls := "SchoolLosingModel", name := "tellLaw", desc := "(I)V" } : Jvm.MethodName)) ∈ tbX := tb_6 (i := 191) rfl rfl
theorem ts_85 : (Cond.selects "SchoolLosingModel" ⟨"SchoolLosingModel", "tellLaw", "(I)V"⟩ ⟨"SchoolLosingModel", "tellLaw", "(I)V"⟩) ∈ tbX := tb_s (i := 85) rfl rfl
theorem t_1353 : (Jvm.Cond.methodLink "SchoolLosingModel" (313 : Nat) ({ cls := "SchoolLosingModel", name := "wrong", desc := "(II)V" } : Jvm.MethodName)) ∈ tbX := tb_6 (i := 153) rfl rfl
theorem t_1355 : (Jvm.Cond.instanceMethod ({ cls := "SchoolLosingModel", name := "wrong", desc := "(II)V" } : Jvm.MethodName)) ∈ tbX := tb_6 (i := 155) rfl rfl
theorem ts_76 : (Cond.selects "SchoolLosingModel" ⟨"SchoolLosingModel", "wrong", "(II)V"⟩ ⟨"SchoolLosingModel", "wrong", "(II)V"⟩) ∈ tbX := tb_s (i := 76) rfl rfl
theorem t_1345 : (Jvm.Cond.methodLink "SchoolLosingModel" (316 : Nat) ({ cls := "SchoolLosingModel", name := "named", desc := "()I" } : Jvm.MethodName)) ∈ tbX := tb_6 (i := 145) rfl rfl
theorem t_1347 : (Jvm.Cond.instanceMethod ({ cls := "SchoolLosingModel", name := "named", desc := "()I" } : Jvm.MethodName)) ∈ tbX := tb_6 (i := 147) rfl rfl
theorem ts_74 : (Cond.selects "SchoolLosingModel" ⟨"SchoolLosingModel", "named", "()I"⟩ ⟨"SchoolLosingModel", "named", "()I"⟩) ∈ tbX := tb_s (i := 74) rfl rfl
theorem t_1361 : (Jvm.Cond.methodLink "SchoolLosingModel" (320 : Nat) ({ cls := "SchoolLosingModel", name := "ends", desc := "(III)V" } : Jvm.MethodName)) ∈ tbX := tb_6 (i := 161) rfl rfl
theorem t_1363 : (Jvm.Cond.instanceMethod ({ cls := "SchoolLosingModel", name := "ends", desc := "(III)V" } : Jvm.MethodName)) ∈ tbX := tb_6 (i := 163) rfl rfl
theorem ts_78 : (Cond.selects "SchoolLosingModel" ⟨"SchoolLosingModel", "ends", "(III)V"⟩ ⟨"SchoolLosingModel", "ends", "(III)V"⟩) ∈ tbX := tb_s (i := 78) rfl rfl
theorem t_1369 : (Jvm.Cond.methodLink "SchoolLosingModel" (324 : Nat) ({ cls := "SchoolLosingModel", name := "known", desc := "(I)I" } : Jvm.MethodName)) ∈ tbX := tb_6 (i := 169) rfl rfl
theorem t_1371 : (Jvm.Cond.instanceMethod ({ cls := "SchoolLosingModel", name := "known", desc := "(I)I" } : Jvm.MethodName)) ∈ tbX := tb_6 (i := 171) rfl rfl
theorem ts_80 : (Cond.selects "SchoolLosingModel" ⟨"SchoolLosingModel", "known", "(I)I"⟩ ⟨"SchoolLosingModel", "known", "(I)I"⟩) ∈ tbX := tb_s (i := 80) rfl rfl
theorem t_1393 : (Jvm.Cond.methodLink "SchoolLosingModel" (327 : Nat) ({ cls := "SchoolLosingModel", name := "expression", desc := "()V" } : Jvm.MethodName)) ∈ tbX := tb_6 (i := 193) rfl rfl
theorem t_1395 : (Jvm.Cond.instanceMethod ({ cls := "SchoolLosingModel", name := "expression", desc := "()V" } : Jvm.MethodName)) ∈ tbX := tb_6 (i := 195) rfl rfl
theorem ts_86 : (Cond.selects "SchoolLosingModel" ⟨"SchoolLosingModel", "expression", "()V"⟩ ⟨"SchoolLosingModel", "expression", "()V"⟩) ∈ tbX := tb_s (i := 86) rfl rfl
theorem t_1409 : (Jvm.Cond.methodLink "SchoolLosingModel" (330 : Nat) ({ cls := "SchoolLosingModel", name := "term", desc := "()V" } : Jvm.MethodName)) ∈ tbX := tb_6 (i := 209) rfl rfl
theorem t_1411 : (Jvm.Cond.instanceMethod ({ cls := "SchoolLosingModel", name := "term", desc := "()V" } : Jvm.MethodName)) ∈ tbX := tb_6 (i := 211) rfl rfl
theorem ts_90 : (Cond.selects "SchoolLosingModel" ⟨"SchoolLosingModel", "term", "()V"⟩ ⟨"SchoolLosingModel", "term", "()V"⟩) ∈ tbX := tb_s (i := 90) rfl rfl
theorem t_1401 : (Jvm.Cond.methodLink "SchoolLosingModel" (336 : Nat) ({ cls := "SchoolLosingModel", name := "emit", desc := "(II)V" } : Jvm.MethodName)) ∈ tbX := tb_6 (i := 201) rfl rfl
theorem t_1403 : (Jvm.Cond.instanceMethod ({ cls := "SchoolLosingModel", name := "emit", desc := "(II)V" } : Jvm.MethodName)) ∈ tbX := tb_6 (i := 203) rfl rfl
theorem ts_88 : (Cond.selects "SchoolLosingModel" ⟨"SchoolLosingModel", "emit", "(II)V"⟩ ⟨"SchoolLosingModel", "emit", "(II)V"⟩) ∈ tbX := tb_s (i := 88) rfl rfl
theorem t_1397 : (Jvm.Cond.methodLink "SchoolLosingModel" (339 : Nat) ({ cls := "SchoolLosingModel", name := "unit", desc := "()V" } : Jvm.MethodName)) ∈ tbX := tb_6 (i := 197) rfl rfl
theorem t_1399 : (Jvm.Cond.instanceMethod ({ cls := "SchoolLosingModel", name := "unit", desc := "()V" } : Jvm.MethodName)) ∈ tbX := tb_6 (i := 199) rfl rfl
theorem ts_87 : (Cond.selects "SchoolLosingModel" ⟨"SchoolLosingModel", "unit", "()V"⟩ ⟨"SchoolLosingModel", "unit", "()V"⟩) ∈ tbX := tb_s (i := 87) rfl rfl
theorem t_1405 : (Jvm.Cond.methodLink "SchoolLosingModel" (342 : Nat) ({ cls := "SchoolLosingModel", name := "comesOut", desc := "(Z)V" } : Jvm.MethodName)) ∈ tbX := tb_6 (i := 205) rfl rfl
theorem t_1407 : (Jvm.Cond.instanceMethod ({ cls := "SchoolLosingModel", name := "comesOut", desc := "(Z)V" } : Jvm.MethodName)) ∈ tbX := tb_6 (i := 207) rfl rfl
theorem ts_89 : (Cond.selects "SchoolLosingModel" ⟨"SchoolLosingModel", "comesOut", "(Z)V"⟩ ⟨"SchoolLosingModel", "comesOut", "(Z)V"⟩) ∈ tbX := tb_s (i := 89) rfl rfl
theorem t_1425 : (Jvm.Cond.methodLink "SchoolLosingModel" (350 : Nat) ({ cls := "SchoolLosingModel", name := "in", desc := "(III)Z" } : Jvm.MethodName)) ∈ tbX := tb_6 (i := 225) rfl rfl
theorem t_1426 : (Jvm.Cond.static ({ cls := "SchoolLosingModel", name := "in", desc := "(III)Z" } : Jvm.MethodName)) ∈ tbX := tb_6 (i := 226) rfl rfl
theorem t_1050 : (Jvm.Cond.methodLink "SchoolLosingModel" (354 : Nat) ({ cls := "SchoolLosingModel", name := "noGame", desc := "()V" } : Jvm.MethodName)) ∈ tbX := tb_5 (i := 90) rfl rfl
theorem t_1052 : (Jvm.Cond.instanceMethod ({ cls := "SchoolLosingModel", name := "noGame", desc := "()V" } : Jvm.MethodName)) ∈ tbX := tb_5 (i := 92) rfl rfl
theorem ts_61 : (Cond.selects "SchoolLosingModel" ⟨"SchoolLosingModel", "noGame", "()V"⟩ ⟨"SchoolLosingModel", "noGame", "()V"⟩) ∈ tbX := tb_s (i := 61) rfl rfl
theorem t_1502 : (Jvm.Cond.methodLink "SchoolLosingModel" (358 : Nat) ({ cls := "SchoolLosingModel", name := "mixed", desc := "(II)I" } : Jvm.MethodName)) ∈ tbX := tb_7 (i := 62) rfl rfl
theorem t_1503 : (Jvm.Cond.static ({ cls := "SchoolLosingModel", name := "mixed", desc := "(II)I" } : Jvm.MethodName)) ∈ tbX := tb_7 (i := 63) rfl rfl
theorem t_1465 : (Jvm.Cond.methodLink "SchoolLosingModel" (361 : Nat) ({ cls := "SchoolLosingModel", name := "bits", desc := "(I)I" } : Jvm.MethodName)) ∈ tbX := tb_7 (i := 25) rfl rfl
theorem t_1466 : (Jvm.Cond.static ({ cls := "SchoolLosingModel", name := "bits", desc := "(I)I" } : Jvm.MethodName)) ∈ tbX := tb_7 (i := 26) rfl rfl
theorem t_1522 : (Jvm.Cond.methodLink "SchoolLosingModel" (364 : Nat) ({ cls := "SchoolLosingModel", name := "termOf", desc := "(II)I" } : Jvm.MethodName)) ∈ tbX := tb_7 (i := 82) rfl rfl
theorem t_1524 : (Jvm.Cond.instanceMethod ({ cls := "SchoolLosingModel", name := "termOf", desc := "(II)I" } : Jvm.MethodName)) ∈ tbX := tb_7 (i := 84) rfl rfl
theorem ts_107 : (Cond.selects "SchoolLosingModel" ⟨"SchoolLosingModel", "termOf", "(II)I"⟩ ⟨"SchoolLosingModel", "termOf", "(II)I"⟩) ∈ tbX := tb_s (i := 107) rfl rfl
theorem t_1514 : (Jvm.Cond.methodLink "SchoolLosingModel" (367 : Nat) ({ cls := "SchoolLosingModel", name := "looks", desc := "()V" } : Jvm.MethodName)) ∈ tbX := tb_7 (i := 74) rfl rfl
theorem t_1516 : (Jvm.Cond.instanceMethod ({ cls := "SchoolLosingModel", name := "looks", desc := "()V" } : Jvm.MethodName)) ∈ tbX := tb_7 (i := 76) rfl rfl
theorem ts_105 : (Cond.selects "SchoolLosingModel" ⟨"SchoolLosingModel", "looks", "()V"⟩ ⟨"SchoolLosingModel", "looks", "()V"⟩) ∈ tbX := tb_s (i := 105) rfl rfl
theorem t_1461 : (Jvm.Cond.methodLink "SchoolLosingModel" (370 : Nat) ({ cls := "SchoolLosingModel", name := "skillOf", desc := "(I)I" } : Jvm.MethodName)) ∈ tbX := tb_7 (i := 21) rfl rfl
theorem t_1463 : (Jvm.Cond.instanceMethod ({ cls := "SchoolLosingModel", name := "skillOf", desc := "(I)I" } : Jvm.MethodName)) ∈ tbX := tb_7 (i := 23) rfl rfl
theorem ts_98 : (Cond.selects "SchoolLosingModel" ⟨"SchoolLosingModel", "skillOf", "(I)I"⟩ ⟨"SchoolLosingModel", "skillOf", "(I)I"⟩) ∈ tbX := tb_s (i := 98) rfl rfl
theorem t_1518 : (Jvm.Cond.methodLink "SchoolLosingModel" (373 : Nat) ({ cls := "SchoolLosingModel", name := "asks", desc := "(II)I" } : Jvm.MethodName)) ∈ tbX := tb_7 (i := 78) rfl rfl
theorem t_1520 : (Jvm.Cond.instanceMethod ({ cls := "SchoolLosingModel", name := "asks", desc := "(II)I" } : Jvm.MethodName)) ∈ tbX := tb_7 (i := 80) rfl rfl
theorem ts_106 : (Cond.selects "SchoolLosingModel" ⟨"SchoolLosingModel", "asks", "(II)I"⟩ ⟨"SchoolLosingModel", "asks", "(II)I"⟩) ∈ tbX := tb_s (i := 106) rfl rfl
theorem t_1542 : (Jvm.Cond.methodLink "SchoolLosingModel" (376 : Nat) ({ cls := "SchoolLosingModel", name := "held", desc := "(I)I" } : Jvm.MethodName)) ∈ tbX := tb_7 (i := 102) rfl rfl
theorem t_1543 : (Jvm.Cond.static ({ cls := "SchoolLosingModel", name := "held", desc := "(I)I" } : Jvm.MethodName)) ∈ tbX := tb_7 (i := 103) rfl rfl
theorem t_1428 : (Jvm.Cond.methodLink "SchoolLosingModel" (379 : Nat) ({ cls := "SchoolLosingModel", name := "turnAt", desc := "(I)I" } : Jvm.MethodName)) ∈ tbX := tb_6 (i := 228) rfl rfl
theorem t_1430 : (Jvm.Cond.instanceMethod ({ cls := "SchoolLosingModel", name := "turnAt", desc := "(I)I" } : Jvm.MethodName)) ∈ tbX := tb_6 (i := 230) rfl rfl
theorem ts_92 : (Cond.selects "SchoolLosingModel" ⟨"SchoolLosingModel", "turnAt", "(I)I"⟩ ⟨"SchoolLosingModel", "turnAt", "(I)I"⟩) ∈ tbX := tb_s (i := 92) rfl rfl
theorem t_1432 : (Jvm.Cond.methodLink "SchoolLosingModel" (382 : Nat) ({ cls := "SchoolLosingModel", name := "manyMoves", desc := "(I)I" } : Jvm.MethodName)) ∈ tbX := tb_6 (i := 232) rfl rfl
theorem t_1434 : (Jvm.Cond.instanceMethod ({ cls := "SchoolLosingModel", name := "manyMoves", desc := "(I)I" } : Jvm.MethodName)) ∈ tbX := tb_6 (i := 234) rfl rfl
theorem ts_93 : (Cond.selects "SchoolLosingModel" ⟨"SchoolLosingModel", "manyMoves", "(I)I"⟩ ⟨"SchoolLosingModel", "manyMoves", "(I)I"⟩) ∈ tbX := tb_s (i := 93) rfl rfl
theorem t_1444 : (Jvm.Cond.methodLink "SchoolLosingModel" (385 : Nat) ({ cls := "SchoolLosingModel", name := "leadsTo", desc := "(II)I" } : Jvm.MethodName)) ∈ tbX := tb_7 (i := 4) rfl rfl
theorem t_1446 : (Jvm.Cond.instanceMethod ({ cls := "SchoolLosingModel", name := "leadsTo", desc := "(II)I" } : Jvm.MethodName)) ∈ tbX := tb_7 (i := 6) rfl rfl
theorem ts_95 : (Cond.selects "SchoolLosingModel" ⟨"SchoolLosingModel", "leadsTo", "(II)I"⟩ ⟨"SchoolLosingModel", "leadsTo", "(II)I"⟩) ∈ tbX := tb_s (i := 95) rfl rfl
theorem t_1495 : (Jvm.Cond.methodLink "SchoolLosingModel" (388 : Nat) ({ cls := "SchoolLosingModel", name := "ratherBy", desc := "(II)I" } : Jvm.MethodName)) ∈ tbX := tb_7 (i := 55) rfl rfl
theorem t_1496 : (Jvm.Cond.static ({ cls := "SchoolLosingModel", name := "ratherBy", desc := "(II)I" } : Jvm.MethodName)) ∈ tbX := tb_7 (i := 56) rfl rfl
theorem t_1510 : (Jvm.Cond.methodLink "SchoolLosingModel" (391 : Nat) ({ cls := "SchoolLosingModel", name := "isSeen", desc := "(IIIII)Z" } : Jvm.MethodName)) ∈ tbX := tb_7 (i := 70) rfl rfl
theorem t_1512 : (Jvm.Cond.instanceMethod ({ cls := "SchoolLosingModel", name := "isSeen", desc := "(IIIII)Z" } : Jvm.MethodName)) ∈ tbX := tb_7 (i := 72) rfl rfl
theorem ts_104 : (Cond.selects "SchoolLosingModel" ⟨"SchoolLosingModel", "isSeen", "(IIIII)Z"⟩ ⟨"SchoolLosingModel", "isSeen", "(IIIII)Z"⟩) ∈ tbX := tb_s (i := 104) rfl rfl
theorem t_1526 : (Jvm.Cond.methodLink "SchoolLosingModel" (395 : Nat) ({ cls := "SchoolLosingModel", name := "oneIsOver", desc := "(II)V" } : Jvm.MethodName)) ∈ tbX := tb_7 (i := 86) rfl rfl
theorem t_1528 : (Jvm.Cond.instanceMethod ({ cls := "SchoolLosingModel", name := "oneIsOver", desc := "(II)V" } : Jvm.MethodName)) ∈ tbX := tb_7 (i := 88) rfl rfl
theorem ts_108 : (Cond.selects "SchoolLosingModel" ⟨"SchoolLosingModel", "oneIsOver", "(II)V"⟩ ⟨"SchoolLosingModel", "oneIsOver", "(II)V"⟩) ∈ tbX := tb_s (i := 108) rfl rfl
theorem t_1491 : (Jvm.Cond.methodLink "SchoolLosingModel" (398 : Nat) ({ cls := "SchoolLosingModel", name := "fillsWant", desc := "(II)V" } : Jvm.MethodName)) ∈ tbX := tb_7 (i := 51) rfl rfl
theorem t_1493 : (Jvm.Cond.instanceMethod ({ cls := "SchoolLosingModel", name := "fillsWant", desc := "(II)V" } : Jvm.MethodName)) ∈ tbX := tb_7 (i := 53) rfl rfl
theorem ts_101 : (Cond.selects "SchoolLosingModel" ⟨"SchoolLosingModel", "fillsWant", "(II)V"⟩ ⟨"SchoolLosingModel", "fillsWant", "(II)V"⟩) ∈ tbX := tb_s (i := 101) rfl rfl
theorem t_1498 : (Jvm.Cond.methodLink "SchoolLosingModel" (401 : Nat) ({ cls := "SchoolLosingModel", name := "lotOf", desc := "(II)I" } : Jvm.MethodName)) ∈ tbX := tb_7 (i := 58) rfl rfl
theorem t_1500 : (Jvm.Cond.instanceMethod ({ cls := "SchoolLosingModel", name := "lotOf", desc := "(II)I" } : Jvm.MethodName)) ∈ tbX := tb_7 (i := 60) rfl rfl
theorem ts_102 : (Cond.selects "SchoolLosingModel" ⟨"SchoolLosingModel", "lotOf", "(II)I"⟩ ⟨"SchoolLosingModel", "lotOf", "(II)I"⟩) ∈ tbX := tb_s (i := 102) rfl rfl
theorem t_1506 : (Jvm.Cond.methodLink "SchoolLosingModel" (404 : Nat) ({ cls := "SchoolLosingModel", name := "makes", desc := "(I)V" } : Jvm.MethodName)) ∈ tbX := tb_7 (i := 66) rfl rfl
theorem t_1508 : (Jvm.Cond.instanceMethod ({ cls := "SchoolLosingModel", name := "makes", desc := "(I)V" } : Jvm.MethodName)) ∈ tbX := tb_7 (i := 68) rfl rfl
theorem ts_103 : (Cond.selects "SchoolLosingModel" ⟨"SchoolLosingModel", "makes", "(I)V"⟩ ⟨"SchoolLosingModel", "makes", "(I)V"⟩) ∈ tbX := tb_s (i := 103) rfl rfl
theorem t_1421 : (Jvm.Cond.methodLink "SchoolLosingModel" (407 : Nat) ({ cls := "SchoolLosingModel", name := "isPosition", desc := "(I)Z" } : Jvm.MethodName)) ∈ tbX := tb_6 (i := 221) rfl rfl
theorem t_1423 : (Jvm.Cond.instanceMethod ({ cls := "SchoolLosingModel", name := "isPosition", desc := "(I)Z" } : Jvm.MethodName)) ∈ tbX := tb_6 (i := 223) rfl rfl
theorem ts_91 : (Cond.selects "SchoolLosingModel" ⟨"SchoolLosingModel", "isPosition", "(I)Z"⟩ ⟨"SchoolLosingModel", "isPosition", "(I)Z"⟩) ∈ tbX := tb_s (i := 91) rfl rfl
theorem t_1440 : (Jvm.Cond.methodLink "SchoolLosingModel" (410 : Nat) ({ cls := "SchoolLosingModel", name := "isMove", desc := "(II)Z" } : Jvm.MethodName)) ∈ tbX := tb_7 (i := 0) rfl rfl
theorem t_1442 : (Jvm.Cond.instanceMethod ({ cls := "SchoolLosingModel", name := "isMove", desc := "(II)Z" } : Jvm.MethodName)) ∈ tbX := tb_7 (i := 2) rfl rfl
theorem ts_94 : (Cond.selects "SchoolLosingModel" ⟨"SchoolLosingModel", "isMove", "(II)Z"⟩ ⟨"SchoolLosingModel", "isMove", "(II)Z"⟩) ∈ tbX := tb_s (i := 94) rfl rfl
theorem t_1452 : (Jvm.Cond.methodLink "SchoolLosingModel" (414 : Nat) ({ cls := "SchoolLosingModel", name := "isMan", desc := "(I)Z" } : Jvm.MethodName)) ∈ tbX := tb_7 (i := 12) rfl rfl
theorem t_1454 : (Jvm.Cond.instanceMethod ({ cls := "SchoolLosingModel", name := "isMan", desc := "(I)Z" } : Jvm.MethodName)) ∈ tbX := tb_7 (i := 14) rfl rfl
theorem ts_96 : (Cond.selects "SchoolLosingModel" ⟨"SchoolLosingModel", "isMan", "(I)Z"⟩ ⟨"SchoolLosingModel", "isMan", "(I)Z"⟩) ∈ tbX := tb_s (i := 96) rfl rfl
theorem t_1457 : (Jvm.Cond.methodLink "SchoolLosingModel" (418 : Nat) ({ cls := "SchoolLosingModel", name := "copies", desc := "()V" } : Jvm.MethodName)) ∈ tbX := tb_7 (i := 17) rfl rfl
theorem t_1459 : (Jvm.Cond.instanceMethod ({ cls := "SchoolLosingModel", name := "copies", desc := "()V" } : Jvm.MethodName)) ∈ tbX := tb_7 (i := 19) rfl rfl
theorem ts_97 : (Cond.selects "SchoolLosingModel" ⟨"SchoolLosingModel", "copies", "()V"⟩ ⟨"SchoolLosingModel", "copies", "()V"⟩) ∈ tbX := tb_s (i := 97) rfl rfl
theorem t_1476 : (Jvm.Cond.methodLink "SchoolLosingModel" (421 : Nat) ({ cls := "SchoolLosingModel", name := "isAim", desc := "(I)Z" } : Jvm.MethodName)) ∈ tbX := tb_7 (i := 36) rfl rfl
theorem t_1477 : (Jvm.Cond.static ({ cls := "SchoolLosingModel", name := "isAim", desc := "(I)Z" } : Jvm.MethodName)) ∈ tbX := tb_7 (i := 37) rfl rfl
theorem t_1479 : (Jvm.Cond.methodLink "SchoolLosingModel" (424 : Nat) ({ cls := "SchoolLosingModel", name := "keeps", desc := "()V" } : Jvm.MethodName)) ∈ tbX := tb_7 (i := 39) rfl rfl
theorem t_1481 : (Jvm.Cond.instanceMethod ({ cls := "SchoolLosingModel", name := "keeps", desc := "()V" } : Jvm.MethodName)) ∈ tbX := tb_7 (i := 41) rfl rfl
theorem ts_99 : (Cond.selects "SchoolLosingModel" ⟨"SchoolLosingModel", "keeps", "()V"⟩ ⟨"SchoolLosingModel", "keeps", "()V"⟩) ∈ tbX := tb_s (i := 99) rfl rfl
theorem t_1487 : (Jvm.Cond.methodLink "SchoolLosingModel" (427 : Nat) ({ cls := "SchoolLosingModel", name := "stepGoes", desc := "()V" } : Jvm.MethodName)) ∈ tbX := tb_7 (i := 47) rfl rfl
theorem t_1489 : (Jvm.Cond.instanceMethod ({ cls := "SchoolLosingModel", name := "stepGoes", desc := "()V" } : Jvm.MethodName)) ∈ tbX := tb_7 (i := 49) rfl rfl
theorem ts_100 : (Cond.selects "SchoolLosingModel" ⟨"SchoolLosingModel", "stepGoes", "()V"⟩ ⟨"SchoolLosingModel", "stepGoes", "()V"⟩) ∈ tbX := tb_s (i := 100) rfl rfl
theorem t_1538 : (Jvm.Cond.methodLink "SchoolLosingModel" (430 : Nat) ({ cls := "SchoolLosingModel", name := "learnsIn", desc := "(III)I" } : Jvm.MethodName)) ∈ tbX := tb_7 (i := 98) rfl rfl
theorem t_1540 : (Jvm.Cond.instanceMethod ({ cls := "SchoolLosingModel", name := "learnsIn", desc := "(III)I" } : Jvm.MethodName)) ∈ tbX := tb_7 (i := 100) rfl rfl
theorem ts_109 : (Cond.selects "SchoolLosingModel" ⟨"SchoolLosingModel", "learnsIn", "(III)I"⟩ ⟨"SchoolLosingModel", "learnsIn", "(III)I"⟩) ∈ tbX := tb_s (i := 109) rfl rfl
theorem t_1561 : (Jvm.Cond.methodLink "SchoolLosingModel" (433 : Nat) ({ cls := "SchoolLosingModel", name := "isSurely", desc := "(IIII)Z" } : Jvm.MethodName)) ∈ tbX := tb_7 (i := 121) rfl rfl
theorem t_1563 : (Jvm.Cond.instanceMethod ({ cls := "SchoolLosingModel", name := "isSurely", desc := "(IIII)Z" } : Jvm.MethodName)) ∈ tbX := tb_7 (i := 123) rfl rfl
theorem ts_110 : (Cond.selects "SchoolLosingModel" ⟨"SchoolLosingModel", "isSurely", "(IIII)Z"⟩ ⟨"SchoolLosingModel", "isSurely", "(IIII)Z"⟩) ∈ tbX := tb_s (i := 110) rfl rfl
theorem t_1565 : (Jvm.Cond.methodLink "SchoolLosingModel" (437 : Nat) ({ cls := "SchoolLosingModel", name := "fillsSure", desc := "(IIII)V" } : Jvm.MethodName)) ∈ tbX := tb_7 (i := 125) rfl rfl
theorem t_1567 : (Jvm.Cond.instanceMethod ({ cls := "SchoolLosingModel", name := "fillsSure", desc := "(IIII)V" } : Jvm.MethodName)) ∈ tbX := tb_7 (i := 127) rfl rfl
theorem ts_111 : (Cond.selects "SchoolLosingModel" ⟨"SchoolLosingModel", "fillsSure", "(IIII)V"⟩ ⟨"SchoolLosingModel", "fillsSure", "(IIII)V"⟩) ∈ tbX := tb_s (i := 111) rfl rfl
theorem t_1593 : (Jvm.Cond.methodLink "SchoolLosingModel" (441 : Nat) ({ cls := "SchoolLosingModel", name := "sixties", desc := "(I)I" } : Jvm.MethodName)) ∈ tbX := tb_7 (i := 153) rfl rfl
theorem t_1594 : (Jvm.Cond.static ({ cls := "SchoolLosingModel", name := "sixties", desc := "(I)I" } : Jvm.MethodName)) ∈ tbX := tb_7 (i := 154) rfl rfl
theorem t_1596 : (Jvm.Cond.methodLink "SchoolLosingModel" (444 : Nat) ({ cls := "SchoolLosingModel", name := "sixtieths", desc := "(III)I" } : Jvm.MethodName)) ∈ tbX := tb_7 (i := 156) rfl rfl
theorem t_1598 : (Jvm.Cond.instanceMethod ({ cls := "SchoolLosingModel", name := "sixtieths", desc := "(III)I" } : Jvm.MethodName)) ∈ tbX := tb_7 (i := 158) rfl rfl
theorem ts_114 : (Cond.selects "SchoolLosingModel" ⟨"SchoolLosingModel", "sixtieths", "(III)I"⟩ ⟨"SchoolLosingModel", "sixtieths", "(III)I"⟩) ∈ tbX := tb_s (i := 114) rfl rfl
theorem t_1603 : (Jvm.Cond.methodLink "SchoolLosingModel" (447 : Nat) ({ cls := "SchoolLosingModel", name := "common", desc := "(II)I" } : Jvm.MethodName)) ∈ tbX := tb_7 (i := 163) rfl rfl
theorem t_1604 : (Jvm.Cond.static ({ cls := "SchoolLosingModel", name := "common", desc := "(II)I" } : Jvm.MethodName)) ∈ tbX := tb_7 (i := 164) rfl rfl
theorem t_1585 : (Jvm.Cond.methodLink "SchoolLosingModel" (450 : Nat) ({ cls := "SchoolLosingModel", name := "isLikely", desc := "(IIII)Z" } : Jvm.MethodName)) ∈ tbX := tb_7 (i := 145) rfl rfl
theorem t_1587 : (Jvm.Cond.instanceMethod ({ cls := "SchoolLosingModel", name := "isLikely", desc := "(IIII)Z" } : Jvm.MethodName)) ∈ tbX := tb_7 (i := 147) rfl rfl
theorem ts_112 : (Cond.selects "SchoolLosingModel" ⟨"SchoolLosingModel", "isLikely", "(IIII)Z"⟩ ⟨"SchoolLosingModel", "isLikely", "(IIII)Z"⟩) ∈ tbX := tb_s (i := 112) rfl rfl
theorem t_1589 : (Jvm.Cond.methodLink "SchoolLosingModel" (453 : Nat) ({ cls := "SchoolLosingModel", name := "fillsOften", desc := "(IIII)V" } : Jvm.MethodName)) ∈ tbX := tb_7 (i := 149) rfl rfl
theorem t_1591 : (Jvm.Cond.instanceMethod ({ cls := "SchoolLosingModel", name := "fillsOften", desc := "(IIII)V" } : Jvm.MethodName)) ∈ tbX := tb_7 (i := 151) rfl rfl
theorem ts_113 : (Cond.selects "SchoolLosingModel" ⟨"SchoolLosingModel", "fillsOften", "(IIII)V"⟩ ⟨"SchoolLosingModel", "fillsOften", "(IIII)V"⟩) ∈ tbX := tb_s (i := 113) rfl rfl
theorem t_1600 : (Jvm.Cond.methodLink "SchoolLosingModel" (456 : Nat) ({ cls := "SchoolLosingModel", name := "lineOf", desc := "(IIZ)I" } : Jvm.MethodName)) ∈ tbX := tb_7 (i := 160) rfl rfl
theorem t_1601 : (Jvm.Cond.static ({ cls := "SchoolLosingModel", name := "lineOf", desc := "(IIZ)I" } : Jvm.MethodName)) ∈ tbX := tb_7 (i := 161) rfl rfl
theorem t_1618 : (Jvm.Cond.methodLink "SchoolLosingModel" (460 : Nat) ({ cls := "SchoolLosingModel", name := "sixes", desc := "(I)I" } : Jvm.MethodName)) ∈ tbX := tb_7 (i := 178) rfl rfl
theorem t_1619 : (Jvm.Cond.static ({ cls := "SchoolLosingModel", name := "sixes", desc := "(I)I" } : Jvm.MethodName)) ∈ tbX := tb_7 (i := 179) rfl rfl
theorem t_1621 : (Jvm.Cond.methodLink "SchoolLosingModel" (466 : Nat) ({ cls := "SchoolLosingModel", name := "hoursBy", desc := "(I)I" } : Jvm.MethodName)) ∈ tbX := tb_7 (i := 181) rfl rfl
theorem t_1623 : (Jvm.Cond.instanceMethod ({ cls := "SchoolLosingModel", name := "hoursBy", desc := "(I)I" } : Jvm.MethodName)) ∈ tbX := tb_7 (i := 183) rfl rfl
theorem ts_116 : (Cond.selects "SchoolLosingModel" ⟨"SchoolLosingModel", "hoursBy", "(I)I"⟩ ⟨"SchoolLosingModel", "hoursBy", "(I)I"⟩) ∈ tbX := tb_s (i := 116) rfl rfl
theorem t_1614 : (Jvm.Cond.methodLink "SchoolLosingModel" (472 : Nat) ({ cls := "SchoolLosingModel", name := "fillsOrder", desc := "()V" } : Jvm.MethodName)) ∈ tbX := tb_7 (i := 174) rfl rfl
theorem t_1616 : (Jvm.Cond.instanceMethod ({ cls := "SchoolLosingModel", name := "fillsOrder", desc := "()V" } : Jvm.MethodName)) ∈ tbX := tb_7 (i := 176) rfl rfl
theorem ts_115 : (Cond.selects "SchoolLosingModel" ⟨"SchoolLosingModel", "fillsOrder", "()V"⟩ ⟨"SchoolLosingModel", "fillsOrder", "()V"⟩) ∈ tbX := tb_s (i := 115) rfl rfl
theorem t_1637 : (Jvm.Cond.methodLink "SchoolLosingModel" (475 : Nat) ({ cls := "SchoolLosingModel", name := "suitsBy", desc := "(II)I" } : Jvm.MethodName)) ∈ tbX := tb_7 (i := 197) rfl rfl
theorem t_1639 : (Jvm.Cond.instanceMethod ({ cls := "SchoolLosingModel", name := "suitsBy", desc := "(II)I" } : Jvm.MethodName)) ∈ tbX := tb_7 (i := 199) rfl rfl
theorem ts_119 : (Cond.selects "SchoolLosingModel" ⟨"SchoolLosingModel", "suitsBy", "(II)I"⟩ ⟨"SchoolLosingModel", "suitsBy", "(II)I"⟩) ∈ tbX := tb_s (i := 119) rfl rfl
theorem t_1633 : (Jvm.Cond.methodLink "SchoolLosingModel" (478 : Nat) ({ cls := "SchoolLosingModel", name := "suitsAll", desc := "(I)I" } : Jvm.MethodName)) ∈ tbX := tb_7 (i := 193) rfl rfl
theorem t_1635 : (Jvm.Cond.instanceMethod ({ cls := "SchoolLosingModel", name := "suitsAll", desc := "(I)I" } : Jvm.MethodName)) ∈ tbX := tb_7 (i := 195) rfl rfl
theorem ts_118 : (Cond.selects "SchoolLosingModel" ⟨"SchoolLosingModel", "suitsAll", "(I)I"⟩ ⟨"SchoolLosingModel", "suitsAll", "(I)I"⟩) ∈ tbX := tb_s (i := 118) rfl rfl
theorem t_1629 : (Jvm.Cond.methodLink "SchoolLosingModel" (484 : Nat) ({ cls := "SchoolLosingModel", name := "fillsCourts", desc := "()V" } : Jvm.MethodName)) ∈ tbX := tb_7 (i := 189) rfl rfl
theorem t_1631 : (Jvm.Cond.instanceMethod ({ cls := "SchoolLosingModel", name := "fillsCourts", desc := "()V" } : Jvm.MethodName)) ∈ tbX := tb_7 (i := 191) rfl rfl
theorem ts_117 : (Cond.selects "SchoolLosingModel" ⟨"SchoolLosingModel", "fillsCourts", "()V"⟩ ⟨"SchoolLosingModel", "fillsCourts", "()V"⟩) ∈ tbX := tb_s (i := 117) rfl rfl
theorem t_1645 : (Jvm.Cond.methodLink "SchoolLosingModel" (487 : Nat) ({ cls := "SchoolLosingModel", name := "isDie", desc := "(I)Z" } : Jvm.MethodName)) ∈ tbX := tb_7 (i := 205) rfl rfl
theorem t_1647 : (Jvm.Cond.instanceMethod ({ cls := "SchoolLosingModel", name := "isDie", desc := "(I)Z" } : Jvm.MethodName)) ∈ tbX := tb_7 (i := 207) rfl rfl
theorem ts_120 : (Cond.selects "SchoolLosingModel" ⟨"SchoolLosingModel", "isDie", "(I)Z"⟩ ⟨"SchoolLosingModel", "isDie", "(I)Z"⟩) ∈ tbX := tb_s (i := 120) rfl rfl
theorem t_1649 : (Jvm.Cond.methodLink "SchoolLosingModel" (490 : Nat) ({ cls := "SchoolLosingModel", name := "lessOf", desc := "(II)I" } : Jvm.MethodName)) ∈ tbX := tb_7 (i := 209) rfl rfl
theorem t_1651 : (Jvm.Cond.instanceMethod ({ cls := "SchoolLosingModel", name := "lessOf", desc := "(II)I" } : Jvm.MethodName)) ∈ tbX := tb_7 (i := 211) rfl rfl
theorem ts_121 : (Cond.selects "SchoolLosingModel" ⟨"SchoolLosingModel", "lessOf", "(II)I"⟩ ⟨"SchoolLosingModel", "lessOf", "(II)I"⟩) ∈ tbX := tb_s (i := 121) rfl rfl
theorem t_1661 : (Jvm.Cond.methodLink "SchoolLosingModel" (493 : Nat) ({ cls := "SchoolLosingModel", name := "isResting", desc := "(II)Z" } : Jvm.MethodName)) ∈ tbX := tb_7 (i := 221) rfl rfl
theorem t_1663 : (Jvm.Cond.instanceMethod ({ cls := "SchoolLosingModel", name := "isResting", desc := "(II)Z" } : Jvm.MethodName)) ∈ tbX := tb_7 (i := 223) rfl rfl
theorem ts_122 : (Cond.selects "SchoolLosingModel" ⟨"SchoolLosingModel", "isResting", "(II)Z"⟩ ⟨"SchoolLosingModel", "isResting", "(II)Z"⟩) ∈ tbX := tb_s (i := 122) rfl rfl
theorem t_1673 : (Jvm.Cond.methodLink "SchoolLosingModel" (496 : Nat) ({ cls := "SchoolLosingModel", name := "paysFor", desc := "(I)I" } : Jvm.MethodName)) ∈ tbX := tb_7 (i := 233) rfl rfl
theorem t_1675 : (Jvm.Cond.instanceMethod ({ cls := "SchoolLosingModel", name := "paysFor", desc := "(I)I" } : Jvm.MethodName)) ∈ tbX := tb_7 (i := 235) rfl rfl
theorem ts_124 : (Cond.selects "SchoolLosingModel" ⟨"SchoolLosingModel", "paysFor", "(I)I"⟩ ⟨"SchoolLosingModel", "paysFor", "(I)I"⟩) ∈ tbX := tb_s (i := 124) rfl rfl
theorem t_1669 : (Jvm.Cond.methodLink "SchoolLosingModel" (499 : Nat) ({ cls := "SchoolLosingModel", name := "isEnough", desc := "(I)Z" } : Jvm.MethodName)) ∈ tbX := tb_7 (i := 229) rfl rfl
theorem t_1671 : (Jvm.Cond.instanceMethod ({ cls := "SchoolLosingModel", name := "isEnough", desc := "(I)Z" } : Jvm.MethodName)) ∈ tbX := tb_7 (i := 231) rfl rfl
theorem ts_123 : (Cond.selects "SchoolLosingModel" ⟨"SchoolLosingModel", "isEnough", "(I)Z"⟩ ⟨"SchoolLosingModel", "isEnough", "(I)Z"⟩) ∈ tbX := tb_s (i := 123) rfl rfl
theorem t_1697 : (Jvm.Cond.methodLink "SchoolLosingModel" (502 : Nat) ({ cls := "SchoolLosingModel", name := "fillsFor", desc := "(II)V" } : Jvm.MethodName)) ∈ tbX := tb_8 (i := 17) rfl rfl
theorem t_1699 : (Jvm.Cond.instanceMethod ({ cls := "SchoolLosingModel", name := "fillsFor", desc := "(II)V" } : Jvm.MethodName)) ∈ tbX := tb_8 (i := 19) rfl rfl
theorem ts_126 : (Cond.selects "SchoolLosingModel" ⟨"SchoolLosingModel", "fillsFor", "(II)V"⟩ ⟨"SchoolLosingModel", "fillsFor", "(II)V"⟩) ∈ tbX := tb_s (i := 126) rfl rfl
theorem t_1693 : (Jvm.Cond.methodLink "SchoolLosingModel" (505 : Nat) ({ cls := "SchoolLosingModel", name := "oftenWith", desc := "(III)I" } : Jvm.MethodName)) ∈ tbX := tb_8 (i := 13) rfl rfl
theorem t_1695 : (Jvm.Cond.instanceMethod ({ cls := "SchoolLosingModel", name := "oftenWith", desc := "(III)I" } : Jvm.MethodName)) ∈ tbX := tb_8 (i := 15) rfl rfl
theorem ts_125 : (Cond.selects "SchoolLosingModel" ⟨"SchoolLosingModel", "oftenWith", "(III)I"⟩ ⟨"SchoolLosingModel", "oftenWith", "(III)I"⟩) ∈ tbX := tb_s (i := 125) rfl rfl
theorem t_22 : (Jvm.Cond.methodLink "SchoolLosingLaw" (9 : Nat) ({ cls := "SchoolLosing", name := "<init>", desc := "()V" } : Jvm.MethodName)) ∈ tbX := tb_1 (i := 22) rfl rfl
theorem t_23 : (Jvm.Cond.instanceMethod ({ cls := "SchoolLosing", name := "<init>", desc := "()V" } : Jvm.MethodName)) ∈ tbX := tb_1 (i := 23) rfl rfl
theorem t_1031 : (Jvm.Cond.methodLink "SchoolLosingLaw" (12 : Nat) ({ cls := "SchoolLosingModel", name := "<init>", desc := "()V" } : Jvm.MethodName)) ∈ tbX := tb_5 (i := 71) rfl rfl
theorem t_1032 : (Jvm.Cond.instanceMethod ({ cls := "SchoolLosingModel", name := "<init>", desc := "()V" } : Jvm.MethodName)) ∈ tbX := tb_5 (i := 72) rfl rfl
theorem t_450 : (Jvm.Cond.methodLink "SchoolLosingLaw" (13 : Nat) ({ cls := "SchoolLosing", name := "feed", desc := "(IIIII)I" } : Jvm.MethodName)) ∈ tbX := tb_2 (i := 210) rfl rfl
theorem t_451 : (Jvm.Cond.instanceMethod ({ cls := "SchoolLosing", name := "feed", desc := "(IIIII)I" } : Jvm.MethodName)) ∈ tbX := tb_2 (i := 211) rfl rfl
theorem t_452 : (Jvm.Cond.selects "SchoolLosing" ({ cls := "SchoolLosing", name := "feed", desc := "(IIIII)I" } : Jvm.MethodName) ({ cls := "SchoolLosing", name := "feed", desc := "(IIIII)I" } : Jvm.MethodName)) ∈ tbX := tb_2 (i := 212) rfl rfl
theorem t_1283 : (Jvm.Cond.methodLink "SchoolLosingLaw" (17 : Nat) ({ cls := "SchoolLosingModel", name := "feed", desc := "(IIIII)I" } : Jvm.MethodName)) ∈ tbX := tb_6 (i := 83) rfl rfl
theorem t_1284 : (Jvm.Cond.instanceMethod ({ cls := "SchoolLosingModel", name := "feed", desc := "(IIIII)I" } : Jvm.MethodName)) ∈ tbX := tb_6 (i := 84) rfl rfl
theorem t_1285 : (Jvm.Cond.selects "SchoolLosingModel" ({ cls := "SchoolLosingModel", name := "feed", desc := "(IIIII)I" } : Jvm.MethodName) ({ cls := "SchoolLosingModel", name := "feed", desc := "(IIIII)I" } : Jvm.MethodName)) ∈ tbX := tb_6 (i := 85) rfl rfl
theorem t_458 : (Jvm.Cond.methodLink "SchoolLosingLaw" (18 : Nat) ({ cls := "SchoolLosing", name := "back", desc := "(I)I" } : Jvm.MethodName)) ∈ tbX := tb_2 (i := 218) rfl rfl
theorem t_459 : (Jvm.Cond.instanceMethod ({ cls := "SchoolLosing", name := "back", desc := "(I)I" } : Jvm.MethodName)) ∈ tbX := tb_2 (i := 219) rfl rfl
theorem t_460 : (Jvm.Cond.selects "SchoolLosing" ({ cls := "SchoolLosing", name := "back", desc := "(I)I" } : Jvm.MethodName) ({ cls := "SchoolLosing", name := "back", desc := "(I)I" } : Jvm.MethodName)) ∈ tbX := tb_2 (i := 220) rfl rfl
theorem t_1291 : (Jvm.Cond.methodLink "SchoolLosingLaw" (22 : Nat) ({ cls := "SchoolLosingModel", name := "back", desc := "(I)I" } : Jvm.MethodName)) ∈ tbX := tb_6 (i := 91) rfl rfl
theorem t_1292 : (Jvm.Cond.instanceMethod ({ cls := "SchoolLosingModel", name := "back", desc := "(I)I" } : Jvm.MethodName)) ∈ tbX := tb_6 (i := 92) rfl rfl
theorem t_1293 : (Jvm.Cond.selects "SchoolLosingModel" ({ cls := "SchoolLosingModel", name := "back", desc := "(I)I" } : Jvm.MethodName) ({ cls := "SchoolLosingModel", name := "back", desc := "(I)I" } : Jvm.MethodName)) ∈ tbX := tb_6 (i := 93) rfl rfl
theorem t_462 : (Jvm.Cond.methodLink "SchoolLosingLaw" (23 : Nat) ({ cls := "SchoolLosing", name := "read", desc := "()I" } : Jvm.MethodName)) ∈ tbX := tb_2 (i := 222) rfl rfl
theorem t_463 : (Jvm.Cond.instanceMethod ({ cls := "SchoolLosing", name := "read", desc := "()I" } : Jvm.MethodName)) ∈ tbX := tb_2 (i := 223) rfl rfl
theorem t_464 : (Jvm.Cond.selects "SchoolLosing" ({ cls := "SchoolLosing", name := "read", desc := "()I" } : Jvm.MethodName) ({ cls := "SchoolLosing", name := "read", desc := "()I" } : Jvm.MethodName)) ∈ tbX := tb_2 (i := 224) rfl rfl
theorem t_1295 : (Jvm.Cond.methodLink "SchoolLosingLaw" (27 : Nat) ({ cls := "SchoolLosingModel", name := "read", desc := "()I" } : Jvm.MethodName)) ∈ tbX := tb_6 (i := 95) rfl rfl
theorem t_1296 : (Jvm.Cond.instanceMethod ({ cls := "SchoolLosingModel", name := "read", desc := "()I" } : Jvm.MethodName)) ∈ tbX := tb_6 (i := 96) rfl rfl
theorem t_1297 : (Jvm.Cond.selects "SchoolLosingModel" ({ cls := "SchoolLosingModel", name := "read", desc := "()I" } : Jvm.MethodName) ({ cls := "SchoolLosingModel", name := "read", desc := "()I" } : Jvm.MethodName)) ∈ tbX := tb_6 (i := 97) rfl rfl
theorem t_676 : (Jvm.Cond.methodLink "SchoolLosingLaw" (28 : Nat) ({ cls := "SchoolLosing", name := "place", desc := "()I" } : Jvm.MethodName)) ∈ tbX := tb_3 (i := 196) rfl rfl
theorem t_677 : (Jvm.Cond.instanceMethod ({ cls := "SchoolLosing", name := "place", desc := "()I" } : Jvm.MethodName)) ∈ tbX := tb_3 (i := 197) rfl rfl
theorem t_678 : (Jvm.Cond.selects "SchoolLosing" ({ cls := "SchoolLosing", name := "place", desc := "()I" } : Jvm.MethodName) ({ cls := "SchoolLosing", name := "place", desc := "()I" } : Jvm.MethodName)) ∈ tbX := tb_3 (i := 198) rfl rfl
theorem t_1413 : (Jvm.Cond.methodLink "SchoolLosingLaw" (31 : Nat) ({ cls := "SchoolLosingModel", name := "place", desc := "()I" } : Jvm.MethodName)) ∈ tbX := tb_6 (i := 213) rfl rfl
theorem t_1414 : (Jvm.Cond.instanceMethod ({ cls := "SchoolLosingModel", name := "place", desc := "()I" } : Jvm.MethodName)) ∈ tbX := tb_6 (i := 214) rfl rfl
theorem t_1415 : (Jvm.Cond.selects "SchoolLosingModel" ({ cls := "SchoolLosingModel", name := "place", desc := "()I" } : Jvm.MethodName) ({ cls := "SchoolLosingModel", name := "place", desc := "()I" } : Jvm.MethodName)) ∈ tbX := tb_6 (i := 215) rfl rfl
theorem t_680 : (Jvm.Cond.methodLink "SchoolLosingLaw" (32 : Nat) ({ cls := "SchoolLosing", name := "position", desc := "(II)I" } : Jvm.MethodName)) ∈ tbX := tb_3 (i := 200) rfl rfl
theorem t_681 : (Jvm.Cond.instanceMethod ({ cls := "SchoolLosing", name := "position", desc := "(II)I" } : Jvm.MethodName)) ∈ tbX := tb_3 (i := 201) rfl rfl
theorem t_682 : (Jvm.Cond.selects "SchoolLosing" ({ cls := "SchoolLosing", name := "position", desc := "(II)I" } : Jvm.MethodName) ({ cls := "SchoolLosing", name := "position", desc := "(II)I" } : Jvm.MethodName)) ∈ tbX := tb_3 (i := 202) rfl rfl
theorem t_1417 : (Jvm.Cond.methodLink "SchoolLosingLaw" (36 : Nat) ({ cls := "SchoolLosingModel", name := "position", desc := "(II)I" } : Jvm.MethodName)) ∈ tbX := tb_6 (i := 217) rfl rfl
theorem t_1418 : (Jvm.Cond.instanceMethod ({ cls := "SchoolLosingModel", name := "position", desc := "(II)I" } : Jvm.MethodName)) ∈ tbX := tb_6 (i := 218) rfl rfl
theorem t_1419 : (Jvm.Cond.selects "SchoolLosingModel" ({ cls := "SchoolLosingModel", name := "position", desc := "(II)I" } : Jvm.MethodName) ({ cls := "SchoolLosingModel", name := "position", desc := "(II)I" } : Jvm.MethodName)) ∈ tbX := tb_6 (i := 219) rfl rfl
theorem t_688 : (Jvm.Cond.methodLink "SchoolLosingLaw" (37 : Nat) ({ cls := "SchoolLosing", name := "move", desc := "(IIZ)I" } : Jvm.MethodName)) ∈ tbX := tb_3 (i := 208) rfl rfl
theorem t_689 : (Jvm.Cond.instanceMethod ({ cls := "SchoolLosing", name := "move", desc := "(IIZ)I" } : Jvm.MethodName)) ∈ tbX := tb_3 (i := 209) rfl rfl
theorem t_690 : (Jvm.Cond.selects "SchoolLosing" ({ cls := "SchoolLosing", name := "move", desc := "(IIZ)I" } : Jvm.MethodName) ({ cls := "SchoolLosing", name := "move", desc := "(IIZ)I" } : Jvm.MethodName)) ∈ tbX := tb_3 (i := 210) rfl rfl
theorem t_1436 : (Jvm.Cond.methodLink "SchoolLosingLaw" (41 : Nat) ({ cls := "SchoolLosingModel", name := "move", desc := "(IIZ)I" } : Jvm.MethodName)) ∈ tbX := tb_6 (i := 236) rfl rfl
theorem t_1437 : (Jvm.Cond.instanceMethod ({ cls := "SchoolLosingModel", name := "move", desc := "(IIZ)I" } : Jvm.MethodName)) ∈ tbX := tb_6 (i := 237) rfl rfl
theorem t_1438 : (Jvm.Cond.selects "SchoolLosingModel" ({ cls := "SchoolLosingModel", name := "move", desc := "(IIZ)I" } : Jvm.MethodName) ({ cls := "SchoolLosingModel", name := "move", desc := "(IIZ)I" } : Jvm.MethodName)) ∈ tbX := tb_6 (i := 238) rfl rfl
theorem t_696 : (Jvm.Cond.methodLink "SchoolLosingLaw" (42 : Nat) ({ cls := "SchoolLosing", name := "man", desc := "(II)I" } : Jvm.MethodName)) ∈ tbX := tb_3 (i := 216) rfl rfl
theorem t_697 : (Jvm.Cond.instanceMethod ({ cls := "SchoolLosing", name := "man", desc := "(II)I" } : Jvm.MethodName)) ∈ tbX := tb_3 (i := 217) rfl rfl
theorem t_698 : (Jvm.Cond.selects "SchoolLosing" ({ cls := "SchoolLosing", name := "man", desc := "(II)I" } : Jvm.MethodName) ({ cls := "SchoolLosing", name := "man", desc := "(II)I" } : Jvm.MethodName)) ∈ tbX := tb_3 (i := 218) rfl rfl
theorem t_1448 : (Jvm.Cond.methodLink "SchoolLosingLaw" (45 : Nat) ({ cls := "SchoolLosingModel", name := "man", desc := "(II)I" } : Jvm.MethodName)) ∈ tbX := tb_7 (i := 8) rfl rfl
theorem t_1449 : (Jvm.Cond.instanceMethod ({ cls := "SchoolLosingModel", name := "man", desc := "(II)I" } : Jvm.MethodName)) ∈ tbX := tb_7 (i := 9) rfl rfl
theorem t_1450 : (Jvm.Cond.selects "SchoolLosingModel" ({ cls := "SchoolLosingModel", name := "man", desc := "(II)I" } : Jvm.MethodName) ({ cls := "SchoolLosingModel", name := "man", desc := "(II)I" } : Jvm.MethodName)) ∈ tbX := tb_7 (i := 10) rfl rfl
theorem t_719 : (Jvm.Cond.methodLink "SchoolLosingLaw" (46 : Nat) ({ cls := "SchoolLosing", name := "game", desc := "(I)I" } : Jvm.MethodName)) ∈ tbX := tb_3 (i := 239) rfl rfl
theorem t_720 : (Jvm.Cond.instanceMethod ({ cls := "SchoolLosing", name := "game", desc := "(I)I" } : Jvm.MethodName)) ∈ tbX := tb_4 (i := 0) rfl rfl
theorem t_721 : (Jvm.Cond.selects "SchoolLosing" ({ cls := "SchoolLosing", name := "game", desc := "(I)I" } : Jvm.MethodName) ({ cls := "SchoolLosing", name := "game", desc := "(I)I" } : Jvm.MethodName)) ∈ tbX := tb_4 (i := 1) rfl rfl
theorem t_1468 : (Jvm.Cond.methodLink "SchoolLosingLaw" (49 : Nat) ({ cls := "SchoolLosingModel", name := "game", desc := "(I)I" } : Jvm.MethodName)) ∈ tbX := tb_7 (i := 28) rfl rfl
theorem t_1469 : (Jvm.Cond.instanceMethod ({ cls := "SchoolLosingModel", name := "game", desc := "(I)I" } : Jvm.MethodName)) ∈ tbX := tb_7 (i := 29) rfl rfl
theorem t_1470 : (Jvm.Cond.selects "SchoolLosingModel" ({ cls := "SchoolLosingModel", name := "game", desc := "(I)I" } : Jvm.MethodName) ({ cls := "SchoolLosingModel", name := "game", desc := "(I)I" } : Jvm.MethodName)) ∈ tbX := tb_7 (i := 30) rfl rfl
theorem t_735 : (Jvm.Cond.methodLink "SchoolLosingLaw" (50 : Nat) ({ cls := "SchoolLosing", name := "begin", desc := "(IIIII)Z" } : Jvm.MethodName)) ∈ tbX := tb_4 (i := 15) rfl rfl
theorem t_736 : (Jvm.Cond.instanceMethod ({ cls := "SchoolLosing", name := "begin", desc := "(IIIII)Z" } : Jvm.MethodName)) ∈ tbX := tb_4 (i := 16) rfl rfl
theorem t_737 : (Jvm.Cond.selects "SchoolLosing" ({ cls := "SchoolLosing", name := "begin", desc := "(IIIII)Z" } : Jvm.MethodName) ({ cls := "SchoolLosing", name := "begin", desc := "(IIIII)Z" } : Jvm.MethodName)) ∈ tbX := tb_4 (i := 17) rfl rfl
theorem t_1472 : (Jvm.Cond.methodLink "SchoolLosingLaw" (54 : Nat) ({ cls := "SchoolLosingModel", name := "begin", desc := "(IIIII)Z" } : Jvm.MethodName)) ∈ tbX := tb_7 (i := 32) rfl rfl
theorem t_1473 : (Jvm.Cond.instanceMethod ({ cls := "SchoolLosingModel", name := "begin", desc := "(IIIII)Z" } : Jvm.MethodName)) ∈ tbX := tb_7 (i := 33) rfl rfl
theorem t_1474 : (Jvm.Cond.selects "SchoolLosingModel" ({ cls := "SchoolLosingModel", name := "begin", desc := "(IIIII)Z" } : Jvm.MethodName) ({ cls := "SchoolLosingModel", name := "begin", desc := "(IIIII)Z" } : Jvm.MethodName)) ∈ tbX := tb_7 (i := 34) rfl rfl
theorem t_754 : (Jvm.Cond.methodLink "SchoolLosingLaw" (55 : Nat) ({ cls := "SchoolLosing", name := "steps", desc := "(I)I" } : Jvm.MethodName)) ∈ tbX := tb_4 (i := 34) rfl rfl
theorem t_755 : (Jvm.Cond.instanceMethod ({ cls := "SchoolLosing", name := "steps", desc := "(I)I" } : Jvm.MethodName)) ∈ tbX := tb_4 (i := 35) rfl rfl
theorem t_756 : (Jvm.Cond.selects "SchoolLosing" ({ cls := "SchoolLosing", name := "steps", desc := "(I)I" } : Jvm.MethodName) ({ cls := "SchoolLosing", name := "steps", desc := "(I)I" } : Jvm.MethodName)) ∈ tbX := tb_4 (i := 36) rfl rfl
theorem t_1483 : (Jvm.Cond.methodLink "SchoolLosingLaw" (58 : Nat) ({ cls := "SchoolLosingModel", name := "steps", desc := "(I)I" } : Jvm.MethodName)) ∈ tbX := tb_7 (i := 43) rfl rfl
theorem t_1484 : (Jvm.Cond.instanceMethod ({ cls := "SchoolLosingModel", name := "steps", desc := "(I)I" } : Jvm.MethodName)) ∈ tbX := tb_7 (i := 44) rfl rfl
theorem t_1485 : (Jvm.Cond.selects "SchoolLosingModel" ({ cls := "SchoolLosingModel", name := "steps", desc := "(I)I" } : Jvm.MethodName) ({ cls := "SchoolLosingModel", name := "steps", desc := "(I)I" } : Jvm.MethodName)) ∈ tbX := tb_7 (i := 45) rfl rfl
theorem t_809 : (Jvm.Cond.methodLink "SchoolLosingLaw" (59 : Nat) ({ cls := "SchoolLosing", name := "make", desc := "(I)I" } : Jvm.MethodName)) ∈ tbX := tb_4 (i := 89) rfl rfl
theorem t_810 : (Jvm.Cond.instanceMethod ({ cls := "SchoolLosing", name := "make", desc := "(I)I" } : Jvm.MethodName)) ∈ tbX := tb_4 (i := 90) rfl rfl
theorem t_811 : (Jvm.Cond.selects "SchoolLosing" ({ cls := "SchoolLosing", name := "make", desc := "(I)I" } : Jvm.MethodName) ({ cls := "SchoolLosing", name := "make", desc := "(I)I" } : Jvm.MethodName)) ∈ tbX := tb_4 (i := 91) rfl rfl
theorem t_1530 : (Jvm.Cond.methodLink "SchoolLosingLaw" (62 : Nat) ({ cls := "SchoolLosingModel", name := "make", desc := "(I)I" } : Jvm.MethodName)) ∈ tbX := tb_7 (i := 90) rfl rfl
theorem t_1531 : (Jvm.Cond.instanceMethod ({ cls := "SchoolLosingModel", name := "make", desc := "(I)I" } : Jvm.MethodName)) ∈ tbX := tb_7 (i := 91) rfl rfl
theorem t_1532 : (Jvm.Cond.selects "SchoolLosingModel" ({ cls := "SchoolLosingModel", name := "make", desc := "(I)I" } : Jvm.MethodName) ({ cls := "SchoolLosingModel", name := "make", desc := "(I)I" } : Jvm.MethodName)) ∈ tbX := tb_7 (i := 92) rfl rfl
theorem t_813 : (Jvm.Cond.methodLink "SchoolLosingLaw" (63 : Nat) ({ cls := "SchoolLosing", name := "learn", desc := "(II)I" } : Jvm.MethodName)) ∈ tbX := tb_4 (i := 93) rfl rfl
theorem t_814 : (Jvm.Cond.instanceMethod ({ cls := "SchoolLosing", name := "learn", desc := "(II)I" } : Jvm.MethodName)) ∈ tbX := tb_4 (i := 94) rfl rfl
theorem t_815 : (Jvm.Cond.selects "SchoolLosing" ({ cls := "SchoolLosing", name := "learn", desc := "(II)I" } : Jvm.MethodName) ({ cls := "SchoolLosing", name := "learn", desc := "(II)I" } : Jvm.MethodName)) ∈ tbX := tb_4 (i := 95) rfl rfl
theorem t_1534 : (Jvm.Cond.methodLink "SchoolLosingLaw" (66 : Nat) ({ cls := "SchoolLosingModel", name := "learn", desc := "(II)I" } : Jvm.MethodName)) ∈ tbX := tb_7 (i := 94) rfl rfl
theorem t_1535 : (Jvm.Cond.instanceMethod ({ cls := "SchoolLosingModel", name := "learn", desc := "(II)I" } : Jvm.MethodName)) ∈ tbX := tb_7 (i := 95) rfl rfl
theorem t_1536 : (Jvm.Cond.selects "SchoolLosingModel" ({ cls := "SchoolLosingModel", name := "learn", desc := "(II)I" } : Jvm.MethodName) ({ cls := "SchoolLosingModel", name := "learn", desc := "(II)I" } : Jvm.MethodName)) ∈ tbX := tb_7 (i := 96) rfl rfl
theorem t_829 : (Jvm.Cond.methodLink "SchoolLosingLaw" (67 : Nat) ({ cls := "SchoolLosing", name := "undo", desc := "()Z" } : Jvm.MethodName)) ∈ tbX := tb_4 (i := 109) rfl rfl
theorem t_830 : (Jvm.Cond.instanceMethod ({ cls := "SchoolLosing", name := "undo", desc := "()Z" } : Jvm.MethodName)) ∈ tbX := tb_4 (i := 110) rfl rfl
theorem t_831 : (Jvm.Cond.selects "SchoolLosing" ({ cls := "SchoolLosing", name := "undo", desc := "()Z" } : Jvm.MethodName) ({ cls := "SchoolLosing", name := "undo", desc := "()Z" } : Jvm.MethodName)) ∈ tbX := tb_4 (i := 111) rfl rfl
theorem t_1545 : (Jvm.Cond.methodLink "SchoolLosingLaw" (71 : Nat) ({ cls := "SchoolLosingModel", name := "undo", desc := "()Z" } : Jvm.MethodName)) ∈ tbX := tb_7 (i := 105) rfl rfl
theorem t_1546 : (Jvm.Cond.instanceMethod ({ cls := "SchoolLosingModel", name := "undo", desc := "()Z" } : Jvm.MethodName)) ∈ tbX := tb_7 (i := 106) rfl rfl
theorem t_1547 : (Jvm.Cond.selects "SchoolLosingModel" ({ cls := "SchoolLosingModel", name := "undo", desc := "()Z" } : Jvm.MethodName) ({ cls := "SchoolLosingModel", name := "undo", desc := "()Z" } : Jvm.MethodName)) ∈ tbX := tb_7 (i := 107) rfl rfl
theorem t_853 : (Jvm.Cond.methodLink "SchoolLosingLaw" (72 : Nat) ({ cls := "SchoolLosing", name := "want", desc := "(III)I" } : Jvm.MethodName)) ∈ tbX := tb_4 (i := 133) rfl rfl
theorem t_854 : (Jvm.Cond.instanceMethod ({ cls := "SchoolLosing", name := "want", desc := "(III)I" } : Jvm.MethodName)) ∈ tbX := tb_4 (i := 134) rfl rfl
theorem t_855 : (Jvm.Cond.selects "SchoolLosing" ({ cls := "SchoolLosing", name := "want", desc := "(III)I" } : Jvm.MethodName) ({ cls := "SchoolLosing", name := "want", desc := "(III)I" } : Jvm.MethodName)) ∈ tbX := tb_4 (i := 135) rfl rfl
theorem t_1549 : (Jvm.Cond.methodLink "SchoolLosingLaw" (76 : Nat) ({ cls := "SchoolLosingModel", name := "want", desc := "(III)I" } : Jvm.MethodName)) ∈ tbX := tb_7 (i := 109) rfl rfl
theorem t_1550 : (Jvm.Cond.instanceMethod ({ cls := "SchoolLosingModel", name := "want", desc := "(III)I" } : Jvm.MethodName)) ∈ tbX := tb_7 (i := 110) rfl rfl
theorem t_1551 : (Jvm.Cond.selects "SchoolLosingModel" ({ cls := "SchoolLosingModel", name := "want", desc := "(III)I" } : Jvm.MethodName) ({ cls := "SchoolLosingModel", name := "want", desc := "(III)I" } : Jvm.MethodName)) ∈ tbX := tb_7 (i := 111) rfl rfl
theorem t_857 : (Jvm.Cond.methodLink "SchoolLosingLaw" (77 : Nat) ({ cls := "SchoolLosing", name := "wants", desc := "(III)I" } : Jvm.MethodName)) ∈ tbX := tb_4 (i := 137) rfl rfl
theorem t_858 : (Jvm.Cond.instanceMethod ({ cls := "SchoolLosing", name := "wants", desc := "(III)I" } : Jvm.MethodName)) ∈ tbX := tb_4 (i := 138) rfl rfl
theorem t_859 : (Jvm.Cond.selects "SchoolLosing" ({ cls := "SchoolLosing", name := "wants", desc := "(III)I" } : Jvm.MethodName) ({ cls := "SchoolLosing", name := "wants", desc := "(III)I" } : Jvm.MethodName)) ∈ tbX := tb_4 (i := 139) rfl rfl
theorem t_1553 : (Jvm.Cond.methodLink "SchoolLosingLaw" (80 : Nat) ({ cls := "SchoolLosingModel", name := "wants", desc := "(III)I" } : Jvm.MethodName)) ∈ tbX := tb_7 (i := 113) rfl rfl
theorem t_1554 : (Jvm.Cond.instanceMethod ({ cls := "SchoolLosingModel", name := "wants", desc := "(III)I" } : Jvm.MethodName)) ∈ tbX := tb_7 (i := 114) rfl rfl
theorem t_1555 : (Jvm.Cond.selects "SchoolLosingModel" ({ cls := "SchoolLosingModel", name := "wants", desc := "(III)I" } : Jvm.MethodName) ({ cls := "SchoolLosingModel", name := "wants", desc := "(III)I" } : Jvm.MethodName)) ∈ tbX := tb_7 (i := 115) rfl rfl
theorem t_861 : (Jvm.Cond.methodLink "SchoolLosingLaw" (81 : Nat) ({ cls := "SchoolLosing", name := "surely", desc := "(IIIII)I" } : Jvm.MethodName)) ∈ tbX := tb_4 (i := 141) rfl rfl
theorem t_862 : (Jvm.Cond.instanceMethod ({ cls := "SchoolLosing", name := "surely", desc := "(IIIII)I" } : Jvm.MethodName)) ∈ tbX := tb_4 (i := 142) rfl rfl
theorem t_863 : (Jvm.Cond.selects "SchoolLosing" ({ cls := "SchoolLosing", name := "surely", desc := "(IIIII)I" } : Jvm.MethodName) ({ cls := "SchoolLosing", name := "surely", desc := "(IIIII)I" } : Jvm.MethodName)) ∈ tbX := tb_4 (i := 143) rfl rfl
theorem t_1557 : (Jvm.Cond.methodLink "SchoolLosingLaw" (84 : Nat) ({ cls := "SchoolLosingModel", name := "surely", desc := "(IIIII)I" } : Jvm.MethodName)) ∈ tbX := tb_7 (i := 117) rfl rfl
theorem t_1558 : (Jvm.Cond.instanceMethod ({ cls := "SchoolLosingModel", name := "surely", desc := "(IIIII)I" } : Jvm.MethodName)) ∈ tbX := tb_7 (i := 118) rfl rfl
theorem t_1559 : (Jvm.Cond.selects "SchoolLosingModel" ({ cls := "SchoolLosingModel", name := "surely", desc := "(IIIII)I" } : Jvm.MethodName) ({ cls := "SchoolLosingModel", name := "surely", desc := "(IIIII)I" } : Jvm.MethodName)) ∈ tbX := tb_7 (i := 119) rfl rfl
theorem t_881 : (Jvm.Cond.methodLink "SchoolLosingLaw" (85 : Nat) ({ cls := "SchoolLosing", name := "loses", desc := "(IIII)I" } : Jvm.MethodName)) ∈ tbX := tb_4 (i := 161) rfl rfl
theorem t_882 : (Jvm.Cond.instanceMethod ({ cls := "SchoolLosing", name := "loses", desc := "(IIII)I" } : Jvm.MethodName)) ∈ tbX := tb_4 (i := 162) rfl rfl
theorem t_883 : (Jvm.Cond.selects "SchoolLosing" ({ cls := "SchoolLosing", name := "loses", desc := "(IIII)I" } : Jvm.MethodName) ({ cls := "SchoolLosing", name := "loses", desc := "(IIII)I" } : Jvm.MethodName)) ∈ tbX := tb_4 (i := 163) rfl rfl
theorem t_1569 : (Jvm.Cond.methodLink "SchoolLosingLaw" (89 : Nat) ({ cls := "SchoolLosingModel", name := "loses", desc := "(IIII)I" } : Jvm.MethodName)) ∈ tbX := tb_7 (i := 129) rfl rfl
theorem t_1570 : (Jvm.Cond.instanceMethod ({ cls := "SchoolLosingModel", name := "loses", desc := "(IIII)I" } : Jvm.MethodName)) ∈ tbX := tb_7 (i := 130) rfl rfl
theorem t_1571 : (Jvm.Cond.selects "SchoolLosingModel" ({ cls := "SchoolLosingModel", name := "loses", desc := "(IIII)I" } : Jvm.MethodName) ({ cls := "SchoolLosingModel", name := "loses", desc := "(IIII)I" } : Jvm.MethodName)) ∈ tbX := tb_7 (i := 131) rfl rfl
theorem t_885 : (Jvm.Cond.methodLink "SchoolLosingLaw" (90 : Nat) ({ cls := "SchoolLosing", name := "seen", desc := "(IIIII)I" } : Jvm.MethodName)) ∈ tbX := tb_4 (i := 165) rfl rfl
theorem t_886 : (Jvm.Cond.instanceMethod ({ cls := "SchoolLosing", name := "seen", desc := "(IIIII)I" } : Jvm.MethodName)) ∈ tbX := tb_4 (i := 166) rfl rfl
theorem t_887 : (Jvm.Cond.selects "SchoolLosing" ({ cls := "SchoolLosing", name := "seen", desc := "(IIIII)I" } : Jvm.MethodName) ({ cls := "SchoolLosing", name := "seen", desc := "(IIIII)I" } : Jvm.MethodName)) ∈ tbX := tb_4 (i := 167) rfl rfl
theorem t_1573 : (Jvm.Cond.methodLink "SchoolLosingLaw" (93 : Nat) ({ cls := "SchoolLosingModel", name := "seen", desc := "(IIIII)I" } : Jvm.MethodName)) ∈ tbX := tb_7 (i := 133) rfl rfl
theorem t_1574 : (Jvm.Cond.instanceMethod ({ cls := "SchoolLosingModel", name := "seen", desc := "(IIIII)I" } : Jvm.MethodName)) ∈ tbX := tb_7 (i := 134) rfl rfl
theorem t_1575 : (Jvm.Cond.selects "SchoolLosingModel" ({ cls := "SchoolLosingModel", name := "seen", desc := "(IIIII)I" } : Jvm.MethodName) ({ cls := "SchoolLosingModel", name := "seen", desc := "(IIIII)I" } : Jvm.MethodName)) ∈ tbX := tb_7 (i := 135) rfl rfl
theorem t_889 : (Jvm.Cond.methodLink "SchoolLosingLaw" (94 : Nat) ({ cls := "SchoolLosing", name := "cup", desc := "(Z)I" } : Jvm.MethodName)) ∈ tbX := tb_4 (i := 169) rfl rfl
theorem t_890 : (Jvm.Cond.instanceMethod ({ cls := "SchoolLosing", name := "cup", desc := "(Z)I" } : Jvm.MethodName)) ∈ tbX := tb_4 (i := 170) rfl rfl
theorem t_891 : (Jvm.Cond.selects "SchoolLosing" ({ cls := "SchoolLosing", name := "cup", desc := "(Z)I" } : Jvm.MethodName) ({ cls := "SchoolLosing", name := "cup", desc := "(Z)I" } : Jvm.MethodName)) ∈ tbX := tb_4 (i := 171) rfl rfl
theorem t_1577 : (Jvm.Cond.methodLink "SchoolLosingLaw" (98 : Nat) ({ cls := "SchoolLosingModel", name := "cup", desc := "(Z)I" } : Jvm.MethodName)) ∈ tbX := tb_7 (i := 137) rfl rfl
theorem t_1578 : (Jvm.Cond.instanceMethod ({ cls := "SchoolLosingModel", name := "cup", desc := "(Z)I" } : Jvm.MethodName)) ∈ tbX := tb_7 (i := 138) rfl rfl
theorem t_1579 : (Jvm.Cond.selects "SchoolLosingModel" ({ cls := "SchoolLosingModel", name := "cup", desc := "(Z)I" } : Jvm.MethodName) ({ cls := "SchoolLosingModel", name := "cup", desc := "(Z)I" } : Jvm.MethodName)) ∈ tbX := tb_7 (i := 139) rfl rfl
theorem t_893 : (Jvm.Cond.methodLink "SchoolLosingLaw" (99 : Nat) ({ cls := "SchoolLosing", name := "likely", desc := "(IIIIIZ)I" } : Jvm.MethodName)) ∈ tbX := tb_4 (i := 173) rfl rfl
theorem t_894 : (Jvm.Cond.instanceMethod ({ cls := "SchoolLosing", name := "likely", desc := "(IIIIIZ)I" } : Jvm.MethodName)) ∈ tbX := tb_4 (i := 174) rfl rfl
theorem t_895 : (Jvm.Cond.selects "SchoolLosing" ({ cls := "SchoolLosing", name := "likely", desc := "(IIIIIZ)I" } : Jvm.MethodName) ({ cls := "SchoolLosing", name := "likely", desc := "(IIIIIZ)I" } : Jvm.MethodName)) ∈ tbX := tb_4 (i := 175) rfl rfl
theorem t_1581 : (Jvm.Cond.methodLink "SchoolLosingLaw" (103 : Nat) ({ cls := "SchoolLosingModel", name := "likely", desc := "(IIIIIZ)I" } : Jvm.MethodName)) ∈ tbX := tb_7 (i := 141) rfl rfl
theorem t_1582 : (Jvm.Cond.instanceMethod ({ cls := "SchoolLosingModel", name := "likely", desc := "(IIIIIZ)I" } : Jvm.MethodName)) ∈ tbX := tb_7 (i := 142) rfl rfl
theorem t_1583 : (Jvm.Cond.selects "SchoolLosingModel" ({ cls := "SchoolLosingModel", name := "likely", desc := "(IIIIIZ)I" } : Jvm.MethodName) ({ cls := "SchoolLosingModel", name := "likely", desc := "(IIIIIZ)I" } : Jvm.MethodName)) ∈ tbX := tb_7 (i := 143) rfl rfl
theorem t_925 : (Jvm.Cond.methodLink "SchoolLosingLaw" (104 : Nat) ({ cls := "SchoolLosing", name := "most", desc := "(IIII)I" } : Jvm.MethodName)) ∈ tbX := tb_4 (i := 205) rfl rfl
theorem t_926 : (Jvm.Cond.instanceMethod ({ cls := "SchoolLosing", name := "most", desc := "(IIII)I" } : Jvm.MethodName)) ∈ tbX := tb_4 (i := 206) rfl rfl
theorem t_927 : (Jvm.Cond.selects "SchoolLosing" ({ cls := "SchoolLosing", name := "most", desc := "(IIII)I" } : Jvm.MethodName) ({ cls := "SchoolLosing", name := "most", desc := "(IIII)I" } : Jvm.MethodName)) ∈ tbX := tb_4 (i := 207) rfl rfl
theorem t_1606 : (Jvm.Cond.methodLink "SchoolLosingLaw" (107 : Nat) ({ cls := "SchoolLosingModel", name := "most", desc := "(IIII)I" } : Jvm.MethodName)) ∈ tbX := tb_7 (i := 166) rfl rfl
theorem t_1607 : (Jvm.Cond.instanceMethod ({ cls := "SchoolLosingModel", name := "most", desc := "(IIII)I" } : Jvm.MethodName)) ∈ tbX := tb_7 (i := 167) rfl rfl
theorem t_1608 : (Jvm.Cond.selects "SchoolLosingModel" ({ cls := "SchoolLosingModel", name := "most", desc := "(IIII)I" } : Jvm.MethodName) ({ cls := "SchoolLosingModel", name := "most", desc := "(IIII)I" } : Jvm.MethodName)) ∈ tbX := tb_7 (i := 168) rfl rfl
theorem t_933 : (Jvm.Cond.methodLink "SchoolLosingLaw" (108 : Nat) ({ cls := "SchoolLosing", name := "order", desc := "(I)I" } : Jvm.MethodName)) ∈ tbX := tb_4 (i := 213) rfl rfl
theorem t_934 : (Jvm.Cond.instanceMethod ({ cls := "SchoolLosing", name := "order", desc := "(I)I" } : Jvm.MethodName)) ∈ tbX := tb_4 (i := 214) rfl rfl
theorem t_935 : (Jvm.Cond.selects "SchoolLosing" ({ cls := "SchoolLosing", name := "order", desc := "(I)I" } : Jvm.MethodName) ({ cls := "SchoolLosing", name := "order", desc := "(I)I" } : Jvm.MethodName)) ∈ tbX := tb_4 (i := 215) rfl rfl
theorem t_1610 : (Jvm.Cond.methodLink "SchoolLosingLaw" (111 : Nat) ({ cls := "SchoolLosingModel", name := "order", desc := "(I)I" } : Jvm.MethodName)) ∈ tbX := tb_7 (i := 170) rfl rfl
theorem t_1611 : (Jvm.Cond.instanceMethod ({ cls := "SchoolLosingModel", name := "order", desc := "(I)I" } : Jvm.MethodName)) ∈ tbX := tb_7 (i := 171) rfl rfl
theorem t_1612 : (Jvm.Cond.selects "SchoolLosingModel" ({ cls := "SchoolLosingModel", name := "order", desc := "(I)I" } : Jvm.MethodName) ({ cls := "SchoolLosingModel", name := "order", desc := "(I)I" } : Jvm.MethodName)) ∈ tbX := tb_7 (i := 172) rfl rfl
theorem t_956 : (Jvm.Cond.methodLink "SchoolLosingLaw" (112 : Nat) ({ cls := "SchoolLosing", name := "courts", desc := "(I)I" } : Jvm.MethodName)) ∈ tbX := tb_4 (i := 236) rfl rfl
theorem t_957 : (Jvm.Cond.instanceMethod ({ cls := "SchoolLosing", name := "courts", desc := "(I)I" } : Jvm.MethodName)) ∈ tbX := tb_4 (i := 237) rfl rfl
theorem t_958 : (Jvm.Cond.selects "SchoolLosing" ({ cls := "SchoolLosing", name := "courts", desc := "(I)I" } : Jvm.MethodName) ({ cls := "SchoolLosing", name := "courts", desc := "(I)I" } : Jvm.MethodName)) ∈ tbX := tb_4 (i := 238) rfl rfl
theorem t_1625 : (Jvm.Cond.methodLink "SchoolLosingLaw" (115 : Nat) ({ cls := "SchoolLosingModel", name := "courts", desc := "(I)I" } : Jvm.MethodName)) ∈ tbX := tb_7 (i := 185) rfl rfl
theorem t_1626 : (Jvm.Cond.instanceMethod ({ cls := "SchoolLosingModel", name := "courts", desc := "(I)I" } : Jvm.MethodName)) ∈ tbX := tb_7 (i := 186) rfl rfl
theorem t_1627 : (Jvm.Cond.selects "SchoolLosingModel" ({ cls := "SchoolLosingModel", name := "courts", desc := "(I)I" } : Jvm.MethodName) ({ cls := "SchoolLosingModel", name := "courts", desc := "(I)I" } : Jvm.MethodName)) ∈ tbX := tb_7 (i := 187) rfl rfl
theorem t_964 : (Jvm.Cond.methodLink "SchoolLosingLaw" (116 : Nat) ({ cls := "SchoolLosing", name := "less", desc := "(IIZ)I" } : Jvm.MethodName)) ∈ tbX := tb_5 (i := 4) rfl rfl
theorem t_965 : (Jvm.Cond.instanceMethod ({ cls := "SchoolLosing", name := "less", desc := "(IIZ)I" } : Jvm.MethodName)) ∈ tbX := tb_5 (i := 5) rfl rfl
theorem t_966 : (Jvm.Cond.selects "SchoolLosing" ({ cls := "SchoolLosing", name := "less", desc := "(IIZ)I" } : Jvm.MethodName) ({ cls := "SchoolLosing", name := "less", desc := "(IIZ)I" } : Jvm.MethodName)) ∈ tbX := tb_5 (i := 6) rfl rfl
theorem t_1641 : (Jvm.Cond.methodLink "SchoolLosingLaw" (119 : Nat) ({ cls := "SchoolLosingModel", name := "less", desc := "(IIZ)I" } : Jvm.MethodName)) ∈ tbX := tb_7 (i := 201) rfl rfl
theorem t_1642 : (Jvm.Cond.instanceMethod ({ cls := "SchoolLosingModel", name := "less", desc := "(IIZ)I" } : Jvm.MethodName)) ∈ tbX := tb_7 (i := 202) rfl rfl
theorem t_1643 : (Jvm.Cond.selects "SchoolLosingModel" ({ cls := "SchoolLosingModel", name := "less", desc := "(IIZ)I" } : Jvm.MethodName) ({ cls := "SchoolLosingModel", name := "less", desc := "(IIZ)I" } : Jvm.MethodName)) ∈ tbX := tb_7 (i := 203) rfl rfl
theorem t_973 : (Jvm.Cond.methodLink "SchoolLosingLaw" (120 : Nat) ({ cls := "SchoolLosing", name := "reply", desc := "(I)I" } : Jvm.MethodName)) ∈ tbX := tb_5 (i := 13) rfl rfl
theorem t_974 : (Jvm.Cond.instanceMethod ({ cls := "SchoolLosing", name := "reply", desc := "(I)I" } : Jvm.MethodName)) ∈ tbX := tb_5 (i := 14) rfl rfl
theorem t_975 : (Jvm.Cond.selects "SchoolLosing" ({ cls := "SchoolLosing", name := "reply", desc := "(I)I" } : Jvm.MethodName) ({ cls := "SchoolLosing", name := "reply", desc := "(I)I" } : Jvm.MethodName)) ∈ tbX := tb_5 (i := 15) rfl rfl
theorem t_1653 : (Jvm.Cond.methodLink "SchoolLosingLaw" (123 : Nat) ({ cls := "SchoolLosingModel", name := "reply", desc := "(I)I" } : Jvm.MethodName)) ∈ tbX := tb_7 (i := 213) rfl rfl
theorem t_1654 : (Jvm.Cond.instanceMethod ({ cls := "SchoolLosingModel", name := "reply", desc := "(I)I" } : Jvm.MethodName)) ∈ tbX := tb_7 (i := 214) rfl rfl
theorem t_1655 : (Jvm.Cond.selects "SchoolLosingModel" ({ cls := "SchoolLosingModel", name := "reply", desc := "(I)I" } : Jvm.MethodName) ({ cls := "SchoolLosingModel", name := "reply", desc := "(I)I" } : Jvm.MethodName)) ∈ tbX := tb_7 (i := 215) rfl rfl
theorem t_981 : (Jvm.Cond.methodLink "SchoolLosingLaw" (124 : Nat) ({ cls := "SchoolLosing", name := "rests", desc := "(I)I" } : Jvm.MethodName)) ∈ tbX := tb_5 (i := 21) rfl rfl
theorem t_982 : (Jvm.Cond.instanceMethod ({ cls := "SchoolLosing", name := "rests", desc := "(I)I" } : Jvm.MethodName)) ∈ tbX := tb_5 (i := 22) rfl rfl
theorem t_983 : (Jvm.Cond.selects "SchoolLosing" ({ cls := "SchoolLosing", name := "rests", desc := "(I)I" } : Jvm.MethodName) ({ cls := "SchoolLosing", name := "rests", desc := "(I)I" } : Jvm.MethodName)) ∈ tbX := tb_5 (i := 23) rfl rfl
theorem t_1657 : (Jvm.Cond.methodLink "SchoolLosingLaw" (127 : Nat) ({ cls := "SchoolLosingModel", name := "rests", desc := "(I)I" } : Jvm.MethodName)) ∈ tbX := tb_7 (i := 217) rfl rfl
theorem t_1658 : (Jvm.Cond.instanceMethod ({ cls := "SchoolLosingModel", name := "rests", desc := "(I)I" } : Jvm.MethodName)) ∈ tbX := tb_7 (i := 218) rfl rfl
theorem t_1659 : (Jvm.Cond.selects "SchoolLosingModel" ({ cls := "SchoolLosingModel", name := "rests", desc := "(I)I" } : Jvm.MethodName) ({ cls := "SchoolLosingModel", name := "rests", desc := "(I)I" } : Jvm.MethodName)) ∈ tbX := tb_7 (i := 219) rfl rfl
theorem t_989 : (Jvm.Cond.methodLink "SchoolLosingLaw" (128 : Nat) ({ cls := "SchoolLosing", name := "fine", desc := "()I" } : Jvm.MethodName)) ∈ tbX := tb_5 (i := 29) rfl rfl
theorem t_990 : (Jvm.Cond.instanceMethod ({ cls := "SchoolLosing", name := "fine", desc := "()I" } : Jvm.MethodName)) ∈ tbX := tb_5 (i := 30) rfl rfl
theorem t_991 : (Jvm.Cond.selects "SchoolLosing" ({ cls := "SchoolLosing", name := "fine", desc := "()I" } : Jvm.MethodName) ({ cls := "SchoolLosing", name := "fine", desc := "()I" } : Jvm.MethodName)) ∈ tbX := tb_5 (i := 31) rfl rfl
theorem t_1665 : (Jvm.Cond.methodLink "SchoolLosingLaw" (131 : Nat) ({ cls := "SchoolLosingModel", name := "fine", desc := "()I" } : Jvm.MethodName)) ∈ tbX := tb_7 (i := 225) rfl rfl
theorem t_1666 : (Jvm.Cond.instanceMethod ({ cls := "SchoolLosingModel", name := "fine", desc := "()I" } : Jvm.MethodName)) ∈ tbX := tb_7 (i := 226) rfl rfl
theorem t_1667 : (Jvm.Cond.selects "SchoolLosingModel" ({ cls := "SchoolLosingModel", name := "fine", desc := "()I" } : Jvm.MethodName) ({ cls := "SchoolLosingModel", name := "fine", desc := "()I" } : Jvm.MethodName)) ∈ tbX := tb_7 (i := 227) rfl rfl
theorem t_999 : (Jvm.Cond.methodLink "SchoolLosingLaw" (132 : Nat) ({ cls := "SchoolLosing", name := "pays", desc := "(I)I" } : Jvm.MethodName)) ∈ tbX := tb_5 (i := 39) rfl rfl
theorem t_1000 : (Jvm.Cond.instanceMethod ({ cls := "SchoolLosing", name := "pays", desc := "(I)I" } : Jvm.MethodName)) ∈ tbX := tb_5 (i := 40) rfl rfl
theorem t_1001 : (Jvm.Cond.selects "SchoolLosing" ({ cls := "SchoolLosing", name := "pays", desc := "(I)I" } : Jvm.MethodName) ({ cls := "SchoolLosing", name := "pays", desc := "(I)I" } : Jvm.MethodName)) ∈ tbX := tb_5 (i := 41) rfl rfl
theorem t_1677 : (Jvm.Cond.methodLink "SchoolLosingLaw" (135 : Nat) ({ cls := "SchoolLosingModel", name := "pays", desc := "(I)I" } : Jvm.MethodName)) ∈ tbX := tb_7 (i := 237) rfl rfl
theorem t_1678 : (Jvm.Cond.instanceMethod ({ cls := "SchoolLosingModel", name := "pays", desc := "(I)I" } : Jvm.MethodName)) ∈ tbX := tb_7 (i := 238) rfl rfl
theorem t_1679 : (Jvm.Cond.selects "SchoolLosingModel" ({ cls := "SchoolLosingModel", name := "pays", desc := "(I)I" } : Jvm.MethodName) ({ cls := "SchoolLosingModel", name := "pays", desc := "(I)I" } : Jvm.MethodName)) ∈ tbX := tb_7 (i := 239) rfl rfl
theorem t_1003 : (Jvm.Cond.methodLink "SchoolLosingLaw" (136 : Nat) ({ cls := "SchoolLosing", name := "tell", desc := "(III)I" } : Jvm.MethodName)) ∈ tbX := tb_5 (i := 43) rfl rfl
theorem t_1004 : (Jvm.Cond.instanceMethod ({ cls := "SchoolLosing", name := "tell", desc := "(III)I" } : Jvm.MethodName)) ∈ tbX := tb_5 (i := 44) rfl rfl
theorem t_1005 : (Jvm.Cond.selects "SchoolLosing" ({ cls := "SchoolLosing", name := "tell", desc := "(III)I" } : Jvm.MethodName) ({ cls := "SchoolLosing", name := "tell", desc := "(III)I" } : Jvm.MethodName)) ∈ tbX := tb_5 (i := 45) rfl rfl
theorem t_1681 : (Jvm.Cond.methodLink "SchoolLosingLaw" (139 : Nat) ({ cls := "SchoolLosingModel", name := "tell", desc := "(III)I" } : Jvm.MethodName)) ∈ tbX := tb_8 (i := 1) rfl rfl
theorem t_1682 : (Jvm.Cond.instanceMethod ({ cls := "SchoolLosingModel", name := "tell", desc := "(III)I" } : Jvm.MethodName)) ∈ tbX := tb_8 (i := 2) rfl rfl
theorem t_1683 : (Jvm.Cond.selects "SchoolLosingModel" ({ cls := "SchoolLosingModel", name := "tell", desc := "(III)I" } : Jvm.MethodName) ({ cls := "SchoolLosingModel", name := "tell", desc := "(III)I" } : Jvm.MethodName)) ∈ tbX := tb_8 (i := 3) rfl rfl
theorem t_1007 : (Jvm.Cond.methodLink "SchoolLosingLaw" (140 : Nat) ({ cls := "SchoolLosing", name := "forget", desc := "()I" } : Jvm.MethodName)) ∈ tbX := tb_5 (i := 47) rfl rfl
theorem t_1008 : (Jvm.Cond.instanceMethod ({ cls := "SchoolLosing", name := "forget", desc := "()I" } : Jvm.MethodName)) ∈ tbX := tb_5 (i := 48) rfl rfl
theorem t_1009 : (Jvm.Cond.selects "SchoolLosing" ({ cls := "SchoolLosing", name := "forget", desc := "()I" } : Jvm.MethodName) ({ cls := "SchoolLosing", name := "forget", desc := "()I" } : Jvm.MethodName)) ∈ tbX := tb_5 (i := 49) rfl rfl
theorem t_1685 : (Jvm.Cond.methodLink "SchoolLosingLaw" (143 : Nat) ({ cls := "SchoolLosingModel", name := "forget", desc := "()I" } : Jvm.MethodName)) ∈ tbX := tb_8 (i := 5) rfl rfl
theorem t_1686 : (Jvm.Cond.instanceMethod ({ cls := "SchoolLosingModel", name := "forget", desc := "()I" } : Jvm.MethodName)) ∈ tbX := tb_8 (i := 6) rfl rfl
theorem t_1687 : (Jvm.Cond.selects "SchoolLosingModel" ({ cls := "SchoolLosingModel", name := "forget", desc := "()I" } : Jvm.MethodName) ({ cls := "SchoolLosingModel", name := "forget", desc := "()I" } : Jvm.MethodName)) ∈ tbX := tb_8 (i := 7) rfl rfl
theorem t_1011 : (Jvm.Cond.methodLink "SchoolLosingLaw" (144 : Nat) ({ cls := "SchoolLosing", name := "meant", desc := "(IIZ)I" } : Jvm.MethodName)) ∈ tbX := tb_5 (i := 51) rfl rfl
theorem t_1012 : (Jvm.Cond.instanceMethod ({ cls := "SchoolLosing", name := "meant", desc := "(IIZ)I" } : Jvm.MethodName)) ∈ tbX := tb_5 (i := 52) rfl rfl
theorem t_1013 : (Jvm.Cond.selects "SchoolLosing" ({ cls := "SchoolLosing", name := "meant", desc := "(IIZ)I" } : Jvm.MethodName) ({ cls := "SchoolLosing", name := "meant", desc := "(IIZ)I" } : Jvm.MethodName)) ∈ tbX := tb_5 (i := 53) rfl rfl
theorem t_1689 : (Jvm.Cond.methodLink "SchoolLosingLaw" (147 : Nat) ({ cls := "SchoolLosingModel", name := "meant", desc := "(IIZ)I" } : Jvm.MethodName)) ∈ tbX := tb_8 (i := 9) rfl rfl
theorem t_1690 : (Jvm.Cond.instanceMethod ({ cls := "SchoolLosingModel", name := "meant", desc := "(IIZ)I" } : Jvm.MethodName)) ∈ tbX := tb_8 (i := 10) rfl rfl
theorem t_1691 : (Jvm.Cond.selects "SchoolLosingModel" ({ cls := "SchoolLosingModel", name := "meant", desc := "(IIZ)I" } : Jvm.MethodName) ({ cls := "SchoolLosingModel", name := "meant", desc := "(IIZ)I" } : Jvm.MethodName)) ∈ tbX := tb_8 (i := 11) rfl rfl
theorem t_1025 : (Jvm.Cond.methodLink "SchoolLosingLaw" (148 : Nat) ({ cls := "SchoolLosing", name := "set", desc := "()I" } : Jvm.MethodName)) ∈ tbX := tb_5 (i := 65) rfl rfl
theorem t_1026 : (Jvm.Cond.instanceMethod ({ cls := "SchoolLosing", name := "set", desc := "()I" } : Jvm.MethodName)) ∈ tbX := tb_5 (i := 66) rfl rfl
theorem t_1027 : (Jvm.Cond.selects "SchoolLosing" ({ cls := "SchoolLosing", name := "set", desc := "()I" } : Jvm.MethodName) ({ cls := "SchoolLosing", name := "set", desc := "()I" } : Jvm.MethodName)) ∈ tbX := tb_5 (i := 67) rfl rfl
theorem t_1701 : (Jvm.Cond.methodLink "SchoolLosingLaw" (151 : Nat) ({ cls := "SchoolLosingModel", name := "set", desc := "()I" } : Jvm.MethodName)) ∈ tbX := tb_8 (i := 21) rfl rfl
theorem t_1702 : (Jvm.Cond.instanceMethod ({ cls := "SchoolLosingModel", name := "set", desc := "()I" } : Jvm.MethodName)) ∈ tbX := tb_8 (i := 22) rfl rfl
theorem t_1703 : (Jvm.Cond.selects "SchoolLosingModel" ({ cls := "SchoolLosingModel", name := "set", desc := "()I" } : Jvm.MethodName) ({ cls := "SchoolLosingModel", name := "set", desc := "()I" } : Jvm.MethodName)) ∈ tbX := tb_8 (i := 23) rfl rfl
theorem t_837 : (Jvm.Cond.methodLink "SchoolLosingLaw" (152 : Nat) ({ cls := "SchoolLosing", name := "hold", desc := "(I)Z" } : Jvm.MethodName)) ∈ tbX := tb_4 (i := 117) rfl rfl
theorem t_838 : (Jvm.Cond.instanceMethod ({ cls := "SchoolLosing", name := "hold", desc := "(I)Z" } : Jvm.MethodName)) ∈ tbX := tb_4 (i := 118) rfl rfl
theorem t_839 : (Jvm.Cond.selects "SchoolLosing" ({ cls := "SchoolLosing", name := "hold", desc := "(I)Z" } : Jvm.MethodName) ({ cls := "SchoolLosing", name := "hold", desc := "(I)Z" } : Jvm.MethodName)) ∈ tbX := tb_4 (i := 119) rfl rfl
theorem t_1705 : (Jvm.Cond.methodLink "SchoolLosingLaw" (156 : Nat) ({ cls := "SchoolLosingModel", name := "hold", desc := "(I)Z" } : Jvm.MethodName)) ∈ tbX := tb_8 (i := 25) rfl rfl
theorem t_1706 : (Jvm.Cond.instanceMethod ({ cls := "SchoolLosingModel", name := "hold", desc := "(I)Z" } : Jvm.MethodName)) ∈ tbX := tb_8 (i := 26) rfl rfl
theorem t_1707 : (Jvm.Cond.selects "SchoolLosingModel" ({ cls := "SchoolLosingModel", name := "hold", desc := "(I)Z" } : Jvm.MethodName) ({ cls := "SchoolLosingModel", name := "hold", desc := "(I)Z" } : Jvm.MethodName)) ∈ tbX := tb_8 (i := 27) rfl rfl
theorem t_845 : (Jvm.Cond.methodLink "SchoolLosingLaw" (157 : Nat) ({ cls := "SchoolLosing", name := "restore", desc := "(I)Z" } : Jvm.MethodName)) ∈ tbX := tb_4 (i := 125) rfl rfl
theorem t_846 : (Jvm.Cond.instanceMethod ({ cls := "SchoolLosing", name := "restore", desc := "(I)Z" } : Jvm.MethodName)) ∈ tbX := tb_4 (i := 126) rfl rfl
theorem t_847 : (Jvm.Cond.selects "SchoolLosing" ({ cls := "SchoolLosing", name := "restore", desc := "(I)Z" } : Jvm.MethodName) ({ cls := "SchoolLosing", name := "restore", desc := "(I)Z" } : Jvm.MethodName)) ∈ tbX := tb_4 (i := 127) rfl rfl
theorem t_1709 : (Jvm.Cond.methodLink "SchoolLosingLaw" (160 : Nat) ({ cls := "SchoolLosingModel", name := "restore", desc := "(I)Z" } : Jvm.MethodName)) ∈ tbX := tb_8 (i := 29) rfl rfl
theorem t_1710 : (Jvm.Cond.instanceMethod ({ cls := "SchoolLosingModel", name := "restore", desc := "(I)Z" } : Jvm.MethodName)) ∈ tbX := tb_8 (i := 30) rfl rfl
theorem t_1711 : (Jvm.Cond.selects "SchoolLosingModel" ({ cls := "SchoolLosingModel", name := "restore", desc := "(I)Z" } : Jvm.MethodName) ({ cls := "SchoolLosingModel", name := "restore", desc := "(I)Z" } : Jvm.MethodName)) ∈ tbX := tb_8 (i := 31) rfl rfl
theorem t_727 : (Jvm.Cond.methodLink "SchoolLosingLaw" (161 : Nat) ({ cls := "SchoolLosing", name := "count", desc := "(I)I" } : Jvm.MethodName)) ∈ tbX := tb_4 (i := 7) rfl rfl
theorem t_728 : (Jvm.Cond.instanceMethod ({ cls := "SchoolLosing", name := "count", desc := "(I)I" } : Jvm.MethodName)) ∈ tbX := tb_4 (i := 8) rfl rfl
theorem t_729 : (Jvm.Cond.selects "SchoolLosing" ({ cls := "SchoolLosing", name := "count", desc := "(I)I" } : Jvm.MethodName) ({ cls := "SchoolLosing", name := "count", desc := "(I)I" } : Jvm.MethodName)) ∈ tbX := tb_4 (i := 9) rfl rfl
theorem t_1713 : (Jvm.Cond.methodLink "SchoolLosingLaw" (164 : Nat) ({ cls := "SchoolLosingModel", name := "count", desc := "(I)I" } : Jvm.MethodName)) ∈ tbX := tb_8 (i := 33) rfl rfl
theorem t_1714 : (Jvm.Cond.instanceMethod ({ cls := "SchoolLosingModel", name := "count", desc := "(I)I" } : Jvm.MethodName)) ∈ tbX := tb_8 (i := 34) rfl rfl
theorem t_1715 : (Jvm.Cond.selects "SchoolLosingModel" ({ cls := "SchoolLosingModel", name := "count", desc := "(I)I" } : Jvm.MethodName) ({ cls := "SchoolLosingModel", name := "count", desc := "(I)I" } : Jvm.MethodName)) ∈ tbX := tb_8 (i := 35) rfl rfl
theorem t_45 : (Jvm.Cond.methodLink "java/lang/String" (335 : Nat) ({ cls := "java/lang/String", name := "coder", desc := "()B" } : Jvm.MethodName)) ∈ tbX := tb_1 (i := 45) rfl rfl
theorem t_46 : (Jvm.Cond.instanceMethod ({ cls := "java/lang/String", name := "coder", desc := "()B" } : Jvm.MethodName)) ∈ tbX := tb_1 (i := 46) rfl rfl
theorem t_47 : (Jvm.Cond.selects "java/lang/String" ({ cls := "java/lang/String", name := "coder", desc := "()B" } : Jvm.MethodName) ({ cls := "java/lang/String", name := "coder", desc := "()B" } : Jvm.MethodName)) ∈ tbX := tb_1 (i := 47) rfl rfl
theorem t_55 : (Jvm.Cond.methodLink "java/lang/String" (492 : Nat) ({ cls := "java/lang/String", name := "isLatin1", desc := "()Z" } : Jvm.MethodName)) ∈ tbX := tb_1 (i := 55) rfl rfl
theorem t_56 : (Jvm.Cond.instanceMethod ({ cls := "java/lang/String", name := "isLatin1", desc := "()Z" } : Jvm.MethodName)) ∈ tbX := tb_1 (i := 56) rfl rfl
theorem t_57 : (Jvm.Cond.selects "java/lang/String" ({ cls := "java/lang/String", name := "isLatin1", desc := "()Z" } : Jvm.MethodName) ({ cls := "java/lang/String", name := "isLatin1", desc := "()Z" } : Jvm.MethodName)) ∈ tbX := tb_1 (i := 57) rfl rfl
theorem t_59 : (Jvm.Cond.methodLink "java/lang/String" (495 : Nat) ({ cls := "java/lang/StringLatin1", name := "charAt", desc := "([BI)C" } : Jvm.MethodName)) ∈ tbX := tb_1 (i := 59) rfl rfl
theorem t_60 : (Jvm.Cond.static ({ cls := "java/lang/StringLatin1", name := "charAt", desc := "([BI)C" } : Jvm.MethodName)) ∈ tbX := tb_1 (i := 60) rfl rfl
theorem t_510 : (Jvm.Cond.methodLink "java/lang/String" (505 : Nat) ({ cls := "java/lang/String", name := "length", desc := "()I" } : Jvm.MethodName)) ∈ tbX := tb_3 (i := 30) rfl rfl
theorem t_506 : (Jvm.Cond.methodLink "java/lang/String" (633 : Nat) ({ cls := "java/lang/String", name := "indexOf", desc := "(II)I" } : Jvm.MethodName)) ∈ tbX := tb_3 (i := 26) rfl rfl
theorem t_507 : (Jvm.Cond.instanceMethod ({ cls := "java/lang/String", name := "indexOf", desc := "(II)I" } : Jvm.MethodName)) ∈ tbX := tb_3 (i := 27) rfl rfl
theorem t_508 : (Jvm.Cond.selects "java/lang/String" ({ cls := "java/lang/String", name := "indexOf", desc := "(II)I" } : Jvm.MethodName) ({ cls := "java/lang/String", name := "indexOf", desc := "(II)I" } : Jvm.MethodName)) ∈ tbX := tb_3 (i := 28) rfl rfl
theorem t_511 : (Jvm.Cond.methodLink "java/lang/String" (637 : Nat) ({ cls := "java/lang/StringLatin1", name := "indexOf", desc := "([BIII)I" } : Jvm.MethodName)) ∈ tbX := tb_3 (i := 31) rfl rfl
theorem t_512 : (Jvm.Cond.static ({ cls := "java/lang/StringLatin1", name := "indexOf", desc := "([BIII)I" } : Jvm.MethodName)) ∈ tbX := tb_3 (i := 32) rfl rfl
theorem t_67 : (Jvm.Cond.methodLink "java/lang/String" (1059 : Nat) ({ cls := "jdk/internal/util/Preconditions", name := "checkIndex", desc := "(IILjava/util/function/BiFunction;)I" } : Jvm.MethodName)) ∈ tbX := tb_1 (i := 67) rfl rfl
theorem t_68 : (Jvm.Cond.static ({ cls := "jdk/internal/util/Preconditions", name := "checkIndex", desc := "(IILjava/util/function/BiFunction;)I" } : Jvm.MethodName)) ∈ tbX := tb_1 (i := 68) rfl rfl
theorem t_62 : (Jvm.Cond.methodLink "java/lang/StringLatin1" (9 : Nat) ({ cls := "java/lang/String", name := "checkIndex", desc := "(II)V" } : Jvm.MethodName)) ∈ tbX := tb_1 (i := 62) rfl rfl
theorem t_63 : (Jvm.Cond.static ({ cls := "java/lang/String", name := "checkIndex", desc := "(II)V" } : Jvm.MethodName)) ∈ tbX := tb_1 (i := 63) rfl rfl
theorem t_520 : (Jvm.Cond.methodLink "java/lang/StringLatin1" (38 : Nat) ({ cls := "java/lang/Math", name := "min", desc := "(II)I" } : Jvm.MethodName)) ∈ tbX := tb_3 (i := 40) rfl rfl
theorem t_514 : (Jvm.Cond.methodLink "java/lang/StringLatin1" (88 : Nat) ({ cls := "java/lang/StringLatin1", name := "canEncode", desc := "(I)Z" } : Jvm.MethodName)) ∈ tbX := tb_3 (i := 34) rfl rfl
theorem t_515 : (Jvm.Cond.static ({ cls := "java/lang/StringLatin1", name := "canEncode", desc := "(I)Z" } : Jvm.MethodName)) ∈ tbX := tb_3 (i := 35) rfl rfl
theorem t_517 : (Jvm.Cond.methodLink "java/lang/StringLatin1" (92 : Nat) ({ cls := "java/lang/Math", name := "max", desc := "(II)I" } : Jvm.MethodName)) ∈ tbX := tb_3 (i := 37) rfl rfl
theorem t_523 : (Jvm.Cond.methodLink "java/lang/StringLatin1" (95 : Nat) ({ cls := "java/lang/StringLatin1", name := "indexOfChar", desc := "([BIII)I" } : Jvm.MethodName)) ∈ tbX := tb_3 (i := 43) rfl rfl
theorem t_524 : (Jvm.Cond.static ({ cls := "java/lang/StringLatin1", name := "indexOfChar", desc := "([BIII)I" } : Jvm.MethodName)) ∈ tbX := tb_3 (i := 44) rfl rfl
theorem t_26 : (Jvm.Cond.instanceMethod ({ cls := "java/lang/Object", name := "<init>", desc := "()V" } : Jvm.MethodName)) ∈ tbX := tb_1 (i := 26) rfl rfl
theorem t_27 : (Jvm.Cond.code ({ cls := "java/lang/Object", name := "<init>", desc := "()V" } : Jvm.MethodName) object_method_1_code (1 : Nat) (Option.none : Option Jvm.ClassFile.FieldType)) ∈ tbX := tb_1 (i := 27) rfl rfl
theorem t_752 : (Jvm.Cond.native ({ cls := "java/lang/System", name := "arraycopy", desc := "(Ljava/lang/Object;ILjava/lang/Object;II)V" } : Jvm.MethodName)) ∈ tbX := tb_4 (i := 32) rfl rfl
theorem t_751 : (Jvm.Cond.static ({ cls := "java/lang/System", name := "arraycopy", desc := "(Ljava/lang/Object;ILjava/lang/Object;II)V" } : Jvm.MethodName)) ∈ tbX := tb_4 (i := 31) rfl rfl
theorem t_19 : (Jvm.Cond.initialized "java/lang/System") ∈ tbX := tb_1 (i := 19) rfl rfl
theorem t_518 : (Jvm.Cond.static ({ cls := "java/lang/Math", name := "max", desc := "(II)I" } : Jvm.MethodName)) ∈ tbX := tb_3 (i := 38) rfl rfl
theorem t_16 : (Jvm.Cond.initialized "java/lang/Math") ∈ tbX := tb_1 (i := 16) rfl rfl
theorem t_519 : (Jvm.Cond.code ({ cls := "java/lang/Math", name := "max", desc := "(II)I" } : Jvm.MethodName) prog_14_method_65_code (2 : Nat) (Option.some Jvm.ClassFile.FieldType.int)) ∈ tbX := tb_3 (i := 39) rfl rfl
theorem t_521 : (Jvm.Cond.static ({ cls := "java/lang/Math", name := "min", desc := "(II)I" } : Jvm.MethodName)) ∈ tbX := tb_3 (i := 41) rfl rfl
theorem t_522 : (Jvm.Cond.code ({ cls := "java/lang/Math", name := "min", desc := "(II)I" } : Jvm.MethodName) prog_14_method_69_code (2 : Nat) (Option.some Jvm.ClassFile.FieldType.int)) ∈ tbX := tb_3 (i := 42) rfl rfl
theorem t_783 : (Jvm.Cond.static ({ cls := "java/lang/Math", name := "abs", desc := "(I)I" } : Jvm.MethodName)) ∈ tbX := tb_4 (i := 63) rfl rfl
theorem t_784 : (Jvm.Cond.code ({ cls := "java/lang/Math", name := "abs", desc := "(I)I" } : Jvm.MethodName) prog_14_method_59_code (1 : Nat) (Option.some Jvm.ClassFile.FieldType.int)) ∈ tbX := tb_4 (i := 64) rfl rfl
theorem t_704 : (Jvm.Cond.constant "SchoolLosing" (133 : Nat) (-100000 : Int32)) ∈ tbX := tb_3 (i := 224) rfl rfl
theorem t_715 : (Jvm.Cond.constant "java/lang/Integer" (265 : Nat) (1431655765 : Int32)) ∈ tbX := tb_3 (i := 235) rfl rfl
theorem t_716 : (Jvm.Cond.constant "java/lang/Integer" (266 : Nat) (858993459 : Int32)) ∈ tbX := tb_3 (i := 236) rfl rfl
theorem t_717 : (Jvm.Cond.constant "java/lang/Integer" (267 : Nat) (252645135 : Int32)) ∈ tbX := tb_3 (i := 237) rfl rfl
theorem t_769 : (Jvm.Cond.constant "SchoolLosing" (328 : Nat) (1103515245 : Int32)) ∈ tbX := tb_4 (i := 49) rfl rfl
theorem t_951 : (Jvm.Cond.constant "SchoolLosing$Choice" (42 : Nat) (1000000 : Int32)) ∈ tbX := tb_4 (i := 231) rfl rfl
theorem t_1456 : (Jvm.Cond.constant "SchoolLosingModel" (417 : Nat) (-100000 : Int32)) ∈ tbX := tb_7 (i := 16) rfl rfl
theorem t_1505 : (Jvm.Cond.constant "SchoolLosingModel" (357 : Nat) (1103515245 : Int32)) ∈ tbX := tb_7 (i := 65) rfl rfl
theorem t_92 : (Jvm.Cond.constantLong "SchoolLosing$Tokens" (85 : Nat) (32 : Int64)) ∈ tbX := tb_1 (i := 92) rfl rfl
theorem t_93 : (Jvm.Cond.constantLong "SchoolLosing$Tokens" (87 : Nat) (97 : Int64)) ∈ tbX := tb_1 (i := 93) rfl rfl
theorem t_499 : (Jvm.Cond.constantLong "SchoolLosing$Tokens" (81 : Nat) (10 : Int64)) ∈ tbX := tb_3 (i := 19) rfl rfl
theorem t_500 : (Jvm.Cond.constantLong "SchoolLosing$Tokens" (83 : Nat) (48 : Int64)) ∈ tbX := tb_3 (i := 20) rfl rfl
theorem t_912 : (Jvm.Cond.constantLong "SchoolLosing$Chances" (24 : Nat) (777600000 : Int64)) ∈ tbX := tb_4 (i := 192) rfl rfl
theorem t_917 : (Jvm.Cond.constantLong "SchoolLosing$Chances" (48 : Nat) (60 : Int64)) ∈ tbX := tb_4 (i := 197) rfl rfl
theorem t_921 : (Jvm.Cond.constantLong "SchoolLosing" (242 : Nat) (777600000 : Int64)) ∈ tbX := tb_4 (i := 201) rfl rfl
theorem t_972 : (Jvm.Cond.constantLong "SchoolLosing" (285 : Nat) (36 : Int64)) ∈ tbX := tb_5 (i := 12) rfl rfl
theorem t_998 : (Jvm.Cond.constantLong "SchoolLosing" (301 : Nat) (99 : Int64)) ∈ tbX := tb_5 (i := 38) rfl rfl
theorem t_1045 : (Jvm.Cond.constantLong "SchoolLosingModel" (199 : Nat) (27 : Int64)) ∈ tbX := tb_5 (i := 85) rfl rfl
theorem t_20 : (Jvm.Cond.classLink "SchoolLosingLaw" (7 : Nat) "SchoolLosing") ∈ tbX := tb_1 (i := 20) rfl rfl
theorem t_21 : (Jvm.Cond.instantiable "SchoolLosing" (15 : Nat)) ∈ tbX := tb_1 (i := 21) rfl rfl
theorem t_28 : (Jvm.Cond.classLink "SchoolLosing" (9 : Nat) "SchoolLosing$Reader") ∈ tbX := tb_1 (i := 28) rfl rfl
theorem t_29 : (Jvm.Cond.instantiable "SchoolLosing$Reader" (13 : Nat)) ∈ tbX := tb_1 (i := 29) rfl rfl
theorem t_34 : (Jvm.Cond.classLink "SchoolLosing$Reader" (9 : Nat) "SchoolLosing$Tokens") ∈ tbX := tb_1 (i := 34) rfl rfl
theorem t_35 : (Jvm.Cond.instantiable "SchoolLosing$Tokens" (6 : Nat)) ∈ tbX := tb_1 (i := 35) rfl rfl
theorem t_162 : (Jvm.Cond.classLink "SchoolLosing" (21 : Nat) "SchoolLosing$Going") ∈ tbX := tb_1 (i := 162) rfl rfl
theorem t_163 : (Jvm.Cond.instantiable "SchoolLosing$Going" (6 : Nat)) ∈ tbX := tb_1 (i := 163) rfl rfl
theorem t_191 : (Jvm.Cond.classLink "SchoolLosing" (28 : Nat) "SchoolLosing$Wants") ∈ tbX := tb_1 (i := 191) rfl rfl
theorem t_192 : (Jvm.Cond.instantiable "SchoolLosing$Wants" (2 : Nat)) ∈ tbX := tb_1 (i := 192) rfl rfl
theorem t_207 : (Jvm.Cond.classLink "SchoolLosing" (35 : Nat) "SchoolLosing$Chances") ∈ tbX := tb_1 (i := 207) rfl rfl
theorem t_208 : (Jvm.Cond.instantiable "SchoolLosing$Chances" (2 : Nat)) ∈ tbX := tb_1 (i := 208) rfl rfl
theorem t_221 : (Jvm.Cond.classLink "SchoolLosing" (42 : Nat) "SchoolLosing$Choice") ∈ tbX := tb_1 (i := 221) rfl rfl
theorem t_222 : (Jvm.Cond.instantiable "SchoolLosing$Choice" (4 : Nat)) ∈ tbX := tb_1 (i := 222) rfl rfl
theorem t_243 : (Jvm.Cond.classLink "SchoolLosing" (66 : Nat) "SchoolLosing$Text") ∈ tbX := tb_2 (i := 3) rfl rfl
theorem t_244 : (Jvm.Cond.instantiable "SchoolLosing$Text" (20 : Nat)) ∈ tbX := tb_2 (i := 4) rfl rfl
theorem t_249 : (Jvm.Cond.classLink "SchoolLosing$Text" (51 : Nat) "SchoolLosing$Laws") ∈ tbX := tb_2 (i := 9) rfl rfl
theorem t_250 : (Jvm.Cond.instantiable "SchoolLosing$Laws" (5 : Nat)) ∈ tbX := tb_2 (i := 10) rfl rfl
theorem t_1029 : (Jvm.Cond.classLink "SchoolLosingLaw" (10 : Nat) "SchoolLosingModel") ∈ tbX := tb_5 (i := 69) rfl rfl
theorem t_1030 : (Jvm.Cond.instantiable "SchoolLosingModel" (75 : Nat)) ∈ tbX := tb_5 (i := 70) rfl rfl
theorem t_118 : (Jvm.Cond.arrayClass Jvm.ClassFile.FieldType.int) ∈ tbX := tb_1 (i := 118) rfl rfl
theorem t_119 : (Jvm.Cond.arrayClass Jvm.ClassFile.FieldType.long) ∈ tbX := tb_1 (i := 119) rfl rfl
theorem t_117 : (Jvm.Cond.arrayClass Jvm.ClassFile.FieldType.byte) ∈ tbX := tb_1 (i := 117) rfl rfl
theorem t_190 : (Jvm.Cond.arrayClass Jvm.ClassFile.FieldType.boolean) ∈ tbX := tb_1 (i := 190) rfl rfl
theorem t_216 : (Jvm.Cond.laysFinal "SchoolLosing$Chances" "SchoolLosing$Chances" "ends" "[J") ∈ tbX := tb_1 (i := 216) rfl rfl
theorem t_218 : (Jvm.Cond.laysFinal "SchoolLosing$Chances" "SchoolLosing$Chances" "reached" "[J") ∈ tbX := tb_1 (i := 218) rfl rfl
theorem t_234 : (Jvm.Cond.laysFinal "SchoolLosing$Choice" "SchoolLosing$Choice" "cost" "[I") ∈ tbX := tb_1 (i := 234) rfl rfl
theorem t_236 : (Jvm.Cond.laysFinal "SchoolLosing$Choice" "SchoolLosing$Choice" "needs" "[I") ∈ tbX := tb_1 (i := 236) rfl rfl
theorem t_238 : (Jvm.Cond.laysFinal "SchoolLosing$Choice" "SchoolLosing$Choice" "least" "[I") ∈ tbX := tb_1 (i := 238) rfl rfl
theorem t_240 : (Jvm.Cond.lays "SchoolLosing$Choice" "SchoolLosing$Choice" "items" "I") ∈ tbX := tb_2 (i := 0) rfl rfl
theorem t_177 : (Jvm.Cond.laysFinal "SchoolLosing$Going" "SchoolLosing$Going" "now" "[I") ∈ tbX := tb_1 (i := 177) rfl rfl
theorem t_179 : (Jvm.Cond.laysFinal "SchoolLosing$Going" "SchoolLosing$Going" "held" "[Z") ∈ tbX := tb_1 (i := 179) rfl rfl
theorem t_181 : (Jvm.Cond.laysFinal "SchoolLosing$Going" "SchoolLosing$Going" "past" "[I") ∈ tbX := tb_1 (i := 181) rfl rfl
theorem t_183 : (Jvm.Cond.laysFinal "SchoolLosing$Going" "SchoolLosing$Going" "slots" "[I") ∈ tbX := tb_1 (i := 183) rfl rfl
theorem t_185 : (Jvm.Cond.lays "SchoolLosing$Going" "SchoolLosing$Going" "nextPast" "I") ∈ tbX := tb_1 (i := 185) rfl rfl
theorem t_187 : (Jvm.Cond.lays "SchoolLosing$Going" "SchoolLosing$Going" "pasts" "I") ∈ tbX := tb_1 (i := 187) rfl rfl
theorem t_262 : (Jvm.Cond.laysFinal "SchoolLosing$Laws" "SchoolLosing$Laws" "marks" "[I") ∈ tbX := tb_2 (i := 22) rfl rfl
theorem t_264 : (Jvm.Cond.laysFinal "SchoolLosing$Laws" "SchoolLosing$Laws" "vars" "[I") ∈ tbX := tb_2 (i := 24) rfl rfl
theorem t_266 : (Jvm.Cond.laysFinal "SchoolLosing$Laws" "SchoolLosing$Laws" "stack" "[I") ∈ tbX := tb_2 (i := 26) rfl rfl
theorem t_268 : (Jvm.Cond.laysFinal "SchoolLosing$Laws" "SchoolLosing$Laws" "starts" "[I") ∈ tbX := tb_2 (i := 28) rfl rfl
theorem t_270 : (Jvm.Cond.lays "SchoolLosing$Laws" "SchoolLosing$Laws" "length" "I") ∈ tbX := tb_2 (i := 30) rfl rfl
theorem t_135 : (Jvm.Cond.laysFinal "SchoolLosing$Reader" "SchoolLosing$Reader" "tokens" "LSchoolLosing$Tokens;") ∈ tbX := tb_1 (i := 135) rfl rfl
theorem t_137 : (Jvm.Cond.laysFinal "SchoolLosing$Reader" "SchoolLosing$Reader" "names" "[J") ∈ tbX := tb_1 (i := 137) rfl rfl
theorem t_139 : (Jvm.Cond.laysFinal "SchoolLosing$Reader" "SchoolLosing$Reader" "sorts" "[I") ∈ tbX := tb_1 (i := 139) rfl rfl
theorem t_141 : (Jvm.Cond.laysFinal "SchoolLosing$Reader" "SchoolLosing$Reader" "numbers" "[I") ∈ tbX := tb_1 (i := 141) rfl rfl
theorem t_143 : (Jvm.Cond.laysFinal "SchoolLosing$Reader" "SchoolLosing$Reader" "waiting" "[I") ∈ tbX := tb_1 (i := 143) rfl rfl
theorem t_145 : (Jvm.Cond.lays "SchoolLosing$Reader" "SchoolLosing$Reader" "waits" "I") ∈ tbX := tb_1 (i := 145) rfl rfl
theorem t_147 : (Jvm.Cond.lays "SchoolLosing$Reader" "SchoolLosing$Reader" "known" "I") ∈ tbX := tb_1 (i := 147) rfl rfl
theorem t_149 : (Jvm.Cond.lays "SchoolLosing$Reader" "SchoolLosing$Reader" "text" "LSchoolLosing$Text;") ∈ tbX := tb_1 (i := 149) rfl rfl
theorem t_151 : (Jvm.Cond.lays "SchoolLosing$Reader" "SchoolLosing$Reader" "next" "I") ∈ tbX := tb_1 (i := 151) rfl rfl
theorem t_153 : (Jvm.Cond.lays "SchoolLosing$Reader" "SchoolLosing$Reader" "fault" "I") ∈ tbX := tb_1 (i := 153) rfl rfl
theorem t_155 : (Jvm.Cond.lays "SchoolLosing$Reader" "SchoolLosing$Reader" "faultPlace" "I") ∈ tbX := tb_1 (i := 155) rfl rfl
theorem t_157 : (Jvm.Cond.lays "SchoolLosing$Reader" "SchoolLosing$Reader" "laterFault" "I") ∈ tbX := tb_1 (i := 157) rfl rfl
theorem t_159 : (Jvm.Cond.lays "SchoolLosing$Reader" "SchoolLosing$Reader" "laterPlace" "I") ∈ tbX := tb_1 (i := 159) rfl rfl
theorem t_340 : (Jvm.Cond.laysFinal "SchoolLosing$Text" "SchoolLosing$Text" "side" "[I") ∈ tbX := tb_2 (i := 100) rfl rfl
theorem t_342 : (Jvm.Cond.laysFinal "SchoolLosing$Text" "SchoolLosing$Text" "margin" "[I") ∈ tbX := tb_2 (i := 102) rfl rfl
theorem t_344 : (Jvm.Cond.laysFinal "SchoolLosing$Text" "SchoolLosing$Text" "moves" "[I") ∈ tbX := tb_2 (i := 104) rfl rfl
theorem t_346 : (Jvm.Cond.laysFinal "SchoolLosing$Text" "SchoolLosing$Text" "deep" "[I") ∈ tbX := tb_2 (i := 106) rfl rfl
theorem t_348 : (Jvm.Cond.laysFinal "SchoolLosing$Text" "SchoolLosing$Text" "to" "[I") ∈ tbX := tb_2 (i := 108) rfl rfl
theorem t_350 : (Jvm.Cond.laysFinal "SchoolLosing$Text" "SchoolLosing$Text" "shows" "[I") ∈ tbX := tb_2 (i := 110) rfl rfl
theorem t_352 : (Jvm.Cond.laysFinal "SchoolLosing$Text" "SchoolLosing$Text" "skill" "[I") ∈ tbX := tb_2 (i := 112) rfl rfl
theorem t_354 : (Jvm.Cond.laysFinal "SchoolLosing$Text" "SchoolLosing$Text" "eye" "[I") ∈ tbX := tb_2 (i := 114) rfl rfl
theorem t_356 : (Jvm.Cond.laysFinal "SchoolLosing$Text" "SchoolLosing$Text" "hours" "[I") ∈ tbX := tb_2 (i := 116) rfl rfl
theorem t_358 : (Jvm.Cond.laysFinal "SchoolLosing$Text" "SchoolLosing$Text" "needs" "[I") ∈ tbX := tb_2 (i := 118) rfl rfl
theorem t_360 : (Jvm.Cond.laysFinal "SchoolLosing$Text" "SchoolLosing$Text" "pride" "[I") ∈ tbX := tb_2 (i := 120) rfl rfl
theorem t_362 : (Jvm.Cond.laysFinal "SchoolLosing$Text" "SchoolLosing$Text" "faces" "[I") ∈ tbX := tb_2 (i := 122) rfl rfl
theorem t_364 : (Jvm.Cond.laysFinal "SchoolLosing$Text" "SchoolLosing$Text" "lower" "[I") ∈ tbX := tb_2 (i := 124) rfl rfl
theorem t_366 : (Jvm.Cond.laysFinal "SchoolLosing$Text" "SchoolLosing$Text" "laws" "LSchoolLosing$Laws;") ∈ tbX := tb_2 (i := 126) rfl rfl
theorem t_368 : (Jvm.Cond.lays "SchoolLosing$Text" "SchoolLosing$Text" "positions" "I") ∈ tbX := tb_2 (i := 128) rfl rfl
theorem t_370 : (Jvm.Cond.lays "SchoolLosing$Text" "SchoolLosing$Text" "men" "I") ∈ tbX := tb_2 (i := 130) rfl rfl
theorem t_372 : (Jvm.Cond.lays "SchoolLosing$Text" "SchoolLosing$Text" "lessons" "I") ∈ tbX := tb_2 (i := 132) rfl rfl
theorem t_374 : (Jvm.Cond.lays "SchoolLosing$Text" "SchoolLosing$Text" "courts" "I") ∈ tbX := tb_2 (i := 134) rfl rfl
theorem t_376 : (Jvm.Cond.lays "SchoolLosing$Text" "SchoolLosing$Text" "dice" "I") ∈ tbX := tb_2 (i := 136) rfl rfl
theorem t_378 : (Jvm.Cond.lays "SchoolLosing$Text" "SchoolLosing$Text" "seed" "I") ∈ tbX := tb_2 (i := 138) rfl rfl
theorem t_104 : (Jvm.Cond.laysFinal "SchoolLosing$Tokens" "SchoolLosing$Tokens" "tape" "[B") ∈ tbX := tb_1 (i := 104) rfl rfl
theorem t_106 : (Jvm.Cond.laysFinal "SchoolLosing$Tokens" "SchoolLosing$Tokens" "kinds" "[I") ∈ tbX := tb_1 (i := 106) rfl rfl
theorem t_108 : (Jvm.Cond.laysFinal "SchoolLosing$Tokens" "SchoolLosing$Tokens" "places" "[I") ∈ tbX := tb_1 (i := 108) rfl rfl
theorem t_110 : (Jvm.Cond.laysFinal "SchoolLosing$Tokens" "SchoolLosing$Tokens" "values" "[J") ∈ tbX := tb_1 (i := 110) rfl rfl
theorem t_112 : (Jvm.Cond.laysFinal "SchoolLosing$Tokens" "SchoolLosing$Tokens" "words" "[J") ∈ tbX := tb_1 (i := 112) rfl rfl
theorem t_114 : (Jvm.Cond.lays "SchoolLosing$Tokens" "SchoolLosing$Tokens" "length" "I") ∈ tbX := tb_1 (i := 114) rfl rfl
theorem t_202 : (Jvm.Cond.laysFinal "SchoolLosing$Wants" "SchoolLosing$Wants" "ends" "[I") ∈ tbX := tb_1 (i := 202) rfl rfl
theorem t_204 : (Jvm.Cond.laysFinal "SchoolLosing$Wants" "SchoolLosing$Wants" "moves" "[I") ∈ tbX := tb_1 (i := 204) rfl rfl
theorem t_421 : (Jvm.Cond.laysFinal "SchoolLosing" "SchoolLosing" "tokens" "LSchoolLosing$Tokens;") ∈ tbX := tb_2 (i := 181) rfl rfl
theorem t_419 : (Jvm.Cond.laysFinal "SchoolLosing" "SchoolLosing" "reader" "LSchoolLosing$Reader;") ∈ tbX := tb_2 (i := 179) rfl rfl
theorem t_423 : (Jvm.Cond.laysFinal "SchoolLosing" "SchoolLosing" "going" "LSchoolLosing$Going;") ∈ tbX := tb_2 (i := 183) rfl rfl
theorem t_425 : (Jvm.Cond.laysFinal "SchoolLosing" "SchoolLosing" "byWant" "LSchoolLosing$Wants;") ∈ tbX := tb_2 (i := 185) rfl rfl
theorem t_427 : (Jvm.Cond.laysFinal "SchoolLosing" "SchoolLosing" "chances" "LSchoolLosing$Chances;") ∈ tbX := tb_2 (i := 187) rfl rfl
theorem t_429 : (Jvm.Cond.laysFinal "SchoolLosing" "SchoolLosing" "choice" "LSchoolLosing$Choice;") ∈ tbX := tb_2 (i := 189) rfl rfl
theorem t_431 : (Jvm.Cond.laysFinal "SchoolLosing" "SchoolLosing" "sure" "[I") ∈ tbX := tb_2 (i := 191) rfl rfl
theorem t_433 : (Jvm.Cond.laysFinal "SchoolLosing" "SchoolLosing" "paid" "[J") ∈ tbX := tb_2 (i := 193) rfl rfl
theorem t_435 : (Jvm.Cond.laysFinal "SchoolLosing" "SchoolLosing" "toldMan" "[I") ∈ tbX := tb_2 (i := 195) rfl rfl
theorem t_437 : (Jvm.Cond.laysFinal "SchoolLosing" "SchoolLosing" "toldTurn" "[I") ∈ tbX := tb_2 (i := 197) rfl rfl
theorem t_439 : (Jvm.Cond.laysFinal "SchoolLosing" "SchoolLosing" "toldMove" "[I") ∈ tbX := tb_2 (i := 199) rfl rfl
theorem t_441 : (Jvm.Cond.lays "SchoolLosing" "SchoolLosing" "text" "LSchoolLosing$Text;") ∈ tbX := tb_2 (i := 201) rfl rfl
theorem t_443 : (Jvm.Cond.lays "SchoolLosing" "SchoolLosing" "spare" "LSchoolLosing$Text;") ∈ tbX := tb_2 (i := 203) rfl rfl
theorem t_445 : (Jvm.Cond.lays "SchoolLosing" "SchoolLosing" "told" "I") ∈ tbX := tb_2 (i := 205) rfl rfl
theorem t_447 : (Jvm.Cond.lays "SchoolLosing" "SchoolLosing" "faultPlace" "I") ∈ tbX := tb_2 (i := 207) rfl rfl
theorem t_1132 : (Jvm.Cond.lays "SchoolLosingModel" "SchoolLosingModel" "thrown" "I") ∈ tbX := tb_5 (i := 172) rfl rfl
theorem t_1134 : (Jvm.Cond.laysFinal "SchoolLosingModel" "SchoolLosingModel" "tape" "[B") ∈ tbX := tb_5 (i := 174) rfl rfl
theorem t_1136 : (Jvm.Cond.lays "SchoolLosingModel" "SchoolLosingModel" "taped" "I") ∈ tbX := tb_5 (i := 176) rfl rfl
theorem t_1138 : (Jvm.Cond.laysFinal "SchoolLosingModel" "SchoolLosingModel" "text" "[B") ∈ tbX := tb_5 (i := 178) rfl rfl
theorem t_1140 : (Jvm.Cond.lays "SchoolLosingModel" "SchoolLosingModel" "size" "I") ∈ tbX := tb_5 (i := 180) rfl rfl
theorem t_1142 : (Jvm.Cond.laysFinal "SchoolLosingModel" "SchoolLosingModel" "tKind" "[I") ∈ tbX := tb_5 (i := 182) rfl rfl
theorem t_1144 : (Jvm.Cond.laysFinal "SchoolLosingModel" "SchoolLosingModel" "tPlace" "[I") ∈ tbX := tb_5 (i := 184) rfl rfl
theorem t_1146 : (Jvm.Cond.laysFinal "SchoolLosingModel" "SchoolLosingModel" "tValue" "[I") ∈ tbX := tb_5 (i := 186) rfl rfl
theorem t_1148 : (Jvm.Cond.laysFinal "SchoolLosingModel" "SchoolLosingModel" "tName" "[J") ∈ tbX := tb_5 (i := 188) rfl rfl
theorem t_1150 : (Jvm.Cond.laysFinal "SchoolLosingModel" "SchoolLosingModel" "keys" "[J") ∈ tbX := tb_5 (i := 190) rfl rfl
theorem t_1152 : (Jvm.Cond.lays "SchoolLosingModel" "SchoolLosingModel" "tokens" "I") ∈ tbX := tb_5 (i := 192) rfl rfl
theorem t_1154 : (Jvm.Cond.lays "SchoolLosingModel" "SchoolLosingModel" "t" "I") ∈ tbX := tb_5 (i := 194) rfl rfl
theorem t_1156 : (Jvm.Cond.lays "SchoolLosingModel" "SchoolLosingModel" "open" "I") ∈ tbX := tb_5 (i := 196) rfl rfl
theorem t_1158 : (Jvm.Cond.lays "SchoolLosingModel" "SchoolLosingModel" "fault" "I") ∈ tbX := tb_5 (i := 198) rfl rfl
theorem t_1160 : (Jvm.Cond.lays "SchoolLosingModel" "SchoolLosingModel" "faultPlace" "I") ∈ tbX := tb_5 (i := 200) rfl rfl
theorem t_1162 : (Jvm.Cond.lays "SchoolLosingModel" "SchoolLosingModel" "worst" "I") ∈ tbX := tb_5 (i := 202) rfl rfl
theorem t_1164 : (Jvm.Cond.lays "SchoolLosingModel" "SchoolLosingModel" "worstPlace" "I") ∈ tbX := tb_5 (i := 204) rfl rfl
theorem t_1166 : (Jvm.Cond.lays "SchoolLosingModel" "SchoolLosingModel" "place" "I") ∈ tbX := tb_5 (i := 206) rfl rfl
theorem t_1168 : (Jvm.Cond.lays "SchoolLosingModel" "SchoolLosingModel" "live" "I") ∈ tbX := tb_5 (i := 208) rfl rfl
theorem t_1170 : (Jvm.Cond.lays "SchoolLosingModel" "SchoolLosingModel" "side" "I") ∈ tbX := tb_5 (i := 210) rfl rfl
theorem t_1172 : (Jvm.Cond.lays "SchoolLosingModel" "SchoolLosingModel" "names" "I") ∈ tbX := tb_5 (i := 212) rfl rfl
theorem t_1174 : (Jvm.Cond.laysFinal "SchoolLosingModel" "SchoolLosingModel" "nameOf" "[J") ∈ tbX := tb_5 (i := 214) rfl rfl
theorem t_1176 : (Jvm.Cond.laysFinal "SchoolLosingModel" "SchoolLosingModel" "nameSort" "[I") ∈ tbX := tb_5 (i := 216) rfl rfl
theorem t_1178 : (Jvm.Cond.laysFinal "SchoolLosingModel" "SchoolLosingModel" "nameAt" "[I") ∈ tbX := tb_5 (i := 218) rfl rfl
theorem t_1180 : (Jvm.Cond.laysFinal "SchoolLosingModel" "SchoolLosingModel" "positions" "[I") ∈ tbX := tb_5 (i := 220) rfl rfl
theorem t_1182 : (Jvm.Cond.laysFinal "SchoolLosingModel" "SchoolLosingModel" "turnOf" "[I") ∈ tbX := tb_5 (i := 222) rfl rfl
theorem t_1184 : (Jvm.Cond.laysFinal "SchoolLosingModel" "SchoolLosingModel" "marginOf" "[I") ∈ tbX := tb_5 (i := 224) rfl rfl
theorem t_1186 : (Jvm.Cond.laysFinal "SchoolLosingModel" "SchoolLosingModel" "movesOf" "[I") ∈ tbX := tb_5 (i := 226) rfl rfl
theorem t_1188 : (Jvm.Cond.laysFinal "SchoolLosingModel" "SchoolLosingModel" "deepOf" "[I") ∈ tbX := tb_5 (i := 228) rfl rfl
theorem t_1190 : (Jvm.Cond.laysFinal "SchoolLosingModel" "SchoolLosingModel" "moveTo" "[I") ∈ tbX := tb_5 (i := 230) rfl rfl
theorem t_1192 : (Jvm.Cond.laysFinal "SchoolLosingModel" "SchoolLosingModel" "moveShows" "[I") ∈ tbX := tb_5 (i := 232) rfl rfl
theorem t_1194 : (Jvm.Cond.laysFinal "SchoolLosingModel" "SchoolLosingModel" "men" "[I") ∈ tbX := tb_5 (i := 234) rfl rfl
theorem t_1196 : (Jvm.Cond.laysFinal "SchoolLosingModel" "SchoolLosingModel" "skillTold" "[I") ∈ tbX := tb_5 (i := 236) rfl rfl
theorem t_1198 : (Jvm.Cond.laysFinal "SchoolLosingModel" "SchoolLosingModel" "eyeOf" "[I") ∈ tbX := tb_5 (i := 238) rfl rfl
theorem t_1200 : (Jvm.Cond.laysFinal "SchoolLosingModel" "SchoolLosingModel" "lessons" "[I") ∈ tbX := tb_6 (i := 0) rfl rfl
theorem t_1202 : (Jvm.Cond.laysFinal "SchoolLosingModel" "SchoolLosingModel" "hoursOf" "[I") ∈ tbX := tb_6 (i := 2) rfl rfl
theorem t_1204 : (Jvm.Cond.laysFinal "SchoolLosingModel" "SchoolLosingModel" "needsOf" "[I") ∈ tbX := tb_6 (i := 4) rfl rfl
theorem t_1206 : (Jvm.Cond.laysFinal "SchoolLosingModel" "SchoolLosingModel" "courts" "[I") ∈ tbX := tb_6 (i := 6) rfl rfl
theorem t_1208 : (Jvm.Cond.laysFinal "SchoolLosingModel" "SchoolLosingModel" "prideOf" "[I") ∈ tbX := tb_6 (i := 8) rfl rfl
theorem t_1210 : (Jvm.Cond.laysFinal "SchoolLosingModel" "SchoolLosingModel" "dice" "[I") ∈ tbX := tb_6 (i := 10) rfl rfl
theorem t_1212 : (Jvm.Cond.laysFinal "SchoolLosingModel" "SchoolLosingModel" "faceOf" "[I") ∈ tbX := tb_6 (i := 12) rfl rfl
theorem t_1214 : (Jvm.Cond.laysFinal "SchoolLosingModel" "SchoolLosingModel" "seed" "[I") ∈ tbX := tb_6 (i := 14) rfl rfl
theorem t_1216 : (Jvm.Cond.laysFinal "SchoolLosingModel" "SchoolLosingModel" "lawFirst" "[I") ∈ tbX := tb_6 (i := 16) rfl rfl
theorem t_1218 : (Jvm.Cond.laysFinal "SchoolLosingModel" "SchoolLosingModel" "lawLast" "[I") ∈ tbX := tb_6 (i := 18) rfl rfl
theorem t_1220 : (Jvm.Cond.lays "SchoolLosingModel" "SchoolLosingModel" "branches" "I") ∈ tbX := tb_6 (i := 20) rfl rfl
theorem t_1222 : (Jvm.Cond.laysFinal "SchoolLosingModel" "SchoolLosingModel" "hasTest" "[Z") ∈ tbX := tb_6 (i := 22) rfl rfl
theorem t_1224 : (Jvm.Cond.laysFinal "SchoolLosingModel" "SchoolLosingModel" "testFrom" "[I") ∈ tbX := tb_6 (i := 24) rfl rfl
theorem t_1226 : (Jvm.Cond.laysFinal "SchoolLosingModel" "SchoolLosingModel" "testMid" "[I") ∈ tbX := tb_6 (i := 26) rfl rfl
theorem t_1228 : (Jvm.Cond.laysFinal "SchoolLosingModel" "SchoolLosingModel" "testTo" "[I") ∈ tbX := tb_6 (i := 28) rfl rfl
theorem t_1230 : (Jvm.Cond.laysFinal "SchoolLosingModel" "SchoolLosingModel" "termTo" "[I") ∈ tbX := tb_6 (i := 30) rfl rfl
theorem t_1232 : (Jvm.Cond.lays "SchoolLosingModel" "SchoolLosingModel" "codes" "I") ∈ tbX := tb_6 (i := 32) rfl rfl
theorem t_1234 : (Jvm.Cond.laysFinal "SchoolLosingModel" "SchoolLosingModel" "code" "[I") ∈ tbX := tb_6 (i := 34) rfl rfl
theorem t_1236 : (Jvm.Cond.laysFinal "SchoolLosingModel" "SchoolLosingModel" "codeInt" "[I") ∈ tbX := tb_6 (i := 36) rfl rfl
theorem t_1238 : (Jvm.Cond.laysFinal "SchoolLosingModel" "SchoolLosingModel" "waits" "[I") ∈ tbX := tb_6 (i := 38) rfl rfl
theorem t_1240 : (Jvm.Cond.lays "SchoolLosingModel" "SchoolLosingModel" "waiting" "I") ∈ tbX := tb_6 (i := 40) rfl rfl
theorem t_1242 : (Jvm.Cond.laysFinal "SchoolLosingModel" "SchoolLosingModel" "variables" "[I") ∈ tbX := tb_6 (i := 42) rfl rfl
theorem t_1244 : (Jvm.Cond.laysFinal "SchoolLosingModel" "SchoolLosingModel" "pile" "[I") ∈ tbX := tb_6 (i := 44) rfl rfl
theorem t_1246 : (Jvm.Cond.lays "SchoolLosingModel" "SchoolLosingModel" "isBroken" "Z") ∈ tbX := tb_6 (i := 46) rfl rfl
theorem t_1248 : (Jvm.Cond.laysFinal "SchoolLosingModel" "SchoolLosingModel" "now" "[I") ∈ tbX := tb_6 (i := 48) rfl rfl
theorem t_1250 : (Jvm.Cond.laysFinal "SchoolLosingModel" "SchoolLosingModel" "row" "[I") ∈ tbX := tb_6 (i := 50) rfl rfl
theorem t_1252 : (Jvm.Cond.laysFinal "SchoolLosingModel" "SchoolLosingModel" "wanted" "[I") ∈ tbX := tb_6 (i := 52) rfl rfl
theorem t_1254 : (Jvm.Cond.laysFinal "SchoolLosingModel" "SchoolLosingModel" "wantMove" "[I") ∈ tbX := tb_6 (i := 54) rfl rfl
theorem t_1256 : (Jvm.Cond.lays "SchoolLosingModel" "SchoolLosingModel" "undos" "I") ∈ tbX := tb_6 (i := 56) rfl rfl
theorem t_1258 : (Jvm.Cond.laysFinal "SchoolLosingModel" "SchoolLosingModel" "history" "[I") ∈ tbX := tb_6 (i := 58) rfl rfl
theorem t_1260 : (Jvm.Cond.laysFinal "SchoolLosingModel" "SchoolLosingModel" "isSure" "[Z") ∈ tbX := tb_6 (i := 60) rfl rfl
theorem t_1262 : (Jvm.Cond.laysFinal "SchoolLosingModel" "SchoolLosingModel" "oftenBy" "[I") ∈ tbX := tb_6 (i := 62) rfl rfl
theorem t_1264 : (Jvm.Cond.lays "SchoolLosingModel" "SchoolLosingModel" "bestHours" "I") ∈ tbX := tb_6 (i := 64) rfl rfl
theorem t_1266 : (Jvm.Cond.lays "SchoolLosingModel" "SchoolLosingModel" "bestWay" "I") ∈ tbX := tb_6 (i := 66) rfl rfl
theorem t_1268 : (Jvm.Cond.lays "SchoolLosingModel" "SchoolLosingModel" "bestSuits" "I") ∈ tbX := tb_6 (i := 68) rfl rfl
theorem t_1270 : (Jvm.Cond.lays "SchoolLosingModel" "SchoolLosingModel" "told" "I") ∈ tbX := tb_6 (i := 70) rfl rfl
theorem t_1272 : (Jvm.Cond.laysFinal "SchoolLosingModel" "SchoolLosingModel" "toldMan" "[I") ∈ tbX := tb_6 (i := 72) rfl rfl
theorem t_1274 : (Jvm.Cond.laysFinal "SchoolLosingModel" "SchoolLosingModel" "toldAt" "[I") ∈ tbX := tb_6 (i := 74) rfl rfl
theorem t_1276 : (Jvm.Cond.laysFinal "SchoolLosingModel" "SchoolLosingModel" "toldMove" "[I") ∈ tbX := tb_6 (i := 76) rfl rfl
theorem t_1278 : (Jvm.Cond.laysFinal "SchoolLosingModel" "SchoolLosingModel" "isHeld" "[Z") ∈ tbX := tb_6 (i := 78) rfl rfl
theorem t_1280 : (Jvm.Cond.laysFinal "SchoolLosingModel" "SchoolLosingModel" "heldRows" "[I") ∈ tbX := tb_6 (i := 80) rfl rfl
theorem t_49 : (Jvm.Cond.fieldLink "java/lang/String" (38 : Nat) "java/lang/String" "COMPACT_STRINGS" "Z") ∈ tbX := tb_1 (i := 49) rfl rfl
theorem t_65 : (Jvm.Cond.fieldLink "java/lang/String" (1053 : Nat) "jdk/internal/util/Preconditions" "SIOOBE_FORMATTER" "Ljava/util/function/BiFunction;") ∈ tbX := tb_1 (i := 65) rfl rfl
