/-! the words: those of the tables that a callee may be handed -/
def UL : List Cond := lw_tbl.filter goodWord
theorem ul_hts {args : Array Value} {s : State} (hts : ∀ w ∈ lw_tbl, w.before args s = true) : ∀ w ∈ UL, w.before args s = true := fun w h => hts w (List.mem_filter.mp h).1
theorem ul_good : ∀ w ∈ UL, ((w.onTables && w.keeps) = true ∨ ∃ ty, w = .arrayClass ty) := fun w h => good_of_word (List.mem_filter.mp h).2
theorem ul_t {w : Cond} (h : w ∈ tables_1) (g : goodWord w = true) : w ∈ UL := List.mem_filter.mpr ⟨List.mem_append_right _ h, g⟩
theorem ul_in1 {w : Cond} (h : w ∈ tables_1_1) (g : goodWord w = true) : w ∈ UL := ul_t (List.mem_append_left _ h) g
theorem ul_in2 {w : Cond} (h : w ∈ tables_1_2) (g : goodWord w = true) : w ∈ UL := ul_t (List.mem_append_right _ (List.mem_append_left _ h)) g
theorem ul_in3 {w : Cond} (h : w ∈ tables_1_3) (g : goodWord w = true) : w ∈ UL := ul_t (List.mem_append_right _ (List.mem_append_right _ (List.mem_append_left _ h))) g
theorem ul_in4 {w : Cond} (h : w ∈ tables_1_4) (g : goodWord w = true) : w ∈ UL := ul_t (List.mem_append_right _ (List.mem_append_right _ (List.mem_append_right _ (List.mem_append_left _ h)))) g
theorem ul_in5 {w : Cond} (h : w ∈ tables_1_5) (g : goodWord w = true) : w ∈ UL := ul_t (List.mem_append_right _ (List.mem_append_right _ (List.mem_append_right _ (List.mem_append_right _ (List.mem_append_left _ h))))) g
theorem ul_in6 {w : Cond} (h : w ∈ tables_1_6) (g : goodWord w = true) : w ∈ UL := ul_t (List.mem_append_right _ (List.mem_append_right _ (List.mem_append_right _ (List.mem_append_right _ (List.mem_append_right _ (h)))))) g
theorem ul_sel {y : MethodName} {n : Nat} (h : (y, n) ∈ lw_privs) (g : goodWord (Cond.selects y.cls y y) = true) : Cond.selects y.cls y y ∈ UL := List.mem_filter.mpr ⟨List.mem_append_left _ (List.mem_map.mpr ⟨(y, n), h, rfl⟩), g⟩
theorem ul_1_0 : Cond.initialized RL ∈ UL := ul_in1 (List.mem_of_getElem? (i := 0) rfl) rfl
theorem ul_1_1 : Cond.initialized RX8 ∈ UL := ul_in1 (List.mem_of_getElem? (i := 1) rfl) rfl
theorem ul_1_2 : Cond.initialized RX4 ∈ UL := ul_in1 (List.mem_of_getElem? (i := 2) rfl) rfl
theorem ul_1_3 : Cond.initialized RJ7 ∈ UL := ul_in1 (List.mem_of_getElem? (i := 3) rfl) rfl
theorem ul_1_4 : Cond.initialized RX5 ∈ UL := ul_in1 (List.mem_of_getElem? (i := 4) rfl) rfl
theorem ul_1_5 : Cond.initialized RX7 ∈ UL := ul_in1 (List.mem_of_getElem? (i := 5) rfl) rfl
theorem ul_1_6 : Cond.initialized RX3 ∈ UL := ul_in1 (List.mem_of_getElem? (i := 6) rfl) rfl
theorem ul_1_7 : Cond.initialized RX0 ∈ UL := ul_in1 (List.mem_of_getElem? (i := 7) rfl) rfl
theorem ul_1_8 : Cond.initialized RX6 ∈ UL := ul_in1 (List.mem_of_getElem? (i := 8) rfl) rfl
theorem ul_1_9 : Cond.initialized RX2 ∈ UL := ul_in1 (List.mem_of_getElem? (i := 9) rfl) rfl
theorem ul_1_10 : Cond.initialized RX1 ∈ UL := ul_in1 (List.mem_of_getElem? (i := 10) rfl) rfl
theorem ul_1_11 : Cond.initialized RX9 ∈ UL := ul_in1 (List.mem_of_getElem? (i := 11) rfl) rfl
theorem ul_1_12 : Cond.initialized RJ10 ∈ UL := ul_in1 (List.mem_of_getElem? (i := 12) rfl) rfl
theorem ul_1_13 : Cond.initialized RJ13 ∈ UL := ul_in1 (List.mem_of_getElem? (i := 13) rfl) rfl
theorem ul_1_14 : Cond.initialized RJ9 ∈ UL := ul_in1 (List.mem_of_getElem? (i := 14) rfl) rfl
theorem ul_1_15 : Cond.initialized RJ6 ∈ UL := ul_in1 (List.mem_of_getElem? (i := 15) rfl) rfl
theorem ul_1_16 : Cond.classLink RL 7 RX8 ∈ UL := ul_in1 (List.mem_of_getElem? (i := 16) rfl) rfl
theorem ul_1_17 : Cond.instantiable RX8 9 ∈ UL := ul_in1 (List.mem_of_getElem? (i := 17) rfl) rfl
theorem ul_1_18 : Cond.methodLink RL 9 yX8_init ∈ UL := ul_in1 (List.mem_of_getElem? (i := 18) rfl) rfl
theorem ul_1_19 : Cond.instanceMethod yX8_init ∈ UL := ul_in1 (List.mem_of_getElem? (i := 19) rfl) rfl
theorem ul_1_20 : Cond.code yX8_init cX8_init 1 none ∈ UL := ul_in1 (List.mem_of_getElem? (i := 20) rfl) rfl
theorem ul_1_21 : Cond.methodLink RX8 1 objectInit ∈ UL := ul_in1 (List.mem_of_getElem? (i := 21) rfl) rfl
theorem ul_1_22 : Cond.instanceMethod objectInit ∈ UL := ul_in1 (List.mem_of_getElem? (i := 22) rfl) rfl
theorem ul_1_24 : Cond.classLink RX8 7 RX4 ∈ UL := ul_in1 (List.mem_of_getElem? (i := 24) rfl) rfl
theorem ul_1_25 : Cond.instantiable RX4 10 ∈ UL := ul_in1 (List.mem_of_getElem? (i := 25) rfl) rfl
theorem ul_1_26 : Cond.methodLink RX8 9 yX4_init ∈ UL := ul_in1 (List.mem_of_getElem? (i := 26) rfl) rfl
theorem ul_1_27 : Cond.instanceMethod yX4_init ∈ UL := ul_in1 (List.mem_of_getElem? (i := 27) rfl) rfl
theorem ul_1_28 : Cond.code yX4_init cX4_init 1 none ∈ UL := ul_in1 (List.mem_of_getElem? (i := 28) rfl) rfl
theorem ul_1_29 : Cond.methodLink RX4 3 objectInit ∈ UL := ul_in1 (List.mem_of_getElem? (i := 29) rfl) rfl
theorem ul_1_30 : Cond.methodLink RX4 33 yJ7_fill_53178 ∈ UL := ul_in1 (List.mem_of_getElem? (i := 30) rfl) rfl
theorem ul_1_31 : Cond.static yJ7_fill_53178 ∈ UL := ul_in1 (List.mem_of_getElem? (i := 31) rfl) rfl
theorem ul_1_32 : Cond.code yJ7_fill_53178 cJ7_fill_53178 4 none ∈ UL := ul_in1 (List.mem_of_getElem? (i := 32) rfl) rfl
theorem ul_1_33 : Cond.fieldLink RX4 9 "HeededWishes$House" "roomOf" "[I" ∈ UL := ul_in1 (List.mem_of_getElem? (i := 33) rfl) rfl
theorem ul_1_34 : Cond.fieldLink RX5 83 "HeededWishes$House" "roomOf" "[I" ∈ UL := ul_in1 (List.mem_of_getElem? (i := 34) rfl) rfl
theorem ul_1_35 : Cond.fieldLink RX4 15 "HeededWishes$House" "sortOf" "[I" ∈ UL := ul_in1 (List.mem_of_getElem? (i := 35) rfl) rfl
theorem ul_1_36 : Cond.fieldLink RX5 78 "HeededWishes$House" "sortOf" "[I" ∈ UL := ul_in1 (List.mem_of_getElem? (i := 36) rfl) rfl
theorem ul_1_37 : Cond.fieldLink RX4 18 "HeededWishes$House" "costOf" "[I" ∈ UL := ul_in1 (List.mem_of_getElem? (i := 37) rfl) rfl
theorem ul_1_38 : Cond.fieldLink RX4 21 "HeededWishes$House" "spent" "[I" ∈ UL := ul_in1 (List.mem_of_getElem? (i := 38) rfl) rfl
theorem ul_1_39 : Cond.fieldLink RX8 272 "HeededWishes$House" "spent" "[I" ∈ UL := ul_in1 (List.mem_of_getElem? (i := 39) rfl) rfl
theorem ul_1_40 : Cond.fieldLink RX4 24 "HeededWishes$House" "reason" "[I" ∈ UL := ul_in1 (List.mem_of_getElem? (i := 40) rfl) rfl
theorem ul_1_41 : Cond.fieldLink RX8 275 "HeededWishes$House" "reason" "[I" ∈ UL := ul_in1 (List.mem_of_getElem? (i := 41) rfl) rfl
theorem ul_1_42 : Cond.fieldLink RX4 27 "HeededWishes$House" "whereIs" "[I" ∈ UL := ul_in1 (List.mem_of_getElem? (i := 42) rfl) rfl
theorem ul_1_43 : Cond.fieldLink RX3 107 "HeededWishes$House" "whereIs" "[I" ∈ UL := ul_in1 (List.mem_of_getElem? (i := 43) rfl) rfl
theorem ul_1_44 : Cond.fieldLink RX8 144 "HeededWishes$House" "whereIs" "[I" ∈ UL := ul_in1 (List.mem_of_getElem? (i := 44) rfl) rfl
theorem ul_1_45 : Cond.fieldLink RX4 30 "HeededWishes$House" "crowd" "[I" ∈ UL := ul_in1 (List.mem_of_getElem? (i := 45) rfl) rfl
theorem ul_1_46 : Cond.fieldLink RX5 92 "HeededWishes$House" "crowd" "[I" ∈ UL := ul_in1 (List.mem_of_getElem? (i := 46) rfl) rfl
theorem ul_1_47 : Cond.fieldLink RX4 39 "HeededWishes$House" "things" "I" ∈ UL := ul_in1 (List.mem_of_getElem? (i := 47) rfl) rfl
theorem ul_1_48 : Cond.fieldLink RX8 278 "HeededWishes$House" "things" "I" ∈ UL := ul_in1 (List.mem_of_getElem? (i := 48) rfl) rfl
theorem ul_1_49 : Cond.fieldLink RX2 42 "HeededWishes$House" "states" "I" ∈ UL := ul_in1 (List.mem_of_getElem? (i := 49) rfl) rfl
theorem ul_1_50 : Cond.fieldLink RX8 93 "HeededWishes$House" "states" "I" ∈ UL := ul_in1 (List.mem_of_getElem? (i := 50) rfl) rfl
theorem ul_1_51 : Cond.fieldLink RX4 50 "HeededWishes$House" "states" "I" ∈ UL := ul_in1 (List.mem_of_getElem? (i := 51) rfl) rfl
theorem ul_1_52 : Cond.fieldLink RX6 56 "HeededWishes$House" "states" "I" ∈ UL := ul_in1 (List.mem_of_getElem? (i := 52) rfl) rfl
theorem ul_1_53 : Cond.fieldLink RX3 120 "HeededWishes$House" "states" "I" ∈ UL := ul_in1 (List.mem_of_getElem? (i := 53) rfl) rfl
theorem ul_1_54 : Cond.fieldLink RX4 68 "HeededWishes$House" "hour" "I" ∈ UL := ul_in1 (List.mem_of_getElem? (i := 54) rfl) rfl
theorem ul_1_55 : Cond.fieldLink RX8 242 "HeededWishes$House" "hour" "I" ∈ UL := ul_in1 (List.mem_of_getElem? (i := 55) rfl) rfl
theorem ul_1_78 : Cond.classLink RX8 16 RX5 ∈ UL := ul_in1 (List.mem_of_getElem? (i := 78) rfl) rfl
theorem ul_1_79 : Cond.instantiable RX5 7 ∈ UL := ul_in1 (List.mem_of_getElem? (i := 79) rfl) rfl
theorem ul_1_80 : Cond.methodLink RX8 18 yX5_init ∈ UL := ul_in1 (List.mem_of_getElem? (i := 80) rfl) rfl
theorem ul_1_81 : Cond.instanceMethod yX5_init ∈ UL := ul_in1 (List.mem_of_getElem? (i := 81) rfl) rfl
theorem ul_1_82 : Cond.code yX5_init cX5_init 2 none ∈ UL := ul_in1 (List.mem_of_getElem? (i := 82) rfl) rfl
theorem ul_1_83 : Cond.methodLink RX5 3 objectInit ∈ UL := ul_in1 (List.mem_of_getElem? (i := 83) rfl) rfl
theorem ul_1_84 : Cond.fieldLink RX5 24 "HeededWishes$Rules" "house" "LHeededWishes$House;" ∈ UL := ul_in1 (List.mem_of_getElem? (i := 84) rfl) rfl
theorem ul_1_85 : Cond.fieldLink RX5 9 "HeededWishes$Rules" "text" "[I" ∈ UL := ul_in1 (List.mem_of_getElem? (i := 85) rfl) rfl
theorem ul_1_86 : Cond.fieldLink RX5 15 "HeededWishes$Rules" "numbers" "[I" ∈ UL := ul_in1 (List.mem_of_getElem? (i := 86) rfl) rfl
theorem ul_1_87 : Cond.fieldLink RX5 18 "HeededWishes$Rules" "letterOf" "[I" ∈ UL := ul_in1 (List.mem_of_getElem? (i := 87) rfl) rfl
theorem ul_1_88 : Cond.fieldLink RX5 21 "HeededWishes$Rules" "numbersOf" "[I" ∈ UL := ul_in1 (List.mem_of_getElem? (i := 88) rfl) rfl
theorem ul_1_89 : Cond.fieldLink RX5 28 "HeededWishes$Rules" "length" "I" ∈ UL := ul_in1 (List.mem_of_getElem? (i := 89) rfl) rfl
theorem ul_1_90 : Cond.fieldLink RX8 281 "HeededWishes$Rules" "length" "I" ∈ UL := ul_in1 (List.mem_of_getElem? (i := 90) rfl) rfl
theorem ul_1_91 : Cond.fieldLink RX2 36 "HeededWishes$Rules" "items" "I" ∈ UL := ul_in1 (List.mem_of_getElem? (i := 91) rfl) rfl
theorem ul_1_92 : Cond.fieldLink RX5 40 "HeededWishes$Rules" "items" "I" ∈ UL := ul_in1 (List.mem_of_getElem? (i := 92) rfl) rfl
theorem ul_1_93 : Cond.fieldLink RX8 284 "HeededWishes$Rules" "items" "I" ∈ UL := ul_in1 (List.mem_of_getElem? (i := 93) rfl) rfl
theorem ul_1_109 : Cond.classLink RX8 25 RX7 ∈ UL := ul_in1 (List.mem_of_getElem? (i := 109) rfl) rfl
theorem ul_1_110 : Cond.instantiable RX7 8 ∈ UL := ul_in1 (List.mem_of_getElem? (i := 110) rfl) rfl
theorem ul_1_111 : Cond.methodLink RX8 27 yX7_init ∈ UL := ul_in1 (List.mem_of_getElem? (i := 111) rfl) rfl
theorem ul_1_112 : Cond.instanceMethod yX7_init ∈ UL := ul_in1 (List.mem_of_getElem? (i := 112) rfl) rfl
theorem ul_1_113 : Cond.code yX7_init cX7_init 2 none ∈ UL := ul_in1 (List.mem_of_getElem? (i := 113) rfl) rfl
theorem ul_1_114 : Cond.methodLink RX7 3 objectInit ∈ UL := ul_in1 (List.mem_of_getElem? (i := 114) rfl) rfl
theorem ul_1_115 : Cond.methodLink RX7 30 yJ7_fill_53178 ∈ UL := ul_in1 (List.mem_of_getElem? (i := 115) rfl) rfl
theorem ul_1_116 : Cond.fieldLink RX7 9 "HeededWishes$Vocabulary" "kind" "[I" ∈ UL := ul_in1 (List.mem_of_getElem? (i := 116) rfl) rfl
theorem ul_1_117 : Cond.fieldLink RX3 72 "HeededWishes$Vocabulary" "kind" "[I" ∈ UL := ul_in1 (List.mem_of_getElem? (i := 117) rfl) rfl
theorem ul_1_118 : Cond.fieldLink RX7 15 "HeededWishes$Vocabulary" "number" "[I" ∈ UL := ul_in1 (List.mem_of_getElem? (i := 118) rfl) rfl
theorem ul_1_119 : Cond.fieldLink RX7 18 "HeededWishes$Vocabulary" "soundsIn" "[I" ∈ UL := ul_in1 (List.mem_of_getElem? (i := 119) rfl) rfl
theorem ul_1_120 : Cond.fieldLink RX7 21 "HeededWishes$Vocabulary" "sounds" "[I" ∈ UL := ul_in1 (List.mem_of_getElem? (i := 120) rfl) rfl
theorem ul_1_121 : Cond.fieldLink RX7 24 "HeededWishes$Vocabulary" "doubts" "[I" ∈ UL := ul_in1 (List.mem_of_getElem? (i := 121) rfl) rfl
theorem ul_1_122 : Cond.fieldLink RX7 27 "HeededWishes$Vocabulary" "heard" "[I" ∈ UL := ul_in1 (List.mem_of_getElem? (i := 122) rfl) rfl
theorem ul_1_123 : Cond.fieldLink RX7 36 "HeededWishes$Vocabulary" "size" "I" ∈ UL := ul_in1 (List.mem_of_getElem? (i := 123) rfl) rfl
theorem ul_1_124 : Cond.fieldLink RX3 71 "HeededWishes$Vocabulary" "size" "I" ∈ UL := ul_in1 (List.mem_of_getElem? (i := 124) rfl) rfl
theorem ul_1_125 : Cond.fieldLink RX8 184 "HeededWishes$Vocabulary" "size" "I" ∈ UL := ul_in1 (List.mem_of_getElem? (i := 125) rfl) rfl
theorem ul_1_126 : Cond.fieldLink RX7 40 "HeededWishes$Vocabulary" "heardLength" "I" ∈ UL := ul_in1 (List.mem_of_getElem? (i := 126) rfl) rfl
theorem ul_1_127 : Cond.fieldLink RX3 83 "HeededWishes$Vocabulary" "heardLength" "I" ∈ UL := ul_in1 (List.mem_of_getElem? (i := 127) rfl) rfl
theorem ul_1_145 : Cond.classLink RX8 32 RX3 ∈ UL := ul_in1 (List.mem_of_getElem? (i := 145) rfl) rfl
theorem ul_1_146 : Cond.instantiable RX3 16 ∈ UL := ul_in1 (List.mem_of_getElem? (i := 146) rfl) rfl
theorem ul_1_147 : Cond.methodLink RX8 34 yX3_init ∈ UL := ul_in1 (List.mem_of_getElem? (i := 147) rfl) rfl
theorem ul_1_148 : Cond.instanceMethod yX3_init ∈ UL := ul_in1 (List.mem_of_getElem? (i := 148) rfl) rfl
theorem ul_1_149 : Cond.code yX3_init cX3_init 3 none ∈ UL := ul_in1 (List.mem_of_getElem? (i := 149) rfl) rfl
theorem ul_1_150 : Cond.methodLink RX3 3 objectInit ∈ UL := ul_in1 (List.mem_of_getElem? (i := 150) rfl) rfl
theorem ul_1_151 : Cond.fieldLink RX3 43 "HeededWishes$Hearing" "house" "LHeededWishes$House;" ∈ UL := ul_in1 (List.mem_of_getElem? (i := 151) rfl) rfl
theorem ul_1_152 : Cond.fieldLink RX3 47 "HeededWishes$Hearing" "vocabulary" "LHeededWishes$Vocabulary;" ∈ UL := ul_in1 (List.mem_of_getElem? (i := 152) rfl) rfl
theorem ul_1_153 : Cond.fieldLink RX3 9 "HeededWishes$Hearing" "price" "[I" ∈ UL := ul_in1 (List.mem_of_getElem? (i := 153) rfl) rfl
theorem ul_1_154 : Cond.fieldLink RX3 15 "HeededWishes$Hearing" "verb" "[I" ∈ UL := ul_in1 (List.mem_of_getElem? (i := 154) rfl) rfl
theorem ul_1_155 : Cond.fieldLink RX8 202 "HeededWishes$Hearing" "verb" "[I" ∈ UL := ul_in1 (List.mem_of_getElem? (i := 155) rfl) rfl
theorem ul_1_156 : Cond.fieldLink RX3 18 "HeededWishes$Hearing" "second" "[I" ∈ UL := ul_in1 (List.mem_of_getElem? (i := 156) rfl) rfl
theorem ul_1_157 : Cond.fieldLink RX3 21 "HeededWishes$Hearing" "third" "[I" ∈ UL := ul_in1 (List.mem_of_getElem? (i := 157) rfl) rfl
theorem ul_1_158 : Cond.fieldLink RX3 24 "HeededWishes$Hearing" "meant" "[I" ∈ UL := ul_in1 (List.mem_of_getElem? (i := 158) rfl) rfl
theorem ul_1_159 : Cond.fieldLink RX8 191 "HeededWishes$Hearing" "meant" "[I" ∈ UL := ul_in1 (List.mem_of_getElem? (i := 159) rfl) rfl
theorem ul_1_160 : Cond.fieldLink RX3 27 "HeededWishes$Hearing" "isOpen" "[Z" ∈ UL := ul_in1 (List.mem_of_getElem? (i := 160) rfl) rfl
theorem ul_1_161 : Cond.fieldLink RX3 31 "HeededWishes$Hearing" "nothingTold" "[I" ∈ UL := ul_in1 (List.mem_of_getElem? (i := 161) rfl) rfl
theorem ul_1_162 : Cond.fieldLink RX3 34 "HeededWishes$Hearing" "verbTold" "[I" ∈ UL := ul_in1 (List.mem_of_getElem? (i := 162) rfl) rfl
theorem ul_1_163 : Cond.fieldLink RX3 37 "HeededWishes$Hearing" "secondTold" "[I" ∈ UL := ul_in1 (List.mem_of_getElem? (i := 163) rfl) rfl
theorem ul_1_164 : Cond.fieldLink RX3 40 "HeededWishes$Hearing" "thirdTold" "[I" ∈ UL := ul_in1 (List.mem_of_getElem? (i := 164) rfl) rfl
theorem ul_1_165 : Cond.fieldLink RX3 51 "HeededWishes$Hearing" "heard" "Z" ∈ UL := ul_in1 (List.mem_of_getElem? (i := 165) rfl) rfl
theorem ul_1_166 : Cond.fieldLink RX8 174 "HeededWishes$Hearing" "heard" "Z" ∈ UL := ul_in1 (List.mem_of_getElem? (i := 166) rfl) rfl
theorem ul_1_167 : Cond.fieldLink RX3 55 "HeededWishes$Hearing" "who" "I" ∈ UL := ul_in1 (List.mem_of_getElem? (i := 167) rfl) rfl
theorem ul_1_168 : Cond.fieldLink RX8 306 "HeededWishes$Hearing" "who" "I" ∈ UL := ul_in1 (List.mem_of_getElem? (i := 168) rfl) rfl
theorem ul_1_169 : Cond.fieldLink RX3 59 "HeededWishes$Hearing" "rights" "I" ∈ UL := ul_in1 (List.mem_of_getElem? (i := 169) rfl) rfl
theorem ul_1_170 : Cond.fieldLink RX8 194 "HeededWishes$Hearing" "rights" "I" ∈ UL := ul_in1 (List.mem_of_getElem? (i := 170) rfl) rfl
theorem ul_1_171 : Cond.fieldLink RX3 62 "HeededWishes$Hearing" "size" "I" ∈ UL := ul_in1 (List.mem_of_getElem? (i := 171) rfl) rfl
theorem ul_1_172 : Cond.fieldLink RX8 168 "HeededWishes$Hearing" "size" "I" ∈ UL := ul_in1 (List.mem_of_getElem? (i := 172) rfl) rfl
theorem ul_1_207 : Cond.classLink RX8 41 RX0 ∈ UL := ul_in1 (List.mem_of_getElem? (i := 207) rfl) rfl
theorem ul_1_208 : Cond.instantiable RX0 5 ∈ UL := ul_in1 (List.mem_of_getElem? (i := 208) rfl) rfl
theorem ul_1_210 : Cond.instanceMethod yX0_init ∈ UL := ul_in1 (List.mem_of_getElem? (i := 210) rfl) rfl
theorem ul_1_211 : Cond.code yX0_init cX0_init 1 none ∈ UL := ul_in1 (List.mem_of_getElem? (i := 211) rfl) rfl
theorem ul_1_212 : Cond.methodLink RX0 3 objectInit ∈ UL := ul_in1 (List.mem_of_getElem? (i := 212) rfl) rfl
theorem ul_1_213 : Cond.fieldLink RX0 9 "HeededWishes$Deeds" "changed" "[I" ∈ UL := ul_in1 (List.mem_of_getElem? (i := 213) rfl) rfl
theorem ul_1_214 : Cond.fieldLink RX8 330 "HeededWishes$Deeds" "changed" "[I" ∈ UL := ul_in1 (List.mem_of_getElem? (i := 214) rfl) rfl
theorem ul_1_215 : Cond.fieldLink RX0 15 "HeededWishes$Deeds" "statesAhead" "[I" ∈ UL := ul_in1 (List.mem_of_getElem? (i := 215) rfl) rfl
theorem ul_1_216 : Cond.fieldLink RX8 333 "HeededWishes$Deeds" "statesAhead" "[I" ∈ UL := ul_in1 (List.mem_of_getElem? (i := 216) rfl) rfl
theorem ul_1_217 : Cond.fieldLink RX0 18 "HeededWishes$Deeds" "back" "[Z" ∈ UL := ul_in1 (List.mem_of_getElem? (i := 217) rfl) rfl
theorem ul_1_218 : Cond.fieldLink RX8 326 "HeededWishes$Deeds" "back" "[Z" ∈ UL := ul_in1 (List.mem_of_getElem? (i := 218) rfl) rfl
theorem ul_1_219 : Cond.fieldLink RX0 22 "HeededWishes$Deeds" "size" "I" ∈ UL := ul_in1 (List.mem_of_getElem? (i := 219) rfl) rfl
theorem ul_1_220 : Cond.fieldLink RX8 201 "HeededWishes$Deeds" "size" "I" ∈ UL := ul_in1 (List.mem_of_getElem? (i := 220) rfl) rfl
theorem ul_1_221 : Cond.fieldLink RX0 26 "HeededWishes$Deeds" "lastMeant" "I" ∈ UL := ul_in1 (List.mem_of_getElem? (i := 221) rfl) rfl
theorem ul_1_222 : Cond.fieldLink RX8 159 "HeededWishes$Deeds" "lastMeant" "I" ∈ UL := ul_in1 (List.mem_of_getElem? (i := 222) rfl) rfl
theorem ul_1_234 : Cond.classLink RX8 48 RX6 ∈ UL := ul_in1 (List.mem_of_getElem? (i := 234) rfl) rfl
theorem ul_1_235 : Cond.instantiable RX6 10 ∈ UL := ul_in1 (List.mem_of_getElem? (i := 235) rfl) rfl
theorem ul_1_236 : Cond.methodLink RX8 50 yX6_init ∈ UL := ul_in1 (List.mem_of_getElem? (i := 236) rfl) rfl
theorem ul_1_237 : Cond.instanceMethod yX6_init ∈ UL := ul_in1 (List.mem_of_getElem? (i := 237) rfl) rfl
theorem ul_1_238 : Cond.code yX6_init cX6_init 3 none ∈ UL := ul_in1 (List.mem_of_getElem? (i := 238) rfl) rfl
theorem ul_1_239 : Cond.methodLink RX6 3 objectInit ∈ UL := ul_in1 (List.mem_of_getElem? (i := 239) rfl) rfl
theorem ul_2_0 : Cond.fieldLink RX6 27 "HeededWishes$Standing" "house" "LHeededWishes$House;" ∈ UL := ul_in2 (List.mem_of_getElem? (i := 0) rfl) rfl
theorem ul_2_1 : Cond.fieldLink RX6 31 "HeededWishes$Standing" "rules" "LHeededWishes$Rules;" ∈ UL := ul_in2 (List.mem_of_getElem? (i := 1) rfl) rfl
theorem ul_2_2 : Cond.fieldLink RX6 9 "HeededWishes$Standing" "waitsFor" "[I" ∈ UL := ul_in2 (List.mem_of_getElem? (i := 2) rfl) rfl
theorem ul_2_3 : Cond.fieldLink RX6 15 "HeededWishes$Standing" "waitsTill" "[I" ∈ UL := ul_in2 (List.mem_of_getElem? (i := 3) rfl) rfl
theorem ul_2_4 : Cond.fieldLink RX6 18 "HeededWishes$Standing" "turns" "[I" ∈ UL := ul_in2 (List.mem_of_getElem? (i := 4) rfl) rfl
theorem ul_2_5 : Cond.fieldLink RX6 21 "HeededWishes$Standing" "into" "[I" ∈ UL := ul_in2 (List.mem_of_getElem? (i := 5) rfl) rfl
theorem ul_2_6 : Cond.fieldLink RX6 24 "HeededWishes$Standing" "row" "[I" ∈ UL := ul_in2 (List.mem_of_getElem? (i := 6) rfl) rfl
theorem ul_2_7 : Cond.fieldLink RX6 35 "HeededWishes$Standing" "size" "I" ∈ UL := ul_in2 (List.mem_of_getElem? (i := 7) rfl) rfl
theorem ul_2_8 : Cond.fieldLink RX2 74 "HeededWishes$Standing" "size" "I" ∈ UL := ul_in2 (List.mem_of_getElem? (i := 8) rfl) rfl
theorem ul_2_9 : Cond.fieldLink RX8 287 "HeededWishes$Standing" "size" "I" ∈ UL := ul_in2 (List.mem_of_getElem? (i := 9) rfl) rfl
theorem ul_2_10 : Cond.fieldLink RX6 71 "HeededWishes$Standing" "held" "I" ∈ UL := ul_in2 (List.mem_of_getElem? (i := 10) rfl) rfl
theorem ul_2_11 : Cond.fieldLink RX8 288 "HeededWishes$Standing" "held" "I" ∈ UL := ul_in2 (List.mem_of_getElem? (i := 11) rfl) rfl
theorem ul_2_12 : Cond.fieldLink RX6 39 "HeededWishes$Standing" "rowLength" "I" ∈ UL := ul_in2 (List.mem_of_getElem? (i := 12) rfl) rfl
theorem ul_2_34 : Cond.classLink RX8 57 RX2 ∈ UL := ul_in2 (List.mem_of_getElem? (i := 34) rfl) rfl
theorem ul_2_35 : Cond.instantiable RX2 8 ∈ UL := ul_in2 (List.mem_of_getElem? (i := 35) rfl) rfl
theorem ul_2_36 : Cond.methodLink RX8 59 yX2_init ∈ UL := ul_in2 (List.mem_of_getElem? (i := 36) rfl) rfl
theorem ul_2_37 : Cond.instanceMethod yX2_init ∈ UL := ul_in2 (List.mem_of_getElem? (i := 37) rfl) rfl
theorem ul_2_38 : Cond.code yX2_init cX2_init 4 none ∈ UL := ul_in2 (List.mem_of_getElem? (i := 38) rfl) rfl
theorem ul_2_39 : Cond.methodLink RX2 3 objectInit ∈ UL := ul_in2 (List.mem_of_getElem? (i := 39) rfl) rfl
theorem ul_2_40 : Cond.fieldLink RX2 24 "HeededWishes$Foresight" "house" "LHeededWishes$House;" ∈ UL := ul_in2 (List.mem_of_getElem? (i := 40) rfl) rfl
theorem ul_2_41 : Cond.fieldLink RX2 28 "HeededWishes$Foresight" "rules" "LHeededWishes$Rules;" ∈ UL := ul_in2 (List.mem_of_getElem? (i := 41) rfl) rfl
theorem ul_2_42 : Cond.fieldLink RX2 32 "HeededWishes$Foresight" "standing" "LHeededWishes$Standing;" ∈ UL := ul_in2 (List.mem_of_getElem? (i := 42) rfl) rfl
theorem ul_2_43 : Cond.fieldLink RX2 11 "HeededWishes$Foresight" "firedAt" "[I" ∈ UL := ul_in2 (List.mem_of_getElem? (i := 43) rfl) rfl
theorem ul_2_44 : Cond.fieldLink RX2 15 "HeededWishes$Foresight" "statesAt" "[I" ∈ UL := ul_in2 (List.mem_of_getElem? (i := 44) rfl) rfl
theorem ul_2_45 : Cond.fieldLink RX2 18 "HeededWishes$Foresight" "placeAhead" "[I" ∈ UL := ul_in2 (List.mem_of_getElem? (i := 45) rfl) rfl
theorem ul_2_46 : Cond.fieldLink RX2 21 "HeededWishes$Foresight" "lastPlaceWith" "[I" ∈ UL := ul_in2 (List.mem_of_getElem? (i := 46) rfl) rfl
theorem ul_2_47 : Cond.fieldLink RX2 57 "HeededWishes$Foresight" "reached" "I" ∈ UL := ul_in2 (List.mem_of_getElem? (i := 47) rfl) rfl
theorem ul_2_65 : Cond.classLink RX8 66 RX1 ∈ UL := ul_in2 (List.mem_of_getElem? (i := 65) rfl) rfl
theorem ul_2_66 : Cond.instantiable RX1 8 ∈ UL := ul_in2 (List.mem_of_getElem? (i := 66) rfl) rfl
theorem ul_2_68 : Cond.instanceMethod yX1_init ∈ UL := ul_in2 (List.mem_of_getElem? (i := 68) rfl) rfl
theorem ul_2_69 : Cond.code yX1_init cX1_init 1 none ∈ UL := ul_in2 (List.mem_of_getElem? (i := 69) rfl) rfl
theorem ul_2_70 : Cond.methodLink RX1 3 objectInit ∈ UL := ul_in2 (List.mem_of_getElem? (i := 70) rfl) rfl
theorem ul_2_71 : Cond.fieldLink RX1 9 "HeededWishes$Diary" "who" "[I" ∈ UL := ul_in2 (List.mem_of_getElem? (i := 71) rfl) rfl
theorem ul_2_72 : Cond.fieldLink RX1 15 "HeededWishes$Diary" "day" "[I" ∈ UL := ul_in2 (List.mem_of_getElem? (i := 72) rfl) rfl
theorem ul_2_73 : Cond.fieldLink RX1 18 "HeededWishes$Diary" "hourOfDay" "[I" ∈ UL := ul_in2 (List.mem_of_getElem? (i := 73) rfl) rfl
theorem ul_2_74 : Cond.fieldLink RX1 21 "HeededWishes$Diary" "thing" "[I" ∈ UL := ul_in2 (List.mem_of_getElem? (i := 74) rfl) rfl
theorem ul_2_75 : Cond.fieldLink RX1 24 "HeededWishes$Diary" "state" "[I" ∈ UL := ul_in2 (List.mem_of_getElem? (i := 75) rfl) rfl
theorem ul_2_76 : Cond.fieldLink RX1 27 "HeededWishes$Diary" "daysOf" "[I" ∈ UL := ul_in2 (List.mem_of_getElem? (i := 76) rfl) rfl
theorem ul_2_77 : Cond.fieldLink RX1 30 "HeededWishes$Diary" "size" "I" ∈ UL := ul_in2 (List.mem_of_getElem? (i := 77) rfl) rfl
theorem ul_2_78 : Cond.fieldLink RX8 291 "HeededWishes$Diary" "size" "I" ∈ UL := ul_in2 (List.mem_of_getElem? (i := 78) rfl) rfl
theorem ul_2_79 : Cond.fieldLink RX1 41 "HeededWishes$Diary" "forgotten" "I" ∈ UL := ul_in2 (List.mem_of_getElem? (i := 79) rfl) rfl
theorem ul_2_80 : Cond.fieldLink RX8 292 "HeededWishes$Diary" "forgotten" "I" ∈ UL := ul_in2 (List.mem_of_getElem? (i := 80) rfl) rfl
theorem ul_2_98 : Cond.fieldLink RX8 10 "HeededWishes" "house" "LHeededWishes$House;" ∈ UL := ul_in2 (List.mem_of_getElem? (i := 98) rfl) rfl
theorem ul_2_99 : Cond.fieldLink RX8 21 "HeededWishes" "rules" "LHeededWishes$Rules;" ∈ UL := ul_in2 (List.mem_of_getElem? (i := 99) rfl) rfl
theorem ul_2_100 : Cond.fieldLink RX8 28 "HeededWishes" "vocabulary" "LHeededWishes$Vocabulary;" ∈ UL := ul_in2 (List.mem_of_getElem? (i := 100) rfl) rfl
theorem ul_2_101 : Cond.fieldLink RX8 37 "HeededWishes" "hearing" "LHeededWishes$Hearing;" ∈ UL := ul_in2 (List.mem_of_getElem? (i := 101) rfl) rfl
theorem ul_2_102 : Cond.fieldLink RX8 44 "HeededWishes" "deeds" "LHeededWishes$Deeds;" ∈ UL := ul_in2 (List.mem_of_getElem? (i := 102) rfl) rfl
theorem ul_2_103 : Cond.fieldLink RX8 53 "HeededWishes" "standing" "LHeededWishes$Standing;" ∈ UL := ul_in2 (List.mem_of_getElem? (i := 103) rfl) rfl
theorem ul_2_104 : Cond.fieldLink RX8 62 "HeededWishes" "foresight" "LHeededWishes$Foresight;" ∈ UL := ul_in2 (List.mem_of_getElem? (i := 104) rfl) rfl
theorem ul_2_105 : Cond.fieldLink RX8 69 "HeededWishes" "diary" "LHeededWishes$Diary;" ∈ UL := ul_in2 (List.mem_of_getElem? (i := 105) rfl) rfl
theorem ul_2_106 : Cond.fieldLink RX8 73 "HeededWishes" "bounds" "[I" ∈ UL := ul_in2 (List.mem_of_getElem? (i := 106) rfl) rfl
theorem ul_2_126 : Cond.methodLink RL 13 yX8_thing ∈ UL := ul_in2 (List.mem_of_getElem? (i := 126) rfl) rfl
theorem ul_2_127 : Cond.instanceMethod yX8_thing ∈ UL := ul_in2 (List.mem_of_getElem? (i := 127) rfl) rfl
theorem ul_2_128 : Cond.selects RX8 yX8_thing yX8_thing ∈ UL := ul_in2 (List.mem_of_getElem? (i := 128) rfl) rfl
theorem ul_2_129 : Cond.code yX8_thing cX8_thing 4 (some .int) ∈ UL := ul_in2 (List.mem_of_getElem? (i := 129) rfl) rfl
theorem ul_2_130 : Cond.methodLink RX8 77 yX8_within ∈ UL := ul_in2 (List.mem_of_getElem? (i := 130) rfl) rfl
theorem ul_2_131 : Cond.static yX8_within ∈ UL := ul_in2 (List.mem_of_getElem? (i := 131) rfl) rfl
theorem ul_2_132 : Cond.code yX8_within cX8_within 3 (some .boolean) ∈ UL := ul_in2 (List.mem_of_getElem? (i := 132) rfl) rfl
theorem ul_2_133 : Cond.methodLink RX8 81 yX4_addThing ∈ UL := ul_in2 (List.mem_of_getElem? (i := 133) rfl) rfl
theorem ul_2_134 : Cond.instanceMethod yX4_addThing ∈ UL := ul_in2 (List.mem_of_getElem? (i := 134) rfl) rfl
theorem ul_2_135 : Cond.selects RX4 yX4_addThing yX4_addThing ∈ UL := ul_in2 (List.mem_of_getElem? (i := 135) rfl) rfl
theorem ul_2_136 : Cond.code yX4_addThing cX4_addThing 4 (some .int) ∈ UL := ul_in2 (List.mem_of_getElem? (i := 136) rfl) rfl
theorem ul_2_137 : Cond.methodLink RL 18 yX8_go ∈ UL := ul_in2 (List.mem_of_getElem? (i := 137) rfl) rfl
theorem ul_2_138 : Cond.instanceMethod yX8_go ∈ UL := ul_in2 (List.mem_of_getElem? (i := 138) rfl) rfl
theorem ul_2_139 : Cond.selects RX8 yX8_go yX8_go ∈ UL := ul_in2 (List.mem_of_getElem? (i := 139) rfl) rfl
theorem ul_2_140 : Cond.code yX8_go cX8_go 3 (some .int) ∈ UL := ul_in2 (List.mem_of_getElem? (i := 140) rfl) rfl
theorem ul_2_141 : Cond.methodLink RX8 85 yX4_move ∈ UL := ul_in2 (List.mem_of_getElem? (i := 141) rfl) rfl
theorem ul_2_142 : Cond.instanceMethod yX4_move ∈ UL := ul_in2 (List.mem_of_getElem? (i := 142) rfl) rfl
theorem ul_2_143 : Cond.selects RX4 yX4_move yX4_move ∈ UL := ul_in2 (List.mem_of_getElem? (i := 143) rfl) rfl
theorem ul_2_144 : Cond.code yX4_move cX4_move 4 (some .int) ∈ UL := ul_in2 (List.mem_of_getElem? (i := 144) rfl) rfl
theorem ul_2_145 : Cond.methodLink RL 23 yX8_state ∈ UL := ul_in2 (List.mem_of_getElem? (i := 145) rfl) rfl
theorem ul_2_146 : Cond.instanceMethod yX8_state ∈ UL := ul_in2 (List.mem_of_getElem? (i := 146) rfl) rfl
theorem ul_2_147 : Cond.selects RX8 yX8_state yX8_state ∈ UL := ul_in2 (List.mem_of_getElem? (i := 147) rfl) rfl
theorem ul_2_148 : Cond.code yX8_state cX8_state 2 (some .int) ∈ UL := ul_in2 (List.mem_of_getElem? (i := 148) rfl) rfl
theorem ul_2_149 : Cond.methodLink RX8 89 yX4_isThing ∈ UL := ul_in2 (List.mem_of_getElem? (i := 149) rfl) rfl
theorem ul_2_150 : Cond.instanceMethod yX4_isThing ∈ UL := ul_in2 (List.mem_of_getElem? (i := 150) rfl) rfl
theorem ul_2_151 : Cond.selects RX4 yX4_isThing yX4_isThing ∈ UL := ul_in2 (List.mem_of_getElem? (i := 151) rfl) rfl
theorem ul_2_152 : Cond.code yX4_isThing cX4_isThing 2 (some .boolean) ∈ UL := ul_in2 (List.mem_of_getElem? (i := 152) rfl) rfl
theorem ul_2_153 : Cond.methodLink RX8 97 yX8_stateIn ∈ UL := ul_in2 (List.mem_of_getElem? (i := 153) rfl) rfl
theorem ul_2_154 : Cond.static yX8_stateIn ∈ UL := ul_in2 (List.mem_of_getElem? (i := 154) rfl) rfl
theorem ul_2_155 : Cond.code yX8_stateIn cX8_stateIn 2 (some .int) ∈ UL := ul_in2 (List.mem_of_getElem? (i := 155) rfl) rfl
theorem ul_2_156 : Cond.methodLink RL 28 yX8_doubt ∈ UL := ul_in2 (List.mem_of_getElem? (i := 156) rfl) rfl
theorem ul_2_157 : Cond.instanceMethod yX8_doubt ∈ UL := ul_in2 (List.mem_of_getElem? (i := 157) rfl) rfl
theorem ul_2_158 : Cond.selects RX8 yX8_doubt yX8_doubt ∈ UL := ul_in2 (List.mem_of_getElem? (i := 158) rfl) rfl
theorem ul_2_159 : Cond.code yX8_doubt cX8_doubt 4 (some .int) ∈ UL := ul_in2 (List.mem_of_getElem? (i := 159) rfl) rfl
theorem ul_2_160 : Cond.methodLink RX8 100 yX7_setDoubt ∈ UL := ul_in2 (List.mem_of_getElem? (i := 160) rfl) rfl
theorem ul_2_161 : Cond.instanceMethod yX7_setDoubt ∈ UL := ul_in2 (List.mem_of_getElem? (i := 161) rfl) rfl
theorem ul_2_162 : Cond.selects RX7 yX7_setDoubt yX7_setDoubt ∈ UL := ul_in2 (List.mem_of_getElem? (i := 162) rfl) rfl
theorem ul_2_163 : Cond.code yX7_setDoubt cX7_setDoubt 6 (some .int) ∈ UL := ul_in2 (List.mem_of_getElem? (i := 163) rfl) rfl
theorem ul_2_164 : Cond.methodLink RL 32 yX8_word ∈ UL := ul_in2 (List.mem_of_getElem? (i := 164) rfl) rfl
theorem ul_2_165 : Cond.instanceMethod yX8_word ∈ UL := ul_in2 (List.mem_of_getElem? (i := 165) rfl) rfl
theorem ul_2_166 : Cond.selects RX8 yX8_word yX8_word ∈ UL := ul_in2 (List.mem_of_getElem? (i := 166) rfl) rfl
theorem ul_2_167 : Cond.code yX8_word cX8_word 5 (some .int) ∈ UL := ul_in2 (List.mem_of_getElem? (i := 167) rfl) rfl
theorem ul_2_168 : Cond.fieldLink RX8 103 "HeededWishes" "NUMBERS_OF_KIND" "[I" ∈ UL := ul_in2 (List.mem_of_getElem? (i := 168) rfl) rfl
theorem ul_2_170 : Cond.methodLink RX8 106 yX8_fitsSounds ∈ UL := ul_in2 (List.mem_of_getElem? (i := 170) rfl) rfl
theorem ul_2_171 : Cond.static yX8_fitsSounds ∈ UL := ul_in2 (List.mem_of_getElem? (i := 171) rfl) rfl
theorem ul_2_172 : Cond.code yX8_fitsSounds cX8_fitsSounds 3 (some .boolean) ∈ UL := ul_in2 (List.mem_of_getElem? (i := 172) rfl) rfl
theorem ul_2_173 : Cond.methodLink RX8 110 yX7_addWord ∈ UL := ul_in2 (List.mem_of_getElem? (i := 173) rfl) rfl
theorem ul_2_174 : Cond.instanceMethod yX7_addWord ∈ UL := ul_in2 (List.mem_of_getElem? (i := 174) rfl) rfl
theorem ul_2_175 : Cond.selects RX7 yX7_addWord yX7_addWord ∈ UL := ul_in2 (List.mem_of_getElem? (i := 175) rfl) rfl
theorem ul_2_176 : Cond.code yX7_addWord cX7_addWord 6 (some .int) ∈ UL := ul_in2 (List.mem_of_getElem? (i := 176) rfl) rfl
theorem ul_2_177 : Cond.methodLink RL 37 yX8_rule ∈ UL := ul_in2 (List.mem_of_getElem? (i := 177) rfl) rfl
theorem ul_2_178 : Cond.instanceMethod yX8_rule ∈ UL := ul_in2 (List.mem_of_getElem? (i := 178) rfl) rfl
theorem ul_2_179 : Cond.selects RX8 yX8_rule yX8_rule ∈ UL := ul_in2 (List.mem_of_getElem? (i := 179) rfl) rfl
theorem ul_2_180 : Cond.code yX8_rule cX8_rule 4 (some .int) ∈ UL := ul_in2 (List.mem_of_getElem? (i := 180) rfl) rfl
theorem ul_2_181 : Cond.fieldLink RX8 114 "HeededWishes" "TOP_OF_BOUND" "[I" ∈ UL := ul_in2 (List.mem_of_getElem? (i := 181) rfl) rfl
theorem ul_2_183 : Cond.methodLink RL 43 yX8_write ∈ UL := ul_in2 (List.mem_of_getElem? (i := 183) rfl) rfl
theorem ul_2_184 : Cond.instanceMethod yX8_write ∈ UL := ul_in2 (List.mem_of_getElem? (i := 184) rfl) rfl
theorem ul_2_185 : Cond.selects RX8 yX8_write yX8_write ∈ UL := ul_in2 (List.mem_of_getElem? (i := 185) rfl) rfl
theorem ul_2_186 : Cond.code yX8_write cX8_write 4 (some .int) ∈ UL := ul_in2 (List.mem_of_getElem? (i := 186) rfl) rfl
theorem ul_2_187 : Cond.methodLink RX8 117 yX5_append ∈ UL := ul_in2 (List.mem_of_getElem? (i := 187) rfl) rfl
theorem ul_2_188 : Cond.instanceMethod yX5_append ∈ UL := ul_in2 (List.mem_of_getElem? (i := 188) rfl) rfl
theorem ul_2_189 : Cond.selects RX5 yX5_append yX5_append ∈ UL := ul_in2 (List.mem_of_getElem? (i := 189) rfl) rfl
theorem ul_2_190 : Cond.code yX5_append cX5_append 5 (some .int) ∈ UL := ul_in2 (List.mem_of_getElem? (i := 190) rfl) rfl
theorem ul_2_191 : Cond.methodLink RL 48 yX8_wipe ∈ UL := ul_in2 (List.mem_of_getElem? (i := 191) rfl) rfl
theorem ul_2_192 : Cond.instanceMethod yX8_wipe ∈ UL := ul_in2 (List.mem_of_getElem? (i := 192) rfl) rfl
theorem ul_2_193 : Cond.selects RX8 yX8_wipe yX8_wipe ∈ UL := ul_in2 (List.mem_of_getElem? (i := 193) rfl) rfl
theorem ul_2_194 : Cond.code yX8_wipe cX8_wipe 1 (some .int) ∈ UL := ul_in2 (List.mem_of_getElem? (i := 194) rfl) rfl
theorem ul_2_195 : Cond.methodLink RX8 121 yX5_clearText ∈ UL := ul_in2 (List.mem_of_getElem? (i := 195) rfl) rfl
theorem ul_2_196 : Cond.instanceMethod yX5_clearText ∈ UL := ul_in2 (List.mem_of_getElem? (i := 196) rfl) rfl
theorem ul_2_197 : Cond.selects RX5 yX5_clearText yX5_clearText ∈ UL := ul_in2 (List.mem_of_getElem? (i := 197) rfl) rfl
theorem ul_2_198 : Cond.code yX5_clearText cX5_clearText 2 (some .int) ∈ UL := ul_in2 (List.mem_of_getElem? (i := 198) rfl) rfl
theorem ul_2_199 : Cond.methodLink RL 53 yX8_fault ∈ UL := ul_in2 (List.mem_of_getElem? (i := 199) rfl) rfl
theorem ul_2_200 : Cond.instanceMethod yX8_fault ∈ UL := ul_in2 (List.mem_of_getElem? (i := 200) rfl) rfl
theorem ul_2_201 : Cond.selects RX8 yX8_fault yX8_fault ∈ UL := ul_in2 (List.mem_of_getElem? (i := 201) rfl) rfl
theorem ul_2_202 : Cond.code yX8_fault cX8_fault 1 (some .int) ∈ UL := ul_in2 (List.mem_of_getElem? (i := 202) rfl) rfl
theorem ul_2_203 : Cond.methodLink RX8 125 yX5_firstFault ∈ UL := ul_in2 (List.mem_of_getElem? (i := 203) rfl) rfl
theorem ul_2_204 : Cond.instanceMethod yX5_firstFault ∈ UL := ul_in2 (List.mem_of_getElem? (i := 204) rfl) rfl
theorem ul_2_205 : Cond.selects RX5 yX5_firstFault yX5_firstFault ∈ UL := ul_in2 (List.mem_of_getElem? (i := 205) rfl) rfl
theorem ul_2_206 : Cond.code yX5_firstFault cX5_firstFault 4 (some .int) ∈ UL := ul_in2 (List.mem_of_getElem? (i := 206) rfl) rfl
theorem ul_2_207 : Cond.methodLink RX5 32 yX5_readItem ∈ UL := ul_in2 (List.mem_of_getElem? (i := 207) rfl) rfl
theorem ul_2_209 : Cond.instanceMethod yX5_readItem ∈ UL := ul_in2 (List.mem_of_getElem? (i := 209) rfl) rfl
theorem ul_2_210 : Cond.code yX5_readItem cX5_readItem 7 (some .int) ∈ UL := ul_in2 (List.mem_of_getElem? (i := 210) rfl) rfl
theorem ul_2_211 : Cond.methodLink RX5 49 yX5_numbersWanted ∈ UL := ul_in2 (List.mem_of_getElem? (i := 211) rfl) rfl
theorem ul_2_212 : Cond.static yX5_numbersWanted ∈ UL := ul_in2 (List.mem_of_getElem? (i := 212) rfl) rfl
theorem ul_2_213 : Cond.code yX5_numbersWanted cX5_numbersWanted 1 (some .int) ∈ UL := ul_in2 (List.mem_of_getElem? (i := 213) rfl) rfl
theorem ul_2_214 : Cond.methodLink RX5 52 yX5_figuresAt ∈ UL := ul_in2 (List.mem_of_getElem? (i := 214) rfl) rfl
theorem ul_2_216 : Cond.instanceMethod yX5_figuresAt ∈ UL := ul_in2 (List.mem_of_getElem? (i := 216) rfl) rfl
theorem ul_2_217 : Cond.code yX5_figuresAt cX5_figuresAt 2 (some .int) ∈ UL := ul_in2 (List.mem_of_getElem? (i := 217) rfl) rfl
theorem ul_2_218 : Cond.methodLink RX5 63 yX5_isFigure ∈ UL := ul_in2 (List.mem_of_getElem? (i := 218) rfl) rfl
theorem ul_2_220 : Cond.instanceMethod yX5_isFigure ∈ UL := ul_in2 (List.mem_of_getElem? (i := 220) rfl) rfl
theorem ul_2_221 : Cond.code yX5_isFigure cX5_isFigure 2 (some .boolean) ∈ UL := ul_in2 (List.mem_of_getElem? (i := 221) rfl) rfl
theorem ul_2_222 : Cond.methodLink RX5 55 yX5_valueAt ∈ UL := ul_in2 (List.mem_of_getElem? (i := 222) rfl) rfl
theorem ul_2_224 : Cond.instanceMethod yX5_valueAt ∈ UL := ul_in2 (List.mem_of_getElem? (i := 224) rfl) rfl
theorem ul_2_225 : Cond.code yX5_valueAt cX5_valueAt 4 (some .int) ∈ UL := ul_in2 (List.mem_of_getElem? (i := 225) rfl) rfl
theorem ul_2_226 : Cond.methodLink RX5 59 yX5_numbersFit ∈ UL := ul_in2 (List.mem_of_getElem? (i := 226) rfl) rfl
theorem ul_2_228 : Cond.instanceMethod yX5_numbersFit ∈ UL := ul_in2 (List.mem_of_getElem? (i := 228) rfl) rfl
theorem ul_2_229 : Cond.code yX5_numbersFit cX5_numbersFit 2 (some .boolean) ∈ UL := ul_in2 (List.mem_of_getElem? (i := 229) rfl) rfl
theorem ul_2_230 : Cond.methodLink RX5 66 yX5_isBarrable ∈ UL := ul_in2 (List.mem_of_getElem? (i := 230) rfl) rfl
theorem ul_2_231 : Cond.static yX5_isBarrable ∈ UL := ul_in2 (List.mem_of_getElem? (i := 231) rfl) rfl
theorem ul_2_232 : Cond.code yX5_isBarrable cX5_isBarrable 2 (some .boolean) ∈ UL := ul_in2 (List.mem_of_getElem? (i := 232) rfl) rfl
theorem ul_2_234 : Cond.methodLink RL 57 yX8_force ∈ UL := ul_in2 (List.mem_of_getElem? (i := 234) rfl) rfl
theorem ul_2_235 : Cond.instanceMethod yX8_force ∈ UL := ul_in2 (List.mem_of_getElem? (i := 235) rfl) rfl
theorem ul_2_236 : Cond.selects RX8 yX8_force yX8_force ∈ UL := ul_in2 (List.mem_of_getElem? (i := 236) rfl) rfl
theorem ul_2_237 : Cond.code yX8_force cX8_force 1 (some .int) ∈ UL := ul_in2 (List.mem_of_getElem? (i := 237) rfl) rfl
theorem ul_2_238 : Cond.methodLink RX8 128 yX5_putInForce ∈ UL := ul_in2 (List.mem_of_getElem? (i := 238) rfl) rfl
theorem ul_2_239 : Cond.instanceMethod yX5_putInForce ∈ UL := ul_in2 (List.mem_of_getElem? (i := 239) rfl) rfl
theorem ul_3_0 : Cond.selects RX5 yX5_putInForce yX5_putInForce ∈ UL := ul_in3 (List.mem_of_getElem? (i := 0) rfl) rfl
theorem ul_3_1 : Cond.code yX5_putInForce cX5_putInForce 4 (some .int) ∈ UL := ul_in3 (List.mem_of_getElem? (i := 1) rfl) rfl
theorem ul_3_2 : Cond.methodLink RX5 36 yX5_firstFault ∈ UL := ul_in3 (List.mem_of_getElem? (i := 2) rfl) rfl
theorem ul_3_3 : Cond.methodLink RX5 43 arraycopyName ∈ UL := ul_in3 (List.mem_of_getElem? (i := 3) rfl) rfl
theorem ul_3_4 : Cond.static arraycopyName ∈ UL := ul_in3 (List.mem_of_getElem? (i := 4) rfl) rfl
theorem ul_3_5 : Cond.native arraycopyName ∈ UL := ul_in3 (List.mem_of_getElem? (i := 5) rfl) rfl
theorem ul_3_6 : Cond.methodLink RL 61 yX8_may ∈ UL := ul_in3 (List.mem_of_getElem? (i := 6) rfl) rfl
theorem ul_3_7 : Cond.instanceMethod yX8_may ∈ UL := ul_in3 (List.mem_of_getElem? (i := 7) rfl) rfl
theorem ul_3_8 : Cond.selects RX8 yX8_may yX8_may ∈ UL := ul_in3 (List.mem_of_getElem? (i := 8) rfl) rfl
theorem ul_3_9 : Cond.code yX8_may cX8_may 4 (some .int) ∈ UL := ul_in3 (List.mem_of_getElem? (i := 9) rfl) rfl
theorem ul_3_10 : Cond.methodLink RX8 131 yX5_lets ∈ UL := ul_in3 (List.mem_of_getElem? (i := 10) rfl) rfl
theorem ul_3_11 : Cond.instanceMethod yX5_lets ∈ UL := ul_in3 (List.mem_of_getElem? (i := 11) rfl) rfl
theorem ul_3_12 : Cond.selects RX5 yX5_lets yX5_lets ∈ UL := ul_in3 (List.mem_of_getElem? (i := 12) rfl) rfl
theorem ul_3_13 : Cond.code yX5_lets cX5_lets 5 (some .boolean) ∈ UL := ul_in3 (List.mem_of_getElem? (i := 13) rfl) rfl
theorem ul_3_14 : Cond.methodLink RX5 74 yX5_letsByItem ∈ UL := ul_in3 (List.mem_of_getElem? (i := 14) rfl) rfl
theorem ul_3_16 : Cond.instanceMethod yX5_letsByItem ∈ UL := ul_in3 (List.mem_of_getElem? (i := 16) rfl) rfl
theorem ul_3_17 : Cond.code yX5_letsByItem cX5_letsByItem 7 (some .boolean) ∈ UL := ul_in3 (List.mem_of_getElem? (i := 17) rfl) rfl
theorem ul_3_18 : Cond.methodLink RL 65 yX8_barred ∈ UL := ul_in3 (List.mem_of_getElem? (i := 18) rfl) rfl
theorem ul_3_19 : Cond.instanceMethod yX8_barred ∈ UL := ul_in3 (List.mem_of_getElem? (i := 19) rfl) rfl
theorem ul_3_20 : Cond.selects RX8 yX8_barred yX8_barred ∈ UL := ul_in3 (List.mem_of_getElem? (i := 20) rfl) rfl
theorem ul_3_21 : Cond.code yX8_barred cX8_barred 1 (some .int) ∈ UL := ul_in3 (List.mem_of_getElem? (i := 21) rfl) rfl
theorem ul_3_22 : Cond.methodLink RX8 134 yX5_barring ∈ UL := ul_in3 (List.mem_of_getElem? (i := 22) rfl) rfl
theorem ul_3_23 : Cond.instanceMethod yX5_barring ∈ UL := ul_in3 (List.mem_of_getElem? (i := 23) rfl) rfl
theorem ul_3_24 : Cond.selects RX5 yX5_barring yX5_barring ∈ UL := ul_in3 (List.mem_of_getElem? (i := 24) rfl) rfl
theorem ul_3_25 : Cond.code yX5_barring cX5_barring 5 (some .long) ∈ UL := ul_in3 (List.mem_of_getElem? (i := 25) rfl) rfl
theorem ul_3_26 : Cond.methodLink RX5 86 yX5_barsByItem ∈ UL := ul_in3 (List.mem_of_getElem? (i := 26) rfl) rfl
theorem ul_3_28 : Cond.instanceMethod yX5_barsByItem ∈ UL := ul_in3 (List.mem_of_getElem? (i := 28) rfl) rfl
theorem ul_3_29 : Cond.code yX5_barsByItem cX5_barsByItem 5 (some .boolean) ∈ UL := ul_in3 (List.mem_of_getElem? (i := 29) rfl) rfl
theorem ul_3_31 : Cond.methodLink RX8 138 yJ13_bitCount_95d88 ∈ UL := ul_in3 (List.mem_of_getElem? (i := 31) rfl) rfl
theorem ul_3_32 : Cond.static yJ13_bitCount_95d88 ∈ UL := ul_in3 (List.mem_of_getElem? (i := 32) rfl) rfl
theorem ul_3_33 : Cond.code yJ13_bitCount_95d88 cJ13_bitCount_95d88 2 (some .int) ∈ UL := ul_in3 (List.mem_of_getElem? (i := 33) rfl) rfl
theorem ul_3_34 : Cond.constantLong RJ13 314 (Int64.ofInt (6148914691236517205)) ∈ UL := ul_in3 (List.mem_of_getElem? (i := 34) rfl) rfl
theorem ul_3_35 : Cond.constantLong RJ13 316 (Int64.ofInt (3689348814741910323)) ∈ UL := ul_in3 (List.mem_of_getElem? (i := 35) rfl) rfl
theorem ul_3_36 : Cond.constantLong RJ13 318 (Int64.ofInt (1085102592571150095)) ∈ UL := ul_in3 (List.mem_of_getElem? (i := 36) rfl) rfl
theorem ul_3_37 : Cond.methodLink RL 69 yX8_hear ∈ UL := ul_in3 (List.mem_of_getElem? (i := 37) rfl) rfl
theorem ul_3_38 : Cond.instanceMethod yX8_hear ∈ UL := ul_in3 (List.mem_of_getElem? (i := 38) rfl) rfl
theorem ul_3_39 : Cond.selects RX8 yX8_hear yX8_hear ∈ UL := ul_in3 (List.mem_of_getElem? (i := 39) rfl) rfl
theorem ul_3_40 : Cond.code yX8_hear cX8_hear 6 (some .int) ∈ UL := ul_in3 (List.mem_of_getElem? (i := 40) rfl) rfl
theorem ul_3_41 : Cond.methodLink RX8 147 yX7_listen ∈ UL := ul_in3 (List.mem_of_getElem? (i := 41) rfl) rfl
theorem ul_3_42 : Cond.instanceMethod yX7_listen ∈ UL := ul_in3 (List.mem_of_getElem? (i := 42) rfl) rfl
theorem ul_3_43 : Cond.selects RX7 yX7_listen yX7_listen ∈ UL := ul_in3 (List.mem_of_getElem? (i := 43) rfl) rfl
theorem ul_3_44 : Cond.code yX7_listen cX7_listen 5 none ∈ UL := ul_in3 (List.mem_of_getElem? (i := 44) rfl) rfl
theorem ul_3_45 : Cond.methodLink RX8 151 yX3_begin ∈ UL := ul_in3 (List.mem_of_getElem? (i := 45) rfl) rfl
theorem ul_3_46 : Cond.instanceMethod yX3_begin ∈ UL := ul_in3 (List.mem_of_getElem? (i := 46) rfl) rfl
theorem ul_3_47 : Cond.selects RX3 yX3_begin yX3_begin ∈ UL := ul_in3 (List.mem_of_getElem? (i := 47) rfl) rfl
theorem ul_3_48 : Cond.code yX3_begin cX3_begin 3 none ∈ UL := ul_in3 (List.mem_of_getElem? (i := 48) rfl) rfl
theorem ul_3_49 : Cond.methodLink RX8 155 yX3_findReadings ∈ UL := ul_in3 (List.mem_of_getElem? (i := 49) rfl) rfl
theorem ul_3_50 : Cond.instanceMethod yX3_findReadings ∈ UL := ul_in3 (List.mem_of_getElem? (i := 50) rfl) rfl
theorem ul_3_51 : Cond.selects RX3 yX3_findReadings yX3_findReadings ∈ UL := ul_in3 (List.mem_of_getElem? (i := 51) rfl) rfl
theorem ul_3_52 : Cond.code yX3_findReadings cX3_findReadings 3 none ∈ UL := ul_in3 (List.mem_of_getElem? (i := 52) rfl) rfl
theorem ul_3_53 : Cond.methodLink RX3 65 yX7_priceNothing ∈ UL := ul_in3 (List.mem_of_getElem? (i := 53) rfl) rfl
theorem ul_3_54 : Cond.instanceMethod yX7_priceNothing ∈ UL := ul_in3 (List.mem_of_getElem? (i := 54) rfl) rfl
theorem ul_3_55 : Cond.selects RX7 yX7_priceNothing yX7_priceNothing ∈ UL := ul_in3 (List.mem_of_getElem? (i := 55) rfl) rfl
theorem ul_3_56 : Cond.code yX7_priceNothing cX7_priceNothing 3 none ∈ UL := ul_in3 (List.mem_of_getElem? (i := 56) rfl) rfl
theorem ul_3_57 : Cond.methodLink RX3 75 yX7_priceWithWord ∈ UL := ul_in3 (List.mem_of_getElem? (i := 57) rfl) rfl
theorem ul_3_58 : Cond.instanceMethod yX7_priceWithWord ∈ UL := ul_in3 (List.mem_of_getElem? (i := 58) rfl) rfl
theorem ul_3_59 : Cond.selects RX7 yX7_priceWithWord yX7_priceWithWord ∈ UL := ul_in3 (List.mem_of_getElem? (i := 59) rfl) rfl
theorem ul_3_60 : Cond.code yX7_priceWithWord cX7_priceWithWord 5 none ∈ UL := ul_in3 (List.mem_of_getElem? (i := 60) rfl) rfl
theorem ul_3_61 : Cond.methodLink RX7 43 arraycopyName ∈ UL := ul_in3 (List.mem_of_getElem? (i := 61) rfl) rfl
theorem ul_3_62 : Cond.methodLink RX7 49 yX7_priceWithSound ∈ UL := ul_in3 (List.mem_of_getElem? (i := 62) rfl) rfl
theorem ul_3_64 : Cond.instanceMethod yX7_priceWithSound ∈ UL := ul_in3 (List.mem_of_getElem? (i := 64) rfl) rfl
theorem ul_3_65 : Cond.code yX7_priceWithSound cX7_priceWithSound 7 none ∈ UL := ul_in3 (List.mem_of_getElem? (i := 65) rfl) rfl
theorem ul_3_66 : Cond.methodLink RX7 52 yJ9_min_7cf53 ∈ UL := ul_in3 (List.mem_of_getElem? (i := 66) rfl) rfl
theorem ul_3_67 : Cond.static yJ9_min_7cf53 ∈ UL := ul_in3 (List.mem_of_getElem? (i := 67) rfl) rfl
theorem ul_3_68 : Cond.code yJ9_min_7cf53 cJ9_min_7cf53 2 (some .int) ∈ UL := ul_in3 (List.mem_of_getElem? (i := 68) rfl) rfl
theorem ul_3_69 : Cond.methodLink RX3 79 yX3_offerWithVerb ∈ UL := ul_in3 (List.mem_of_getElem? (i := 69) rfl) rfl
theorem ul_3_71 : Cond.instanceMethod yX3_offerWithVerb ∈ UL := ul_in3 (List.mem_of_getElem? (i := 71) rfl) rfl
theorem ul_3_72 : Cond.code yX3_offerWithVerb cX3_offerWithVerb 6 none ∈ UL := ul_in3 (List.mem_of_getElem? (i := 72) rfl) rfl
theorem ul_3_73 : Cond.methodLink RX3 86 yX3_offer ∈ UL := ul_in3 (List.mem_of_getElem? (i := 73) rfl) rfl
theorem ul_3_75 : Cond.instanceMethod yX3_offer ∈ UL := ul_in3 (List.mem_of_getElem? (i := 75) rfl) rfl
theorem ul_3_76 : Cond.code yX3_offer cX3_offer 7 none ∈ UL := ul_in3 (List.mem_of_getElem? (i := 76) rfl) rfl
theorem ul_3_77 : Cond.methodLink RX3 90 yX3_offerWithSort ∈ UL := ul_in3 (List.mem_of_getElem? (i := 77) rfl) rfl
theorem ul_3_79 : Cond.instanceMethod yX3_offerWithSort ∈ UL := ul_in3 (List.mem_of_getElem? (i := 79) rfl) rfl
theorem ul_3_80 : Cond.code yX3_offerWithSort cX3_offerWithSort 6 none ∈ UL := ul_in3 (List.mem_of_getElem? (i := 80) rfl) rfl
theorem ul_3_81 : Cond.methodLink RX8 162 yX3_findMeant ∈ UL := ul_in3 (List.mem_of_getElem? (i := 81) rfl) rfl
theorem ul_3_82 : Cond.instanceMethod yX3_findMeant ∈ UL := ul_in3 (List.mem_of_getElem? (i := 82) rfl) rfl
theorem ul_3_83 : Cond.selects RX3 yX3_findMeant yX3_findMeant ∈ UL := ul_in3 (List.mem_of_getElem? (i := 83) rfl) rfl
theorem ul_3_84 : Cond.code yX3_findMeant cX3_findMeant 4 none ∈ UL := ul_in3 (List.mem_of_getElem? (i := 84) rfl) rfl
theorem ul_3_85 : Cond.methodLink RX3 94 yX3_thingsNamed ∈ UL := ul_in3 (List.mem_of_getElem? (i := 85) rfl) rfl
theorem ul_3_87 : Cond.instanceMethod yX3_thingsNamed ∈ UL := ul_in3 (List.mem_of_getElem? (i := 87) rfl) rfl
theorem ul_3_88 : Cond.code yX3_thingsNamed cX3_thingsNamed 3 (some .int) ∈ UL := ul_in3 (List.mem_of_getElem? (i := 88) rfl) rfl
theorem ul_3_89 : Cond.methodLink RX3 98 yX7_numberOf ∈ UL := ul_in3 (List.mem_of_getElem? (i := 89) rfl) rfl
theorem ul_3_90 : Cond.instanceMethod yX7_numberOf ∈ UL := ul_in3 (List.mem_of_getElem? (i := 90) rfl) rfl
theorem ul_3_91 : Cond.selects RX7 yX7_numberOf yX7_numberOf ∈ UL := ul_in3 (List.mem_of_getElem? (i := 91) rfl) rfl
theorem ul_3_92 : Cond.code yX7_numberOf cX7_numberOf 2 (some .int) ∈ UL := ul_in3 (List.mem_of_getElem? (i := 92) rfl) rfl
theorem ul_3_93 : Cond.methodLink RX3 110 yX4_thingsThere ∈ UL := ul_in3 (List.mem_of_getElem? (i := 93) rfl) rfl
theorem ul_3_94 : Cond.instanceMethod yX4_thingsThere ∈ UL := ul_in3 (List.mem_of_getElem? (i := 94) rfl) rfl
theorem ul_3_95 : Cond.selects RX4 yX4_thingsThere yX4_thingsThere ∈ UL := ul_in3 (List.mem_of_getElem? (i := 95) rfl) rfl
theorem ul_3_96 : Cond.code yX4_thingsThere cX4_thingsThere 5 (some .int) ∈ UL := ul_in3 (List.mem_of_getElem? (i := 96) rfl) rfl
theorem ul_3_97 : Cond.methodLink RX3 101 yX4_thingsThatCanBe ∈ UL := ul_in3 (List.mem_of_getElem? (i := 97) rfl) rfl
theorem ul_3_98 : Cond.instanceMethod yX4_thingsThatCanBe ∈ UL := ul_in3 (List.mem_of_getElem? (i := 98) rfl) rfl
theorem ul_3_99 : Cond.selects RX4 yX4_thingsThatCanBe yX4_thingsThatCanBe ∈ UL := ul_in3 (List.mem_of_getElem? (i := 99) rfl) rfl
theorem ul_3_100 : Cond.code yX4_thingsThatCanBe cX4_thingsThatCanBe 5 (some .int) ∈ UL := ul_in3 (List.mem_of_getElem? (i := 100) rfl) rfl
theorem ul_3_102 : Cond.static yX8_isIn ∈ UL := ul_in3 (List.mem_of_getElem? (i := 102) rfl) rfl
theorem ul_3_103 : Cond.code yX8_isIn cX8_isIn 2 (some .boolean) ∈ UL := ul_in3 (List.mem_of_getElem? (i := 103) rfl) rfl
theorem ul_3_104 : Cond.methodLink RX4 65 yX4_canBe ∈ UL := ul_in3 (List.mem_of_getElem? (i := 104) rfl) rfl
theorem ul_3_105 : Cond.instanceMethod yX4_canBe ∈ UL := ul_in3 (List.mem_of_getElem? (i := 105) rfl) rfl
theorem ul_3_106 : Cond.selects RX4 yX4_canBe yX4_canBe ∈ UL := ul_in3 (List.mem_of_getElem? (i := 106) rfl) rfl
theorem ul_3_107 : Cond.code yX4_canBe cX4_canBe 3 (some .boolean) ∈ UL := ul_in3 (List.mem_of_getElem? (i := 107) rfl) rfl
theorem ul_3_108 : Cond.methodLink RX4 43 yX4_isThing ∈ UL := ul_in3 (List.mem_of_getElem? (i := 108) rfl) rfl
theorem ul_3_111 : Cond.methodLink RX8 165 yX3_findOpen ∈ UL := ul_in3 (List.mem_of_getElem? (i := 111) rfl) rfl
theorem ul_3_112 : Cond.instanceMethod yX3_findOpen ∈ UL := ul_in3 (List.mem_of_getElem? (i := 112) rfl) rfl
theorem ul_3_113 : Cond.selects RX3 yX3_findOpen yX3_findOpen ∈ UL := ul_in3 (List.mem_of_getElem? (i := 113) rfl) rfl
theorem ul_3_114 : Cond.code yX3_findOpen cX3_findOpen 5 none ∈ UL := ul_in3 (List.mem_of_getElem? (i := 114) rfl) rfl
theorem ul_3_115 : Cond.methodLink RL 74 yX8_reading ∈ UL := ul_in3 (List.mem_of_getElem? (i := 115) rfl) rfl
theorem ul_3_116 : Cond.instanceMethod yX8_reading ∈ UL := ul_in3 (List.mem_of_getElem? (i := 116) rfl) rfl
theorem ul_3_117 : Cond.selects RX8 yX8_reading yX8_reading ∈ UL := ul_in3 (List.mem_of_getElem? (i := 117) rfl) rfl
theorem ul_3_118 : Cond.code yX8_reading cX8_reading 3 (some .int) ∈ UL := ul_in3 (List.mem_of_getElem? (i := 118) rfl) rfl
theorem ul_3_119 : Cond.methodLink RX8 171 yX3_tell ∈ UL := ul_in3 (List.mem_of_getElem? (i := 119) rfl) rfl
theorem ul_3_120 : Cond.instanceMethod yX3_tell ∈ UL := ul_in3 (List.mem_of_getElem? (i := 120) rfl) rfl
theorem ul_3_121 : Cond.selects RX3 yX3_tell yX3_tell ∈ UL := ul_in3 (List.mem_of_getElem? (i := 121) rfl) rfl
theorem ul_3_122 : Cond.code yX3_tell cX3_tell 3 (some .int) ∈ UL := ul_in3 (List.mem_of_getElem? (i := 122) rfl) rfl
theorem ul_3_123 : Cond.methodLink RL 78 yX8_open ∈ UL := ul_in3 (List.mem_of_getElem? (i := 123) rfl) rfl
theorem ul_3_124 : Cond.instanceMethod yX8_open ∈ UL := ul_in3 (List.mem_of_getElem? (i := 124) rfl) rfl
theorem ul_3_125 : Cond.selects RX8 yX8_open yX8_open ∈ UL := ul_in3 (List.mem_of_getElem? (i := 125) rfl) rfl
theorem ul_3_126 : Cond.code yX8_open cX8_open 1 (some .int) ∈ UL := ul_in3 (List.mem_of_getElem? (i := 126) rfl) rfl
theorem ul_3_127 : Cond.methodLink RX8 178 yX3_unlike ∈ UL := ul_in3 (List.mem_of_getElem? (i := 127) rfl) rfl
theorem ul_3_128 : Cond.instanceMethod yX3_unlike ∈ UL := ul_in3 (List.mem_of_getElem? (i := 128) rfl) rfl
theorem ul_3_129 : Cond.selects RX3 yX3_unlike yX3_unlike ∈ UL := ul_in3 (List.mem_of_getElem? (i := 129) rfl) rfl
theorem ul_3_130 : Cond.code yX3_unlike cX3_unlike 3 (some .int) ∈ UL := ul_in3 (List.mem_of_getElem? (i := 130) rfl) rfl
theorem ul_3_131 : Cond.methodLink RX3 113 yX3_isFirstToDoSo ∈ UL := ul_in3 (List.mem_of_getElem? (i := 131) rfl) rfl
theorem ul_3_133 : Cond.instanceMethod yX3_isFirstToDoSo ∈ UL := ul_in3 (List.mem_of_getElem? (i := 133) rfl) rfl
theorem ul_3_134 : Cond.code yX3_isFirstToDoSo cX3_isFirstToDoSo 4 (some .boolean) ∈ UL := ul_in3 (List.mem_of_getElem? (i := 134) rfl) rfl
theorem ul_3_135 : Cond.methodLink RX3 117 yX3_statesBy ∈ UL := ul_in3 (List.mem_of_getElem? (i := 135) rfl) rfl
theorem ul_3_137 : Cond.instanceMethod yX3_statesBy ∈ UL := ul_in3 (List.mem_of_getElem? (i := 137) rfl) rfl
theorem ul_3_138 : Cond.code yX3_statesBy cX3_statesBy 2 (some .int) ∈ UL := ul_in3 (List.mem_of_getElem? (i := 138) rfl) rfl
theorem ul_3_140 : Cond.static yX8_withAll ∈ UL := ul_in3 (List.mem_of_getElem? (i := 140) rfl) rfl
theorem ul_3_141 : Cond.code yX8_withAll cX8_withAll 5 (some .int) ∈ UL := ul_in3 (List.mem_of_getElem? (i := 141) rfl) rfl
theorem ul_3_142 : Cond.methodLink RX8 295 yX8_isIn ∈ UL := ul_in3 (List.mem_of_getElem? (i := 142) rfl) rfl
theorem ul_3_143 : Cond.methodLink RX8 336 yX8_with ∈ UL := ul_in3 (List.mem_of_getElem? (i := 143) rfl) rfl
theorem ul_3_144 : Cond.static yX8_with ∈ UL := ul_in3 (List.mem_of_getElem? (i := 144) rfl) rfl
theorem ul_3_145 : Cond.code yX8_with cX8_with 3 (some .int) ∈ UL := ul_in3 (List.mem_of_getElem? (i := 145) rfl) rfl
theorem ul_3_146 : Cond.methodLink RL 82 yX8_ask ∈ UL := ul_in3 (List.mem_of_getElem? (i := 146) rfl) rfl
theorem ul_3_147 : Cond.instanceMethod yX8_ask ∈ UL := ul_in3 (List.mem_of_getElem? (i := 147) rfl) rfl
theorem ul_3_148 : Cond.selects RX8 yX8_ask yX8_ask ∈ UL := ul_in3 (List.mem_of_getElem? (i := 148) rfl) rfl
theorem ul_3_149 : Cond.code yX8_ask cX8_ask 1 (some .int) ∈ UL := ul_in3 (List.mem_of_getElem? (i := 149) rfl) rfl
theorem ul_3_150 : Cond.methodLink RX8 181 yX3_partToAsk ∈ UL := ul_in3 (List.mem_of_getElem? (i := 150) rfl) rfl
theorem ul_3_151 : Cond.instanceMethod yX3_partToAsk ∈ UL := ul_in3 (List.mem_of_getElem? (i := 151) rfl) rfl
theorem ul_3_152 : Cond.selects RX3 yX3_partToAsk yX3_partToAsk ∈ UL := ul_in3 (List.mem_of_getElem? (i := 152) rfl) rfl
theorem ul_3_153 : Cond.code yX3_partToAsk cX3_partToAsk 3 (some .int) ∈ UL := ul_in3 (List.mem_of_getElem? (i := 153) rfl) rfl
theorem ul_3_154 : Cond.methodLink RX3 131 yX3_greatestWithOneAnswer ∈ UL := ul_in3 (List.mem_of_getElem? (i := 154) rfl) rfl
theorem ul_3_156 : Cond.instanceMethod yX3_greatestWithOneAnswer ∈ UL := ul_in3 (List.mem_of_getElem? (i := 156) rfl) rfl
theorem ul_3_157 : Cond.code yX3_greatestWithOneAnswer cX3_greatestWithOneAnswer 4 (some .int) ∈ UL := ul_in3 (List.mem_of_getElem? (i := 157) rfl) rfl
theorem ul_3_158 : Cond.methodLink RX3 134 yX3_wordAt ∈ UL := ul_in3 (List.mem_of_getElem? (i := 158) rfl) rfl
theorem ul_3_160 : Cond.instanceMethod yX3_wordAt ∈ UL := ul_in3 (List.mem_of_getElem? (i := 160) rfl) rfl
theorem ul_3_161 : Cond.code yX3_wordAt cX3_wordAt 3 (some .int) ∈ UL := ul_in3 (List.mem_of_getElem? (i := 161) rfl) rfl
theorem ul_3_162 : Cond.methodLink RX3 137 yX3_openWith ∈ UL := ul_in3 (List.mem_of_getElem? (i := 162) rfl) rfl
theorem ul_3_164 : Cond.instanceMethod yX3_openWith ∈ UL := ul_in3 (List.mem_of_getElem? (i := 164) rfl) rfl
theorem ul_3_165 : Cond.code yX3_openWith cX3_openWith 5 (some .int) ∈ UL := ul_in3 (List.mem_of_getElem? (i := 165) rfl) rfl
theorem ul_3_166 : Cond.methodLink RX3 140 yJ9_max_7cf53 ∈ UL := ul_in3 (List.mem_of_getElem? (i := 166) rfl) rfl
theorem ul_3_167 : Cond.static yJ9_max_7cf53 ∈ UL := ul_in3 (List.mem_of_getElem? (i := 167) rfl) rfl
theorem ul_3_168 : Cond.code yJ9_max_7cf53 cJ9_max_7cf53 2 (some .int) ∈ UL := ul_in3 (List.mem_of_getElem? (i := 168) rfl) rfl
theorem ul_3_169 : Cond.methodLink RL 86 yX8_answer ∈ UL := ul_in3 (List.mem_of_getElem? (i := 169) rfl) rfl
theorem ul_3_170 : Cond.instanceMethod yX8_answer ∈ UL := ul_in3 (List.mem_of_getElem? (i := 170) rfl) rfl
theorem ul_3_171 : Cond.selects RX8 yX8_answer yX8_answer ∈ UL := ul_in3 (List.mem_of_getElem? (i := 171) rfl) rfl
theorem ul_3_172 : Cond.code yX8_answer cX8_answer 4 (some .int) ∈ UL := ul_in3 (List.mem_of_getElem? (i := 172) rfl) rfl
theorem ul_3_173 : Cond.methodLink RX8 185 yX3_keepOnly ∈ UL := ul_in3 (List.mem_of_getElem? (i := 173) rfl) rfl
theorem ul_3_174 : Cond.instanceMethod yX3_keepOnly ∈ UL := ul_in3 (List.mem_of_getElem? (i := 174) rfl) rfl
theorem ul_3_175 : Cond.selects RX3 yX3_keepOnly yX3_keepOnly ∈ UL := ul_in3 (List.mem_of_getElem? (i := 175) rfl) rfl
theorem ul_3_176 : Cond.code yX3_keepOnly cX3_keepOnly 5 (some .int) ∈ UL := ul_in3 (List.mem_of_getElem? (i := 176) rfl) rfl
theorem ul_3_177 : Cond.methodLink RL 90 yX8_done ∈ UL := ul_in3 (List.mem_of_getElem? (i := 177) rfl) rfl
theorem ul_3_178 : Cond.instanceMethod yX8_done ∈ UL := ul_in3 (List.mem_of_getElem? (i := 178) rfl) rfl
theorem ul_3_179 : Cond.selects RX8 yX8_done yX8_done ∈ UL := ul_in3 (List.mem_of_getElem? (i := 179) rfl) rfl
theorem ul_3_180 : Cond.code yX8_done cX8_done 5 (some .int) ∈ UL := ul_in3 (List.mem_of_getElem? (i := 180) rfl) rfl
theorem ul_3_181 : Cond.methodLink RX8 188 yX3_taken ∈ UL := ul_in3 (List.mem_of_getElem? (i := 181) rfl) rfl
theorem ul_3_182 : Cond.instanceMethod yX3_taken ∈ UL := ul_in3 (List.mem_of_getElem? (i := 182) rfl) rfl
theorem ul_3_183 : Cond.selects RX3 yX3_taken yX3_taken ∈ UL := ul_in3 (List.mem_of_getElem? (i := 183) rfl) rfl
theorem ul_3_184 : Cond.code yX3_taken cX3_taken 2 (some .int) ∈ UL := ul_in3 (List.mem_of_getElem? (i := 184) rfl) rfl
theorem ul_3_185 : Cond.methodLink RX3 127 yX3_unlike ∈ UL := ul_in3 (List.mem_of_getElem? (i := 185) rfl) rfl
theorem ul_3_186 : Cond.methodLink RX8 197 yX8_mayTurnAll ∈ UL := ul_in3 (List.mem_of_getElem? (i := 186) rfl) rfl
theorem ul_3_188 : Cond.instanceMethod yX8_mayTurnAll ∈ UL := ul_in3 (List.mem_of_getElem? (i := 188) rfl) rfl
theorem ul_3_189 : Cond.code yX8_mayTurnAll cX8_mayTurnAll 4 (some .boolean) ∈ UL := ul_in3 (List.mem_of_getElem? (i := 189) rfl) rfl
theorem ul_3_190 : Cond.methodLink RX8 236 yX4_hourOfDay ∈ UL := ul_in3 (List.mem_of_getElem? (i := 190) rfl) rfl
theorem ul_3_191 : Cond.instanceMethod yX4_hourOfDay ∈ UL := ul_in3 (List.mem_of_getElem? (i := 191) rfl) rfl
theorem ul_3_192 : Cond.selects RX4 yX4_hourOfDay yX4_hourOfDay ∈ UL := ul_in3 (List.mem_of_getElem? (i := 192) rfl) rfl
theorem ul_3_193 : Cond.code yX4_hourOfDay cX4_hourOfDay 1 (some .int) ∈ UL := ul_in3 (List.mem_of_getElem? (i := 193) rfl) rfl
theorem ul_3_194 : Cond.methodLink RX4 71 yJ9_floorMod_7cf53 ∈ UL := ul_in3 (List.mem_of_getElem? (i := 194) rfl) rfl
theorem ul_3_195 : Cond.static yJ9_floorMod_7cf53 ∈ UL := ul_in3 (List.mem_of_getElem? (i := 195) rfl) rfl
theorem ul_3_196 : Cond.code yJ9_floorMod_7cf53 cJ9_floorMod_7cf53 3 (some .int) ∈ UL := ul_in3 (List.mem_of_getElem? (i := 196) rfl) rfl
theorem ul_3_197 : Cond.methodLink RX8 205 yX7_numberOf ∈ UL := ul_in3 (List.mem_of_getElem? (i := 197) rfl) rfl
theorem ul_3_198 : Cond.methodLink RX8 209 yX8_withAll ∈ UL := ul_in3 (List.mem_of_getElem? (i := 198) rfl) rfl
theorem ul_3_199 : Cond.methodLink RX8 212 yX5_barsNewly ∈ UL := ul_in3 (List.mem_of_getElem? (i := 199) rfl) rfl
theorem ul_3_200 : Cond.instanceMethod yX5_barsNewly ∈ UL := ul_in3 (List.mem_of_getElem? (i := 200) rfl) rfl
theorem ul_3_201 : Cond.selects RX5 yX5_barsNewly yX5_barsNewly ∈ UL := ul_in3 (List.mem_of_getElem? (i := 201) rfl) rfl
theorem ul_3_202 : Cond.code yX5_barsNewly cX5_barsNewly 3 (some .boolean) ∈ UL := ul_in3 (List.mem_of_getElem? (i := 202) rfl) rfl
theorem ul_3_203 : Cond.methodLink RX5 95 yX5_barring ∈ UL := ul_in3 (List.mem_of_getElem? (i := 203) rfl) rfl
theorem ul_3_204 : Cond.constantLong RX5 99 (Int64.ofInt (-1)) ∈ UL := ul_in3 (List.mem_of_getElem? (i := 204) rfl) rfl
theorem ul_3_205 : Cond.methodLink RX8 215 yX8_carryOut ∈ UL := ul_in3 (List.mem_of_getElem? (i := 205) rfl) rfl
theorem ul_3_207 : Cond.instanceMethod yX8_carryOut ∈ UL := ul_in3 (List.mem_of_getElem? (i := 207) rfl) rfl
theorem ul_3_208 : Cond.code yX8_carryOut cX8_carryOut 6 (some .int) ∈ UL := ul_in3 (List.mem_of_getElem? (i := 208) rfl) rfl
theorem ul_3_209 : Cond.methodLink RX8 298 yX4_thingsUnlike ∈ UL := ul_in3 (List.mem_of_getElem? (i := 209) rfl) rfl
theorem ul_3_210 : Cond.instanceMethod yX4_thingsUnlike ∈ UL := ul_in3 (List.mem_of_getElem? (i := 210) rfl) rfl
theorem ul_3_211 : Cond.selects RX4 yX4_thingsUnlike yX4_thingsUnlike ∈ UL := ul_in3 (List.mem_of_getElem? (i := 211) rfl) rfl
theorem ul_3_212 : Cond.code yX4_thingsUnlike cX4_thingsUnlike 5 (some .int) ∈ UL := ul_in3 (List.mem_of_getElem? (i := 212) rfl) rfl
theorem ul_3_214 : Cond.methodLink RX8 301 yX0_add ∈ UL := ul_in3 (List.mem_of_getElem? (i := 214) rfl) rfl
theorem ul_3_215 : Cond.instanceMethod yX0_add ∈ UL := ul_in3 (List.mem_of_getElem? (i := 215) rfl) rfl
theorem ul_3_216 : Cond.selects RX0 yX0_add yX0_add ∈ UL := ul_in3 (List.mem_of_getElem? (i := 216) rfl) rfl
theorem ul_3_217 : Cond.code yX0_add cX0_add 4 (some .int) ∈ UL := ul_in3 (List.mem_of_getElem? (i := 217) rfl) rfl
theorem ul_3_218 : Cond.methodLink RX8 303 yX6_clearRow ∈ UL := ul_in3 (List.mem_of_getElem? (i := 218) rfl) rfl
theorem ul_3_219 : Cond.instanceMethod yX6_clearRow ∈ UL := ul_in3 (List.mem_of_getElem? (i := 219) rfl) rfl
theorem ul_3_220 : Cond.selects RX6 yX6_clearRow yX6_clearRow ∈ UL := ul_in3 (List.mem_of_getElem? (i := 220) rfl) rfl
theorem ul_3_221 : Cond.code yX6_clearRow cX6_clearRow 1 none ∈ UL := ul_in3 (List.mem_of_getElem? (i := 221) rfl) rfl
theorem ul_3_222 : Cond.methodLink RX8 254 yX4_day ∈ UL := ul_in3 (List.mem_of_getElem? (i := 222) rfl) rfl
theorem ul_3_223 : Cond.instanceMethod yX4_day ∈ UL := ul_in3 (List.mem_of_getElem? (i := 223) rfl) rfl
theorem ul_3_224 : Cond.selects RX4 yX4_day yX4_day ∈ UL := ul_in3 (List.mem_of_getElem? (i := 224) rfl) rfl
theorem ul_3_225 : Cond.code yX4_day cX4_day 1 (some .int) ∈ UL := ul_in3 (List.mem_of_getElem? (i := 225) rfl) rfl
theorem ul_3_226 : Cond.methodLink RX4 76 yJ9_floorDiv_7cf53 ∈ UL := ul_in3 (List.mem_of_getElem? (i := 226) rfl) rfl
theorem ul_3_227 : Cond.static yJ9_floorDiv_7cf53 ∈ UL := ul_in3 (List.mem_of_getElem? (i := 227) rfl) rfl
theorem ul_3_228 : Cond.code yJ9_floorDiv_7cf53 cJ9_floorDiv_7cf53 3 (some .int) ∈ UL := ul_in3 (List.mem_of_getElem? (i := 228) rfl) rfl
theorem ul_3_229 : Cond.methodLink RX8 309 yX1_add ∈ UL := ul_in3 (List.mem_of_getElem? (i := 229) rfl) rfl
theorem ul_3_230 : Cond.instanceMethod yX1_add ∈ UL := ul_in3 (List.mem_of_getElem? (i := 230) rfl) rfl
theorem ul_3_231 : Cond.selects RX1 yX1_add yX1_add ∈ UL := ul_in3 (List.mem_of_getElem? (i := 231) rfl) rfl
theorem ul_3_232 : Cond.code yX1_add cX1_add 6 none ∈ UL := ul_in3 (List.mem_of_getElem? (i := 232) rfl) rfl
theorem ul_3_233 : Cond.methodLink RX1 34 yX1_dropOldest ∈ UL := ul_in3 (List.mem_of_getElem? (i := 233) rfl) rfl
theorem ul_3_235 : Cond.instanceMethod yX1_dropOldest ∈ UL := ul_in3 (List.mem_of_getElem? (i := 235) rfl) rfl
theorem ul_3_236 : Cond.code yX1_dropOldest cX1_dropOldest 2 none ∈ UL := ul_in3 (List.mem_of_getElem? (i := 236) rfl) rfl
theorem ul_3_237 : Cond.methodLink RX1 37 yX1_moveEntry ∈ UL := ul_in3 (List.mem_of_getElem? (i := 237) rfl) rfl
theorem ul_3_239 : Cond.instanceMethod yX1_moveEntry ∈ UL := ul_in3 (List.mem_of_getElem? (i := 239) rfl) rfl
theorem ul_4_0 : Cond.code yX1_moveEntry cX1_moveEntry 3 none ∈ UL := ul_in4 (List.mem_of_getElem? (i := 0) rfl) rfl
theorem ul_4_1 : Cond.methodLink RX8 312 yX4_change ∈ UL := ul_in4 (List.mem_of_getElem? (i := 1) rfl) rfl
theorem ul_4_2 : Cond.instanceMethod yX4_change ∈ UL := ul_in4 (List.mem_of_getElem? (i := 2) rfl) rfl
theorem ul_4_3 : Cond.selects RX4 yX4_change yX4_change ∈ UL := ul_in4 (List.mem_of_getElem? (i := 3) rfl) rfl
theorem ul_4_4 : Cond.code yX4_change cX4_change 4 none ∈ UL := ul_in4 (List.mem_of_getElem? (i := 4) rfl) rfl
theorem ul_4_6 : Cond.methodLink RX8 316 yX6_rouse ∈ UL := ul_in4 (List.mem_of_getElem? (i := 6) rfl) rfl
theorem ul_4_7 : Cond.instanceMethod yX6_rouse ∈ UL := ul_in4 (List.mem_of_getElem? (i := 7) rfl) rfl
theorem ul_4_8 : Cond.selects RX6 yX6_rouse yX6_rouse ∈ UL := ul_in4 (List.mem_of_getElem? (i := 8) rfl) rfl
theorem ul_4_9 : Cond.code yX6_rouse cX6_rouse 4 none ∈ UL := ul_in4 (List.mem_of_getElem? (i := 9) rfl) rfl
theorem ul_4_10 : Cond.methodLink RX6 42 yX6_putInRow ∈ UL := ul_in4 (List.mem_of_getElem? (i := 10) rfl) rfl
theorem ul_4_12 : Cond.instanceMethod yX6_putInRow ∈ UL := ul_in4 (List.mem_of_getElem? (i := 12) rfl) rfl
theorem ul_4_13 : Cond.code yX6_putInRow cX6_putInRow 2 none ∈ UL := ul_in4 (List.mem_of_getElem? (i := 13) rfl) rfl
theorem ul_4_14 : Cond.methodLink RX8 319 yJ6_bitCount_0f7a4 ∈ UL := ul_in4 (List.mem_of_getElem? (i := 14) rfl) rfl
theorem ul_4_15 : Cond.static yJ6_bitCount_0f7a4 ∈ UL := ul_in4 (List.mem_of_getElem? (i := 15) rfl) rfl
theorem ul_4_16 : Cond.code yJ6_bitCount_0f7a4 cJ6_bitCount_0f7a4 1 (some .int) ∈ UL := ul_in4 (List.mem_of_getElem? (i := 16) rfl) rfl
theorem ul_4_17 : Cond.constant RJ6 265 (Int32.ofInt (1431655765)) ∈ UL := ul_in4 (List.mem_of_getElem? (i := 17) rfl) rfl
theorem ul_4_18 : Cond.constant RJ6 266 (Int32.ofInt (858993459)) ∈ UL := ul_in4 (List.mem_of_getElem? (i := 18) rfl) rfl
theorem ul_4_19 : Cond.constant RJ6 267 (Int32.ofInt (252645135)) ∈ UL := ul_in4 (List.mem_of_getElem? (i := 19) rfl) rfl
theorem ul_4_20 : Cond.methodLink RX8 323 yX6_runRow ∈ UL := ul_in4 (List.mem_of_getElem? (i := 20) rfl) rfl
theorem ul_4_21 : Cond.instanceMethod yX6_runRow ∈ UL := ul_in4 (List.mem_of_getElem? (i := 21) rfl) rfl
theorem ul_4_22 : Cond.selects RX6 yX6_runRow yX6_runRow ∈ UL := ul_in4 (List.mem_of_getElem? (i := 22) rfl) rfl
theorem ul_4_23 : Cond.code yX6_runRow cX6_runRow 6 none ∈ UL := ul_in4 (List.mem_of_getElem? (i := 23) rfl) rfl
theorem ul_4_25 : Cond.methodLink RX6 65 yX5_barsNewly ∈ UL := ul_in4 (List.mem_of_getElem? (i := 25) rfl) rfl
theorem ul_4_26 : Cond.methodLink RX6 74 yX4_change ∈ UL := ul_in4 (List.mem_of_getElem? (i := 26) rfl) rfl
theorem ul_4_27 : Cond.methodLink RX6 49 yX6_rouse ∈ UL := ul_in4 (List.mem_of_getElem? (i := 27) rfl) rfl
theorem ul_4_28 : Cond.methodLink RX8 218 yX3_end ∈ UL := ul_in4 (List.mem_of_getElem? (i := 28) rfl) rfl
theorem ul_4_29 : Cond.instanceMethod yX3_end ∈ UL := ul_in4 (List.mem_of_getElem? (i := 29) rfl) rfl
theorem ul_4_30 : Cond.selects RX3 yX3_end yX3_end ∈ UL := ul_in4 (List.mem_of_getElem? (i := 30) rfl) rfl
theorem ul_4_31 : Cond.code yX3_end cX3_end 1 none ∈ UL := ul_in4 (List.mem_of_getElem? (i := 31) rfl) rfl
theorem ul_4_32 : Cond.methodLink RL 94 yX8_undo ∈ UL := ul_in4 (List.mem_of_getElem? (i := 32) rfl) rfl
theorem ul_4_33 : Cond.instanceMethod yX8_undo ∈ UL := ul_in4 (List.mem_of_getElem? (i := 33) rfl) rfl
theorem ul_4_34 : Cond.selects RX8 yX8_undo yX8_undo ∈ UL := ul_in4 (List.mem_of_getElem? (i := 34) rfl) rfl
theorem ul_4_35 : Cond.code yX8_undo cX8_undo 2 (some .int) ∈ UL := ul_in4 (List.mem_of_getElem? (i := 35) rfl) rfl
theorem ul_4_36 : Cond.methodLink RX8 221 yX0_lastNotBack ∈ UL := ul_in4 (List.mem_of_getElem? (i := 36) rfl) rfl
theorem ul_4_37 : Cond.instanceMethod yX0_lastNotBack ∈ UL := ul_in4 (List.mem_of_getElem? (i := 37) rfl) rfl
theorem ul_4_38 : Cond.selects RX0 yX0_lastNotBack yX0_lastNotBack ∈ UL := ul_in4 (List.mem_of_getElem? (i := 38) rfl) rfl
theorem ul_4_39 : Cond.code yX0_lastNotBack cX0_lastNotBack 2 (some .int) ∈ UL := ul_in4 (List.mem_of_getElem? (i := 39) rfl) rfl
theorem ul_4_40 : Cond.methodLink RX8 224 yX8_takeBack ∈ UL := ul_in4 (List.mem_of_getElem? (i := 40) rfl) rfl
theorem ul_4_42 : Cond.instanceMethod yX8_takeBack ∈ UL := ul_in4 (List.mem_of_getElem? (i := 42) rfl) rfl
theorem ul_4_43 : Cond.code yX8_takeBack cX8_takeBack 4 (some .int) ∈ UL := ul_in4 (List.mem_of_getElem? (i := 43) rfl) rfl
theorem ul_4_44 : Cond.methodLink RL 98 yX8_when ∈ UL := ul_in4 (List.mem_of_getElem? (i := 44) rfl) rfl
theorem ul_4_45 : Cond.instanceMethod yX8_when ∈ UL := ul_in4 (List.mem_of_getElem? (i := 45) rfl) rfl
theorem ul_4_46 : Cond.selects RX8 yX8_when yX8_when ∈ UL := ul_in4 (List.mem_of_getElem? (i := 46) rfl) rfl
theorem ul_4_47 : Cond.code yX8_when cX8_when 5 (some .int) ∈ UL := ul_in4 (List.mem_of_getElem? (i := 47) rfl) rfl
theorem ul_4_48 : Cond.methodLink RX8 227 yX4_canBe ∈ UL := ul_in4 (List.mem_of_getElem? (i := 48) rfl) rfl
theorem ul_4_49 : Cond.methodLink RX8 230 yX6_add ∈ UL := ul_in4 (List.mem_of_getElem? (i := 49) rfl) rfl
theorem ul_4_50 : Cond.instanceMethod yX6_add ∈ UL := ul_in4 (List.mem_of_getElem? (i := 50) rfl) rfl
theorem ul_4_51 : Cond.selects RX6 yX6_add yX6_add ∈ UL := ul_in4 (List.mem_of_getElem? (i := 51) rfl) rfl
theorem ul_4_52 : Cond.code yX6_add cX6_add 5 (some .int) ∈ UL := ul_in4 (List.mem_of_getElem? (i := 52) rfl) rfl
theorem ul_4_53 : Cond.methodLink RL 102 yX8_at ∈ UL := ul_in4 (List.mem_of_getElem? (i := 53) rfl) rfl
theorem ul_4_54 : Cond.instanceMethod yX8_at ∈ UL := ul_in4 (List.mem_of_getElem? (i := 54) rfl) rfl
theorem ul_4_55 : Cond.selects RX8 yX8_at yX8_at ∈ UL := ul_in4 (List.mem_of_getElem? (i := 55) rfl) rfl
theorem ul_4_56 : Cond.code yX8_at cX8_at 4 (some .int) ∈ UL := ul_in4 (List.mem_of_getElem? (i := 56) rfl) rfl
theorem ul_4_57 : Cond.methodLink RL 106 yX8_ticks ∈ UL := ul_in4 (List.mem_of_getElem? (i := 57) rfl) rfl
theorem ul_4_58 : Cond.instanceMethod yX8_ticks ∈ UL := ul_in4 (List.mem_of_getElem? (i := 58) rfl) rfl
theorem ul_4_59 : Cond.selects RX8 yX8_ticks yX8_ticks ∈ UL := ul_in4 (List.mem_of_getElem? (i := 59) rfl) rfl
theorem ul_4_60 : Cond.code yX8_ticks cX8_ticks 3 (some .int) ∈ UL := ul_in4 (List.mem_of_getElem? (i := 60) rfl) rfl
theorem ul_4_61 : Cond.methodLink RX8 233 yX4_passHour ∈ UL := ul_in4 (List.mem_of_getElem? (i := 61) rfl) rfl
theorem ul_4_62 : Cond.instanceMethod yX4_passHour ∈ UL := ul_in4 (List.mem_of_getElem? (i := 62) rfl) rfl
theorem ul_4_63 : Cond.selects RX4 yX4_passHour yX4_passHour ∈ UL := ul_in4 (List.mem_of_getElem? (i := 63) rfl) rfl
theorem ul_4_64 : Cond.code yX4_passHour cX4_passHour 2 none ∈ UL := ul_in4 (List.mem_of_getElem? (i := 64) rfl) rfl
theorem ul_4_65 : Cond.methodLink RX8 239 yX6_fireAt ∈ UL := ul_in4 (List.mem_of_getElem? (i := 65) rfl) rfl
theorem ul_4_66 : Cond.instanceMethod yX6_fireAt ∈ UL := ul_in4 (List.mem_of_getElem? (i := 66) rfl) rfl
theorem ul_4_67 : Cond.selects RX6 yX6_fireAt yX6_fireAt ∈ UL := ul_in4 (List.mem_of_getElem? (i := 67) rfl) rfl
theorem ul_4_68 : Cond.code yX6_fireAt cX6_fireAt 2 none ∈ UL := ul_in4 (List.mem_of_getElem? (i := 68) rfl) rfl
theorem ul_4_69 : Cond.methodLink RX6 46 yX6_clearRow ∈ UL := ul_in4 (List.mem_of_getElem? (i := 69) rfl) rfl
theorem ul_4_70 : Cond.methodLink RX6 53 yX6_runRow ∈ UL := ul_in4 (List.mem_of_getElem? (i := 70) rfl) rfl
theorem ul_4_71 : Cond.methodLink RL 110 yX8_quarrel ∈ UL := ul_in4 (List.mem_of_getElem? (i := 71) rfl) rfl
theorem ul_4_72 : Cond.instanceMethod yX8_quarrel ∈ UL := ul_in4 (List.mem_of_getElem? (i := 72) rfl) rfl
theorem ul_4_73 : Cond.selects RX8 yX8_quarrel yX8_quarrel ∈ UL := ul_in4 (List.mem_of_getElem? (i := 73) rfl) rfl
theorem ul_4_74 : Cond.code yX8_quarrel cX8_quarrel 1 (some .int) ∈ UL := ul_in4 (List.mem_of_getElem? (i := 74) rfl) rfl
theorem ul_4_75 : Cond.methodLink RX8 245 yX6_firstQuarrel ∈ UL := ul_in4 (List.mem_of_getElem? (i := 75) rfl) rfl
theorem ul_4_76 : Cond.instanceMethod yX6_firstQuarrel ∈ UL := ul_in4 (List.mem_of_getElem? (i := 76) rfl) rfl
theorem ul_4_77 : Cond.selects RX6 yX6_firstQuarrel yX6_firstQuarrel ∈ UL := ul_in4 (List.mem_of_getElem? (i := 77) rfl) rfl
theorem ul_4_78 : Cond.code yX6_firstQuarrel cX6_firstQuarrel 3 (some .int) ∈ UL := ul_in4 (List.mem_of_getElem? (i := 78) rfl) rfl
theorem ul_4_79 : Cond.methodLink RL 114 yX8_wake ∈ UL := ul_in4 (List.mem_of_getElem? (i := 79) rfl) rfl
theorem ul_4_80 : Cond.instanceMethod yX8_wake ∈ UL := ul_in4 (List.mem_of_getElem? (i := 80) rfl) rfl
theorem ul_4_81 : Cond.selects RX8 yX8_wake yX8_wake ∈ UL := ul_in4 (List.mem_of_getElem? (i := 81) rfl) rfl
theorem ul_4_82 : Cond.code yX8_wake cX8_wake 1 (some .int) ∈ UL := ul_in4 (List.mem_of_getElem? (i := 82) rfl) rfl
theorem ul_4_83 : Cond.methodLink RX8 248 yX6_firstSelfWaker ∈ UL := ul_in4 (List.mem_of_getElem? (i := 83) rfl) rfl
theorem ul_4_84 : Cond.instanceMethod yX6_firstSelfWaker ∈ UL := ul_in4 (List.mem_of_getElem? (i := 84) rfl) rfl
theorem ul_4_85 : Cond.selects RX6 yX6_firstSelfWaker yX6_firstSelfWaker ∈ UL := ul_in4 (List.mem_of_getElem? (i := 85) rfl) rfl
theorem ul_4_86 : Cond.code yX6_firstSelfWaker cX6_firstSelfWaker 2 (some .int) ∈ UL := ul_in4 (List.mem_of_getElem? (i := 86) rfl) rfl
theorem ul_4_87 : Cond.methodLink RX6 78 yX6_allWokenBy ∈ UL := ul_in4 (List.mem_of_getElem? (i := 87) rfl) rfl
theorem ul_4_89 : Cond.instanceMethod yX6_allWokenBy ∈ UL := ul_in4 (List.mem_of_getElem? (i := 89) rfl) rfl
theorem ul_4_90 : Cond.code yX6_allWokenBy cX6_allWokenBy 5 (some .int) ∈ UL := ul_in4 (List.mem_of_getElem? (i := 90) rfl) rfl
theorem ul_4_91 : Cond.methodLink RX6 85 yX6_wokenAtOnceBy ∈ UL := ul_in4 (List.mem_of_getElem? (i := 91) rfl) rfl
theorem ul_4_93 : Cond.instanceMethod yX6_wokenAtOnceBy ∈ UL := ul_in4 (List.mem_of_getElem? (i := 93) rfl) rfl
theorem ul_4_94 : Cond.code yX6_wokenAtOnceBy cX6_wokenAtOnceBy 4 (some .int) ∈ UL := ul_in4 (List.mem_of_getElem? (i := 94) rfl) rfl
theorem ul_4_96 : Cond.methodLink RL 118 yX8_show ∈ UL := ul_in4 (List.mem_of_getElem? (i := 96) rfl) rfl
theorem ul_4_97 : Cond.instanceMethod yX8_show ∈ UL := ul_in4 (List.mem_of_getElem? (i := 97) rfl) rfl
theorem ul_4_98 : Cond.selects RX8 yX8_show yX8_show ∈ UL := ul_in4 (List.mem_of_getElem? (i := 98) rfl) rfl
theorem ul_4_99 : Cond.code yX8_show cX8_show 1 (some .int) ∈ UL := ul_in4 (List.mem_of_getElem? (i := 99) rfl) rfl
theorem ul_4_100 : Cond.methodLink RX8 251 yX2_fewestToBarred ∈ UL := ul_in4 (List.mem_of_getElem? (i := 100) rfl) rfl
theorem ul_4_101 : Cond.instanceMethod yX2_fewestToBarred ∈ UL := ul_in4 (List.mem_of_getElem? (i := 101) rfl) rfl
theorem ul_4_102 : Cond.selects RX2 yX2_fewestToBarred yX2_fewestToBarred ∈ UL := ul_in4 (List.mem_of_getElem? (i := 102) rfl) rfl
theorem ul_4_103 : Cond.code yX2_fewestToBarred cX2_fewestToBarred 4 (some .int) ∈ UL := ul_in4 (List.mem_of_getElem? (i := 103) rfl) rfl
theorem ul_4_104 : Cond.methodLink RX2 47 yX5_barring ∈ UL := ul_in4 (List.mem_of_getElem? (i := 104) rfl) rfl
theorem ul_4_105 : Cond.methodLink RX2 51 yJ7_fill_53178 ∈ UL := ul_in4 (List.mem_of_getElem? (i := 105) rfl) rfl
theorem ul_4_106 : Cond.methodLink RX2 60 yX2_reach ∈ UL := ul_in4 (List.mem_of_getElem? (i := 106) rfl) rfl
theorem ul_4_108 : Cond.instanceMethod yX2_reach ∈ UL := ul_in4 (List.mem_of_getElem? (i := 108) rfl) rfl
theorem ul_4_109 : Cond.code yX2_reach cX2_reach 5 none ∈ UL := ul_in4 (List.mem_of_getElem? (i := 109) rfl) rfl
theorem ul_4_110 : Cond.methodLink RX2 64 yX2_comesToBarredFrom ∈ UL := ul_in4 (List.mem_of_getElem? (i := 110) rfl) rfl
theorem ul_4_112 : Cond.instanceMethod yX2_comesToBarredFrom ∈ UL := ul_in4 (List.mem_of_getElem? (i := 112) rfl) rfl
theorem ul_4_113 : Cond.code yX2_comesToBarredFrom cX2_comesToBarredFrom 6 (some .boolean) ∈ UL := ul_in4 (List.mem_of_getElem? (i := 113) rfl) rfl
theorem ul_4_114 : Cond.methodLink RX2 79 yX6_firesByHour ∈ UL := ul_in4 (List.mem_of_getElem? (i := 114) rfl) rfl
theorem ul_4_115 : Cond.instanceMethod yX6_firesByHour ∈ UL := ul_in4 (List.mem_of_getElem? (i := 115) rfl) rfl
theorem ul_4_116 : Cond.selects RX6 yX6_firesByHour yX6_firesByHour ∈ UL := ul_in4 (List.mem_of_getElem? (i := 116) rfl) rfl
theorem ul_4_117 : Cond.code yX6_firesByHour cX6_firesByHour 3 (some .boolean) ∈ UL := ul_in4 (List.mem_of_getElem? (i := 117) rfl) rfl
theorem ul_4_120 : Cond.methodLink RX2 86 yX6_statesByFiring ∈ UL := ul_in4 (List.mem_of_getElem? (i := 120) rfl) rfl
theorem ul_4_121 : Cond.instanceMethod yX6_statesByFiring ∈ UL := ul_in4 (List.mem_of_getElem? (i := 121) rfl) rfl
theorem ul_4_122 : Cond.selects RX6 yX6_statesByFiring yX6_statesByFiring ∈ UL := ul_in4 (List.mem_of_getElem? (i := 122) rfl) rfl
theorem ul_4_123 : Cond.code yX6_statesByFiring cX6_statesByFiring 10 (some .int) ∈ UL := ul_in4 (List.mem_of_getElem? (i := 123) rfl) rfl
theorem ul_4_124 : Cond.methodLink RX6 92 yX5_barring ∈ UL := ul_in4 (List.mem_of_getElem? (i := 124) rfl) rfl
theorem ul_4_125 : Cond.constantLong RX6 96 (Int64.ofInt (-1)) ∈ UL := ul_in4 (List.mem_of_getElem? (i := 125) rfl) rfl
theorem ul_4_126 : Cond.methodLink RX2 68 yJ6_bitCount_0f7a4 ∈ UL := ul_in4 (List.mem_of_getElem? (i := 126) rfl) rfl
theorem ul_4_127 : Cond.methodLink RL 122 yX8_habits ∈ UL := ul_in4 (List.mem_of_getElem? (i := 127) rfl) rfl
theorem ul_4_128 : Cond.instanceMethod yX8_habits ∈ UL := ul_in4 (List.mem_of_getElem? (i := 128) rfl) rfl
theorem ul_4_129 : Cond.selects RX8 yX8_habits yX8_habits ∈ UL := ul_in4 (List.mem_of_getElem? (i := 129) rfl) rfl
theorem ul_4_130 : Cond.code yX8_habits cX8_habits 4 (some .int) ∈ UL := ul_in4 (List.mem_of_getElem? (i := 130) rfl) rfl
theorem ul_4_131 : Cond.methodLink RX8 257 yX1_gatherDays ∈ UL := ul_in4 (List.mem_of_getElem? (i := 131) rfl) rfl
theorem ul_4_132 : Cond.instanceMethod yX1_gatherDays ∈ UL := ul_in4 (List.mem_of_getElem? (i := 132) rfl) rfl
theorem ul_4_133 : Cond.selects RX1 yX1_gatherDays yX1_gatherDays ∈ UL := ul_in4 (List.mem_of_getElem? (i := 133) rfl) rfl
theorem ul_4_134 : Cond.code yX1_gatherDays cX1_gatherDays 5 none ∈ UL := ul_in4 (List.mem_of_getElem? (i := 134) rfl) rfl
theorem ul_4_135 : Cond.methodLink RX1 44 yJ7_fill_53178 ∈ UL := ul_in4 (List.mem_of_getElem? (i := 135) rfl) rfl
theorem ul_4_136 : Cond.methodLink RX8 260 yX1_howMany ∈ UL := ul_in4 (List.mem_of_getElem? (i := 136) rfl) rfl
theorem ul_4_137 : Cond.instanceMethod yX1_howMany ∈ UL := ul_in4 (List.mem_of_getElem? (i := 137) rfl) rfl
theorem ul_4_138 : Cond.selects RX1 yX1_howMany yX1_howMany ∈ UL := ul_in4 (List.mem_of_getElem? (i := 138) rfl) rfl
theorem ul_4_139 : Cond.code yX1_howMany cX1_howMany 4 (some .int) ∈ UL := ul_in4 (List.mem_of_getElem? (i := 139) rfl) rfl
theorem ul_4_140 : Cond.methodLink RX1 50 yJ6_bitCount_0f7a4 ∈ UL := ul_in4 (List.mem_of_getElem? (i := 140) rfl) rfl
theorem ul_4_141 : Cond.methodLink RX8 263 yX1_habit ∈ UL := ul_in4 (List.mem_of_getElem? (i := 141) rfl) rfl
theorem ul_4_142 : Cond.instanceMethod yX1_habit ∈ UL := ul_in4 (List.mem_of_getElem? (i := 142) rfl) rfl
theorem ul_4_143 : Cond.selects RX1 yX1_habit yX1_habit ∈ UL := ul_in4 (List.mem_of_getElem? (i := 143) rfl) rfl
theorem ul_4_144 : Cond.code yX1_habit cX1_habit 5 (some .int) ∈ UL := ul_in4 (List.mem_of_getElem? (i := 144) rfl) rfl
theorem ul_4_145 : Cond.methodLink RX1 56 yX1_toldAs ∈ UL := ul_in4 (List.mem_of_getElem? (i := 145) rfl) rfl
theorem ul_4_146 : Cond.static yX1_toldAs ∈ UL := ul_in4 (List.mem_of_getElem? (i := 146) rfl) rfl
theorem ul_4_147 : Cond.code yX1_toldAs cX1_toldAs 3 (some .int) ∈ UL := ul_in4 (List.mem_of_getElem? (i := 147) rfl) rfl
theorem ul_4_148 : Cond.methodLink RL 126 yX8_keepHabit ∈ UL := ul_in4 (List.mem_of_getElem? (i := 148) rfl) rfl
theorem ul_4_149 : Cond.instanceMethod yX8_keepHabit ∈ UL := ul_in4 (List.mem_of_getElem? (i := 149) rfl) rfl
theorem ul_4_150 : Cond.selects RX8 yX8_keepHabit yX8_keepHabit ∈ UL := ul_in4 (List.mem_of_getElem? (i := 150) rfl) rfl
theorem ul_4_151 : Cond.code yX8_keepHabit cX8_keepHabit 5 (some .int) ∈ UL := ul_in4 (List.mem_of_getElem? (i := 151) rfl) rfl
theorem ul_4_152 : Cond.methodLink RL 130 yX8_forget ∈ UL := ul_in4 (List.mem_of_getElem? (i := 152) rfl) rfl
theorem ul_4_153 : Cond.instanceMethod yX8_forget ∈ UL := ul_in4 (List.mem_of_getElem? (i := 153) rfl) rfl
theorem ul_4_154 : Cond.selects RX8 yX8_forget yX8_forget ∈ UL := ul_in4 (List.mem_of_getElem? (i := 154) rfl) rfl
theorem ul_4_155 : Cond.code yX8_forget cX8_forget 2 (some .int) ∈ UL := ul_in4 (List.mem_of_getElem? (i := 155) rfl) rfl
theorem ul_4_156 : Cond.methodLink RX8 266 yX1_drop ∈ UL := ul_in4 (List.mem_of_getElem? (i := 156) rfl) rfl
theorem ul_4_157 : Cond.instanceMethod yX1_drop ∈ UL := ul_in4 (List.mem_of_getElem? (i := 157) rfl) rfl
theorem ul_4_158 : Cond.selects RX1 yX1_drop yX1_drop ∈ UL := ul_in4 (List.mem_of_getElem? (i := 158) rfl) rfl
theorem ul_4_159 : Cond.code yX1_drop cX1_drop 4 (some .int) ∈ UL := ul_in4 (List.mem_of_getElem? (i := 159) rfl) rfl
theorem ul_4_160 : Cond.methodLink RL 134 yX8_cost ∈ UL := ul_in4 (List.mem_of_getElem? (i := 160) rfl) rfl
theorem ul_4_161 : Cond.instanceMethod yX8_cost ∈ UL := ul_in4 (List.mem_of_getElem? (i := 161) rfl) rfl
theorem ul_4_162 : Cond.selects RX8 yX8_cost yX8_cost ∈ UL := ul_in4 (List.mem_of_getElem? (i := 162) rfl) rfl
theorem ul_4_163 : Cond.code yX8_cost cX8_cost 2 (some .int) ∈ UL := ul_in4 (List.mem_of_getElem? (i := 163) rfl) rfl
theorem ul_4_164 : Cond.methodLink RX8 269 yX4_spentInAll ∈ UL := ul_in4 (List.mem_of_getElem? (i := 164) rfl) rfl
theorem ul_4_165 : Cond.instanceMethod yX4_spentInAll ∈ UL := ul_in4 (List.mem_of_getElem? (i := 165) rfl) rfl
theorem ul_4_166 : Cond.selects RX4 yX4_spentInAll yX4_spentInAll ∈ UL := ul_in4 (List.mem_of_getElem? (i := 166) rfl) rfl
theorem ul_4_167 : Cond.code yX4_spentInAll cX4_spentInAll 3 (some .int) ∈ UL := ul_in4 (List.mem_of_getElem? (i := 167) rfl) rfl
theorem ul_4_168 : Cond.methodLink RL 138 yX8_why ∈ UL := ul_in4 (List.mem_of_getElem? (i := 168) rfl) rfl
theorem ul_4_169 : Cond.instanceMethod yX8_why ∈ UL := ul_in4 (List.mem_of_getElem? (i := 169) rfl) rfl
theorem ul_4_170 : Cond.selects RX8 yX8_why yX8_why ∈ UL := ul_in4 (List.mem_of_getElem? (i := 170) rfl) rfl
theorem ul_4_171 : Cond.code yX8_why cX8_why 2 (some .int) ∈ UL := ul_in4 (List.mem_of_getElem? (i := 171) rfl) rfl
theorem ul_4_172 : Cond.methodLink RL 142 yX8_count ∈ UL := ul_in4 (List.mem_of_getElem? (i := 172) rfl) rfl
theorem ul_4_173 : Cond.instanceMethod yX8_count ∈ UL := ul_in4 (List.mem_of_getElem? (i := 173) rfl) rfl
theorem ul_4_174 : Cond.selects RX8 yX8_count yX8_count ∈ UL := ul_in4 (List.mem_of_getElem? (i := 174) rfl) rfl
theorem ul_4_175 : Cond.code yX8_count cX8_count 2 (some .int) ∈ UL := ul_in4 (List.mem_of_getElem? (i := 175) rfl) rfl
theorem ul_4_176 : Cond.classLink RL 10 RX9 ∈ UL := ul_in4 (List.mem_of_getElem? (i := 176) rfl) rfl
theorem ul_4_177 : Cond.instantiable RX9 52 ∈ UL := ul_in4 (List.mem_of_getElem? (i := 177) rfl) rfl
theorem ul_4_178 : Cond.methodLink RL 12 yX9_init ∈ UL := ul_in4 (List.mem_of_getElem? (i := 178) rfl) rfl
theorem ul_4_179 : Cond.instanceMethod yX9_init ∈ UL := ul_in4 (List.mem_of_getElem? (i := 179) rfl) rfl
theorem ul_4_180 : Cond.code yX9_init cX9_init 2 none ∈ UL := ul_in4 (List.mem_of_getElem? (i := 180) rfl) rfl
theorem ul_4_181 : Cond.methodLink RX9 1 objectInit ∈ UL := ul_in4 (List.mem_of_getElem? (i := 181) rfl) rfl
theorem ul_4_182 : Cond.fieldLink RX9 113 "HeededWishesModel" "thingMany" "I" ∈ UL := ul_in4 (List.mem_of_getElem? (i := 182) rfl) rfl
theorem ul_4_183 : Cond.fieldLink RX9 7 "HeededWishesModel" "roomOf" "[I" ∈ UL := ul_in4 (List.mem_of_getElem? (i := 183) rfl) rfl
theorem ul_4_184 : Cond.fieldLink RX9 13 "HeededWishesModel" "sortOf" "[I" ∈ UL := ul_in4 (List.mem_of_getElem? (i := 184) rfl) rfl
theorem ul_4_185 : Cond.fieldLink RX9 16 "HeededWishesModel" "costOf" "[I" ∈ UL := ul_in4 (List.mem_of_getElem? (i := 185) rfl) rfl
theorem ul_4_186 : Cond.fieldLink RX9 19 "HeededWishesModel" "spent" "[I" ∈ UL := ul_in4 (List.mem_of_getElem? (i := 186) rfl) rfl
theorem ul_4_187 : Cond.fieldLink RX9 22 "HeededWishesModel" "states" "[I" ∈ UL := ul_in4 (List.mem_of_getElem? (i := 187) rfl) rfl
theorem ul_4_188 : Cond.fieldLink RX9 25 "HeededWishesModel" "reasons" "[I" ∈ UL := ul_in4 (List.mem_of_getElem? (i := 188) rfl) rfl
theorem ul_4_189 : Cond.fieldLink RX9 28 "HeededWishesModel" "folkRoom" "[I" ∈ UL := ul_in4 (List.mem_of_getElem? (i := 189) rfl) rfl
theorem ul_4_190 : Cond.fieldLink RX9 266 "HeededWishesModel" "hour" "I" ∈ UL := ul_in4 (List.mem_of_getElem? (i := 190) rfl) rfl
theorem ul_4_191 : Cond.fieldLink RX9 31 "HeededWishesModel" "doubts" "[I" ∈ UL := ul_in4 (List.mem_of_getElem? (i := 191) rfl) rfl
theorem ul_4_192 : Cond.fieldLink RX9 139 "HeededWishesModel" "wordMany" "I" ∈ UL := ul_in4 (List.mem_of_getElem? (i := 192) rfl) rfl
theorem ul_4_193 : Cond.fieldLink RX9 34 "HeededWishesModel" "kinds" "[I" ∈ UL := ul_in4 (List.mem_of_getElem? (i := 193) rfl) rfl
theorem ul_4_194 : Cond.fieldLink RX9 37 "HeededWishesModel" "numbers" "[I" ∈ UL := ul_in4 (List.mem_of_getElem? (i := 194) rfl) rfl
theorem ul_4_195 : Cond.fieldLink RX9 40 "HeededWishesModel" "soundMany" "[I" ∈ UL := ul_in4 (List.mem_of_getElem? (i := 195) rfl) rfl
theorem ul_4_196 : Cond.fieldLink RX9 43 "HeededWishesModel" "sounds" "[I" ∈ UL := ul_in4 (List.mem_of_getElem? (i := 196) rfl) rfl
theorem ul_4_197 : Cond.fieldLink RX9 46 "HeededWishesModel" "rules" "[I" ∈ UL := ul_in4 (List.mem_of_getElem? (i := 197) rfl) rfl
theorem ul_4_198 : Cond.fieldLink RX9 150 "HeededWishesModel" "length" "I" ∈ UL := ul_in4 (List.mem_of_getElem? (i := 198) rfl) rfl
theorem ul_4_199 : Cond.fieldLink RX9 49 "HeededWishesModel" "text" "[I" ∈ UL := ul_in4 (List.mem_of_getElem? (i := 199) rfl) rfl
theorem ul_4_200 : Cond.fieldLink RX9 52 "HeededWishesModel" "itemMany" "[I" ∈ UL := ul_in4 (List.mem_of_getElem? (i := 200) rfl) rfl
theorem ul_4_201 : Cond.fieldLink RX9 55 "HeededWishesModel" "items" "[I" ∈ UL := ul_in4 (List.mem_of_getElem? (i := 201) rfl) rfl
theorem ul_4_202 : Cond.fieldLink RX9 226 "HeededWishesModel" "isHeard" "Z" ∈ UL := ul_in4 (List.mem_of_getElem? (i := 202) rfl) rfl
theorem ul_4_203 : Cond.fieldLink RX9 202 "HeededWishesModel" "speaker" "I" ∈ UL := ul_in4 (List.mem_of_getElem? (i := 203) rfl) rfl
theorem ul_4_204 : Cond.fieldLink RX9 230 "HeededWishesModel" "isGuest" "Z" ∈ UL := ul_in4 (List.mem_of_getElem? (i := 204) rfl) rfl
theorem ul_4_205 : Cond.fieldLink RX9 219 "HeededWishesModel" "readingMany" "I" ∈ UL := ul_in4 (List.mem_of_getElem? (i := 205) rfl) rfl
theorem ul_4_206 : Cond.fieldLink RX9 58 "HeededWishesModel" "prices" "[I" ∈ UL := ul_in4 (List.mem_of_getElem? (i := 206) rfl) rfl
theorem ul_4_207 : Cond.fieldLink RX9 61 "HeededWishesModel" "parts" "[I" ∈ UL := ul_in4 (List.mem_of_getElem? (i := 207) rfl) rfl
theorem ul_4_208 : Cond.fieldLink RX9 64 "HeededWishesModel" "meant" "[I" ∈ UL := ul_in4 (List.mem_of_getElem? (i := 208) rfl) rfl
theorem ul_4_209 : Cond.fieldLink RX9 67 "HeededWishesModel" "isOpen" "[Z" ∈ UL := ul_in4 (List.mem_of_getElem? (i := 209) rfl) rfl
theorem ul_4_210 : Cond.fieldLink RX9 205 "HeededWishesModel" "last" "I" ∈ UL := ul_in4 (List.mem_of_getElem? (i := 210) rfl) rfl
theorem ul_4_211 : Cond.fieldLink RX9 269 "HeededWishesModel" "doneMany" "I" ∈ UL := ul_in4 (List.mem_of_getElem? (i := 211) rfl) rfl
theorem ul_4_212 : Cond.fieldLink RX9 71 "HeededWishesModel" "changed" "[I" ∈ UL := ul_in4 (List.mem_of_getElem? (i := 212) rfl) rfl
theorem ul_4_213 : Cond.fieldLink RX9 74 "HeededWishesModel" "ahead" "[I" ∈ UL := ul_in4 (List.mem_of_getElem? (i := 213) rfl) rfl
theorem ul_4_214 : Cond.fieldLink RX9 77 "HeededWishesModel" "isBack" "[Z" ∈ UL := ul_in4 (List.mem_of_getElem? (i := 214) rfl) rfl
theorem ul_4_215 : Cond.fieldLink RX9 245 "HeededWishesModel" "standMany" "I" ∈ UL := ul_in4 (List.mem_of_getElem? (i := 215) rfl) rfl
theorem ul_4_216 : Cond.fieldLink RX9 80 "HeededWishesModel" "stands" "[I" ∈ UL := ul_in4 (List.mem_of_getElem? (i := 216) rfl) rfl
theorem ul_4_217 : Cond.fieldLink RX9 257 "HeededWishesModel" "held" "I" ∈ UL := ul_in4 (List.mem_of_getElem? (i := 217) rfl) rfl
theorem ul_4_218 : Cond.fieldLink RX9 263 "HeededWishesModel" "logMany" "I" ∈ UL := ul_in4 (List.mem_of_getElem? (i := 218) rfl) rfl
theorem ul_4_219 : Cond.fieldLink RX9 83 "HeededWishesModel" "logs" "[I" ∈ UL := ul_in4 (List.mem_of_getElem? (i := 219) rfl) rfl
theorem ul_4_220 : Cond.fieldLink RX9 309 "HeededWishesModel" "forgotten" "I" ∈ UL := ul_in4 (List.mem_of_getElem? (i := 220) rfl) rfl
theorem ul_4_221 : Cond.fieldLink RX9 155 "HeededWishesModel" "at" "I" ∈ UL := ul_in4 (List.mem_of_getElem? (i := 221) rfl) rfl
theorem ul_4_222 : Cond.fieldLink RX9 86 "HeededWishesModel" "told" "[I" ∈ UL := ul_in4 (List.mem_of_getElem? (i := 222) rfl) rfl
theorem ul_4_223 : Cond.fieldLink RX9 89 "HeededWishesModel" "bared" "[Z" ∈ UL := ul_in4 (List.mem_of_getElem? (i := 223) rfl) rfl
theorem ul_4_224 : Cond.fieldLink RX9 188 "HeededWishesModel" "rowMany" "I" ∈ UL := ul_in4 (List.mem_of_getElem? (i := 224) rfl) rfl
theorem ul_4_225 : Cond.fieldLink RX9 92 "HeededWishesModel" "row" "[I" ∈ UL := ul_in4 (List.mem_of_getElem? (i := 225) rfl) rfl
theorem ul_4_226 : Cond.fieldLink RX9 195 "HeededWishesModel" "heardMany" "I" ∈ UL := ul_in4 (List.mem_of_getElem? (i := 226) rfl) rfl
theorem ul_4_227 : Cond.fieldLink RX9 95 "HeededWishesModel" "heard" "[I" ∈ UL := ul_in4 (List.mem_of_getElem? (i := 227) rfl) rfl
theorem ul_4_228 : Cond.fieldLink RX9 98 "HeededWishesModel" "least" "[I" ∈ UL := ul_in4 (List.mem_of_getElem? (i := 228) rfl) rfl
theorem ul_4_229 : Cond.fieldLink RX9 248 "HeededWishesModel" "fireMany" "I" ∈ UL := ul_in4 (List.mem_of_getElem? (i := 229) rfl) rfl
theorem ul_4_230 : Cond.fieldLink RX9 101 "HeededWishesModel" "fires" "[I" ∈ UL := ul_in4 (List.mem_of_getElem? (i := 230) rfl) rfl
theorem ul_4_231 : Cond.fieldLink RX9 104 "HeededWishesModel" "hours" "[I" ∈ UL := ul_in4 (List.mem_of_getElem? (i := 231) rfl) rfl
theorem ul_4_232 : Cond.fieldLink RX9 107 "HeededWishesModel" "order" "[I" ∈ UL := ul_in4 (List.mem_of_getElem? (i := 232) rfl) rfl
theorem ul_4_233 : Cond.fieldLink RX9 110 "HeededWishesModel" "save" "[I" ∈ UL := ul_in4 (List.mem_of_getElem? (i := 233) rfl) rfl
theorem ul_5_99 : Cond.methodLink RL 17 yX9_thing ∈ UL := ul_in5 (List.mem_of_getElem? (i := 99) rfl) rfl
theorem ul_5_100 : Cond.instanceMethod yX9_thing ∈ UL := ul_in5 (List.mem_of_getElem? (i := 100) rfl) rfl
theorem ul_5_101 : Cond.selects RX9 yX9_thing yX9_thing ∈ UL := ul_in5 (List.mem_of_getElem? (i := 101) rfl) rfl
theorem ul_5_102 : Cond.code yX9_thing cX9_thing 4 (some .int) ∈ UL := ul_in5 (List.mem_of_getElem? (i := 102) rfl) rfl
theorem ul_5_103 : Cond.constantLong RX9 121 (Int64.ofInt (4)) ∈ UL := ul_in5 (List.mem_of_getElem? (i := 103) rfl) rfl
theorem ul_5_104 : Cond.methodLink RX9 117 yX9_in ∈ UL := ul_in5 (List.mem_of_getElem? (i := 104) rfl) rfl
theorem ul_5_105 : Cond.static yX9_in ∈ UL := ul_in5 (List.mem_of_getElem? (i := 105) rfl) rfl
theorem ul_5_106 : Cond.code yX9_in cX9_in 6 (some .boolean) ∈ UL := ul_in5 (List.mem_of_getElem? (i := 106) rfl) rfl
theorem ul_5_107 : Cond.constantLong RX9 123 (Int64.ofInt (3)) ∈ UL := ul_in5 (List.mem_of_getElem? (i := 107) rfl) rfl
theorem ul_5_108 : Cond.constantLong RX9 125 (Int64.ofInt (100)) ∈ UL := ul_in5 (List.mem_of_getElem? (i := 108) rfl) rfl
theorem ul_5_109 : Cond.methodLink RL 22 yX9_go ∈ UL := ul_in5 (List.mem_of_getElem? (i := 109) rfl) rfl
theorem ul_5_110 : Cond.instanceMethod yX9_go ∈ UL := ul_in5 (List.mem_of_getElem? (i := 110) rfl) rfl
theorem ul_5_111 : Cond.selects RX9 yX9_go yX9_go ∈ UL := ul_in5 (List.mem_of_getElem? (i := 111) rfl) rfl
theorem ul_5_112 : Cond.code yX9_go cX9_go 4 (some .int) ∈ UL := ul_in5 (List.mem_of_getElem? (i := 112) rfl) rfl
theorem ul_5_113 : Cond.constantLong RX9 127 (Int64.ofInt (5)) ∈ UL := ul_in5 (List.mem_of_getElem? (i := 113) rfl) rfl
theorem ul_5_114 : Cond.constantLong RX9 129 (Int64.ofInt (-1)) ∈ UL := ul_in5 (List.mem_of_getElem? (i := 114) rfl) rfl
theorem ul_5_115 : Cond.methodLink RL 27 yX9_state ∈ UL := ul_in5 (List.mem_of_getElem? (i := 115) rfl) rfl
theorem ul_5_116 : Cond.instanceMethod yX9_state ∈ UL := ul_in5 (List.mem_of_getElem? (i := 116) rfl) rfl
theorem ul_5_117 : Cond.selects RX9 yX9_state yX9_state ∈ UL := ul_in5 (List.mem_of_getElem? (i := 117) rfl) rfl
theorem ul_5_118 : Cond.code yX9_state cX9_state 2 (some .int) ∈ UL := ul_in5 (List.mem_of_getElem? (i := 118) rfl) rfl
theorem ul_5_119 : Cond.methodLink RX9 131 yX9_isThing ∈ UL := ul_in5 (List.mem_of_getElem? (i := 119) rfl) rfl
theorem ul_5_121 : Cond.instanceMethod yX9_isThing ∈ UL := ul_in5 (List.mem_of_getElem? (i := 121) rfl) rfl
theorem ul_5_122 : Cond.code yX9_isThing cX9_isThing 2 (some .boolean) ∈ UL := ul_in5 (List.mem_of_getElem? (i := 122) rfl) rfl
theorem ul_5_123 : Cond.methodLink RL 31 yX9_doubt ∈ UL := ul_in5 (List.mem_of_getElem? (i := 123) rfl) rfl
theorem ul_5_124 : Cond.instanceMethod yX9_doubt ∈ UL := ul_in5 (List.mem_of_getElem? (i := 124) rfl) rfl
theorem ul_5_125 : Cond.selects RX9 yX9_doubt yX9_doubt ∈ UL := ul_in5 (List.mem_of_getElem? (i := 125) rfl) rfl
theorem ul_5_126 : Cond.code yX9_doubt cX9_doubt 5 (some .int) ∈ UL := ul_in5 (List.mem_of_getElem? (i := 126) rfl) rfl
theorem ul_5_127 : Cond.constantLong RX9 135 (Int64.ofInt (15)) ∈ UL := ul_in5 (List.mem_of_getElem? (i := 127) rfl) rfl
theorem ul_5_128 : Cond.constantLong RX9 137 (Int64.ofInt (9)) ∈ UL := ul_in5 (List.mem_of_getElem? (i := 128) rfl) rfl
theorem ul_5_129 : Cond.methodLink RL 36 yX9_word ∈ UL := ul_in5 (List.mem_of_getElem? (i := 129) rfl) rfl
theorem ul_5_130 : Cond.instanceMethod yX9_word ∈ UL := ul_in5 (List.mem_of_getElem? (i := 130) rfl) rfl
theorem ul_5_131 : Cond.selects RX9 yX9_word yX9_word ∈ UL := ul_in5 (List.mem_of_getElem? (i := 131) rfl) rfl
theorem ul_5_132 : Cond.code yX9_word cX9_word 6 (some .int) ∈ UL := ul_in5 (List.mem_of_getElem? (i := 132) rfl) rfl
theorem ul_5_133 : Cond.methodLink RL 40 yX9_rule ∈ UL := ul_in5 (List.mem_of_getElem? (i := 133) rfl) rfl
theorem ul_5_134 : Cond.instanceMethod yX9_rule ∈ UL := ul_in5 (List.mem_of_getElem? (i := 134) rfl) rfl
theorem ul_5_135 : Cond.selects RX9 yX9_rule yX9_rule ∈ UL := ul_in5 (List.mem_of_getElem? (i := 135) rfl) rfl
theorem ul_5_136 : Cond.code yX9_rule cX9_rule 4 (some .int) ∈ UL := ul_in5 (List.mem_of_getElem? (i := 136) rfl) rfl
theorem ul_5_137 : Cond.constantLong RX9 142 (Int64.ofInt (2)) ∈ UL := ul_in5 (List.mem_of_getElem? (i := 137) rfl) rfl
theorem ul_5_138 : Cond.constantLong RX9 144 (Int64.ofInt (50)) ∈ UL := ul_in5 (List.mem_of_getElem? (i := 138) rfl) rfl
theorem ul_5_139 : Cond.constantLong RX9 146 (Int64.ofInt (20)) ∈ UL := ul_in5 (List.mem_of_getElem? (i := 139) rfl) rfl
theorem ul_5_140 : Cond.methodLink RL 47 yX9_write ∈ UL := ul_in5 (List.mem_of_getElem? (i := 140) rfl) rfl
theorem ul_5_141 : Cond.instanceMethod yX9_write ∈ UL := ul_in5 (List.mem_of_getElem? (i := 141) rfl) rfl
theorem ul_5_142 : Cond.selects RX9 yX9_write yX9_write ∈ UL := ul_in5 (List.mem_of_getElem? (i := 142) rfl) rfl
theorem ul_5_143 : Cond.code yX9_write cX9_write 5 (some .int) ∈ UL := ul_in5 (List.mem_of_getElem? (i := 143) rfl) rfl
theorem ul_5_144 : Cond.constantLong RX9 148 (Int64.ofInt (8)) ∈ UL := ul_in5 (List.mem_of_getElem? (i := 144) rfl) rfl
theorem ul_5_145 : Cond.constantLong RX9 153 (Int64.ofInt (255)) ∈ UL := ul_in5 (List.mem_of_getElem? (i := 145) rfl) rfl
theorem ul_5_146 : Cond.methodLink RL 52 yX9_wipe ∈ UL := ul_in5 (List.mem_of_getElem? (i := 146) rfl) rfl
theorem ul_5_147 : Cond.instanceMethod yX9_wipe ∈ UL := ul_in5 (List.mem_of_getElem? (i := 147) rfl) rfl
theorem ul_5_148 : Cond.selects RX9 yX9_wipe yX9_wipe ∈ UL := ul_in5 (List.mem_of_getElem? (i := 148) rfl) rfl
theorem ul_5_149 : Cond.code yX9_wipe cX9_wipe 2 (some .int) ∈ UL := ul_in5 (List.mem_of_getElem? (i := 149) rfl) rfl
theorem ul_5_150 : Cond.methodLink RL 56 yX9_fault ∈ UL := ul_in5 (List.mem_of_getElem? (i := 150) rfl) rfl
theorem ul_5_151 : Cond.instanceMethod yX9_fault ∈ UL := ul_in5 (List.mem_of_getElem? (i := 151) rfl) rfl
theorem ul_5_152 : Cond.selects RX9 yX9_fault yX9_fault ∈ UL := ul_in5 (List.mem_of_getElem? (i := 152) rfl) rfl
theorem ul_5_153 : Cond.code yX9_fault cX9_fault 1 (some .int) ∈ UL := ul_in5 (List.mem_of_getElem? (i := 153) rfl) rfl
theorem ul_5_154 : Cond.methodLink RX9 173 yX9_readAll ∈ UL := ul_in5 (List.mem_of_getElem? (i := 154) rfl) rfl
theorem ul_5_156 : Cond.instanceMethod yX9_readAll ∈ UL := ul_in5 (List.mem_of_getElem? (i := 156) rfl) rfl
theorem ul_5_157 : Cond.code yX9_readAll cX9_readAll 4 (some .int) ∈ UL := ul_in5 (List.mem_of_getElem? (i := 157) rfl) rfl
theorem ul_5_158 : Cond.methodLink RX9 169 yX9_item ∈ UL := ul_in5 (List.mem_of_getElem? (i := 158) rfl) rfl
theorem ul_5_160 : Cond.instanceMethod yX9_item ∈ UL := ul_in5 (List.mem_of_getElem? (i := 160) rfl) rfl
theorem ul_5_161 : Cond.code yX9_item cX9_item 3 (some .boolean) ∈ UL := ul_in5 (List.mem_of_getElem? (i := 161) rfl) rfl
theorem ul_5_162 : Cond.methodLink RX9 162 yX9_figures ∈ UL := ul_in5 (List.mem_of_getElem? (i := 162) rfl) rfl
theorem ul_5_164 : Cond.instanceMethod yX9_figures ∈ UL := ul_in5 (List.mem_of_getElem? (i := 164) rfl) rfl
theorem ul_5_165 : Cond.code yX9_figures cX9_figures 5 (some .boolean) ∈ UL := ul_in5 (List.mem_of_getElem? (i := 165) rfl) rfl
theorem ul_5_166 : Cond.constantLong RX9 158 (Int64.ofInt (48)) ∈ UL := ul_in5 (List.mem_of_getElem? (i := 166) rfl) rfl
theorem ul_5_167 : Cond.constantLong RX9 160 (Int64.ofInt (57)) ∈ UL := ul_in5 (List.mem_of_getElem? (i := 167) rfl) rfl
theorem ul_5_168 : Cond.constantLong RX9 165 (Int64.ofInt (6)) ∈ UL := ul_in5 (List.mem_of_getElem? (i := 168) rfl) rfl
theorem ul_5_169 : Cond.constantLong RX9 167 (Int64.ofInt (23)) ∈ UL := ul_in5 (List.mem_of_getElem? (i := 169) rfl) rfl
theorem ul_5_170 : Cond.methodLink RL 60 yX9_force ∈ UL := ul_in5 (List.mem_of_getElem? (i := 170) rfl) rfl
theorem ul_5_171 : Cond.instanceMethod yX9_force ∈ UL := ul_in5 (List.mem_of_getElem? (i := 171) rfl) rfl
theorem ul_5_172 : Cond.selects RX9 yX9_force yX9_force ∈ UL := ul_in5 (List.mem_of_getElem? (i := 172) rfl) rfl
theorem ul_5_173 : Cond.code yX9_force cX9_force 2 (some .int) ∈ UL := ul_in5 (List.mem_of_getElem? (i := 173) rfl) rfl
theorem ul_5_174 : Cond.methodLink RL 64 yX9_may ∈ UL := ul_in5 (List.mem_of_getElem? (i := 174) rfl) rfl
theorem ul_5_175 : Cond.instanceMethod yX9_may ∈ UL := ul_in5 (List.mem_of_getElem? (i := 175) rfl) rfl
theorem ul_5_176 : Cond.selects RX9 yX9_may yX9_may ∈ UL := ul_in5 (List.mem_of_getElem? (i := 176) rfl) rfl
theorem ul_5_177 : Cond.code yX9_may cX9_may 4 (some .int) ∈ UL := ul_in5 (List.mem_of_getElem? (i := 177) rfl) rfl
theorem ul_5_178 : Cond.methodLink RX9 177 yX9_mayTurn ∈ UL := ul_in5 (List.mem_of_getElem? (i := 178) rfl) rfl
theorem ul_5_180 : Cond.instanceMethod yX9_mayTurn ∈ UL := ul_in5 (List.mem_of_getElem? (i := 180) rfl) rfl
theorem ul_5_181 : Cond.code yX9_mayTurn cX9_mayTurn 8 (some .boolean) ∈ UL := ul_in5 (List.mem_of_getElem? (i := 181) rfl) rfl
theorem ul_5_182 : Cond.methodLink RL 68 yX9_barred ∈ UL := ul_in5 (List.mem_of_getElem? (i := 182) rfl) rfl
theorem ul_5_183 : Cond.instanceMethod yX9_barred ∈ UL := ul_in5 (List.mem_of_getElem? (i := 183) rfl) rfl
theorem ul_5_184 : Cond.selects RX9 yX9_barred yX9_barred ∈ UL := ul_in5 (List.mem_of_getElem? (i := 184) rfl) rfl
theorem ul_5_185 : Cond.code yX9_barred cX9_barred 3 (some .int) ∈ UL := ul_in5 (List.mem_of_getElem? (i := 185) rfl) rfl
theorem ul_5_186 : Cond.methodLink RX9 185 yX9_bars ∈ UL := ul_in5 (List.mem_of_getElem? (i := 186) rfl) rfl
theorem ul_5_188 : Cond.instanceMethod yX9_bars ∈ UL := ul_in5 (List.mem_of_getElem? (i := 188) rfl) rfl
theorem ul_5_189 : Cond.code yX9_bars cX9_bars 5 (some .boolean) ∈ UL := ul_in5 (List.mem_of_getElem? (i := 189) rfl) rfl
theorem ul_5_190 : Cond.methodLink RX9 181 yX9_stateOf ∈ UL := ul_in5 (List.mem_of_getElem? (i := 190) rfl) rfl
theorem ul_5_192 : Cond.instanceMethod yX9_stateOf ∈ UL := ul_in5 (List.mem_of_getElem? (i := 192) rfl) rfl
theorem ul_5_193 : Cond.code yX9_stateOf cX9_stateOf 2 (some .int) ∈ UL := ul_in5 (List.mem_of_getElem? (i := 193) rfl) rfl
theorem ul_5_194 : Cond.methodLink RL 73 yX9_hear ∈ UL := ul_in5 (List.mem_of_getElem? (i := 194) rfl) rfl
theorem ul_5_195 : Cond.instanceMethod yX9_hear ∈ UL := ul_in5 (List.mem_of_getElem? (i := 195) rfl) rfl
theorem ul_5_196 : Cond.selects RX9 yX9_hear yX9_hear ∈ UL := ul_in5 (List.mem_of_getElem? (i := 196) rfl) rfl
theorem ul_5_197 : Cond.code yX9_hear cX9_hear 8 (some .int) ∈ UL := ul_in5 (List.mem_of_getElem? (i := 197) rfl) rfl
theorem ul_5_198 : Cond.methodLink RX9 233 yX9_layReadings ∈ UL := ul_in5 (List.mem_of_getElem? (i := 198) rfl) rfl
theorem ul_5_200 : Cond.instanceMethod yX9_layReadings ∈ UL := ul_in5 (List.mem_of_getElem? (i := 200) rfl) rfl
theorem ul_5_201 : Cond.code yX9_layReadings cX9_layReadings 4 none ∈ UL := ul_in5 (List.mem_of_getElem? (i := 201) rfl) rfl
theorem ul_5_202 : Cond.methodLink RX9 222 yX9_take ∈ UL := ul_in5 (List.mem_of_getElem? (i := 202) rfl) rfl
theorem ul_5_204 : Cond.instanceMethod yX9_take ∈ UL := ul_in5 (List.mem_of_getElem? (i := 204) rfl) rfl
theorem ul_5_205 : Cond.code yX9_take cX9_take 9 none ∈ UL := ul_in5 (List.mem_of_getElem? (i := 205) rfl) rfl
theorem ul_5_206 : Cond.methodLink RX9 215 yX9_priceOf ∈ UL := ul_in5 (List.mem_of_getElem? (i := 206) rfl) rfl
theorem ul_5_208 : Cond.instanceMethod yX9_priceOf ∈ UL := ul_in5 (List.mem_of_getElem? (i := 208) rfl) rfl
theorem ul_5_209 : Cond.code yX9_priceOf cX9_priceOf 9 (some .int) ∈ UL := ul_in5 (List.mem_of_getElem? (i := 209) rfl) rfl
theorem ul_5_210 : Cond.methodLink RX9 191 yX9_addWord ∈ UL := ul_in5 (List.mem_of_getElem? (i := 210) rfl) rfl
theorem ul_5_212 : Cond.instanceMethod yX9_addWord ∈ UL := ul_in5 (List.mem_of_getElem? (i := 212) rfl) rfl
theorem ul_5_213 : Cond.code yX9_addWord cX9_addWord 3 none ∈ UL := ul_in5 (List.mem_of_getElem? (i := 213) rfl) rfl
theorem ul_5_214 : Cond.methodLink RX9 198 yX9_less ∈ UL := ul_in5 (List.mem_of_getElem? (i := 214) rfl) rfl
theorem ul_5_215 : Cond.static yX9_less ∈ UL := ul_in5 (List.mem_of_getElem? (i := 215) rfl) rfl
theorem ul_5_216 : Cond.code yX9_less cX9_less 2 (some .int) ∈ UL := ul_in5 (List.mem_of_getElem? (i := 216) rfl) rfl
theorem ul_5_217 : Cond.methodLink RX9 236 yX9_meaning ∈ UL := ul_in5 (List.mem_of_getElem? (i := 217) rfl) rfl
theorem ul_5_219 : Cond.instanceMethod yX9_meaning ∈ UL := ul_in5 (List.mem_of_getElem? (i := 219) rfl) rfl
theorem ul_5_220 : Cond.code yX9_meaning cX9_meaning 8 (some .int) ∈ UL := ul_in5 (List.mem_of_getElem? (i := 220) rfl) rfl
theorem ul_5_221 : Cond.methodLink RX9 208 yX9_has ∈ UL := ul_in5 (List.mem_of_getElem? (i := 221) rfl) rfl
theorem ul_5_222 : Cond.static yX9_has ∈ UL := ul_in5 (List.mem_of_getElem? (i := 222) rfl) rfl
theorem ul_5_223 : Cond.code yX9_has cX9_has 2 (some .boolean) ∈ UL := ul_in5 (List.mem_of_getElem? (i := 223) rfl) rfl
theorem ul_5_224 : Cond.methodLink RX9 212 yX9_greatest ∈ UL := ul_in5 (List.mem_of_getElem? (i := 224) rfl) rfl
theorem ul_5_225 : Cond.static yX9_greatest ∈ UL := ul_in5 (List.mem_of_getElem? (i := 225) rfl) rfl
theorem ul_5_226 : Cond.code yX9_greatest cX9_greatest 1 (some .int) ∈ UL := ul_in5 (List.mem_of_getElem? (i := 226) rfl) rfl
theorem ul_5_227 : Cond.methodLink RL 77 yX9_reading ∈ UL := ul_in5 (List.mem_of_getElem? (i := 227) rfl) rfl
theorem ul_5_228 : Cond.instanceMethod yX9_reading ∈ UL := ul_in5 (List.mem_of_getElem? (i := 228) rfl) rfl
theorem ul_5_229 : Cond.selects RX9 yX9_reading yX9_reading ∈ UL := ul_in5 (List.mem_of_getElem? (i := 229) rfl) rfl
theorem ul_5_230 : Cond.code yX9_reading cX9_reading 3 (some .int) ∈ UL := ul_in5 (List.mem_of_getElem? (i := 230) rfl) rfl
theorem ul_5_231 : Cond.methodLink RL 81 yX9_open ∈ UL := ul_in5 (List.mem_of_getElem? (i := 231) rfl) rfl
theorem ul_5_232 : Cond.instanceMethod yX9_open ∈ UL := ul_in5 (List.mem_of_getElem? (i := 232) rfl) rfl
theorem ul_5_233 : Cond.selects RX9 yX9_open yX9_open ∈ UL := ul_in5 (List.mem_of_getElem? (i := 233) rfl) rfl
theorem ul_5_234 : Cond.code yX9_open cX9_open 1 (some .int) ∈ UL := ul_in5 (List.mem_of_getElem? (i := 234) rfl) rfl
theorem ul_5_235 : Cond.methodLink RX9 242 yX9_unlikeMany ∈ UL := ul_in5 (List.mem_of_getElem? (i := 235) rfl) rfl
theorem ul_5_237 : Cond.instanceMethod yX9_unlikeMany ∈ UL := ul_in5 (List.mem_of_getElem? (i := 237) rfl) rfl
theorem ul_5_238 : Cond.code yX9_unlikeMany cX9_unlikeMany 5 (some .int) ∈ UL := ul_in5 (List.mem_of_getElem? (i := 238) rfl) rfl
theorem ul_5_239 : Cond.methodLink RX9 239 yX9_outcome ∈ UL := ul_in5 (List.mem_of_getElem? (i := 239) rfl) rfl
theorem ul_6_1 : Cond.instanceMethod yX9_outcome ∈ UL := ul_in6 (List.mem_of_getElem? (i := 1) rfl) rfl
theorem ul_6_2 : Cond.code yX9_outcome cX9_outcome 4 (some .int) ∈ UL := ul_in6 (List.mem_of_getElem? (i := 2) rfl) rfl
theorem ul_6_3 : Cond.methodLink RL 85 yX9_ask ∈ UL := ul_in6 (List.mem_of_getElem? (i := 3) rfl) rfl
theorem ul_6_4 : Cond.instanceMethod yX9_ask ∈ UL := ul_in6 (List.mem_of_getElem? (i := 4) rfl) rfl
theorem ul_6_5 : Cond.selects RX9 yX9_ask yX9_ask ∈ UL := ul_in6 (List.mem_of_getElem? (i := 5) rfl) rfl
theorem ul_6_6 : Cond.code yX9_ask cX9_ask 8 (some .int) ∈ UL := ul_in6 (List.mem_of_getElem? (i := 6) rfl) rfl
theorem ul_6_7 : Cond.methodLink RL 89 yX9_answer ∈ UL := ul_in6 (List.mem_of_getElem? (i := 7) rfl) rfl
theorem ul_6_8 : Cond.instanceMethod yX9_answer ∈ UL := ul_in6 (List.mem_of_getElem? (i := 8) rfl) rfl
theorem ul_6_9 : Cond.selects RX9 yX9_answer yX9_answer ∈ UL := ul_in6 (List.mem_of_getElem? (i := 9) rfl) rfl
theorem ul_6_10 : Cond.code yX9_answer cX9_answer 6 (some .int) ∈ UL := ul_in6 (List.mem_of_getElem? (i := 10) rfl) rfl
theorem ul_6_11 : Cond.methodLink RL 93 yX9_done ∈ UL := ul_in6 (List.mem_of_getElem? (i := 11) rfl) rfl
theorem ul_6_12 : Cond.instanceMethod yX9_done ∈ UL := ul_in6 (List.mem_of_getElem? (i := 12) rfl) rfl
theorem ul_6_13 : Cond.selects RX9 yX9_done yX9_done ∈ UL := ul_in6 (List.mem_of_getElem? (i := 13) rfl) rfl
theorem ul_6_14 : Cond.code yX9_done cX9_done 7 (some .int) ∈ UL := ul_in6 (List.mem_of_getElem? (i := 14) rfl) rfl
theorem ul_6_15 : Cond.methodLink RX9 251 yX9_layBars ∈ UL := ul_in6 (List.mem_of_getElem? (i := 15) rfl) rfl
theorem ul_6_17 : Cond.instanceMethod yX9_layBars ∈ UL := ul_in6 (List.mem_of_getElem? (i := 17) rfl) rfl
theorem ul_6_18 : Cond.code yX9_layBars cX9_layBars 2 none ∈ UL := ul_in6 (List.mem_of_getElem? (i := 18) rfl) rfl
theorem ul_6_19 : Cond.methodLink RX9 254 yX9_newBar ∈ UL := ul_in6 (List.mem_of_getElem? (i := 19) rfl) rfl
theorem ul_6_21 : Cond.instanceMethod yX9_newBar ∈ UL := ul_in6 (List.mem_of_getElem? (i := 21) rfl) rfl
theorem ul_6_22 : Cond.code yX9_newBar cX9_newBar 2 (some .boolean) ∈ UL := ul_in6 (List.mem_of_getElem? (i := 22) rfl) rfl
theorem ul_6_23 : Cond.methodLink RX9 272 yX9_log ∈ UL := ul_in6 (List.mem_of_getElem? (i := 23) rfl) rfl
theorem ul_6_25 : Cond.instanceMethod yX9_log ∈ UL := ul_in6 (List.mem_of_getElem? (i := 25) rfl) rfl
theorem ul_6_26 : Cond.code yX9_log cX9_log 4 none ∈ UL := ul_in6 (List.mem_of_getElem? (i := 26) rfl) rfl
theorem ul_6_27 : Cond.methodLink RX9 260 yX9_wakeBy ∈ UL := ul_in6 (List.mem_of_getElem? (i := 27) rfl) rfl
theorem ul_6_29 : Cond.instanceMethod yX9_wakeBy ∈ UL := ul_in6 (List.mem_of_getElem? (i := 29) rfl) rfl
theorem ul_6_30 : Cond.code yX9_wakeBy cX9_wakeBy 3 none ∈ UL := ul_in6 (List.mem_of_getElem? (i := 30) rfl) rfl
theorem ul_6_31 : Cond.methodLink RX9 276 yX9_bitsOf ∈ UL := ul_in6 (List.mem_of_getElem? (i := 31) rfl) rfl
theorem ul_6_32 : Cond.static yX9_bitsOf ∈ UL := ul_in6 (List.mem_of_getElem? (i := 32) rfl) rfl
theorem ul_6_33 : Cond.code yX9_bitsOf cX9_bitsOf 3 (some .int) ∈ UL := ul_in6 (List.mem_of_getElem? (i := 33) rfl) rfl
theorem ul_6_34 : Cond.methodLink RX9 279 yX9_fire ∈ UL := ul_in6 (List.mem_of_getElem? (i := 34) rfl) rfl
theorem ul_6_36 : Cond.instanceMethod yX9_fire ∈ UL := ul_in6 (List.mem_of_getElem? (i := 36) rfl) rfl
theorem ul_6_37 : Cond.code yX9_fire cX9_fire 8 none ∈ UL := ul_in6 (List.mem_of_getElem? (i := 37) rfl) rfl
theorem ul_6_38 : Cond.methodLink RL 97 yX9_undo ∈ UL := ul_in6 (List.mem_of_getElem? (i := 38) rfl) rfl
theorem ul_6_39 : Cond.instanceMethod yX9_undo ∈ UL := ul_in6 (List.mem_of_getElem? (i := 39) rfl) rfl
theorem ul_6_40 : Cond.selects RX9 yX9_undo yX9_undo ∈ UL := ul_in6 (List.mem_of_getElem? (i := 40) rfl) rfl
theorem ul_6_41 : Cond.code yX9_undo cX9_undo 4 (some .int) ∈ UL := ul_in6 (List.mem_of_getElem? (i := 41) rfl) rfl
theorem ul_6_42 : Cond.methodLink RL 101 yX9_when ∈ UL := ul_in6 (List.mem_of_getElem? (i := 42) rfl) rfl
theorem ul_6_43 : Cond.instanceMethod yX9_when ∈ UL := ul_in6 (List.mem_of_getElem? (i := 43) rfl) rfl
theorem ul_6_44 : Cond.selects RX9 yX9_when yX9_when ∈ UL := ul_in6 (List.mem_of_getElem? (i := 44) rfl) rfl
theorem ul_6_45 : Cond.code yX9_when cX9_when 5 (some .int) ∈ UL := ul_in6 (List.mem_of_getElem? (i := 45) rfl) rfl
theorem ul_6_46 : Cond.methodLink RX9 282 yX9_isState ∈ UL := ul_in6 (List.mem_of_getElem? (i := 46) rfl) rfl
theorem ul_6_48 : Cond.instanceMethod yX9_isState ∈ UL := ul_in6 (List.mem_of_getElem? (i := 48) rfl) rfl
theorem ul_6_49 : Cond.code yX9_isState cX9_isState 3 (some .boolean) ∈ UL := ul_in6 (List.mem_of_getElem? (i := 49) rfl) rfl
theorem ul_6_50 : Cond.methodLink RX9 285 yX9_stand ∈ UL := ul_in6 (List.mem_of_getElem? (i := 50) rfl) rfl
theorem ul_6_52 : Cond.instanceMethod yX9_stand ∈ UL := ul_in6 (List.mem_of_getElem? (i := 52) rfl) rfl
theorem ul_6_53 : Cond.code yX9_stand cX9_stand 7 (some .int) ∈ UL := ul_in6 (List.mem_of_getElem? (i := 53) rfl) rfl
theorem ul_6_54 : Cond.methodLink RL 105 yX9_at ∈ UL := ul_in6 (List.mem_of_getElem? (i := 54) rfl) rfl
theorem ul_6_55 : Cond.instanceMethod yX9_at ∈ UL := ul_in6 (List.mem_of_getElem? (i := 55) rfl) rfl
theorem ul_6_56 : Cond.selects RX9 yX9_at yX9_at ∈ UL := ul_in6 (List.mem_of_getElem? (i := 56) rfl) rfl
theorem ul_6_57 : Cond.code yX9_at cX9_at 4 (some .int) ∈ UL := ul_in6 (List.mem_of_getElem? (i := 57) rfl) rfl
theorem ul_6_58 : Cond.methodLink RL 109 yX9_ticks ∈ UL := ul_in6 (List.mem_of_getElem? (i := 58) rfl) rfl
theorem ul_6_59 : Cond.instanceMethod yX9_ticks ∈ UL := ul_in6 (List.mem_of_getElem? (i := 59) rfl) rfl
theorem ul_6_60 : Cond.selects RX9 yX9_ticks yX9_ticks ∈ UL := ul_in6 (List.mem_of_getElem? (i := 60) rfl) rfl
theorem ul_6_61 : Cond.code yX9_ticks cX9_ticks 4 (some .int) ∈ UL := ul_in6 (List.mem_of_getElem? (i := 61) rfl) rfl
theorem ul_6_62 : Cond.methodLink RL 113 yX9_quarrel ∈ UL := ul_in6 (List.mem_of_getElem? (i := 62) rfl) rfl
theorem ul_6_63 : Cond.instanceMethod yX9_quarrel ∈ UL := ul_in6 (List.mem_of_getElem? (i := 63) rfl) rfl
theorem ul_6_64 : Cond.selects RX9 yX9_quarrel yX9_quarrel ∈ UL := ul_in6 (List.mem_of_getElem? (i := 64) rfl) rfl
theorem ul_6_65 : Cond.code yX9_quarrel cX9_quarrel 4 (some .int) ∈ UL := ul_in6 (List.mem_of_getElem? (i := 65) rfl) rfl
theorem ul_6_66 : Cond.methodLink RL 117 yX9_wake ∈ UL := ul_in6 (List.mem_of_getElem? (i := 66) rfl) rfl
theorem ul_6_67 : Cond.instanceMethod yX9_wake ∈ UL := ul_in6 (List.mem_of_getElem? (i := 67) rfl) rfl
theorem ul_6_68 : Cond.selects RX9 yX9_wake yX9_wake ∈ UL := ul_in6 (List.mem_of_getElem? (i := 68) rfl) rfl
theorem ul_6_69 : Cond.code yX9_wake cX9_wake 5 (some .int) ∈ UL := ul_in6 (List.mem_of_getElem? (i := 69) rfl) rfl
theorem ul_6_70 : Cond.methodLink RX9 289 yX9_wakes ∈ UL := ul_in6 (List.mem_of_getElem? (i := 70) rfl) rfl
theorem ul_6_72 : Cond.instanceMethod yX9_wakes ∈ UL := ul_in6 (List.mem_of_getElem? (i := 72) rfl) rfl
theorem ul_6_73 : Cond.code yX9_wakes cX9_wakes 5 (some .int) ∈ UL := ul_in6 (List.mem_of_getElem? (i := 73) rfl) rfl
theorem ul_6_74 : Cond.methodLink RL 121 yX9_show ∈ UL := ul_in6 (List.mem_of_getElem? (i := 74) rfl) rfl
theorem ul_6_75 : Cond.instanceMethod yX9_show ∈ UL := ul_in6 (List.mem_of_getElem? (i := 75) rfl) rfl
theorem ul_6_76 : Cond.selects RX9 yX9_show yX9_show ∈ UL := ul_in6 (List.mem_of_getElem? (i := 76) rfl) rfl
theorem ul_6_77 : Cond.code yX9_show cX9_show 3 (some .int) ∈ UL := ul_in6 (List.mem_of_getElem? (i := 77) rfl) rfl
theorem ul_6_78 : Cond.methodLink RX9 298 yX9_shows ∈ UL := ul_in6 (List.mem_of_getElem? (i := 78) rfl) rfl
theorem ul_6_80 : Cond.instanceMethod yX9_shows ∈ UL := ul_in6 (List.mem_of_getElem? (i := 80) rfl) rfl
theorem ul_6_81 : Cond.code yX9_shows cX9_shows 7 (some .boolean) ∈ UL := ul_in6 (List.mem_of_getElem? (i := 81) rfl) rfl
theorem ul_6_82 : Cond.methodLink RX9 292 yX9_restore ∈ UL := ul_in6 (List.mem_of_getElem? (i := 82) rfl) rfl
theorem ul_6_84 : Cond.instanceMethod yX9_restore ∈ UL := ul_in6 (List.mem_of_getElem? (i := 84) rfl) rfl
theorem ul_6_85 : Cond.code yX9_restore cX9_restore 3 none ∈ UL := ul_in6 (List.mem_of_getElem? (i := 85) rfl) rfl
theorem ul_6_86 : Cond.methodLink RX9 295 yX9_bringsBar ∈ UL := ul_in6 (List.mem_of_getElem? (i := 86) rfl) rfl
theorem ul_6_88 : Cond.instanceMethod yX9_bringsBar ∈ UL := ul_in6 (List.mem_of_getElem? (i := 88) rfl) rfl
theorem ul_6_89 : Cond.code yX9_bringsBar cX9_bringsBar 6 (some .boolean) ∈ UL := ul_in6 (List.mem_of_getElem? (i := 89) rfl) rfl
theorem ul_6_90 : Cond.methodLink RL 125 yX9_habits ∈ UL := ul_in6 (List.mem_of_getElem? (i := 90) rfl) rfl
theorem ul_6_91 : Cond.instanceMethod yX9_habits ∈ UL := ul_in6 (List.mem_of_getElem? (i := 91) rfl) rfl
theorem ul_6_92 : Cond.selects RX9 yX9_habits yX9_habits ∈ UL := ul_in6 (List.mem_of_getElem? (i := 92) rfl) rfl
theorem ul_6_93 : Cond.code yX9_habits cX9_habits 7 (some .int) ∈ UL := ul_in6 (List.mem_of_getElem? (i := 93) rfl) rfl
theorem ul_6_94 : Cond.constantLong RX9 301 (Int64.ofInt (14)) ∈ UL := ul_in6 (List.mem_of_getElem? (i := 94) rfl) rfl
theorem ul_6_95 : Cond.methodLink RX9 303 yX9_daysOf ∈ UL := ul_in6 (List.mem_of_getElem? (i := 95) rfl) rfl
theorem ul_6_97 : Cond.instanceMethod yX9_daysOf ∈ UL := ul_in6 (List.mem_of_getElem? (i := 97) rfl) rfl
theorem ul_6_98 : Cond.code yX9_daysOf cX9_daysOf 10 (some .int) ∈ UL := ul_in6 (List.mem_of_getElem? (i := 98) rfl) rfl
theorem ul_6_99 : Cond.methodLink RL 129 yX9_keepHabit ∈ UL := ul_in6 (List.mem_of_getElem? (i := 99) rfl) rfl
theorem ul_6_100 : Cond.instanceMethod yX9_keepHabit ∈ UL := ul_in6 (List.mem_of_getElem? (i := 100) rfl) rfl
theorem ul_6_101 : Cond.selects RX9 yX9_keepHabit yX9_keepHabit ∈ UL := ul_in6 (List.mem_of_getElem? (i := 101) rfl) rfl
theorem ul_6_102 : Cond.code yX9_keepHabit cX9_keepHabit 2 (some .int) ∈ UL := ul_in6 (List.mem_of_getElem? (i := 102) rfl) rfl
theorem ul_6_103 : Cond.constantLong RX9 307 (Int64.ofInt (2399)) ∈ UL := ul_in6 (List.mem_of_getElem? (i := 103) rfl) rfl
theorem ul_6_104 : Cond.methodLink RL 133 yX9_forget ∈ UL := ul_in6 (List.mem_of_getElem? (i := 104) rfl) rfl
theorem ul_6_105 : Cond.instanceMethod yX9_forget ∈ UL := ul_in6 (List.mem_of_getElem? (i := 105) rfl) rfl
theorem ul_6_106 : Cond.selects RX9 yX9_forget yX9_forget ∈ UL := ul_in6 (List.mem_of_getElem? (i := 106) rfl) rfl
theorem ul_6_107 : Cond.code yX9_forget cX9_forget 6 (some .int) ∈ UL := ul_in6 (List.mem_of_getElem? (i := 107) rfl) rfl
theorem ul_6_108 : Cond.methodLink RL 137 yX9_cost ∈ UL := ul_in6 (List.mem_of_getElem? (i := 108) rfl) rfl
theorem ul_6_109 : Cond.instanceMethod yX9_cost ∈ UL := ul_in6 (List.mem_of_getElem? (i := 109) rfl) rfl
theorem ul_6_110 : Cond.selects RX9 yX9_cost yX9_cost ∈ UL := ul_in6 (List.mem_of_getElem? (i := 110) rfl) rfl
theorem ul_6_111 : Cond.code yX9_cost cX9_cost 4 (some .int) ∈ UL := ul_in6 (List.mem_of_getElem? (i := 111) rfl) rfl
theorem ul_6_112 : Cond.methodLink RL 141 yX9_why ∈ UL := ul_in6 (List.mem_of_getElem? (i := 112) rfl) rfl
theorem ul_6_113 : Cond.instanceMethod yX9_why ∈ UL := ul_in6 (List.mem_of_getElem? (i := 113) rfl) rfl
theorem ul_6_114 : Cond.selects RX9 yX9_why yX9_why ∈ UL := ul_in6 (List.mem_of_getElem? (i := 114) rfl) rfl
theorem ul_6_115 : Cond.code yX9_why cX9_why 2 (some .int) ∈ UL := ul_in6 (List.mem_of_getElem? (i := 115) rfl) rfl
theorem ul_6_116 : Cond.methodLink RL 145 yX9_count ∈ UL := ul_in6 (List.mem_of_getElem? (i := 116) rfl) rfl
theorem ul_6_117 : Cond.instanceMethod yX9_count ∈ UL := ul_in6 (List.mem_of_getElem? (i := 117) rfl) rfl
theorem ul_6_118 : Cond.selects RX9 yX9_count yX9_count ∈ UL := ul_in6 (List.mem_of_getElem? (i := 118) rfl) rfl
theorem ul_6_119 : Cond.code yX9_count cX9_count 2 (some .int) ∈ UL := ul_in6 (List.mem_of_getElem? (i := 119) rfl) rfl
theorem ul_6_120 : Cond.constantLong RL 41 (Int64.ofInt (4294967295)) ∈ UL := ul_in6 (List.mem_of_getElem? (i := 120) rfl) rfl
theorem us_X5_readItem : Cond.selects RX5 yX5_readItem yX5_readItem ∈ UL := ul_sel (y := yX5_readItem) (n := 7) (List.mem_of_getElem? (i := 0) rfl) rfl
theorem us_X5_figuresAt : Cond.selects RX5 yX5_figuresAt yX5_figuresAt ∈ UL := ul_sel (y := yX5_figuresAt) (n := 7) (List.mem_of_getElem? (i := 1) rfl) rfl
theorem us_X5_isFigure : Cond.selects RX5 yX5_isFigure yX5_isFigure ∈ UL := ul_sel (y := yX5_isFigure) (n := 7) (List.mem_of_getElem? (i := 2) rfl) rfl
theorem us_X5_valueAt : Cond.selects RX5 yX5_valueAt yX5_valueAt ∈ UL := ul_sel (y := yX5_valueAt) (n := 7) (List.mem_of_getElem? (i := 3) rfl) rfl
theorem us_X5_numbersFit : Cond.selects RX5 yX5_numbersFit yX5_numbersFit ∈ UL := ul_sel (y := yX5_numbersFit) (n := 7) (List.mem_of_getElem? (i := 4) rfl) rfl
theorem us_X5_letsByItem : Cond.selects RX5 yX5_letsByItem yX5_letsByItem ∈ UL := ul_sel (y := yX5_letsByItem) (n := 7) (List.mem_of_getElem? (i := 5) rfl) rfl
theorem us_X5_barsByItem : Cond.selects RX5 yX5_barsByItem yX5_barsByItem ∈ UL := ul_sel (y := yX5_barsByItem) (n := 7) (List.mem_of_getElem? (i := 6) rfl) rfl
theorem us_X7_priceWithSound : Cond.selects RX7 yX7_priceWithSound yX7_priceWithSound ∈ UL := ul_sel (y := yX7_priceWithSound) (n := 8) (List.mem_of_getElem? (i := 7) rfl) rfl
theorem us_X3_offerWithVerb : Cond.selects RX3 yX3_offerWithVerb yX3_offerWithVerb ∈ UL := ul_sel (y := yX3_offerWithVerb) (n := 16) (List.mem_of_getElem? (i := 8) rfl) rfl
theorem us_X3_offer : Cond.selects RX3 yX3_offer yX3_offer ∈ UL := ul_sel (y := yX3_offer) (n := 16) (List.mem_of_getElem? (i := 9) rfl) rfl
theorem us_X3_offerWithSort : Cond.selects RX3 yX3_offerWithSort yX3_offerWithSort ∈ UL := ul_sel (y := yX3_offerWithSort) (n := 16) (List.mem_of_getElem? (i := 10) rfl) rfl
theorem us_X3_thingsNamed : Cond.selects RX3 yX3_thingsNamed yX3_thingsNamed ∈ UL := ul_sel (y := yX3_thingsNamed) (n := 16) (List.mem_of_getElem? (i := 11) rfl) rfl
theorem us_X3_isFirstToDoSo : Cond.selects RX3 yX3_isFirstToDoSo yX3_isFirstToDoSo ∈ UL := ul_sel (y := yX3_isFirstToDoSo) (n := 16) (List.mem_of_getElem? (i := 12) rfl) rfl
theorem us_X3_statesBy : Cond.selects RX3 yX3_statesBy yX3_statesBy ∈ UL := ul_sel (y := yX3_statesBy) (n := 16) (List.mem_of_getElem? (i := 13) rfl) rfl
theorem us_X3_greatestWithOneAnswer : Cond.selects RX3 yX3_greatestWithOneAnswer yX3_greatestWithOneAnswer ∈ UL := ul_sel (y := yX3_greatestWithOneAnswer) (n := 16) (List.mem_of_getElem? (i := 14) rfl) rfl
theorem us_X3_wordAt : Cond.selects RX3 yX3_wordAt yX3_wordAt ∈ UL := ul_sel (y := yX3_wordAt) (n := 16) (List.mem_of_getElem? (i := 15) rfl) rfl
theorem us_X3_openWith : Cond.selects RX3 yX3_openWith yX3_openWith ∈ UL := ul_sel (y := yX3_openWith) (n := 16) (List.mem_of_getElem? (i := 16) rfl) rfl
theorem us_X8_mayTurnAll : Cond.selects RX8 yX8_mayTurnAll yX8_mayTurnAll ∈ UL := ul_sel (y := yX8_mayTurnAll) (n := 9) (List.mem_of_getElem? (i := 17) rfl) rfl
theorem us_X8_carryOut : Cond.selects RX8 yX8_carryOut yX8_carryOut ∈ UL := ul_sel (y := yX8_carryOut) (n := 9) (List.mem_of_getElem? (i := 18) rfl) rfl
theorem us_X1_dropOldest : Cond.selects RX1 yX1_dropOldest yX1_dropOldest ∈ UL := ul_sel (y := yX1_dropOldest) (n := 8) (List.mem_of_getElem? (i := 19) rfl) rfl
theorem us_X1_moveEntry : Cond.selects RX1 yX1_moveEntry yX1_moveEntry ∈ UL := ul_sel (y := yX1_moveEntry) (n := 8) (List.mem_of_getElem? (i := 20) rfl) rfl
theorem us_X6_putInRow : Cond.selects RX6 yX6_putInRow yX6_putInRow ∈ UL := ul_sel (y := yX6_putInRow) (n := 10) (List.mem_of_getElem? (i := 21) rfl) rfl
theorem us_X8_takeBack : Cond.selects RX8 yX8_takeBack yX8_takeBack ∈ UL := ul_sel (y := yX8_takeBack) (n := 9) (List.mem_of_getElem? (i := 22) rfl) rfl
theorem us_X6_allWokenBy : Cond.selects RX6 yX6_allWokenBy yX6_allWokenBy ∈ UL := ul_sel (y := yX6_allWokenBy) (n := 10) (List.mem_of_getElem? (i := 23) rfl) rfl
theorem us_X6_wokenAtOnceBy : Cond.selects RX6 yX6_wokenAtOnceBy yX6_wokenAtOnceBy ∈ UL := ul_sel (y := yX6_wokenAtOnceBy) (n := 10) (List.mem_of_getElem? (i := 24) rfl) rfl
theorem us_X2_reach : Cond.selects RX2 yX2_reach yX2_reach ∈ UL := ul_sel (y := yX2_reach) (n := 8) (List.mem_of_getElem? (i := 25) rfl) rfl
theorem us_X2_comesToBarredFrom : Cond.selects RX2 yX2_comesToBarredFrom yX2_comesToBarredFrom ∈ UL := ul_sel (y := yX2_comesToBarredFrom) (n := 8) (List.mem_of_getElem? (i := 26) rfl) rfl
theorem us_X9_isThing : Cond.selects RX9 yX9_isThing yX9_isThing ∈ UL := ul_sel (y := yX9_isThing) (n := 52) (List.mem_of_getElem? (i := 27) rfl) rfl
theorem us_X9_readAll : Cond.selects RX9 yX9_readAll yX9_readAll ∈ UL := ul_sel (y := yX9_readAll) (n := 52) (List.mem_of_getElem? (i := 28) rfl) rfl
theorem us_X9_item : Cond.selects RX9 yX9_item yX9_item ∈ UL := ul_sel (y := yX9_item) (n := 52) (List.mem_of_getElem? (i := 29) rfl) rfl
theorem us_X9_figures : Cond.selects RX9 yX9_figures yX9_figures ∈ UL := ul_sel (y := yX9_figures) (n := 52) (List.mem_of_getElem? (i := 30) rfl) rfl
theorem us_X9_mayTurn : Cond.selects RX9 yX9_mayTurn yX9_mayTurn ∈ UL := ul_sel (y := yX9_mayTurn) (n := 52) (List.mem_of_getElem? (i := 31) rfl) rfl
theorem us_X9_bars : Cond.selects RX9 yX9_bars yX9_bars ∈ UL := ul_sel (y := yX9_bars) (n := 52) (List.mem_of_getElem? (i := 32) rfl) rfl
theorem us_X9_stateOf : Cond.selects RX9 yX9_stateOf yX9_stateOf ∈ UL := ul_sel (y := yX9_stateOf) (n := 52) (List.mem_of_getElem? (i := 33) rfl) rfl
theorem us_X9_layReadings : Cond.selects RX9 yX9_layReadings yX9_layReadings ∈ UL := ul_sel (y := yX9_layReadings) (n := 52) (List.mem_of_getElem? (i := 34) rfl) rfl
theorem us_X9_take : Cond.selects RX9 yX9_take yX9_take ∈ UL := ul_sel (y := yX9_take) (n := 52) (List.mem_of_getElem? (i := 35) rfl) rfl
theorem us_X9_priceOf : Cond.selects RX9 yX9_priceOf yX9_priceOf ∈ UL := ul_sel (y := yX9_priceOf) (n := 52) (List.mem_of_getElem? (i := 36) rfl) rfl
theorem us_X9_addWord : Cond.selects RX9 yX9_addWord yX9_addWord ∈ UL := ul_sel (y := yX9_addWord) (n := 52) (List.mem_of_getElem? (i := 37) rfl) rfl
theorem us_X9_meaning : Cond.selects RX9 yX9_meaning yX9_meaning ∈ UL := ul_sel (y := yX9_meaning) (n := 52) (List.mem_of_getElem? (i := 38) rfl) rfl
theorem us_X9_unlikeMany : Cond.selects RX9 yX9_unlikeMany yX9_unlikeMany ∈ UL := ul_sel (y := yX9_unlikeMany) (n := 52) (List.mem_of_getElem? (i := 39) rfl) rfl
theorem us_X9_outcome : Cond.selects RX9 yX9_outcome yX9_outcome ∈ UL := ul_sel (y := yX9_outcome) (n := 52) (List.mem_of_getElem? (i := 40) rfl) rfl
theorem us_X9_layBars : Cond.selects RX9 yX9_layBars yX9_layBars ∈ UL := ul_sel (y := yX9_layBars) (n := 52) (List.mem_of_getElem? (i := 41) rfl) rfl
theorem us_X9_newBar : Cond.selects RX9 yX9_newBar yX9_newBar ∈ UL := ul_sel (y := yX9_newBar) (n := 52) (List.mem_of_getElem? (i := 42) rfl) rfl
theorem us_X9_log : Cond.selects RX9 yX9_log yX9_log ∈ UL := ul_sel (y := yX9_log) (n := 52) (List.mem_of_getElem? (i := 43) rfl) rfl
theorem us_X9_wakeBy : Cond.selects RX9 yX9_wakeBy yX9_wakeBy ∈ UL := ul_sel (y := yX9_wakeBy) (n := 52) (List.mem_of_getElem? (i := 44) rfl) rfl
theorem us_X9_fire : Cond.selects RX9 yX9_fire yX9_fire ∈ UL := ul_sel (y := yX9_fire) (n := 52) (List.mem_of_getElem? (i := 45) rfl) rfl
theorem us_X9_isState : Cond.selects RX9 yX9_isState yX9_isState ∈ UL := ul_sel (y := yX9_isState) (n := 52) (List.mem_of_getElem? (i := 46) rfl) rfl
theorem us_X9_stand : Cond.selects RX9 yX9_stand yX9_stand ∈ UL := ul_sel (y := yX9_stand) (n := 52) (List.mem_of_getElem? (i := 47) rfl) rfl
theorem us_X9_wakes : Cond.selects RX9 yX9_wakes yX9_wakes ∈ UL := ul_sel (y := yX9_wakes) (n := 52) (List.mem_of_getElem? (i := 48) rfl) rfl
theorem us_X9_shows : Cond.selects RX9 yX9_shows yX9_shows ∈ UL := ul_sel (y := yX9_shows) (n := 52) (List.mem_of_getElem? (i := 49) rfl) rfl
theorem us_X9_restore : Cond.selects RX9 yX9_restore yX9_restore ∈ UL := ul_sel (y := yX9_restore) (n := 52) (List.mem_of_getElem? (i := 50) rfl) rfl
theorem us_X9_bringsBar : Cond.selects RX9 yX9_bringsBar yX9_bringsBar ∈ UL := ul_sel (y := yX9_bringsBar) (n := 52) (List.mem_of_getElem? (i := 51) rfl) rfl
theorem us_X9_daysOf : Cond.selects RX9 yX9_daysOf yX9_daysOf ∈ UL := ul_sel (y := yX9_daysOf) (n := 52) (List.mem_of_getElem? (i := 52) rfl) rfl
