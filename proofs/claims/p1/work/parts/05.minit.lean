theorem dX12_init_0 : decode cX12_init 0 = .ok (.aload_n 0, 1) := by decide +kernel
theorem dX12_init_1 : decode cX12_init 1 = .ok (.invokespecial 3, 3) := by decide +kernel
theorem dX12_init_4 : decode cX12_init 4 = .ok (.aload_n 0, 1) := by decide +kernel
theorem dX12_init_5 : decode cX12_init 5 = .ok (.bipush 12, 2) := by decide +kernel
theorem dX12_init_7 : decode cX12_init 7 = .ok (.newarray .int, 2) := by decide +kernel
theorem dX12_init_9 : decode cX12_init 9 = .ok (.putfield 9, 3) := by decide +kernel
theorem dX12_init_12 : decode cX12_init 12 = .ok (.aload_n 0, 1) := by decide +kernel
theorem dX12_init_13 : decode cX12_init 13 = .ok (.bipush 12, 2) := by decide +kernel
theorem dX12_init_15 : decode cX12_init 15 = .ok (.newarray .int, 2) := by decide +kernel
theorem dX12_init_17 : decode cX12_init 17 = .ok (.putfield 15, 3) := by decide +kernel
theorem dX12_init_20 : decode cX12_init 20 = .ok (.aload_n 0, 1) := by decide +kernel
theorem dX12_init_21 : decode cX12_init 21 = .ok (.bipush 12, 2) := by decide +kernel
theorem dX12_init_23 : decode cX12_init 23 = .ok (.newarray .int, 2) := by decide +kernel
theorem dX12_init_25 : decode cX12_init 25 = .ok (.putfield 18, 3) := by decide +kernel
theorem dX12_init_28 : decode cX12_init 28 = .ok (.aload_n 0, 1) := by decide +kernel
theorem dX12_init_29 : decode cX12_init 29 = .ok (.bipush 50, 2) := by decide +kernel
theorem dX12_init_31 : decode cX12_init 31 = .ok (.putfield 21, 3) := by decide +kernel
theorem dX12_init_34 : decode cX12_init 34 = .ok (.aload_n 0, 1) := by decide +kernel
theorem dX12_init_35 : decode cX12_init 35 = .ok (.bipush 8, 2) := by decide +kernel
theorem dX12_init_37 : decode cX12_init 37 = .ok (.newarray .int, 2) := by decide +kernel
theorem dX12_init_39 : decode cX12_init 39 = .ok (.putfield 25, 3) := by decide +kernel
theorem dX12_init_42 : decode cX12_init 42 = .ok (.aload_n 0, 1) := by decide +kernel
theorem dX12_init_43 : decode cX12_init 43 = .ok (.bipush 20, 2) := by decide +kernel
theorem dX12_init_45 : decode cX12_init 45 = .ok (.newarray .int, 2) := by decide +kernel
theorem dX12_init_47 : decode cX12_init 47 = .ok (.putfield 28, 3) := by decide +kernel
theorem dX12_init_50 : decode cX12_init 50 = .ok (.aload_n 0, 1) := by decide +kernel
theorem dX12_init_51 : decode cX12_init 51 = .ok (.bipush 20, 2) := by decide +kernel
theorem dX12_init_53 : decode cX12_init 53 = .ok (.newarray .int, 2) := by decide +kernel
theorem dX12_init_55 : decode cX12_init 55 = .ok (.putfield 31, 3) := by decide +kernel
theorem dX12_init_58 : decode cX12_init 58 = .ok (.aload_n 0, 1) := by decide +kernel
theorem dX12_init_59 : decode cX12_init 59 = .ok (.bipush 20, 2) := by decide +kernel
theorem dX12_init_61 : decode cX12_init 61 = .ok (.newarray .int, 2) := by decide +kernel
theorem dX12_init_63 : decode cX12_init 63 = .ok (.putfield 34, 3) := by decide +kernel
theorem dX12_init_66 : decode cX12_init 66 = .ok (.aload_n 0, 1) := by decide +kernel
theorem dX12_init_67 : decode cX12_init 67 = .ok (.bipush 20, 2) := by decide +kernel
theorem dX12_init_69 : decode cX12_init 69 = .ok (.newarray .int, 2) := by decide +kernel
theorem dX12_init_71 : decode cX12_init 71 = .ok (.putfield 37, 3) := by decide +kernel
theorem dX12_init_74 : decode cX12_init 74 = .ok (.aload_n 0, 1) := by decide +kernel
theorem dX12_init_75 : decode cX12_init 75 = .ok (.bipush 20, 2) := by decide +kernel
theorem dX12_init_77 : decode cX12_init 77 = .ok (.newarray .int, 2) := by decide +kernel
theorem dX12_init_79 : decode cX12_init 79 = .ok (.putfield 40, 3) := by decide +kernel
theorem dX12_init_82 : decode cX12_init 82 = .ok (.aload_n 0, 1) := by decide +kernel
theorem dX12_init_83 : decode cX12_init 83 = .ok (.bipush 20, 2) := by decide +kernel
theorem dX12_init_85 : decode cX12_init 85 = .ok (.newarray .int, 2) := by decide +kernel
theorem dX12_init_87 : decode cX12_init 87 = .ok (.putfield 43, 3) := by decide +kernel
theorem dX12_init_90 : decode cX12_init 90 = .ok (.aload_n 0, 1) := by decide +kernel
theorem dX12_init_91 : decode cX12_init 91 = .ok (.sipush 160, 3) := by decide +kernel
theorem dX12_init_94 : decode cX12_init 94 = .ok (.newarray .int, 2) := by decide +kernel
theorem dX12_init_96 : decode cX12_init 96 = .ok (.putfield 46, 3) := by decide +kernel
theorem dX12_init_99 : decode cX12_init 99 = .ok (.aload_n 0, 1) := by decide +kernel
theorem dX12_init_100 : decode cX12_init 100 = .ok (.bipush 20, 2) := by decide +kernel
theorem dX12_init_102 : decode cX12_init 102 = .ok (.newarray .int, 2) := by decide +kernel
theorem dX12_init_104 : decode cX12_init 104 = .ok (.putfield 49, 3) := by decide +kernel
theorem dX12_init_107 : decode cX12_init 107 = .ok (.aload_n 0, 1) := by decide +kernel
theorem dX12_init_108 : decode cX12_init 108 = .ok (.sipush 160, 3) := by decide +kernel
theorem dX12_init_111 : decode cX12_init 111 = .ok (.newarray .int, 2) := by decide +kernel
theorem dX12_init_113 : decode cX12_init 113 = .ok (.putfield 52, 3) := by decide +kernel
theorem dX12_init_116 : decode cX12_init 116 = .ok (.aload_n 0, 1) := by decide +kernel
theorem dX12_init_117 : decode cX12_init 117 = .ok (.iconst (-1), 1) := by decide +kernel
theorem dX12_init_118 : decode cX12_init 118 = .ok (.putfield 55, 3) := by decide +kernel
theorem dX12_init_121 : decode cX12_init 121 = .ok (.aload_n 0, 1) := by decide +kernel
theorem dX12_init_122 : decode cX12_init 122 = .ok (.bipush 40, 2) := by decide +kernel
theorem dX12_init_124 : decode cX12_init 124 = .ok (.newarray .int, 2) := by decide +kernel
theorem dX12_init_126 : decode cX12_init 126 = .ok (.putfield 58, 3) := by decide +kernel
theorem dX12_init_129 : decode cX12_init 129 = .ok (.aload_n 0, 1) := by decide +kernel
theorem dX12_init_130 : decode cX12_init 130 = .ok (.bipush 60, 2) := by decide +kernel
theorem dX12_init_132 : decode cX12_init 132 = .ok (.newarray .int, 2) := by decide +kernel
theorem dX12_init_134 : decode cX12_init 134 = .ok (.putfield 61, 3) := by decide +kernel
theorem dX12_init_137 : decode cX12_init 137 = .ok (.aload_n 0, 1) := by decide +kernel
theorem dX12_init_138 : decode cX12_init 138 = .ok (.sipush 1200, 3) := by decide +kernel
theorem dX12_init_141 : decode cX12_init 141 = .ok (.newarray .int, 2) := by decide +kernel
theorem dX12_init_143 : decode cX12_init 143 = .ok (.putfield 64, 3) := by decide +kernel
theorem dX12_init_146 : decode cX12_init 146 = .ok (.aload_n 0, 1) := by decide +kernel
theorem dX12_init_147 : decode cX12_init 147 = .ok (.bipush 20, 2) := by decide +kernel
theorem dX12_init_149 : decode cX12_init 149 = .ok (.newarray .int, 2) := by decide +kernel
theorem dX12_init_151 : decode cX12_init 151 = .ok (.putfield 67, 3) := by decide +kernel
theorem dX12_init_154 : decode cX12_init 154 = .ok (.aload_n 0, 1) := by decide +kernel
theorem dX12_init_155 : decode cX12_init 155 = .ok (.bipush 20, 2) := by decide +kernel
theorem dX12_init_157 : decode cX12_init 157 = .ok (.newarray .int, 2) := by decide +kernel
theorem dX12_init_159 : decode cX12_init 159 = .ok (.putfield 70, 3) := by decide +kernel
theorem dX12_init_162 : decode cX12_init 162 = .ok (.aload_n 0, 1) := by decide +kernel
theorem dX12_init_163 : decode cX12_init 163 = .ok (.iconst 3, 1) := by decide +kernel
theorem dX12_init_164 : decode cX12_init 164 = .ok (.newarray .int, 2) := by decide +kernel
theorem dX12_init_166 : decode cX12_init 166 = .ok (.putfield 73, 3) := by decide +kernel
theorem dX12_init_169 : decode cX12_init 169 = .ok (.aload_n 0, 1) := by decide +kernel
theorem dX12_init_170 : decode cX12_init 170 = .ok (.iconst 4, 1) := by decide +kernel
theorem dX12_init_171 : decode cX12_init 171 = .ok (.newarray .int, 2) := by decide +kernel
theorem dX12_init_173 : decode cX12_init 173 = .ok (.dup, 1) := by decide +kernel
theorem dX12_init_174 : decode cX12_init 174 = .ok (.iconst 0, 1) := by decide +kernel
theorem dX12_init_175 : decode cX12_init 175 = .ok (.iconst (-1), 1) := by decide +kernel
theorem dX12_init_176 : decode cX12_init 176 = .ok (.iastore, 1) := by decide +kernel
theorem dX12_init_177 : decode cX12_init 177 = .ok (.dup, 1) := by decide +kernel
theorem dX12_init_178 : decode cX12_init 178 = .ok (.iconst 1, 1) := by decide +kernel
theorem dX12_init_179 : decode cX12_init 179 = .ok (.iconst (-1), 1) := by decide +kernel
theorem dX12_init_180 : decode cX12_init 180 = .ok (.iastore, 1) := by decide +kernel
theorem dX12_init_181 : decode cX12_init 181 = .ok (.dup, 1) := by decide +kernel
theorem dX12_init_182 : decode cX12_init 182 = .ok (.iconst 2, 1) := by decide +kernel
theorem dX12_init_183 : decode cX12_init 183 = .ok (.iconst (-1), 1) := by decide +kernel
theorem dX12_init_184 : decode cX12_init 184 = .ok (.iastore, 1) := by decide +kernel
theorem dX12_init_185 : decode cX12_init 185 = .ok (.dup, 1) := by decide +kernel
theorem dX12_init_186 : decode cX12_init 186 = .ok (.iconst 3, 1) := by decide +kernel
theorem dX12_init_187 : decode cX12_init 187 = .ok (.iconst (-1), 1) := by decide +kernel
theorem dX12_init_188 : decode cX12_init 188 = .ok (.iastore, 1) := by decide +kernel
theorem dX12_init_189 : decode cX12_init 189 = .ok (.putfield 76, 3) := by decide +kernel
theorem dX12_init_192 : decode cX12_init 192 = .ok (.aload_n 0, 1) := by decide +kernel
theorem dX12_init_193 : decode cX12_init 193 = .ok (.bipush (-5), 2) := by decide +kernel
theorem dX12_init_195 : decode cX12_init 195 = .ok (.putfield 79, 3) := by decide +kernel
theorem dX12_init_198 : decode cX12_init 198 = .ok (.aload_n 0, 1) := by decide +kernel
theorem dX12_init_199 : decode cX12_init 199 = .ok (.sipush 1040, 3) := by decide +kernel
theorem dX12_init_202 : decode cX12_init 202 = .ok (.newarray .int, 2) := by decide +kernel
theorem dX12_init_204 : decode cX12_init 204 = .ok (.putfield 82, 3) := by decide +kernel
theorem dX12_init_207 : decode cX12_init 207 = .ok (.aload_n 0, 1) := by decide +kernel
theorem dX12_init_208 : decode cX12_init 208 = .ok (.sipush 480, 3) := by decide +kernel
theorem dX12_init_211 : decode cX12_init 211 = .ok (.newarray .int, 2) := by decide +kernel
theorem dX12_init_213 : decode cX12_init 213 = .ok (.putfield 85, 3) := by decide +kernel
theorem dX12_init_216 : decode cX12_init 216 = .ok (.aload_n 0, 1) := by decide +kernel
theorem dX12_init_217 : decode cX12_init 217 = .ok (.sipush 480, 3) := by decide +kernel
theorem dX12_init_220 : decode cX12_init 220 = .ok (.newarray .int, 2) := by decide +kernel
theorem dX12_init_222 : decode cX12_init 222 = .ok (.putfield 88, 3) := by decide +kernel
theorem dX12_init_225 : decode cX12_init 225 = .ok (.aload_n 0, 1) := by decide +kernel
theorem dX12_init_226 : decode cX12_init 226 = .ok (.iconst (-1), 1) := by decide +kernel
theorem dX12_init_227 : decode cX12_init 227 = .ok (.putfield 91, 3) := by decide +kernel
theorem dX12_init_230 : decode cX12_init 230 = .ok (.aload_n 0, 1) := by decide +kernel
theorem dX12_init_231 : decode cX12_init 231 = .ok (.bipush 40, 2) := by decide +kernel
theorem dX12_init_233 : decode cX12_init 233 = .ok (.newarray .int, 2) := by decide +kernel
theorem dX12_init_235 : decode cX12_init 235 = .ok (.putfield 94, 3) := by decide +kernel
theorem dX12_init_238 : decode cX12_init 238 = .ok (.aload_n 0, 1) := by decide +kernel
theorem dX12_init_239 : decode cX12_init 239 = .ok (.bipush 40, 2) := by decide +kernel
theorem dX12_init_241 : decode cX12_init 241 = .ok (.newarray .int, 2) := by decide +kernel
theorem dX12_init_243 : decode cX12_init 243 = .ok (.putfield 97, 3) := by decide +kernel
theorem dX12_init_246 : decode cX12_init 246 = .ok (.aload_n 0, 1) := by decide +kernel
theorem dX12_init_247 : decode cX12_init 247 = .ok (.bipush 8, 2) := by decide +kernel
theorem dX12_init_249 : decode cX12_init 249 = .ok (.newarray .int, 2) := by decide +kernel
theorem dX12_init_251 : decode cX12_init 251 = .ok (.putfield 100, 3) := by decide +kernel
theorem dX12_init_254 : decode cX12_init 254 = .ok (.aload_n 0, 1) := by decide +kernel
theorem dX12_init_255 : decode cX12_init 255 = .ok (.sipush 160, 3) := by decide +kernel
theorem dX12_init_258 : decode cX12_init 258 = .ok (.newarray .int, 2) := by decide +kernel
theorem dX12_init_260 : decode cX12_init 260 = .ok (.putfield 103, 3) := by decide +kernel
theorem dX12_init_263 : decode cX12_init 263 = .ok (.aload_n 0, 1) := by decide +kernel
theorem dX12_init_264 : decode cX12_init 264 = .ok (.iconst 4, 1) := by decide +kernel
theorem dX12_init_265 : decode cX12_init 265 = .ok (.newarray .int, 2) := by decide +kernel
theorem dX12_init_267 : decode cX12_init 267 = .ok (.putfield 106, 3) := by decide +kernel
theorem dX12_init_270 : decode cX12_init 270 = .ok (.aload_n 0, 1) := by decide +kernel
theorem dX12_init_271 : decode cX12_init 271 = .ok (.iconst 4, 1) := by decide +kernel
theorem dX12_init_272 : decode cX12_init 272 = .ok (.newarray .int, 2) := by decide +kernel
theorem dX12_init_274 : decode cX12_init 274 = .ok (.putfield 109, 3) := by decide +kernel
theorem dX12_init_277 : decode cX12_init 277 = .ok (.aload_n 0, 1) := by decide +kernel
theorem dX12_init_278 : decode cX12_init 278 = .ok (.sipush 5000, 3) := by decide +kernel
theorem dX12_init_281 : decode cX12_init 281 = .ok (.newarray .int, 2) := by decide +kernel
theorem dX12_init_283 : decode cX12_init 283 = .ok (.putfield 112, 3) := by decide +kernel
theorem dX12_init_286 : decode cX12_init 286 = .ok (.return_, 1) := by decide +kernel
set_option maxRecDepth 100000 in
theorem q_121 : (.arrayClass .int) ∈ lw_all := List.mem_filter.mpr ⟨List.mem_of_getElem? (i := 121) (by decide +kernel), by decide +kernel⟩
set_option maxRecDepth 100000 in
theorem q_88 : (.code objectInit ⟨#[0xb1]⟩ 1 none) ∈ lw_all := List.mem_filter.mpr ⟨List.mem_of_getElem? (i := 88) (rfl), by decide +kernel⟩
set_option maxRecDepth 100000 in
theorem q_1075 : (.fieldLink RX12 100 "AssemblyChairModel" "draft" "[I") ∈ lw_all := List.mem_filter.mpr ⟨List.mem_of_getElem? (i := 1075) (by decide +kernel), by decide +kernel⟩
set_option maxRecDepth 100000 in
theorem q_1076 : (.fieldLink RX12 103 "AssemblyChairModel" "row" "[I") ∈ lw_all := List.mem_filter.mpr ⟨List.mem_of_getElem? (i := 1076) (by decide +kernel), by decide +kernel⟩
set_option maxRecDepth 100000 in
theorem q_1078 : (.fieldLink RX12 109 "AssemblyChairModel" "rowFloats" "[I") ∈ lw_all := List.mem_filter.mpr ⟨List.mem_of_getElem? (i := 1078) (by decide +kernel), by decide +kernel⟩
set_option maxRecDepth 100000 in
theorem q_1079 : (.fieldLink RX12 112 "AssemblyChairModel" "saved" "[I") ∈ lw_all := List.mem_filter.mpr ⟨List.mem_of_getElem? (i := 1079) (by decide +kernel), by decide +kernel⟩
set_option maxRecDepth 100000 in
theorem q_1021 : (.fieldLink RX12 15 "AssemblyChairModel" "present" "[I") ∈ lw_all := List.mem_filter.mpr ⟨List.mem_of_getElem? (i := 1021) (by decide +kernel), by decide +kernel⟩
set_option maxRecDepth 100000 in
theorem q_1022 : (.fieldLink RX12 18 "AssemblyChairModel" "speeches" "[I") ∈ lw_all := List.mem_filter.mpr ⟨List.mem_of_getElem? (i := 1022) (by decide +kernel), by decide +kernel⟩
set_option maxRecDepth 100000 in
theorem q_1024 : (.fieldLink RX12 21 "AssemblyChairModel" "percentage" "I") ∈ lw_all := List.mem_filter.mpr ⟨List.mem_of_getElem? (i := 1024) (by decide +kernel), by decide +kernel⟩
set_option maxRecDepth 100000 in
theorem q_1027 : (.fieldLink RX12 25 "AssemblyChairModel" "buffer" "[I") ∈ lw_all := List.mem_filter.mpr ⟨List.mem_of_getElem? (i := 1027) (by decide +kernel), by decide +kernel⟩
set_option maxRecDepth 100000 in
theorem q_1028 : (.fieldLink RX12 28 "AssemblyChairModel" "state" "[I") ∈ lw_all := List.mem_filter.mpr ⟨List.mem_of_getElem? (i := 1028) (by decide +kernel), by decide +kernel⟩
set_option maxRecDepth 100000 in
theorem q_1029 : (.fieldLink RX12 31 "AssemblyChairModel" "place" "[I") ∈ lw_all := List.mem_filter.mpr ⟨List.mem_of_getElem? (i := 1029) (by decide +kernel), by decide +kernel⟩
set_option maxRecDepth 100000 in
theorem q_1030 : (.fieldLink RX12 34 "AssemblyChairModel" "mover" "[I") ∈ lw_all := List.mem_filter.mpr ⟨List.mem_of_getElem? (i := 1030) (by decide +kernel), by decide +kernel⟩
set_option maxRecDepth 100000 in
theorem q_1031 : (.fieldLink RX12 37 "AssemblyChairModel" "part" "[I") ∈ lw_all := List.mem_filter.mpr ⟨List.mem_of_getElem? (i := 1031) (by decide +kernel), by decide +kernel⟩
set_option maxRecDepth 100000 in
theorem q_1032 : (.fieldLink RX12 40 "AssemblyChairModel" "amended" "[I") ∈ lw_all := List.mem_filter.mpr ⟨List.mem_of_getElem? (i := 1032) (by decide +kernel), by decide +kernel⟩
set_option maxRecDepth 100000 in
theorem q_1033 : (.fieldLink RX12 43 "AssemblyChairModel" "many" "[I") ∈ lw_all := List.mem_filter.mpr ⟨List.mem_of_getElem? (i := 1033) (by decide +kernel), by decide +kernel⟩
set_option maxRecDepth 100000 in
theorem q_1034 : (.fieldLink RX12 46 "AssemblyChairModel" "clause" "[I") ∈ lw_all := List.mem_filter.mpr ⟨List.mem_of_getElem? (i := 1034) (by decide +kernel), by decide +kernel⟩
set_option maxRecDepth 100000 in
theorem q_1035 : (.fieldLink RX12 49 "AssemblyChairModel" "firstMany" "[I") ∈ lw_all := List.mem_filter.mpr ⟨List.mem_of_getElem? (i := 1035) (by decide +kernel), by decide +kernel⟩
set_option maxRecDepth 100000 in
theorem q_1036 : (.fieldLink RX12 52 "AssemblyChairModel" "firstClause" "[I") ∈ lw_all := List.mem_filter.mpr ⟨List.mem_of_getElem? (i := 1036) (by decide +kernel), by decide +kernel⟩
set_option maxRecDepth 100000 in
theorem q_1041 : (.fieldLink RX12 58 "AssemblyChairModel" "resolution" "[I") ∈ lw_all := List.mem_filter.mpr ⟨List.mem_of_getElem? (i := 1041) (by decide +kernel), by decide +kernel⟩
set_option maxRecDepth 100000 in
theorem q_1042 : (.fieldLink RX12 61 "AssemblyChairModel" "motion" "[I") ∈ lw_all := List.mem_filter.mpr ⟨List.mem_of_getElem? (i := 1042) (by decide +kernel), by decide +kernel⟩
set_option maxRecDepth 100000 in
theorem q_1043 : (.fieldLink RX12 64 "AssemblyChairModel" "away" "[I") ∈ lw_all := List.mem_filter.mpr ⟨List.mem_of_getElem? (i := 1043) (by decide +kernel), by decide +kernel⟩
set_option maxRecDepth 100000 in
theorem q_1044 : (.fieldLink RX12 67 "AssemblyChairModel" "awayMany" "[I") ∈ lw_all := List.mem_filter.mpr ⟨List.mem_of_getElem? (i := 1044) (by decide +kernel), by decide +kernel⟩
set_option maxRecDepth 100000 in
theorem q_1045 : (.fieldLink RX12 70 "AssemblyChairModel" "awayOrder" "[I") ∈ lw_all := List.mem_filter.mpr ⟨List.mem_of_getElem? (i := 1045) (by decide +kernel), by decide +kernel⟩
set_option maxRecDepth 100000 in
theorem q_1046 : (.fieldLink RX12 73 "AssemblyChairModel" "table" "[I") ∈ lw_all := List.mem_filter.mpr ⟨List.mem_of_getElem? (i := 1046) (by decide +kernel), by decide +kernel⟩
set_option maxRecDepth 100000 in
theorem q_1056 : (.fieldLink RX12 79 "AssemblyChairModel" "left" "I") ∈ lw_all := List.mem_filter.mpr ⟨List.mem_of_getElem? (i := 1056) (by decide +kernel), by decide +kernel⟩
set_option maxRecDepth 100000 in
theorem q_1059 : (.fieldLink RX12 82 "AssemblyChairModel" "lone" "[I") ∈ lw_all := List.mem_filter.mpr ⟨List.mem_of_getElem? (i := 1059) (by decide +kernel), by decide +kernel⟩
set_option maxRecDepth 100000 in
theorem q_1061 : (.fieldLink RX12 85 "AssemblyChairModel" "entry" "[I") ∈ lw_all := List.mem_filter.mpr ⟨List.mem_of_getElem? (i := 1061) (by decide +kernel), by decide +kernel⟩
set_option maxRecDepth 100000 in
theorem q_1062 : (.fieldLink RX12 88 "AssemblyChairModel" "change" "[I") ∈ lw_all := List.mem_filter.mpr ⟨List.mem_of_getElem? (i := 1062) (by decide +kernel), by decide +kernel⟩
set_option maxRecDepth 100000 in
theorem q_1020 : (.fieldLink RX12 9 "AssemblyChairModel" "weight" "[I") ∈ lw_all := List.mem_filter.mpr ⟨List.mem_of_getElem? (i := 1020) (by decide +kernel), by decide +kernel⟩
set_option maxRecDepth 100000 in
theorem q_1064 : (.fieldLink RX12 91 "AssemblyChairModel" "lastQuestion" "I") ∈ lw_all := List.mem_filter.mpr ⟨List.mem_of_getElem? (i := 1064) (by decide +kernel), by decide +kernel⟩
set_option maxRecDepth 100000 in
theorem q_1067 : (.fieldLink RX12 94 "AssemblyChairModel" "yesBy" "[I") ∈ lw_all := List.mem_filter.mpr ⟨List.mem_of_getElem? (i := 1067) (by decide +kernel), by decide +kernel⟩
set_option maxRecDepth 100000 in
theorem q_1068 : (.fieldLink RX12 97 "AssemblyChairModel" "noBy" "[I") ∈ lw_all := List.mem_filter.mpr ⟨List.mem_of_getElem? (i := 1068) (by decide +kernel), by decide +kernel⟩
set_option maxRecDepth 100000 in
theorem q_87 : (.instanceMethod objectInit) ∈ lw_all := List.mem_filter.mpr ⟨List.mem_of_getElem? (i := 87) (by decide +kernel), by decide +kernel⟩
set_option maxRecDepth 100000 in
theorem q_1019 : (.methodLink RX12 3 objectInit) ∈ lw_all := List.mem_filter.mpr ⟨List.mem_of_getElem? (i := 1019) (by decide +kernel), by decide +kernel⟩
set_option maxHeartbeats 4000000 in
set_option maxRecDepth 100000 in
/-- the reference: a new object -/
theorem c_X12_init (l : Launch) (D : va_G) (cI cQ cM cR : ClassId) (m0 : Nat) (sz : Nat) : Met l yX12_init (ws_ yX12_init cX12_init 1 none) ({ frames := 1, cells := 30, slots := 9107, locals := 12 }) (PW D cI cQ cM cR [.ref m0] [(m0, .inr (12, [.null, .null, .null, .int 0, .int 0, .int 0, .int 0, .null, .null, .null, .null, .null, .null, .null, .null, .null, .null, .int 0, .int 0, .int 0, .int 0, .null, .null, .null, .null, .null, .null, .null, .int 0, .int 0, .int 0, .int 0, .int 0, .int 0, .int 0, .int 0, .int 0, .int 0, .int 0, .null, .int 0, .null, .null, .int 0, .int 0, .int 0, .int 0, .null, .null, .int 0, .int 0, .int 0, .int 0, .int 0, .int 0, .null, .null, .null, .null, .null, .int 0, .int 0, .int 0]))] sz) (va_Qv (fun _ => True) (fun (_ : Unit) (t : State) => ∃ gweight : Nat, ∃ gpresent : Nat, ∃ gspeeches : Nat, ∃ gbuffer : Nat, ∃ gstate : Nat, ∃ gplace : Nat, ∃ gmover : Nat, ∃ gpart : Nat, ∃ gamended : Nat, ∃ gmany : Nat, ∃ gclause : Nat, ∃ gfirstMany : Nat, ∃ gfirstClause : Nat, ∃ gresolution : Nat, ∃ gmotion : Nat, ∃ gaway : Nat, ∃ gawayMany : Nat, ∃ gawayOrder : Nat, ∃ gtable : Nat, ∃ gcommittee : Nat, ∃ glone : Nat, ∃ gentry : Nat, ∃ gchange : Nat, ∃ gyesBy : Nat, ∃ gnoBy : Nat, ∃ gdraft : Nat, ∃ grow : Nat, ∃ growMany : Nat, ∃ growFloats : Nat, ∃ gsaved : Nat, va_P D vwCl [(m0, .inr (12, [.ref gweight, .ref gpresent, .ref gspeeches, .int 0, .int 50, .int 0, .int 0, .ref gbuffer, .ref gstate, .ref gplace, .ref gmover, .ref gpart, .ref gamended, .ref gmany, .ref gclause, .ref gfirstMany, .ref gfirstClause, .int 0, .int 0, .int 0, .int (-1), .ref gresolution, .ref gmotion, .ref gaway, .ref gawayMany, .ref gawayOrder, .ref gtable, .ref gcommittee, .int 0, .int 0, .int 0, .int 0, .int 0, .int 0, .int 0, .int 0, .int (-5), .int 0, .int 0, .ref glone, .int 0, .ref gentry, .ref gchange, .int 0, .int (-1), .int 0, .int 0, .ref gyesBy, .ref gnoBy, .int 0, .int 0, .int 0, .int 0, .int 0, .int 0, .ref gdraft, .ref grow, .ref growMany, .ref growFloats, .ref gsaved, .int 0, .int 0, .int 0])), (gweight, .inl (cI, 12, .inl (fun _ => 0))), (gpresent, .inl (cI, 12, .inl (fun _ => 0))), (gspeeches, .inl (cI, 12, .inl (fun _ => 0))), (gbuffer, .inl (cI, 8, .inl (fun _ => 0))), (gstate, .inl (cI, 20, .inl (fun _ => 0))), (gplace, .inl (cI, 20, .inl (fun _ => 0))), (gmover, .inl (cI, 20, .inl (fun _ => 0))), (gpart, .inl (cI, 20, .inl (fun _ => 0))), (gamended, .inl (cI, 20, .inl (fun _ => 0))), (gmany, .inl (cI, 20, .inl (fun _ => 0))), (gclause, .inl (cI, 160, .inl (fun _ => 0))), (gfirstMany, .inl (cI, 20, .inl (fun _ => 0))), (gfirstClause, .inl (cI, 160, .inl (fun _ => 0))), (gresolution, .inl (cI, 40, .inl (fun _ => 0))), (gmotion, .inl (cI, 60, .inl (fun _ => 0))), (gaway, .inl (cI, 1200, .inl (fun _ => 0))), (gawayMany, .inl (cI, 20, .inl (fun _ => 0))), (gawayOrder, .inl (cI, 20, .inl (fun _ => 0))), (gtable, .inl (cI, 3, .inl (fun _ => 0))), (gcommittee, .inl (cI, 4, .inl (upd (upd (upd (upd (fun _ => 0) 0 (-1)) 1 (-1)) 2 (-1)) 3 (-1)))), (glone, .inl (cI, 1040, .inl (fun _ => 0))), (gentry, .inl (cI, 480, .inl (fun _ => 0))), (gchange, .inl (cI, 480, .inl (fun _ => 0))), (gyesBy, .inl (cI, 40, .inl (fun _ => 0))), (gnoBy, .inl (cI, 40, .inl (fun _ => 0))), (gdraft, .inl (cI, 8, .inl (fun _ => 0))), (grow, .inl (cI, 160, .inl (fun _ => 0))), (growMany, .inl (cI, 4, .inl (fun _ => 0))), (growFloats, .inl (cI, 4, .inl (fun _ => 0))), (gsaved, .inl (cI, 5000, .inl (fun _ => 0)))] t.heap ∧ va_D (va_A [(m0, .inr (12, [.null, .null, .null, .int 0, .int 0, .int 0, .int 0, .null, .null, .null, .null, .null, .null, .null, .null, .null, .null, .int 0, .int 0, .int 0, .int 0, .null, .null, .null, .null, .null, .null, .null, .int 0, .int 0, .int 0, .int 0, .int 0, .int 0, .int 0, .int 0, .int 0, .int 0, .int 0, .null, .int 0, .null, .null, .int 0, .int 0, .int 0, .int 0, .null, .null, .int 0, .int 0, .int 0, .int 0, .int 0, .int 0, .null, .null, .null, .null, .null, .int 0, .int 0, .int 0]))] sz) [(m0, .inr (12, [.ref gweight, .ref gpresent, .ref gspeeches, .int 0, .int 50, .int 0, .int 0, .ref gbuffer, .ref gstate, .ref gplace, .ref gmover, .ref gpart, .ref gamended, .ref gmany, .ref gclause, .ref gfirstMany, .ref gfirstClause, .int 0, .int 0, .int 0, .int (-1), .ref gresolution, .ref gmotion, .ref gaway, .ref gawayMany, .ref gawayOrder, .ref gtable, .ref gcommittee, .int 0, .int 0, .int 0, .int 0, .int 0, .int 0, .int 0, .int 0, .int (-5), .int 0, .int 0, .ref glone, .int 0, .ref gentry, .ref gchange, .int 0, .int (-1), .int 0, .int 0, .ref gyesBy, .ref gnoBy, .int 0, .int 0, .int 0, .int 0, .int 0, .int 0, .ref gdraft, .ref grow, .ref growMany, .ref growFloats, .ref gsaved, .int 0, .int 0, .int 0])), (gweight, .inl (cI, 12, .inl (fun _ => 0))), (gpresent, .inl (cI, 12, .inl (fun _ => 0))), (gspeeches, .inl (cI, 12, .inl (fun _ => 0))), (gbuffer, .inl (cI, 8, .inl (fun _ => 0))), (gstate, .inl (cI, 20, .inl (fun _ => 0))), (gplace, .inl (cI, 20, .inl (fun _ => 0))), (gmover, .inl (cI, 20, .inl (fun _ => 0))), (gpart, .inl (cI, 20, .inl (fun _ => 0))), (gamended, .inl (cI, 20, .inl (fun _ => 0))), (gmany, .inl (cI, 20, .inl (fun _ => 0))), (gclause, .inl (cI, 160, .inl (fun _ => 0))), (gfirstMany, .inl (cI, 20, .inl (fun _ => 0))), (gfirstClause, .inl (cI, 160, .inl (fun _ => 0))), (gresolution, .inl (cI, 40, .inl (fun _ => 0))), (gmotion, .inl (cI, 60, .inl (fun _ => 0))), (gaway, .inl (cI, 1200, .inl (fun _ => 0))), (gawayMany, .inl (cI, 20, .inl (fun _ => 0))), (gawayOrder, .inl (cI, 20, .inl (fun _ => 0))), (gtable, .inl (cI, 3, .inl (fun _ => 0))), (gcommittee, .inl (cI, 4, .inl (upd (upd (upd (upd (fun _ => 0) 0 (-1)) 1 (-1)) 2 (-1)) 3 (-1)))), (glone, .inl (cI, 1040, .inl (fun _ => 0))), (gentry, .inl (cI, 480, .inl (fun _ => 0))), (gchange, .inl (cI, 480, .inl (fun _ => 0))), (gyesBy, .inl (cI, 40, .inl (fun _ => 0))), (gnoBy, .inl (cI, 40, .inl (fun _ => 0))), (gdraft, .inl (cI, 8, .inl (fun _ => 0))), (grow, .inl (cI, 160, .inl (fun _ => 0))), (growMany, .inl (cI, 4, .inl (fun _ => 0))), (growFloats, .inl (cI, 4, .inl (fun _ => 0))), (gsaved, .inl (cI, 5000, .inl (fun _ => 0)))]) (va_A [(m0, .inr (12, [.null, .null, .null, .int 0, .int 0, .int 0, .int 0, .null, .null, .null, .null, .null, .null, .null, .null, .null, .null, .int 0, .int 0, .int 0, .int 0, .null, .null, .null, .null, .null, .null, .null, .int 0, .int 0, .int 0, .int 0, .int 0, .int 0, .int 0, .int 0, .int 0, .int 0, .int 0, .null, .int 0, .null, .null, .int 0, .int 0, .int 0, .int 0, .null, .null, .int 0, .int 0, .int 0, .int 0, .int 0, .int 0, .null, .null, .null, .null, .null, .int 0, .int 0, .int 0]))] sz)) 30 9107 (va_A [(m0, .inr (12, [.null, .null, .null, .int 0, .int 0, .int 0, .int 0, .null, .null, .null, .null, .null, .null, .null, .null, .null, .null, .int 0, .int 0, .int 0, .int 0, .null, .null, .null, .null, .null, .null, .null, .int 0, .int 0, .int 0, .int 0, .int 0, .int 0, .int 0, .int 0, .int 0, .int 0, .int 0, .null, .int 0, .null, .null, .int 0, .int 0, .int 0, .int 0, .null, .null, .int 0, .int 0, .int 0, .int 0, .int 0, .int 0, .null, .null, .null, .null, .null, .int 0, .int 0, .int 0]))] sz) := by
  sorry
