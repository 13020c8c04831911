def wsX1_bodyFor : List Cond := (.code yX1_bodyFor cX1_bodyFor 5 (some .int)) :: (.static yX7_within) :: (.initialized RX7) :: (.code yX7_within cX7_within 3 (some .boolean)) :: (.methodLink RX1 55 yX1_ownBody) :: (.static yX1_ownBody) :: (.initialized RX1) :: (.code yX1_ownBody cX1_ownBody 2 (some .int)) :: []
def wsX1_run : List Cond := (.code yX1_run cX1_run 7 (some .int)) :: (.fieldLink RX1 22 "TheLiningsInIt$Moves" "m" "I") :: (.fieldLink RX1 19 "TheLiningsInIt$Moves" "kind" "I") :: (.fieldLink RX1 25 "TheLiningsInIt$Moves" "k" "I") :: (.methodLink RX1 48 yX1_bodyFor) :: (.static yX1_bodyFor) :: (.initialized RX1) :: (.code yX1_bodyFor cX1_bodyFor 5 (some .int)) :: (.static yX7_within) :: (.initialized RX7) :: (.code yX7_within cX7_within 3 (some .boolean)) :: (.methodLink RX1 55 yX1_ownBody) :: (.static yX1_ownBody) :: (.code yX1_ownBody cX1_ownBody 2 (some .int)) :: (.methodLink RX1 51 yX1_note) :: (.instanceMethod yX1_note) :: (.selects RX1 yX1_note yX1_note) :: (.code yX1_note cX1_note 2 none) :: (.fieldLink RX1 15 "TheLiningsInIt$Moves" "ran" "I") :: (.fieldLink RX1 11 "TheLiningsInIt$Moves" "bodies" "[I") :: (.methodLink RX1 34 yX1_run) :: (.instanceMethod yX1_run) :: (.selects RX1 yX1_run yX1_run) :: wsX10
set_option maxRecDepth 20000 in
theorem ggX1_run_X1_bodyFor : GoodIn wsX1_run wsX1_bodyFor := goodIn_r _ [7, 8, 9, 10, 11, 12, 6, 13] rfl (by decide +kernel)
set_option maxRecDepth 20000 in
theorem gX1_run_X1_bodyFor : GoodIn wsX1_run (va_wsS RX1 48 yX1_bodyFor wsX1_bodyFor) := goodIn_app (goodIn_r _ [4, 5, 6] rfl (by decide +kernel)) ggX1_run_X1_bodyFor
set_option maxRecDepth 20000 in
theorem ggX1_run_X1_note : GoodIn wsX1_run wsX1_note := goodIn_r _ [17, 18, 19, 23, 24, 25, 26, 27] rfl (by decide +kernel)
set_option maxRecDepth 20000 in
theorem gX1_run_X1_note : GoodIn wsX1_run (wsV RX1 51 RX1 yX1_note wsX1_note) := goodIn_app (goodIn_r _ [14, 15, 16, 6] rfl (by decide +kernel)) ggX1_run_X1_note
set_option maxRecDepth 20000 in
theorem ggX1_run_X1_run : GoodIn wsX1_run wsX1_run := goodIn_r _ [0, 1, 2, 3, 4, 5, 6, 7, 8, 9, 10, 11, 12, 13, 14, 15, 16, 17, 18, 19, 20, 21, 22, 23, 24, 25, 26, 27] rfl (by decide +kernel)
set_option maxRecDepth 20000 in
theorem gX1_run_X1_run : GoodIn wsX1_run (wsV RX1 34 RX1 yX1_run wsX1_run) := goodIn_app (goodIn_r _ [20, 21, 22, 6] rfl (by decide +kernel)) ggX1_run_X1_run
theorem dX1_run_0 : decode cX1_run 0 = .ok (.iload_n 1, 1) := by decide +kernel
theorem dX1_run_1 : decode cX1_run 1 = .ok (.iload_n 2, 1) := by decide +kernel
theorem dX1_run_2 : decode cX1_run 2 = .ok (.invokestatic 48, 3) := by decide +kernel
theorem dX1_run_5 : decode cX1_run 5 = .ok (.istore 5, 2) := by decide +kernel
theorem dX1_run_7 : decode cX1_run 7 = .ok (.iload 5, 2) := by decide +kernel
theorem dX1_run_9 : decode cX1_run 9 = .ok (.iconst (-1), 1) := by decide +kernel
theorem dX1_run_10 : decode cX1_run 10 = .ok (.if_icmp .eq 10, 3) := by decide +kernel
theorem dX1_run_13 : decode cX1_run 13 = .ok (.iload 4, 2) := by decide +kernel
theorem dX1_run_15 : decode cX1_run 15 = .ok (.bipush 40, 2) := by decide +kernel
theorem dX1_run_17 : decode cX1_run 17 = .ok (.if_icmp .lt 5, 3) := by decide +kernel
theorem dX1_run_22 : decode cX1_run 22 = .ok (.aload_n 0, 1) := by decide +kernel
theorem dX1_run_23 : decode cX1_run 23 = .ok (.iload 5, 2) := by decide +kernel
theorem dX1_run_25 : decode cX1_run 25 = .ok (.invokevirtual 51, 3) := by decide +kernel
theorem dX1_run_28 : decode cX1_run 28 = .ok (.iload 4, 2) := by decide +kernel
theorem dX1_run_30 : decode cX1_run 30 = .ok (.iconst 1, 1) := by decide +kernel
theorem dX1_run_31 : decode cX1_run 31 = .ok (.iadd, 1) := by decide +kernel
theorem dX1_run_32 : decode cX1_run 32 = .ok (.istore 6, 2) := by decide +kernel
theorem dX1_run_34 : decode cX1_run 34 = .ok (.iload 5, 2) := by decide +kernel
theorem dX1_run_36 : decode cX1_run 36 = .ok (.lookupswitch 234 #[(10, 92), (11, 99), (12, 114), (20, 145), (30, 160), (40, 172), (50, 184), (51, 195), (60, 210), (70, 222)], 92) := by decide +kernel
theorem dX1_run_128 : decode cX1_run 128 = .ok (.iload_n 3, 1) := by decide +kernel
theorem dX1_run_129 : decode cX1_run 129 = .ok (.aload_n 0, 1) := by decide +kernel
theorem dX1_run_130 : decode cX1_run 130 = .ok (.getfield 22, 3) := by decide +kernel
theorem dX1_run_133 : decode cX1_run 133 = .ok (.iadd, 1) := by decide +kernel
theorem dX1_run_134 : decode cX1_run 134 = .ok (.ireturn, 1) := by decide +kernel
theorem dX1_run_135 : decode cX1_run 135 = .ok (.aload_n 0, 1) := by decide +kernel
theorem dX1_run_136 : decode cX1_run 136 = .ok (.aload_n 0, 1) := by decide +kernel
theorem dX1_run_137 : decode cX1_run 137 = .ok (.getfield 19, 3) := by decide +kernel
theorem dX1_run_140 : decode cX1_run 140 = .ok (.iconst 0, 1) := by decide +kernel
theorem dX1_run_141 : decode cX1_run 141 = .ok (.iload_n 3, 1) := by decide +kernel
theorem dX1_run_142 : decode cX1_run 142 = .ok (.iload 6, 2) := by decide +kernel
theorem dX1_run_144 : decode cX1_run 144 = .ok (.invokevirtual 34, 3) := by decide +kernel
theorem dX1_run_147 : decode cX1_run 147 = .ok (.iconst 2, 1) := by decide +kernel
theorem dX1_run_148 : decode cX1_run 148 = .ok (.imul, 1) := by decide +kernel
theorem dX1_run_149 : decode cX1_run 149 = .ok (.ireturn, 1) := by decide +kernel
theorem dX1_run_150 : decode cX1_run 150 = .ok (.aload_n 0, 1) := by decide +kernel
theorem dX1_run_151 : decode cX1_run 151 = .ok (.aload_n 0, 1) := by decide +kernel
theorem dX1_run_152 : decode cX1_run 152 = .ok (.getfield 19, 3) := by decide +kernel
theorem dX1_run_155 : decode cX1_run 155 = .ok (.iconst 1, 1) := by decide +kernel
theorem dX1_run_156 : decode cX1_run 156 = .ok (.iload_n 3, 1) := by decide +kernel
theorem dX1_run_157 : decode cX1_run 157 = .ok (.iload 6, 2) := by decide +kernel
theorem dX1_run_159 : decode cX1_run 159 = .ok (.invokevirtual 34, 3) := by decide +kernel
theorem dX1_run_162 : decode cX1_run 162 = .ok (.aload_n 0, 1) := by decide +kernel
theorem dX1_run_163 : decode cX1_run 163 = .ok (.aload_n 0, 1) := by decide +kernel
theorem dX1_run_164 : decode cX1_run 164 = .ok (.getfield 19, 3) := by decide +kernel
theorem dX1_run_167 : decode cX1_run 167 = .ok (.iconst 0, 1) := by decide +kernel
theorem dX1_run_168 : decode cX1_run 168 = .ok (.iload_n 3, 1) := by decide +kernel
theorem dX1_run_169 : decode cX1_run 169 = .ok (.aload_n 0, 1) := by decide +kernel
theorem dX1_run_170 : decode cX1_run 170 = .ok (.getfield 25, 3) := by decide +kernel
theorem dX1_run_173 : decode cX1_run 173 = .ok (.isub, 1) := by decide +kernel
theorem dX1_run_174 : decode cX1_run 174 = .ok (.iload 6, 2) := by decide +kernel
theorem dX1_run_176 : decode cX1_run 176 = .ok (.invokevirtual 34, 3) := by decide +kernel
theorem dX1_run_179 : decode cX1_run 179 = .ok (.ixor, 1) := by decide +kernel
theorem dX1_run_180 : decode cX1_run 180 = .ok (.ireturn, 1) := by decide +kernel
theorem dX1_run_181 : decode cX1_run 181 = .ok (.aload_n 0, 1) := by decide +kernel
theorem dX1_run_182 : decode cX1_run 182 = .ok (.iconst 0, 1) := by decide +kernel
theorem dX1_run_183 : decode cX1_run 183 = .ok (.iconst 0, 1) := by decide +kernel
theorem dX1_run_184 : decode cX1_run 184 = .ok (.iload_n 3, 1) := by decide +kernel
theorem dX1_run_185 : decode cX1_run 185 = .ok (.iload 6, 2) := by decide +kernel
theorem dX1_run_187 : decode cX1_run 187 = .ok (.invokevirtual 34, 3) := by decide +kernel
theorem dX1_run_190 : decode cX1_run 190 = .ok (.aload_n 0, 1) := by decide +kernel
theorem dX1_run_191 : decode cX1_run 191 = .ok (.getfield 25, 3) := by decide +kernel
theorem dX1_run_194 : decode cX1_run 194 = .ok (.iadd, 1) := by decide +kernel
theorem dX1_run_195 : decode cX1_run 195 = .ok (.ireturn, 1) := by decide +kernel
theorem dX1_run_196 : decode cX1_run 196 = .ok (.aload_n 0, 1) := by decide +kernel
theorem dX1_run_197 : decode cX1_run 197 = .ok (.iconst 0, 1) := by decide +kernel
theorem dX1_run_198 : decode cX1_run 198 = .ok (.iconst 1, 1) := by decide +kernel
theorem dX1_run_199 : decode cX1_run 199 = .ok (.iload_n 3, 1) := by decide +kernel
theorem dX1_run_200 : decode cX1_run 200 = .ok (.iload 6, 2) := by decide +kernel
theorem dX1_run_202 : decode cX1_run 202 = .ok (.invokevirtual 34, 3) := by decide +kernel
theorem dX1_run_205 : decode cX1_run 205 = .ok (.iconst 3, 1) := by decide +kernel
theorem dX1_run_206 : decode cX1_run 206 = .ok (.imul, 1) := by decide +kernel
theorem dX1_run_207 : decode cX1_run 207 = .ok (.ireturn, 1) := by decide +kernel
theorem dX1_run_208 : decode cX1_run 208 = .ok (.aload_n 0, 1) := by decide +kernel
theorem dX1_run_209 : decode cX1_run 209 = .ok (.iconst 1, 1) := by decide +kernel
theorem dX1_run_210 : decode cX1_run 210 = .ok (.iconst 1, 1) := by decide +kernel
theorem dX1_run_211 : decode cX1_run 211 = .ok (.iload_n 3, 1) := by decide +kernel
theorem dX1_run_212 : decode cX1_run 212 = .ok (.iconst 1, 1) := by decide +kernel
theorem dX1_run_213 : decode cX1_run 213 = .ok (.iadd, 1) := by decide +kernel
theorem dX1_run_214 : decode cX1_run 214 = .ok (.iload 6, 2) := by decide +kernel
theorem dX1_run_216 : decode cX1_run 216 = .ok (.invokevirtual 34, 3) := by decide +kernel
theorem dX1_run_219 : decode cX1_run 219 = .ok (.ireturn, 1) := by decide +kernel
theorem dX1_run_220 : decode cX1_run 220 = .ok (.aload_n 0, 1) := by decide +kernel
theorem dX1_run_221 : decode cX1_run 221 = .ok (.iconst 0, 1) := by decide +kernel
theorem dX1_run_222 : decode cX1_run 222 = .ok (.iconst 2, 1) := by decide +kernel
theorem dX1_run_223 : decode cX1_run 223 = .ok (.iload_n 3, 1) := by decide +kernel
theorem dX1_run_224 : decode cX1_run 224 = .ok (.iload 6, 2) := by decide +kernel
theorem dX1_run_226 : decode cX1_run 226 = .ok (.invokevirtual 34, 3) := by decide +kernel
theorem dX1_run_229 : decode cX1_run 229 = .ok (.ineg, 1) := by decide +kernel
theorem dX1_run_230 : decode cX1_run 230 = .ok (.ireturn, 1) := by decide +kernel
theorem dX1_run_231 : decode cX1_run 231 = .ok (.aload_n 0, 1) := by decide +kernel
theorem dX1_run_232 : decode cX1_run 232 = .ok (.iconst 0, 1) := by decide +kernel
theorem dX1_run_233 : decode cX1_run 233 = .ok (.iconst 0, 1) := by decide +kernel
theorem dX1_run_234 : decode cX1_run 234 = .ok (.iload_n 3, 1) := by decide +kernel
theorem dX1_run_235 : decode cX1_run 235 = .ok (.iload 6, 2) := by decide +kernel
theorem dX1_run_237 : decode cX1_run 237 = .ok (.invokevirtual 34, 3) := by decide +kernel
theorem dX1_run_240 : decode cX1_run 240 = .ok (.aload_n 0, 1) := by decide +kernel
theorem dX1_run_241 : decode cX1_run 241 = .ok (.getfield 22, 3) := by decide +kernel
theorem dX1_run_244 : decode cX1_run 244 = .ok (.isub, 1) := by decide +kernel
theorem dX1_run_245 : decode cX1_run 245 = .ok (.ireturn, 1) := by decide +kernel
theorem dX1_run_246 : decode cX1_run 246 = .ok (.aload_n 0, 1) := by decide +kernel
theorem dX1_run_247 : decode cX1_run 247 = .ok (.iconst 2, 1) := by decide +kernel
theorem dX1_run_248 : decode cX1_run 248 = .ok (.iconst 2, 1) := by decide +kernel
theorem dX1_run_249 : decode cX1_run 249 = .ok (.iload_n 3, 1) := by decide +kernel
theorem dX1_run_250 : decode cX1_run 250 = .ok (.iload 6, 2) := by decide +kernel
theorem dX1_run_252 : decode cX1_run 252 = .ok (.invokevirtual 34, 3) := by decide +kernel
theorem dX1_run_255 : decode cX1_run 255 = .ok (.iconst 5, 1) := by decide +kernel
theorem dX1_run_256 : decode cX1_run 256 = .ok (.ixor, 1) := by decide +kernel
theorem dX1_run_257 : decode cX1_run 257 = .ok (.ireturn, 1) := by decide +kernel
theorem dX1_run_258 : decode cX1_run 258 = .ok (.aload_n 0, 1) := by decide +kernel
theorem dX1_run_259 : decode cX1_run 259 = .ok (.iconst 4, 1) := by decide +kernel
theorem dX1_run_260 : decode cX1_run 260 = .ok (.iconst 0, 1) := by decide +kernel
theorem dX1_run_261 : decode cX1_run 261 = .ok (.iload_n 3, 1) := by decide +kernel
theorem dX1_run_262 : decode cX1_run 262 = .ok (.iload 6, 2) := by decide +kernel
theorem dX1_run_264 : decode cX1_run 264 = .ok (.invokevirtual 34, 3) := by decide +kernel
theorem dX1_run_267 : decode cX1_run 267 = .ok (.iconst 2, 1) := by decide +kernel
theorem dX1_run_268 : decode cX1_run 268 = .ok (.imul, 1) := by decide +kernel
theorem dX1_run_269 : decode cX1_run 269 = .ok (.ireturn, 1) := by decide +kernel
theorem dX1_run_270 : decode cX1_run 270 = .ok (.aload_n 0, 1) := by decide +kernel
theorem dX1_run_271 : decode cX1_run 271 = .ok (.iconst 4, 1) := by decide +kernel
theorem dX1_run_272 : decode cX1_run 272 = .ok (.iconst 1, 1) := by decide +kernel
theorem dX1_run_273 : decode cX1_run 273 = .ok (.iload_n 3, 1) := by decide +kernel
theorem dX1_run_274 : decode cX1_run 274 = .ok (.aload_n 0, 1) := by decide +kernel
theorem dX1_run_275 : decode cX1_run 275 = .ok (.getfield 25, 3) := by decide +kernel
theorem dX1_run_278 : decode cX1_run 278 = .ok (.isub, 1) := by decide +kernel
theorem dX1_run_279 : decode cX1_run 279 = .ok (.iload 6, 2) := by decide +kernel
theorem dX1_run_281 : decode cX1_run 281 = .ok (.invokevirtual 34, 3) := by decide +kernel
theorem dX1_run_284 : decode cX1_run 284 = .ok (.ireturn, 1) := by decide +kernel
set_option maxRecDepth 20000 in
theorem ggX1_bodyFor_X7_within : GoodIn wsX1_bodyFor wsX7_within := goodIn_r _ [3] rfl (by decide +kernel)
set_option maxRecDepth 20000 in
theorem gX1_bodyFor_X7_within_n44 : GoodIn wsX1_bodyFor (wsX7_within) := ggX1_bodyFor_X7_within
set_option maxRecDepth 20000 in
theorem ggX1_bodyFor_X1_ownBody : GoodIn wsX1_bodyFor wsX1_ownBody := goodIn_r _ [7] rfl (by decide +kernel)
set_option maxRecDepth 20000 in
theorem gX1_bodyFor_X1_ownBody : GoodIn wsX1_bodyFor (va_wsS RX1 55 yX1_ownBody wsX1_ownBody) := goodIn_app (goodIn_r _ [4, 5, 6] rfl (by decide +kernel)) ggX1_bodyFor_X1_ownBody
theorem dX1_bodyFor_0 : decode cX1_bodyFor 0 = .ok (.iload_n 0, 1) := by decide +kernel
theorem dX1_bodyFor_1 : decode cX1_bodyFor 1 = .ok (.istore_n 2, 1) := by decide +kernel
theorem dX1_bodyFor_2 : decode cX1_bodyFor 2 = .ok (.iconst 0, 1) := by decide +kernel
theorem dX1_bodyFor_3 : decode cX1_bodyFor 3 = .ok (.istore_n 3, 1) := by decide +kernel
theorem dX1_bodyFor_4 : decode cX1_bodyFor 4 = .ok (.iload_n 3, 1) := by decide +kernel
theorem dX1_bodyFor_5 : decode cX1_bodyFor 5 = .ok (.bipush 7, 2) := by decide +kernel
theorem dX1_bodyFor_7 : decode cX1_bodyFor 7 = .ok (.if_icmp .ge 41, 3) := by decide +kernel
theorem dX1_bodyFor_10 : decode cX1_bodyFor 10 = .ok (.iload_n 2, 1) := by decide +kernel
theorem dX1_bodyFor_11 : decode cX1_bodyFor 11 = .ok (.iconst 0, 1) := by decide +kernel
theorem dX1_bodyFor_12 : decode cX1_bodyFor 12 = .ok (.bipush 6, 2) := by decide +kernel
theorem dX1_bodyFor_14 : decode cX1_bodyFor 14 = .ok (.invokestatic 44, 3) := by decide +kernel
theorem dX1_bodyFor_17 : decode cX1_bodyFor 17 = .ok (.ifCond .eq 31, 3) := by decide +kernel
theorem dX1_bodyFor_20 : decode cX1_bodyFor 20 = .ok (.iload_n 2, 1) := by decide +kernel
theorem dX1_bodyFor_21 : decode cX1_bodyFor 21 = .ok (.iload_n 1, 1) := by decide +kernel
theorem dX1_bodyFor_22 : decode cX1_bodyFor 22 = .ok (.invokestatic 55, 3) := by decide +kernel
theorem dX1_bodyFor_25 : decode cX1_bodyFor 25 = .ok (.istore 4, 2) := by decide +kernel
theorem dX1_bodyFor_27 : decode cX1_bodyFor 27 = .ok (.iload 4, 2) := by decide +kernel
theorem dX1_bodyFor_29 : decode cX1_bodyFor 29 = .ok (.iconst (-1), 1) := by decide +kernel
theorem dX1_bodyFor_30 : decode cX1_bodyFor 30 = .ok (.if_icmp .eq 6, 3) := by decide +kernel
theorem dX1_bodyFor_33 : decode cX1_bodyFor 33 = .ok (.iload 4, 2) := by decide +kernel
theorem dX1_bodyFor_35 : decode cX1_bodyFor 35 = .ok (.ireturn, 1) := by decide +kernel
theorem dX1_bodyFor_36 : decode cX1_bodyFor 36 = .ok (.getstatic 58, 3) := by decide +kernel
theorem dX1_bodyFor_39 : decode cX1_bodyFor 39 = .ok (.iload_n 2, 1) := by decide +kernel
theorem dX1_bodyFor_40 : decode cX1_bodyFor 40 = .ok (.iaload, 1) := by decide +kernel
theorem dX1_bodyFor_41 : decode cX1_bodyFor 41 = .ok (.istore_n 2, 1) := by decide +kernel
theorem dX1_bodyFor_42 : decode cX1_bodyFor 42 = .ok (.iinc 3 1, 3) := by decide +kernel
theorem dX1_bodyFor_45 : decode cX1_bodyFor 45 = .ok (.goto (-41), 3) := by decide +kernel

