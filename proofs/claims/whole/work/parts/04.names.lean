theorem dX7_init_148 : decode cX7_init 148 = .ok (.putfield 67, 3) := by decide +kernel
theorem dX7_init_151 : decode cX7_init 151 = .ok (.aload_n 0, 1) := by decide +kernel
theorem dX7_init_152 : decode cX7_init 152 = .ok (.bipush 40, 2) := by decide +kernel
theorem dX7_init_154 : decode cX7_init 154 = .ok (.newarray .int, 2) := by decide +kernel
theorem dX7_init_156 : decode cX7_init 156 = .ok (.putfield 70, 3) := by decide +kernel
theorem dX7_init_159 : decode cX7_init 159 = .ok (.aload_n 0, 1) := by decide +kernel
theorem dX7_init_160 : decode cX7_init 160 = .ok (.bipush 40, 2) := by decide +kernel
theorem dX7_init_162 : decode cX7_init 162 = .ok (.newarray .int, 2) := by decide +kernel
theorem dX7_init_164 : decode cX7_init 164 = .ok (.putfield 73, 3) := by decide +kernel
theorem dX7_init_167 : decode cX7_init 167 = .ok (.aload_n 0, 1) := by decide +kernel
theorem dX7_init_168 : decode cX7_init 168 = .ok (.bipush 64, 2) := by decide +kernel
theorem dX7_init_170 : decode cX7_init 170 = .ok (.newarray .int, 2) := by decide +kernel
theorem dX7_init_172 : decode cX7_init 172 = .ok (.putfield 76, 3) := by decide +kernel
theorem dX7_init_175 : decode cX7_init 175 = .ok (.aload_n 0, 1) := by decide +kernel
theorem dX7_init_176 : decode cX7_init 176 = .ok (.bipush 64, 2) := by decide +kernel
theorem dX7_init_178 : decode cX7_init 178 = .ok (.newarray .int, 2) := by decide +kernel
theorem dX7_init_180 : decode cX7_init 180 = .ok (.putfield 79, 3) := by decide +kernel
theorem dX7_init_183 : decode cX7_init 183 = .ok (.aload_n 0, 1) := by decide +kernel
theorem dX7_init_184 : decode cX7_init 184 = .ok (.bipush 64, 2) := by decide +kernel
theorem dX7_init_186 : decode cX7_init 186 = .ok (.newarray .int, 2) := by decide +kernel
theorem dX7_init_188 : decode cX7_init 188 = .ok (.putfield 82, 3) := by decide +kernel
theorem dX7_init_191 : decode cX7_init 191 = .ok (.aload_n 0, 1) := by decide +kernel
theorem dX7_init_192 : decode cX7_init 192 = .ok (.bipush 64, 2) := by decide +kernel
theorem dX7_init_194 : decode cX7_init 194 = .ok (.newarray .int, 2) := by decide +kernel
theorem dX7_init_196 : decode cX7_init 196 = .ok (.putfield 85, 3) := by decide +kernel
theorem dX7_init_199 : decode cX7_init 199 = .ok (.aload_n 0, 1) := by decide +kernel
theorem dX7_init_200 : decode cX7_init 200 = .ok (.iconst 3, 1) := by decide +kernel
theorem dX7_init_201 : decode cX7_init 201 = .ok (.newarray .int, 2) := by decide +kernel
theorem dX7_init_203 : decode cX7_init 203 = .ok (.putfield 88, 3) := by decide +kernel
theorem dX7_init_206 : decode cX7_init 206 = .ok (.aload_n 0, 1) := by decide +kernel
theorem dX7_init_207 : decode cX7_init 207 = .ok (.iconst 0, 1) := by decide +kernel
theorem dX7_init_208 : decode cX7_init 208 = .ok (.putfield 91, 3) := by decide +kernel
theorem dX7_init_211 : decode cX7_init 211 = .ok (.aload_n 0, 1) := by decide +kernel
theorem dX7_init_212 : decode cX7_init 212 = .ok (.iconst 0, 1) := by decide +kernel
theorem dX7_init_213 : decode cX7_init 213 = .ok (.putfield 95, 3) := by decide +kernel
theorem dX7_init_216 : decode cX7_init 216 = .ok (.aload_n 0, 1) := by decide +kernel
theorem dX7_init_217 : decode cX7_init 217 = .ok (.iconst 0, 1) := by decide +kernel
theorem dX7_init_218 : decode cX7_init 218 = .ok (.putfield 98, 3) := by decide +kernel
theorem dX7_init_221 : decode cX7_init 221 = .ok (.aload_n 0, 1) := by decide +kernel
theorem dX7_init_222 : decode cX7_init 222 = .ok (.iconst 0, 1) := by decide +kernel
theorem dX7_init_223 : decode cX7_init 223 = .ok (.putfield 101, 3) := by decide +kernel
theorem dX7_init_226 : decode cX7_init 226 = .ok (.aload_n 0, 1) := by decide +kernel
theorem dX7_init_227 : decode cX7_init 227 = .ok (.iconst 0, 1) := by decide +kernel
theorem dX7_init_228 : decode cX7_init 228 = .ok (.putfield 104, 3) := by decide +kernel
theorem dX7_init_231 : decode cX7_init 231 = .ok (.aload_n 0, 1) := by decide +kernel
theorem dX7_init_232 : decode cX7_init 232 = .ok (.iconst 2, 1) := by decide +kernel
theorem dX7_init_233 : decode cX7_init 233 = .ok (.putfield 107, 3) := by decide +kernel
theorem dX7_init_236 : decode cX7_init 236 = .ok (.aload_n 0, 1) := by decide +kernel
theorem dX7_init_237 : decode cX7_init 237 = .ok (.bipush 9, 2) := by decide +kernel
theorem dX7_init_239 : decode cX7_init 239 = .ok (.putfield 110, 3) := by decide +kernel
theorem dX7_init_242 : decode cX7_init 242 = .ok (.aload_n 0, 1) := by decide +kernel
theorem dX7_init_243 : decode cX7_init 243 = .ok (.iconst 1, 1) := by decide +kernel
theorem dX7_init_244 : decode cX7_init 244 = .ok (.putfield 113, 3) := by decide +kernel
theorem dX7_init_247 : decode cX7_init 247 = .ok (.aload_n 0, 1) := by decide +kernel
theorem dX7_init_248 : decode cX7_init 248 = .ok (.iconst 0, 1) := by decide +kernel
theorem dX7_init_249 : decode cX7_init 249 = .ok (.putfield 116, 3) := by decide +kernel
theorem dX7_init_252 : decode cX7_init 252 = .ok (.aload_n 0, 1) := by decide +kernel
theorem dX7_init_253 : decode cX7_init 253 = .ok (.iconst 0, 1) := by decide +kernel
theorem dX7_init_254 : decode cX7_init 254 = .ok (.putfield 119, 3) := by decide +kernel
theorem dX7_init_257 : decode cX7_init 257 = .ok (.aload_n 0, 1) := by decide +kernel
theorem dX7_init_258 : decode cX7_init 258 = .ok (.iconst 0, 1) := by decide +kernel
theorem dX7_init_259 : decode cX7_init 259 = .ok (.putfield 122, 3) := by decide +kernel
theorem dX7_init_262 : decode cX7_init 262 = .ok (.aload_n 0, 1) := by decide +kernel
theorem dX7_init_263 : decode cX7_init 263 = .ok (.new 125, 3) := by decide +kernel
theorem dX7_init_266 : decode cX7_init 266 = .ok (.dup, 1) := by decide +kernel
theorem dX7_init_267 : decode cX7_init 267 = .ok (.invokespecial 127, 3) := by decide +kernel
theorem dX7_init_270 : decode cX7_init 270 = .ok (.invokevirtual 128, 3) := by decide +kernel
theorem dX7_init_273 : decode cX7_init 273 = .ok (.putfield 132, 3) := by decide +kernel
theorem dX7_init_276 : decode cX7_init 276 = .ok (.return_, 1) := by decide +kernel
theorem dX7_thrown_0 : decode cX7_thrown 0 = .ok (.aload_n 0, 1) := by decide +kernel
theorem dX7_thrown_1 : decode cX7_thrown 1 = .ok (.getfield 91, 3) := by decide +kernel
theorem dX7_thrown_4 : decode cX7_thrown 4 = .ok (.ireturn, 1) := by decide +kernel
theorem dX7_in_0 : decode cX7_in 0 = .ok (.iload_n 0, 1) := by decide +kernel
theorem dX7_in_1 : decode cX7_in 1 = .ok (.iload_n 1, 1) := by decide +kernel
theorem dX7_in_2 : decode cX7_in 2 = .ok (.if_icmp .lt 12, 3) := by decide +kernel
theorem dX7_in_5 : decode cX7_in 5 = .ok (.iload_n 0, 1) := by decide +kernel
theorem dX7_in_6 : decode cX7_in 6 = .ok (.iload_n 2, 1) := by decide +kernel
theorem dX7_in_7 : decode cX7_in 7 = .ok (.if_icmp .gt 7, 3) := by decide +kernel
theorem dX7_in_10 : decode cX7_in 10 = .ok (.iconst 1, 1) := by decide +kernel
theorem dX7_in_11 : decode cX7_in 11 = .ok (.goto 4, 3) := by decide +kernel
theorem dX7_in_14 : decode cX7_in 14 = .ok (.iconst 0, 1) := by decide +kernel
theorem dX7_in_15 : decode cX7_in 15 = .ok (.ireturn, 1) := by decide +kernel
theorem dX7_plain_0 : decode cX7_plain 0 = .ok (.aload_n 0, 1) := by decide +kernel
theorem dX7_plain_1 : decode cX7_plain 1 = .ok (.iconst 0, 1) := by decide +kernel
theorem dX7_plain_2 : decode cX7_plain 2 = .ok (.putfield 91, 3) := by decide +kernel
theorem dX7_plain_5 : decode cX7_plain 5 = .ok (.iload_n 1, 1) := by decide +kernel
theorem dX7_plain_6 : decode cX7_plain 6 = .ok (.ireturn, 1) := by decide +kernel
theorem dX7_checked_0 : decode cX7_checked 0 = .ok (.aload_n 0, 1) := by decide +kernel
theorem dX7_checked_1 : decode cX7_checked 1 = .ok (.iload_n 1, 1) := by decide +kernel
theorem dX7_checked_2 : decode cX7_checked 2 = .ok (.ifCond .eq 7, 3) := by decide +kernel
theorem dX7_checked_5 : decode cX7_checked 5 = .ok (.iconst 0, 1) := by decide +kernel
theorem dX7_checked_6 : decode cX7_checked 6 = .ok (.goto 4, 3) := by decide +kernel
theorem dX7_checked_9 : decode cX7_checked 9 = .ok (.iconst 1, 1) := by decide +kernel
theorem dX7_checked_10 : decode cX7_checked 10 = .ok (.putfield 91, 3) := by decide +kernel
theorem dX7_checked_13 : decode cX7_checked 13 = .ok (.aload_n 0, 1) := by decide +kernel
theorem dX7_checked_14 : decode cX7_checked 14 = .ok (.getfield 91, 3) := by decide +kernel
theorem dX7_checked_17 : decode cX7_checked 17 = .ok (.ireturn, 1) := by decide +kernel
theorem dX7_isPaper_0 : decode cX7_isPaper 0 = .ok (.iload_n 0, 1) := by decide +kernel
theorem dX7_isPaper_1 : decode cX7_isPaper 1 = .ok (.bipush 97, 2) := by decide +kernel
theorem dX7_isPaper_3 : decode cX7_isPaper 3 = .ok (.if_icmp .eq 15, 3) := by decide +kernel
theorem dX7_isPaper_6 : decode cX7_isPaper 6 = .ok (.iload_n 0, 1) := by decide +kernel
theorem dX7_isPaper_7 : decode cX7_isPaper 7 = .ok (.bipush 98, 2) := by decide +kernel
theorem dX7_isPaper_9 : decode cX7_isPaper 9 = .ok (.if_icmp .eq 9, 3) := by decide +kernel
theorem dX7_isPaper_12 : decode cX7_isPaper 12 = .ok (.iload_n 0, 1) := by decide +kernel
theorem dX7_isPaper_13 : decode cX7_isPaper 13 = .ok (.bipush 108, 2) := by decide +kernel
theorem dX7_isPaper_15 : decode cX7_isPaper 15 = .ok (.if_icmp .ne 7, 3) := by decide +kernel
theorem dX7_isPaper_18 : decode cX7_isPaper 18 = .ok (.iconst 1, 1) := by decide +kernel
theorem dX7_isPaper_19 : decode cX7_isPaper 19 = .ok (.goto 4, 3) := by decide +kernel
theorem dX7_isPaper_22 : decode cX7_isPaper 22 = .ok (.iconst 0, 1) := by decide +kernel
theorem dX7_isPaper_23 : decode cX7_isPaper 23 = .ok (.ireturn, 1) := by decide +kernel
set_option maxRecDepth 20000 in
theorem ggX7_isUser_X7_in : GoodIn wsX7_isUser wsX7_in := goodIn_r _ [5] (by decide +kernel) (by decide +kernel)
set_option maxRecDepth 20000 in
theorem gX7_isUser_X7_in : GoodIn wsX7_isUser (va_wsS RX7 136 yX7_in wsX7_in) := goodIn_app (goodIn_of _ (by decide +kernel)) ggX7_isUser_X7_in
theorem dX7_isUser_0 : decode cX7_isUser 0 = .ok (.iload_n 1, 1) := by decide +kernel
theorem dX7_isUser_1 : decode cX7_isUser 1 = .ok (.iconst 0, 1) := by decide +kernel
theorem dX7_isUser_2 : decode cX7_isUser 2 = .ok (.aload_n 0, 1) := by decide +kernel
theorem dX7_isUser_3 : decode cX7_isUser 3 = .ok (.getfield 95, 3) := by decide +kernel
theorem dX7_isUser_6 : decode cX7_isUser 6 = .ok (.iconst 1, 1) := by decide +kernel
theorem dX7_isUser_7 : decode cX7_isUser 7 = .ok (.isub, 1) := by decide +kernel
theorem dX7_isUser_8 : decode cX7_isUser 8 = .ok (.invokestatic 136, 3) := by decide +kernel
theorem dX7_isUser_11 : decode cX7_isUser 11 = .ok (.ireturn, 1) := by decide +kernel
set_option maxRecDepth 20000 in
theorem ggX7_isPrinter_X7_in : GoodIn wsX7_isPrinter wsX7_in := goodIn_r _ [5] (by decide +kernel) (by decide +kernel)
set_option maxRecDepth 20000 in
theorem gX7_isPrinter_X7_in : GoodIn wsX7_isPrinter (va_wsS RX7 136 yX7_in wsX7_in) := goodIn_app (goodIn_of _ (by decide +kernel)) ggX7_isPrinter_X7_in
theorem dX7_isPrinter_0 : decode cX7_isPrinter 0 = .ok (.iload_n 1, 1) := by decide +kernel
theorem dX7_isPrinter_1 : decode cX7_isPrinter 1 = .ok (.iconst 0, 1) := by decide +kernel
theorem dX7_isPrinter_2 : decode cX7_isPrinter 2 = .ok (.aload_n 0, 1) := by decide +kernel
theorem dX7_isPrinter_3 : decode cX7_isPrinter 3 = .ok (.getfield 98, 3) := by decide +kernel
theorem dX7_isPrinter_6 : decode cX7_isPrinter 6 = .ok (.iconst 1, 1) := by decide +kernel
theorem dX7_isPrinter_7 : decode cX7_isPrinter 7 = .ok (.isub, 1) := by decide +kernel
theorem dX7_isPrinter_8 : decode cX7_isPrinter 8 = .ok (.invokestatic 136, 3) := by decide +kernel
theorem dX7_isPrinter_11 : decode cX7_isPrinter 11 = .ok (.ireturn, 1) := by decide +kernel
set_option maxRecDepth 20000 in
theorem ggX7_isTray_X7_isPrinter : GoodIn wsX7_isTray wsX7_isPrinter := goodIn_r _ [6, 7, 8, 9, 5, 10, 11, 12, 13, 14, 15, 16, 17, 18, 19, 20, 21, 22, 23, 24, 25, 26, 27, 28, 29, 30, 31, 32, 33, 34, 35, 36, 37, 38, 39, 40, 41, 42, 43, 44, 45, 46, 47, 48] (by decide +kernel) (by decide +kernel)
set_option maxRecDepth 20000 in
theorem gX7_isTray_X7_isPrinter : GoodIn wsX7_isTray (wsV RX7 140 RX7 yX7_isPrinter wsX7_isPrinter) := goodIn_app (goodIn_of _ (by decide +kernel)) ggX7_isTray_X7_isPrinter
set_option maxRecDepth 20000 in
theorem ggX7_isTray_X7_in : GoodIn wsX7_isTray wsX7_in := goodIn_r _ [10] (by decide +kernel) (by decide +kernel)
set_option maxRecDepth 20000 in
theorem gX7_isTray_X7_in : GoodIn wsX7_isTray (va_wsS RX7 136 yX7_in wsX7_in) := goodIn_app (goodIn_of _ (by decide +kernel)) ggX7_isTray_X7_in
theorem dX7_isTray_0 : decode cX7_isTray 0 = .ok (.aload_n 0, 1) := by decide +kernel
theorem dX7_isTray_1 : decode cX7_isTray 1 = .ok (.iload_n 1, 1) := by decide +kernel
theorem dX7_isTray_2 : decode cX7_isTray 2 = .ok (.invokevirtual 140, 3) := by decide +kernel
theorem dX7_isTray_5 : decode cX7_isTray 5 = .ok (.ifCond .eq 23, 3) := by decide +kernel
theorem dX7_isTray_8 : decode cX7_isTray 8 = .ok (.iload_n 2, 1) := by decide +kernel
theorem dX7_isTray_9 : decode cX7_isTray 9 = .ok (.iconst 0, 1) := by decide +kernel
theorem dX7_isTray_10 : decode cX7_isTray 10 = .ok (.aload_n 0, 1) := by decide +kernel
theorem dX7_isTray_11 : decode cX7_isTray 11 = .ok (.getfield 16, 3) := by decide +kernel
theorem dX7_isTray_14 : decode cX7_isTray 14 = .ok (.iload_n 1, 1) := by decide +kernel
theorem dX7_isTray_15 : decode cX7_isTray 15 = .ok (.iaload, 1) := by decide +kernel
theorem dX7_isTray_16 : decode cX7_isTray 16 = .ok (.iconst 1, 1) := by decide +kernel
theorem dX7_isTray_17 : decode cX7_isTray 17 = .ok (.isub, 1) := by decide +kernel
theorem dX7_isTray_18 : decode cX7_isTray 18 = .ok (.invokestatic 136, 3) := by decide +kernel
theorem dX7_isTray_21 : decode cX7_isTray 21 = .ok (.ifCond .eq 7, 3) := by decide +kernel
theorem dX7_isTray_24 : decode cX7_isTray 24 = .ok (.iconst 1, 1) := by decide +kernel
theorem dX7_isTray_25 : decode cX7_isTray 25 = .ok (.goto 4, 3) := by decide +kernel
theorem dX7_isTray_28 : decode cX7_isTray 28 = .ok (.iconst 0, 1) := by decide +kernel
theorem dX7_isTray_29 : decode cX7_isTray 29 = .ok (.ireturn, 1) := by decide +kernel
set_option maxRecDepth 20000 in
theorem ggX7_isJob_X7_in : GoodIn wsX7_isJob wsX7_in := goodIn_r _ [5] (by decide +kernel) (by decide +kernel)
set_option maxRecDepth 20000 in
theorem gX7_isJob_X7_in : GoodIn wsX7_isJob (va_wsS RX7 136 yX7_in wsX7_in) := goodIn_app (goodIn_of _ (by decide +kernel)) ggX7_isJob_X7_in
theorem dX7_isJob_0 : decode cX7_isJob 0 = .ok (.iload_n 1, 1) := by decide +kernel
theorem dX7_isJob_1 : decode cX7_isJob 1 = .ok (.iconst 0, 1) := by decide +kernel
theorem dX7_isJob_2 : decode cX7_isJob 2 = .ok (.aload_n 0, 1) := by decide +kernel
theorem dX7_isJob_3 : decode cX7_isJob 3 = .ok (.getfield 101, 3) := by decide +kernel
theorem dX7_isJob_6 : decode cX7_isJob 6 = .ok (.iconst 1, 1) := by decide +kernel
theorem dX7_isJob_7 : decode cX7_isJob 7 = .ok (.isub, 1) := by decide +kernel
theorem dX7_isJob_8 : decode cX7_isJob 8 = .ok (.invokestatic 136, 3) := by decide +kernel
theorem dX7_isJob_11 : decode cX7_isJob 11 = .ok (.ireturn, 1) := by decide +kernel
set_option maxRecDepth 20000 in
theorem ggX7_addUser_X7_in : GoodIn wsX7_addUser wsX7_in := goodIn_r _ [7] (by decide +kernel) (by decide +kernel)
set_option maxRecDepth 20000 in
theorem gX7_addUser_X7_in : GoodIn wsX7_addUser (va_wsS RX7 136 yX7_in wsX7_in) := goodIn_app (goodIn_of _ (by decide +kernel)) ggX7_addUser_X7_in
theorem dX7_addUser_0 : decode cX7_addUser 0 = .ok (.aload_n 0, 1) := by decide +kernel
theorem dX7_addUser_1 : decode cX7_addUser 1 = .ok (.iload_n 1, 1) := by decide +kernel
theorem dX7_addUser_2 : decode cX7_addUser 2 = .ok (.iconst 0, 1) := by decide +kernel
theorem dX7_addUser_3 : decode cX7_addUser 3 = .ok (.sipush 999, 3) := by decide +kernel
theorem dX7_addUser_6 : decode cX7_addUser 6 = .ok (.invokestatic 136, 3) := by decide +kernel
theorem dX7_addUser_9 : decode cX7_addUser 9 = .ok (.ifCond .eq 14, 3) := by decide +kernel
theorem dX7_addUser_12 : decode cX7_addUser 12 = .ok (.iload_n 2, 1) := by decide +kernel
theorem dX7_addUser_13 : decode cX7_addUser 13 = .ok (.iconst 0, 1) := by decide +kernel
theorem dX7_addUser_14 : decode cX7_addUser 14 = .ok (.sipush 999, 3) := by decide +kernel
theorem dX7_addUser_17 : decode cX7_addUser 17 = .ok (.invokestatic 136, 3) := by decide +kernel
theorem dX7_addUser_20 : decode cX7_addUser 20 = .ok (.ifCond .ne 7, 3) := by decide +kernel
theorem dX7_addUser_23 : decode cX7_addUser 23 = .ok (.iconst 1, 1) := by decide +kernel
theorem dX7_addUser_24 : decode cX7_addUser 24 = .ok (.goto 17, 3) := by decide +kernel
theorem dX7_addUser_27 : decode cX7_addUser 27 = .ok (.aload_n 0, 1) := by decide +kernel
theorem dX7_addUser_28 : decode cX7_addUser 28 = .ok (.getfield 95, 3) := by decide +kernel
theorem dX7_addUser_31 : decode cX7_addUser 31 = .ok (.bipush 6, 2) := by decide +kernel
theorem dX7_addUser_33 : decode cX7_addUser 33 = .ok (.if_icmp .ne 7, 3) := by decide +kernel
theorem dX7_addUser_36 : decode cX7_addUser 36 = .ok (.iconst 2, 1) := by decide +kernel
theorem dX7_addUser_37 : decode cX7_addUser 37 = .ok (.goto 4, 3) := by decide +kernel
theorem dX7_addUser_40 : decode cX7_addUser 40 = .ok (.iconst 0, 1) := by decide +kernel
theorem dX7_addUser_41 : decode cX7_addUser 41 = .ok (.putfield 91, 3) := by decide +kernel
theorem dX7_addUser_44 : decode cX7_addUser 44 = .ok (.aload_n 0, 1) := by decide +kernel
theorem dX7_addUser_45 : decode cX7_addUser 45 = .ok (.getfield 91, 3) := by decide +kernel
theorem dX7_addUser_48 : decode cX7_addUser 48 = .ok (.ifCond .le 5, 3) := by decide +kernel
theorem dX7_addUser_51 : decode cX7_addUser 51 = .ok (.iconst 0, 1) := by decide +kernel
theorem dX7_addUser_52 : decode cX7_addUser 52 = .ok (.ireturn, 1) := by decide +kernel
theorem dX7_addUser_53 : decode cX7_addUser 53 = .ok (.aload_n 0, 1) := by decide +kernel
theorem dX7_addUser_54 : decode cX7_addUser 54 = .ok (.getfield 7, 3) := by decide +kernel
theorem dX7_addUser_57 : decode cX7_addUser 57 = .ok (.iconst 2, 1) := by decide +kernel
theorem dX7_addUser_58 : decode cX7_addUser 58 = .ok (.aload_n 0, 1) := by decide +kernel
theorem dX7_addUser_59 : decode cX7_addUser 59 = .ok (.getfield 95, 3) := by decide +kernel
theorem dX7_addUser_62 : decode cX7_addUser 62 = .ok (.imul, 1) := by decide +kernel
theorem dX7_addUser_63 : decode cX7_addUser 63 = .ok (.iload_n 1, 1) := by decide +kernel
theorem dX7_addUser_64 : decode cX7_addUser 64 = .ok (.iastore, 1) := by decide +kernel
theorem dX7_addUser_65 : decode cX7_addUser 65 = .ok (.aload_n 0, 1) := by decide +kernel
theorem dX7_addUser_66 : decode cX7_addUser 66 = .ok (.getfield 7, 3) := by decide +kernel
theorem dX7_addUser_69 : decode cX7_addUser 69 = .ok (.iconst 2, 1) := by decide +kernel
theorem dX7_addUser_70 : decode cX7_addUser 70 = .ok (.aload_n 0, 1) := by decide +kernel
theorem dX7_addUser_71 : decode cX7_addUser 71 = .ok (.getfield 95, 3) := by decide +kernel
theorem dX7_addUser_74 : decode cX7_addUser 74 = .ok (.imul, 1) := by decide +kernel
theorem dX7_addUser_75 : decode cX7_addUser 75 = .ok (.iconst 1, 1) := by decide +kernel
theorem dX7_addUser_76 : decode cX7_addUser 76 = .ok (.iadd, 1) := by decide +kernel
theorem dX7_addUser_77 : decode cX7_addUser 77 = .ok (.iload_n 2, 1) := by decide +kernel
theorem dX7_addUser_78 : decode cX7_addUser 78 = .ok (.iastore, 1) := by decide +kernel
theorem dX7_addUser_79 : decode cX7_addUser 79 = .ok (.aload_n 0, 1) := by decide +kernel
theorem dX7_addUser_80 : decode cX7_addUser 80 = .ok (.dup, 1) := by decide +kernel
theorem dX7_addUser_81 : decode cX7_addUser 81 = .ok (.getfield 95, 3) := by decide +kernel
theorem dX7_addUser_84 : decode cX7_addUser 84 = .ok (.iconst 1, 1) := by decide +kernel
theorem dX7_addUser_85 : decode cX7_addUser 85 = .ok (.iadd, 1) := by decide +kernel
theorem dX7_addUser_86 : decode cX7_addUser 86 = .ok (.putfield 95, 3) := by decide +kernel
theorem dX7_addUser_89 : decode cX7_addUser 89 = .ok (.aload_n 0, 1) := by decide +kernel
theorem dX7_addUser_90 : decode cX7_addUser 90 = .ok (.getfield 95, 3) := by decide +kernel
theorem dX7_addUser_93 : decode cX7_addUser 93 = .ok (.iconst 1, 1) := by decide +kernel
theorem dX7_addUser_94 : decode cX7_addUser 94 = .ok (.isub, 1) := by decide +kernel
theorem dX7_addUser_95 : decode cX7_addUser 95 = .ok (.ireturn, 1) := by decide +kernel
set_option maxRecDepth 20000 in
theorem ggX7_addPrinter_X7_in : GoodIn wsX7_addPrinter wsX7_in := goodIn_r _ [10] (by decide +kernel) (by decide +kernel)
set_option maxRecDepth 20000 in
theorem gX7_addPrinter_X7_in : GoodIn wsX7_addPrinter (va_wsS RX7 136 yX7_in wsX7_in) := goodIn_app (goodIn_of _ (by decide +kernel)) ggX7_addPrinter_X7_in
theorem dX7_addPrinter_0 : decode cX7_addPrinter 0 = .ok (.aload_n 0, 1) := by decide +kernel
theorem dX7_addPrinter_1 : decode cX7_addPrinter 1 = .ok (.iload_n 2, 1) := by decide +kernel
theorem dX7_addPrinter_2 : decode cX7_addPrinter 2 = .ok (.iconst 0, 1) := by decide +kernel
theorem dX7_addPrinter_3 : decode cX7_addPrinter 3 = .ok (.sipush 1000, 3) := by decide +kernel
theorem dX7_addPrinter_6 : decode cX7_addPrinter 6 = .ok (.invokestatic 136, 3) := by decide +kernel
theorem dX7_addPrinter_9 : decode cX7_addPrinter 9 = .ok (.ifCond .eq 13, 3) := by decide +kernel
theorem dX7_addPrinter_12 : decode cX7_addPrinter 12 = .ok (.iload_n 3, 1) := by decide +kernel
theorem dX7_addPrinter_13 : decode cX7_addPrinter 13 = .ok (.iconst 0, 1) := by decide +kernel
theorem dX7_addPrinter_14 : decode cX7_addPrinter 14 = .ok (.bipush 100, 2) := by decide +kernel
theorem dX7_addPrinter_16 : decode cX7_addPrinter 16 = .ok (.invokestatic 136, 3) := by decide +kernel
theorem dX7_addPrinter_19 : decode cX7_addPrinter 19 = .ok (.ifCond .ne 7, 3) := by decide +kernel
theorem dX7_addPrinter_22 : decode cX7_addPrinter 22 = .ok (.iconst 1, 1) := by decide +kernel
theorem dX7_addPrinter_23 : decode cX7_addPrinter 23 = .ok (.goto 16, 3) := by decide +kernel
theorem dX7_addPrinter_26 : decode cX7_addPrinter 26 = .ok (.aload_n 0, 1) := by decide +kernel
theorem dX7_addPrinter_27 : decode cX7_addPrinter 27 = .ok (.getfield 98, 3) := by decide +kernel
theorem dX7_addPrinter_30 : decode cX7_addPrinter 30 = .ok (.iconst 4, 1) := by decide +kernel
theorem dX7_addPrinter_31 : decode cX7_addPrinter 31 = .ok (.if_icmp .ne 7, 3) := by decide +kernel
theorem dX7_addPrinter_34 : decode cX7_addPrinter 34 = .ok (.iconst 2, 1) := by decide +kernel
theorem dX7_addPrinter_35 : decode cX7_addPrinter 35 = .ok (.goto 4, 3) := by decide +kernel
theorem dX7_addPrinter_38 : decode cX7_addPrinter 38 = .ok (.iconst 0, 1) := by decide +kernel
theorem dX7_addPrinter_39 : decode cX7_addPrinter 39 = .ok (.putfield 91, 3) := by decide +kernel
theorem dX7_addPrinter_42 : decode cX7_addPrinter 42 = .ok (.aload_n 0, 1) := by decide +kernel
theorem dX7_addPrinter_43 : decode cX7_addPrinter 43 = .ok (.getfield 91, 3) := by decide +kernel
theorem dX7_addPrinter_46 : decode cX7_addPrinter 46 = .ok (.ifCond .le 5, 3) := by decide +kernel
theorem dX7_addPrinter_49 : decode cX7_addPrinter 49 = .ok (.iconst 0, 1) := by decide +kernel
theorem dX7_addPrinter_50 : decode cX7_addPrinter 50 = .ok (.ireturn, 1) := by decide +kernel
theorem dX7_addPrinter_51 : decode cX7_addPrinter 51 = .ok (.aload_n 0, 1) := by decide +kernel
theorem dX7_addPrinter_52 : decode cX7_addPrinter 52 = .ok (.getfield 45, 3) := by decide +kernel
theorem dX7_addPrinter_55 : decode cX7_addPrinter 55 = .ok (.aload_n 0, 1) := by decide +kernel
theorem dX7_addPrinter_56 : decode cX7_addPrinter 56 = .ok (.getfield 98, 3) := by decide +kernel
theorem dX7_addPrinter_59 : decode cX7_addPrinter 59 = .ok (.iload_n 1, 1) := by decide +kernel
theorem dX7_addPrinter_60 : decode cX7_addPrinter 60 = .ok (.bastore, 1) := by decide +kernel
theorem dX7_addPrinter_61 : decode cX7_addPrinter 61 = .ok (.aload_n 0, 1) := by decide +kernel
theorem dX7_addPrinter_62 : decode cX7_addPrinter 62 = .ok (.getfield 22, 3) := by decide +kernel
theorem dX7_addPrinter_65 : decode cX7_addPrinter 65 = .ok (.aload_n 0, 1) := by decide +kernel
theorem dX7_addPrinter_66 : decode cX7_addPrinter 66 = .ok (.getfield 98, 3) := by decide +kernel
theorem dX7_addPrinter_69 : decode cX7_addPrinter 69 = .ok (.iload_n 2, 1) := by decide +kernel
theorem dX7_addPrinter_70 : decode cX7_addPrinter 70 = .ok (.iastore, 1) := by decide +kernel
theorem dX7_addPrinter_71 : decode cX7_addPrinter 71 = .ok (.aload_n 0, 1) := by decide +kernel
theorem dX7_addPrinter_72 : decode cX7_addPrinter 72 = .ok (.getfield 25, 3) := by decide +kernel
theorem dX7_addPrinter_75 : decode cX7_addPrinter 75 = .ok (.aload_n 0, 1) := by decide +kernel
theorem dX7_addPrinter_76 : decode cX7_addPrinter 76 = .ok (.getfield 98, 3) := by decide +kernel
theorem dX7_addPrinter_79 : decode cX7_addPrinter 79 = .ok (.iload_n 2, 1) := by decide +kernel
theorem dX7_addPrinter_80 : decode cX7_addPrinter 80 = .ok (.iastore, 1) := by decide +kernel
theorem dX7_addPrinter_81 : decode cX7_addPrinter 81 = .ok (.aload_n 0, 1) := by decide +kernel
theorem dX7_addPrinter_82 : decode cX7_addPrinter 82 = .ok (.getfield 28, 3) := by decide +kernel
theorem dX7_addPrinter_85 : decode cX7_addPrinter 85 = .ok (.aload_n 0, 1) := by decide +kernel
theorem dX7_addPrinter_86 : decode cX7_addPrinter 86 = .ok (.getfield 98, 3) := by decide +kernel
theorem dX7_addPrinter_89 : decode cX7_addPrinter 89 = .ok (.iload_n 3, 1) := by decide +kernel
theorem dX7_addPrinter_90 : decode cX7_addPrinter 90 = .ok (.iastore, 1) := by decide +kernel
theorem dX7_addPrinter_91 : decode cX7_addPrinter 91 = .ok (.aload_n 0, 1) := by decide +kernel
theorem dX7_addPrinter_92 : decode cX7_addPrinter 92 = .ok (.dup, 1) := by decide +kernel
theorem dX7_addPrinter_93 : decode cX7_addPrinter 93 = .ok (.getfield 98, 3) := by decide +kernel
theorem dX7_addPrinter_96 : decode cX7_addPrinter 96 = .ok (.iconst 1, 1) := by decide +kernel
theorem dX7_addPrinter_97 : decode cX7_addPrinter 97 = .ok (.iadd, 1) := by decide +kernel
theorem dX7_addPrinter_98 : decode cX7_addPrinter 98 = .ok (.putfield 98, 3) := by decide +kernel
theorem dX7_addPrinter_101 : decode cX7_addPrinter 101 = .ok (.aload_n 0, 1) := by decide +kernel
theorem dX7_addPrinter_102 : decode cX7_addPrinter 102 = .ok (.getfield 98, 3) := by decide +kernel
theorem dX7_addPrinter_105 : decode cX7_addPrinter 105 = .ok (.iconst 1, 1) := by decide +kernel
theorem dX7_addPrinter_106 : decode cX7_addPrinter 106 = .ok (.isub, 1) := by decide +kernel
theorem dX7_addPrinter_107 : decode cX7_addPrinter 107 = .ok (.ireturn, 1) := by decide +kernel
set_option maxRecDepth 20000 in
theorem ggX7_addTray_X7_isPrinter : GoodIn wsX7_addTray wsX7_isPrinter := goodIn_r _ [9, 10, 11, 12, 8, 13, 17, 18, 19, 20, 21, 22, 23, 24, 25, 26, 27, 28, 29, 30, 31, 32, 33, 34, 35, 36, 37, 38, 39, 40, 41, 42, 43, 44, 45, 46, 47, 48, 49, 50, 51, 52, 53, 54] (by decide +kernel) (by decide +kernel)
set_option maxRecDepth 20000 in
theorem gX7_addTray_X7_isPrinter : GoodIn wsX7_addTray (wsV RX7 140 RX7 yX7_isPrinter wsX7_isPrinter) := goodIn_app (goodIn_of _ (by decide +kernel)) ggX7_addTray_X7_isPrinter
set_option maxRecDepth 20000 in
theorem ggX7_addTray_X7_isPaper : GoodIn wsX7_addTray wsX7_isPaper := goodIn_r _ [16] (by decide +kernel) (by decide +kernel)
set_option maxRecDepth 20000 in
theorem gX7_addTray_X7_isPaper : GoodIn wsX7_addTray (va_wsS RX7 144 yX7_isPaper wsX7_isPaper) := goodIn_app (goodIn_of _ (by decide +kernel)) ggX7_addTray_X7_isPaper
set_option maxRecDepth 20000 in
theorem ggX7_addTray_X7_in : GoodIn wsX7_addTray wsX7_in := goodIn_r _ [13] (by decide +kernel) (by decide +kernel)
set_option maxRecDepth 20000 in
theorem gX7_addTray_X7_in : GoodIn wsX7_addTray (va_wsS RX7 136 yX7_in wsX7_in) := goodIn_app (goodIn_of _ (by decide +kernel)) ggX7_addTray_X7_in
theorem dX7_addTray_0 : decode cX7_addTray 0 = .ok (.aload_n 0, 1) := by decide +kernel
theorem dX7_addTray_1 : decode cX7_addTray 1 = .ok (.aload_n 0, 1) := by decide +kernel
theorem dX7_addTray_2 : decode cX7_addTray 2 = .ok (.iload_n 1, 1) := by decide +kernel
theorem dX7_addTray_3 : decode cX7_addTray 3 = .ok (.invokevirtual 140, 3) := by decide +kernel
theorem dX7_addTray_6 : decode cX7_addTray 6 = .ok (.ifCond .ne 7, 3) := by decide +kernel
theorem dX7_addTray_9 : decode cX7_addTray 9 = .ok (.iconst 1, 1) := by decide +kernel
theorem dX7_addTray_10 : decode cX7_addTray 10 = .ok (.goto 40, 3) := by decide +kernel
theorem dX7_addTray_13 : decode cX7_addTray 13 = .ok (.iload_n 2, 1) := by decide +kernel
theorem dX7_addTray_14 : decode cX7_addTray 14 = .ok (.invokestatic 144, 3) := by decide +kernel
theorem dX7_addTray_17 : decode cX7_addTray 17 = .ok (.ifCond .eq 14, 3) := by decide +kernel
theorem dX7_addTray_20 : decode cX7_addTray 20 = .ok (.iload_n 3, 1) := by decide +kernel
theorem dX7_addTray_21 : decode cX7_addTray 21 = .ok (.iconst 0, 1) := by decide +kernel
theorem dX7_addTray_22 : decode cX7_addTray 22 = .ok (.sipush 500, 3) := by decide +kernel
theorem dX7_addTray_25 : decode cX7_addTray 25 = .ok (.invokestatic 136, 3) := by decide +kernel
theorem dX7_addTray_28 : decode cX7_addTray 28 = .ok (.ifCond .ne 7, 3) := by decide +kernel
theorem dX7_addTray_31 : decode cX7_addTray 31 = .ok (.iconst 2, 1) := by decide +kernel
theorem dX7_addTray_32 : decode cX7_addTray 32 = .ok (.goto 18, 3) := by decide +kernel
theorem dX7_addTray_35 : decode cX7_addTray 35 = .ok (.aload_n 0, 1) := by decide +kernel
theorem dX7_addTray_36 : decode cX7_addTray 36 = .ok (.getfield 16, 3) := by decide +kernel
theorem dX7_addTray_39 : decode cX7_addTray 39 = .ok (.iload_n 1, 1) := by decide +kernel
theorem dX7_addTray_40 : decode cX7_addTray 40 = .ok (.iaload, 1) := by decide +kernel
theorem dX7_addTray_41 : decode cX7_addTray 41 = .ok (.iconst 3, 1) := by decide +kernel
theorem dX7_addTray_42 : decode cX7_addTray 42 = .ok (.if_icmp .ne 7, 3) := by decide +kernel
theorem dX7_addTray_45 : decode cX7_addTray 45 = .ok (.iconst 3, 1) := by decide +kernel
theorem dX7_addTray_46 : decode cX7_addTray 46 = .ok (.goto 4, 3) := by decide +kernel
theorem dX7_addTray_49 : decode cX7_addTray 49 = .ok (.iconst 0, 1) := by decide +kernel
theorem dX7_addTray_50 : decode cX7_addTray 50 = .ok (.putfield 91, 3) := by decide +kernel
theorem dX7_addTray_53 : decode cX7_addTray 53 = .ok (.aload_n 0, 1) := by decide +kernel
theorem dX7_addTray_54 : decode cX7_addTray 54 = .ok (.getfield 91, 3) := by decide +kernel
theorem dX7_addTray_57 : decode cX7_addTray 57 = .ok (.ifCond .le 5, 3) := by decide +kernel
theorem dX7_addTray_60 : decode cX7_addTray 60 = .ok (.iconst 0, 1) := by decide +kernel
theorem dX7_addTray_61 : decode cX7_addTray 61 = .ok (.ireturn, 1) := by decide +kernel
theorem dX7_addTray_62 : decode cX7_addTray 62 = .ok (.aload_n 0, 1) := by decide +kernel
theorem dX7_addTray_63 : decode cX7_addTray 63 = .ok (.getfield 16, 3) := by decide +kernel
theorem dX7_addTray_66 : decode cX7_addTray 66 = .ok (.iload_n 1, 1) := by decide +kernel
theorem dX7_addTray_67 : decode cX7_addTray 67 = .ok (.iaload, 1) := by decide +kernel
theorem dX7_addTray_68 : decode cX7_addTray 68 = .ok (.istore 4, 2) := by decide +kernel
theorem dX7_addTray_70 : decode cX7_addTray 70 = .ok (.aload_n 0, 1) := by decide +kernel
theorem dX7_addTray_71 : decode cX7_addTray 71 = .ok (.getfield 35, 3) := by decide +kernel
theorem dX7_addTray_74 : decode cX7_addTray 74 = .ok (.iconst 3, 1) := by decide +kernel
theorem dX7_addTray_75 : decode cX7_addTray 75 = .ok (.iload_n 1, 1) := by decide +kernel
theorem dX7_addTray_76 : decode cX7_addTray 76 = .ok (.imul, 1) := by decide +kernel
theorem dX7_addTray_77 : decode cX7_addTray 77 = .ok (.iload 4, 2) := by decide +kernel
theorem dX7_addTray_79 : decode cX7_addTray 79 = .ok (.iadd, 1) := by decide +kernel
theorem dX7_addTray_80 : decode cX7_addTray 80 = .ok (.iload_n 2, 1) := by decide +kernel
theorem dX7_addTray_81 : decode cX7_addTray 81 = .ok (.castore, 1) := by decide +kernel
theorem dX7_addTray_82 : decode cX7_addTray 82 = .ok (.aload_n 0, 1) := by decide +kernel
theorem dX7_addTray_83 : decode cX7_addTray 83 = .ok (.getfield 19, 3) := by decide +kernel
theorem dX7_addTray_86 : decode cX7_addTray 86 = .ok (.iconst 3, 1) := by decide +kernel
theorem dX7_addTray_87 : decode cX7_addTray 87 = .ok (.iload_n 1, 1) := by decide +kernel
theorem dX7_addTray_88 : decode cX7_addTray 88 = .ok (.imul, 1) := by decide +kernel
theorem dX7_addTray_89 : decode cX7_addTray 89 = .ok (.iload 4, 2) := by decide +kernel
theorem dX7_addTray_91 : decode cX7_addTray 91 = .ok (.iadd, 1) := by decide +kernel
theorem dX7_addTray_92 : decode cX7_addTray 92 = .ok (.iload_n 3, 1) := by decide +kernel
theorem dX7_addTray_93 : decode cX7_addTray 93 = .ok (.iastore, 1) := by decide +kernel
theorem dX7_addTray_94 : decode cX7_addTray 94 = .ok (.aload_n 0, 1) := by decide +kernel
theorem dX7_addTray_95 : decode cX7_addTray 95 = .ok (.getfield 16, 3) := by decide +kernel
theorem dX7_addTray_98 : decode cX7_addTray 98 = .ok (.iload_n 1, 1) := by decide +kernel
theorem dX7_addTray_99 : decode cX7_addTray 99 = .ok (.dup2, 1) := by decide +kernel
theorem dX7_addTray_100 : decode cX7_addTray 100 = .ok (.iaload, 1) := by decide +kernel
theorem dX7_addTray_101 : decode cX7_addTray 101 = .ok (.iconst 1, 1) := by decide +kernel
theorem dX7_addTray_102 : decode cX7_addTray 102 = .ok (.iadd, 1) := by decide +kernel
theorem dX7_addTray_103 : decode cX7_addTray 103 = .ok (.iastore, 1) := by decide +kernel
theorem dX7_addTray_104 : decode cX7_addTray 104 = .ok (.iload 4, 2) := by decide +kernel
theorem dX7_addTray_106 : decode cX7_addTray 106 = .ok (.ireturn, 1) := by decide +kernel
set_option maxRecDepth 20000 in
theorem ggX7_trayCount_X7_isPrinter : GoodIn wsX7_trayCount wsX7_isPrinter := goodIn_r _ [6, 7, 8, 9, 5, 10, 16, 17, 18, 19, 20, 21, 22, 23, 24, 25, 26, 27, 28, 29, 30, 31, 32, 33, 34, 35, 36, 37, 38, 39, 40, 41, 42, 43, 44, 45, 46, 47, 48, 49, 50, 51, 52, 53] (by decide +kernel) (by decide +kernel)
set_option maxRecDepth 20000 in
theorem gX7_trayCount_X7_isPrinter : GoodIn wsX7_trayCount (wsV RX7 140 RX7 yX7_isPrinter wsX7_isPrinter) := goodIn_app (goodIn_of _ (by decide +kernel)) ggX7_trayCount_X7_isPrinter
set_option maxRecDepth 20000 in
theorem ggX7_trayCount_X7_checked : GoodIn wsX7_trayCount wsX7_checked := goodIn_r _ [14, 15, 16, 17, 18, 19, 20, 21, 22, 23, 24, 25, 26, 27, 28, 29, 30, 31, 32, 33, 34, 35, 36, 37, 38, 39, 40, 41, 42, 43, 44, 45, 46, 47, 48, 49, 50, 51, 52, 53] (by decide +kernel) (by decide +kernel)
set_option maxRecDepth 20000 in
theorem gX7_trayCount_X7_checked : GoodIn wsX7_trayCount (wsV RX7 148 RX7 yX7_checked wsX7_checked) := goodIn_app (goodIn_of _ (by decide +kernel)) ggX7_trayCount_X7_checked
theorem dX7_trayCount_0 : decode cX7_trayCount 0 = .ok (.aload_n 0, 1) := by decide +kernel
theorem dX7_trayCount_1 : decode cX7_trayCount 1 = .ok (.aload_n 0, 1) := by decide +kernel
theorem dX7_trayCount_2 : decode cX7_trayCount 2 = .ok (.iload_n 1, 1) := by decide +kernel
theorem dX7_trayCount_3 : decode cX7_trayCount 3 = .ok (.invokevirtual 140, 3) := by decide +kernel
theorem dX7_trayCount_6 : decode cX7_trayCount 6 = .ok (.invokevirtual 148, 3) := by decide +kernel
theorem dX7_trayCount_9 : decode cX7_trayCount 9 = .ok (.ifCond .le 7, 3) := by decide +kernel
theorem dX7_trayCount_12 : decode cX7_trayCount 12 = .ok (.iconst 0, 1) := by decide +kernel
theorem dX7_trayCount_13 : decode cX7_trayCount 13 = .ok (.goto 9, 3) := by decide +kernel
theorem dX7_trayCount_16 : decode cX7_trayCount 16 = .ok (.aload_n 0, 1) := by decide +kernel
theorem dX7_trayCount_17 : decode cX7_trayCount 17 = .ok (.getfield 16, 3) := by decide +kernel
theorem dX7_trayCount_20 : decode cX7_trayCount 20 = .ok (.iload_n 1, 1) := by decide +kernel
theorem dX7_trayCount_21 : decode cX7_trayCount 21 = .ok (.iaload, 1) := by decide +kernel
theorem dX7_trayCount_22 : decode cX7_trayCount 22 = .ok (.ireturn, 1) := by decide +kernel
set_option maxRecDepth 20000 in
theorem ggX7_load_X7_isTray : GoodIn wsX7_load wsX7_isTray := goodIn_ca (goodIn_r _ [7, 8, 9, 10, 11, 6, 12, 13, 14, 15, 16, 17, 18, 19, 20, 21, 22, 23, 24, 25, 26, 27, 28, 29, 30, 31, 32, 33, 34, 35, 36, 37, 38, 39, 40, 41, 42, 43, 44, 45, 46, 47, 48, 49, 50, 51, 52, 53, 54] (by decide +kernel) (by decide +kernel)) (goodIn_sub (fun _ h => List.mem_cons_of_mem _ (List.mem_append_right _ h)) (by decide +kernel))
set_option maxRecDepth 20000 in
theorem gX7_load_X7_isTray : GoodIn wsX7_load (wsV RX7 152 RX7 yX7_isTray wsX7_isTray) := goodIn_app (goodIn_of _ (by decide +kernel)) ggX7_load_X7_isTray
set_option maxRecDepth 20000 in
theorem ggX7_load_X7_in : GoodIn wsX7_load wsX7_in := goodIn_r _ [16] (by decide +kernel) (by decide +kernel)
set_option maxRecDepth 20000 in
theorem gX7_load_X7_in : GoodIn wsX7_load (va_wsS RX7 136 yX7_in wsX7_in) := goodIn_app (goodIn_of _ (by decide +kernel)) ggX7_load_X7_in
theorem dX7_load_0 : decode cX7_load 0 = .ok (.aload_n 0, 1) := by decide +kernel
theorem dX7_load_1 : decode cX7_load 1 = .ok (.aload_n 0, 1) := by decide +kernel
theorem dX7_load_2 : decode cX7_load 2 = .ok (.iload_n 1, 1) := by decide +kernel
theorem dX7_load_3 : decode cX7_load 3 = .ok (.iload_n 2, 1) := by decide +kernel
theorem dX7_load_4 : decode cX7_load 4 = .ok (.invokevirtual 152, 3) := by decide +kernel
theorem dX7_load_7 : decode cX7_load 7 = .ok (.ifCond .ne 7, 3) := by decide +kernel
theorem dX7_load_10 : decode cX7_load 10 = .ok (.iconst 1, 1) := by decide +kernel
theorem dX7_load_11 : decode cX7_load 11 = .ok (.goto 41, 3) := by decide +kernel
theorem dX7_load_14 : decode cX7_load 14 = .ok (.iload_n 3, 1) := by decide +kernel
theorem dX7_load_15 : decode cX7_load 15 = .ok (.iconst 1, 1) := by decide +kernel
theorem dX7_load_16 : decode cX7_load 16 = .ok (.sipush 500, 3) := by decide +kernel
theorem dX7_load_19 : decode cX7_load 19 = .ok (.invokestatic 136, 3) := by decide +kernel
theorem dX7_load_22 : decode cX7_load 22 = .ok (.ifCond .ne 7, 3) := by decide +kernel
theorem dX7_load_25 : decode cX7_load 25 = .ok (.iconst 2, 1) := by decide +kernel
theorem dX7_load_26 : decode cX7_load 26 = .ok (.goto 26, 3) := by decide +kernel
theorem dX7_load_29 : decode cX7_load 29 = .ok (.aload_n 0, 1) := by decide +kernel
theorem dX7_load_30 : decode cX7_load 30 = .ok (.getfield 19, 3) := by decide +kernel
theorem dX7_load_33 : decode cX7_load 33 = .ok (.iconst 3, 1) := by decide +kernel
theorem dX7_load_34 : decode cX7_load 34 = .ok (.iload_n 1, 1) := by decide +kernel
theorem dX7_load_35 : decode cX7_load 35 = .ok (.imul, 1) := by decide +kernel
theorem dX7_load_36 : decode cX7_load 36 = .ok (.iload_n 2, 1) := by decide +kernel
theorem dX7_load_37 : decode cX7_load 37 = .ok (.iadd, 1) := by decide +kernel
theorem dX7_load_38 : decode cX7_load 38 = .ok (.iaload, 1) := by decide +kernel
theorem dX7_load_39 : decode cX7_load 39 = .ok (.iload_n 3, 1) := by decide +kernel
theorem dX7_load_40 : decode cX7_load 40 = .ok (.iadd, 1) := by decide +kernel
theorem dX7_load_41 : decode cX7_load 41 = .ok (.sipush 500, 3) := by decide +kernel
theorem dX7_load_44 : decode cX7_load 44 = .ok (.if_icmp .le 7, 3) := by decide +kernel
theorem dX7_load_47 : decode cX7_load 47 = .ok (.iconst 3, 1) := by decide +kernel
theorem dX7_load_48 : decode cX7_load 48 = .ok (.goto 4, 3) := by decide +kernel
theorem dX7_load_51 : decode cX7_load 51 = .ok (.iconst 0, 1) := by decide +kernel
theorem dX7_load_52 : decode cX7_load 52 = .ok (.putfield 91, 3) := by decide +kernel
theorem dX7_load_55 : decode cX7_load 55 = .ok (.aload_n 0, 1) := by decide +kernel
theorem dX7_load_56 : decode cX7_load 56 = .ok (.getfield 91, 3) := by decide +kernel
theorem dX7_load_59 : decode cX7_load 59 = .ok (.ifCond .le 5, 3) := by decide +kernel
theorem dX7_load_62 : decode cX7_load 62 = .ok (.iconst 0, 1) := by decide +kernel
theorem dX7_load_63 : decode cX7_load 63 = .ok (.ireturn, 1) := by decide +kernel
theorem dX7_load_64 : decode cX7_load 64 = .ok (.aload_n 0, 1) := by decide +kernel
theorem dX7_load_65 : decode cX7_load 65 = .ok (.getfield 19, 3) := by decide +kernel
theorem dX7_load_68 : decode cX7_load 68 = .ok (.iconst 3, 1) := by decide +kernel
theorem dX7_load_69 : decode cX7_load 69 = .ok (.iload_n 1, 1) := by decide +kernel
theorem dX7_load_70 : decode cX7_load 70 = .ok (.imul, 1) := by decide +kernel
theorem dX7_load_71 : decode cX7_load 71 = .ok (.iload_n 2, 1) := by decide +kernel
theorem dX7_load_72 : decode cX7_load 72 = .ok (.iadd, 1) := by decide +kernel
theorem dX7_load_73 : decode cX7_load 73 = .ok (.dup2, 1) := by decide +kernel
theorem dX7_load_74 : decode cX7_load 74 = .ok (.iaload, 1) := by decide +kernel
theorem dX7_load_75 : decode cX7_load 75 = .ok (.iload_n 3, 1) := by decide +kernel
theorem dX7_load_76 : decode cX7_load 76 = .ok (.iadd, 1) := by decide +kernel
theorem dX7_load_77 : decode cX7_load 77 = .ok (.iastore, 1) := by decide +kernel
theorem dX7_load_78 : decode cX7_load 78 = .ok (.aload_n 0, 1) := by decide +kernel
theorem dX7_load_79 : decode cX7_load 79 = .ok (.getfield 19, 3) := by decide +kernel
theorem dX7_load_82 : decode cX7_load 82 = .ok (.iconst 3, 1) := by decide +kernel
theorem dX7_load_83 : decode cX7_load 83 = .ok (.iload_n 1, 1) := by decide +kernel
theorem dX7_load_84 : decode cX7_load 84 = .ok (.imul, 1) := by decide +kernel
theorem dX7_load_85 : decode cX7_load 85 = .ok (.iload_n 2, 1) := by decide +kernel
theorem dX7_load_86 : decode cX7_load 86 = .ok (.iadd, 1) := by decide +kernel
theorem dX7_load_87 : decode cX7_load 87 = .ok (.iaload, 1) := by decide +kernel
theorem dX7_load_88 : decode cX7_load 88 = .ok (.ireturn, 1) := by decide +kernel
set_option maxRecDepth 20000 in
theorem ggX7_changePaper_X7_isTray : GoodIn wsX7_changePaper wsX7_isTray := goodIn_ca (goodIn_r _ [8, 9, 10, 11, 12, 7, 13, 14, 15, 16, 17, 21, 22, 23, 24, 25, 26, 27, 28, 29, 30, 31, 32, 33, 34, 35, 36, 37, 38, 39, 40, 41, 42, 43, 44, 45, 46, 47, 48, 49, 50, 51, 52, 53, 54, 55, 56, 57, 58] (by decide +kernel) (by decide +kernel)) (goodIn_sub (fun _ h => List.mem_cons_of_mem _ (List.mem_append_right _ h)) (by decide +kernel))
set_option maxRecDepth 20000 in
theorem gX7_changePaper_X7_isTray : GoodIn wsX7_changePaper (wsV RX7 152 RX7 yX7_isTray wsX7_isTray) := goodIn_app (goodIn_of _ (by decide +kernel)) ggX7_changePaper_X7_isTray
set_option maxRecDepth 20000 in
theorem ggX7_changePaper_X7_isPaper : GoodIn wsX7_changePaper wsX7_isPaper := goodIn_r _ [20] (by decide +kernel) (by decide +kernel)
set_option maxRecDepth 20000 in
theorem gX7_changePaper_X7_isPaper : GoodIn wsX7_changePaper (va_wsS RX7 144 yX7_isPaper wsX7_isPaper) := goodIn_app (goodIn_of _ (by decide +kernel)) ggX7_changePaper_X7_isPaper
theorem dX7_changePaper_0 : decode cX7_changePaper 0 = .ok (.aload_n 0, 1) := by decide +kernel
theorem dX7_changePaper_1 : decode cX7_changePaper 1 = .ok (.aload_n 0, 1) := by decide +kernel
theorem dX7_changePaper_2 : decode cX7_changePaper 2 = .ok (.iload_n 1, 1) := by decide +kernel
theorem dX7_changePaper_3 : decode cX7_changePaper 3 = .ok (.iload_n 2, 1) := by decide +kernel
theorem dX7_changePaper_4 : decode cX7_changePaper 4 = .ok (.invokevirtual 152, 3) := by decide +kernel
theorem dX7_changePaper_7 : decode cX7_changePaper 7 = .ok (.ifCond .ne 7, 3) := by decide +kernel
theorem dX7_changePaper_10 : decode cX7_changePaper 10 = .ok (.iconst 1, 1) := by decide +kernel
theorem dX7_changePaper_11 : decode cX7_changePaper 11 = .ok (.goto 32, 3) := by decide +kernel
theorem dX7_changePaper_14 : decode cX7_changePaper 14 = .ok (.iload_n 3, 1) := by decide +kernel
theorem dX7_changePaper_15 : decode cX7_changePaper 15 = .ok (.invokestatic 144, 3) := by decide +kernel
theorem dX7_changePaper_18 : decode cX7_changePaper 18 = .ok (.ifCond .ne 7, 3) := by decide +kernel
theorem dX7_changePaper_21 : decode cX7_changePaper 21 = .ok (.iconst 2, 1) := by decide +kernel
theorem dX7_changePaper_22 : decode cX7_changePaper 22 = .ok (.goto 21, 3) := by decide +kernel
theorem dX7_changePaper_25 : decode cX7_changePaper 25 = .ok (.aload_n 0, 1) := by decide +kernel
theorem dX7_changePaper_26 : decode cX7_changePaper 26 = .ok (.getfield 19, 3) := by decide +kernel
theorem dX7_changePaper_29 : decode cX7_changePaper 29 = .ok (.iconst 3, 1) := by decide +kernel
theorem dX7_changePaper_30 : decode cX7_changePaper 30 = .ok (.iload_n 1, 1) := by decide +kernel
theorem dX7_changePaper_31 : decode cX7_changePaper 31 = .ok (.imul, 1) := by decide +kernel
theorem dX7_changePaper_32 : decode cX7_changePaper 32 = .ok (.iload_n 2, 1) := by decide +kernel
theorem dX7_changePaper_33 : decode cX7_changePaper 33 = .ok (.iadd, 1) := by decide +kernel
theorem dX7_changePaper_34 : decode cX7_changePaper 34 = .ok (.iaload, 1) := by decide +kernel
theorem dX7_changePaper_35 : decode cX7_changePaper 35 = .ok (.ifCond .le 7, 3) := by decide +kernel
theorem dX7_changePaper_38 : decode cX7_changePaper 38 = .ok (.iconst 3, 1) := by decide +kernel
theorem dX7_changePaper_39 : decode cX7_changePaper 39 = .ok (.goto 4, 3) := by decide +kernel
theorem dX7_changePaper_42 : decode cX7_changePaper 42 = .ok (.iconst 0, 1) := by decide +kernel
theorem dX7_changePaper_43 : decode cX7_changePaper 43 = .ok (.putfield 91, 3) := by decide +kernel
theorem dX7_changePaper_46 : decode cX7_changePaper 46 = .ok (.aload_n 0, 1) := by decide +kernel
theorem dX7_changePaper_47 : decode cX7_changePaper 47 = .ok (.getfield 91, 3) := by decide +kernel
theorem dX7_changePaper_50 : decode cX7_changePaper 50 = .ok (.ifCond .le 6, 3) := by decide +kernel
theorem dX7_changePaper_53 : decode cX7_changePaper 53 = .ok (.bipush 32, 2) := by decide +kernel
theorem dX7_changePaper_55 : decode cX7_changePaper 55 = .ok (.ireturn, 1) := by decide +kernel
theorem dX7_changePaper_56 : decode cX7_changePaper 56 = .ok (.aload_n 0, 1) := by decide +kernel
theorem dX7_changePaper_57 : decode cX7_changePaper 57 = .ok (.getfield 35, 3) := by decide +kernel
theorem dX7_changePaper_60 : decode cX7_changePaper 60 = .ok (.iconst 3, 1) := by decide +kernel
theorem dX7_changePaper_61 : decode cX7_changePaper 61 = .ok (.iload_n 1, 1) := by decide +kernel
theorem dX7_changePaper_62 : decode cX7_changePaper 62 = .ok (.imul, 1) := by decide +kernel
theorem dX7_changePaper_63 : decode cX7_changePaper 63 = .ok (.iload_n 2, 1) := by decide +kernel
theorem dX7_changePaper_64 : decode cX7_changePaper 64 = .ok (.iadd, 1) := by decide +kernel
theorem dX7_changePaper_65 : decode cX7_changePaper 65 = .ok (.caload, 1) := by decide +kernel
theorem dX7_changePaper_66 : decode cX7_changePaper 66 = .ok (.istore 4, 2) := by decide +kernel
theorem dX7_changePaper_68 : decode cX7_changePaper 68 = .ok (.aload_n 0, 1) := by decide +kernel
theorem dX7_changePaper_69 : decode cX7_changePaper 69 = .ok (.getfield 35, 3) := by decide +kernel
theorem dX7_changePaper_72 : decode cX7_changePaper 72 = .ok (.iconst 3, 1) := by decide +kernel
theorem dX7_changePaper_73 : decode cX7_changePaper 73 = .ok (.iload_n 1, 1) := by decide +kernel
theorem dX7_changePaper_74 : decode cX7_changePaper 74 = .ok (.imul, 1) := by decide +kernel
theorem dX7_changePaper_75 : decode cX7_changePaper 75 = .ok (.iload_n 2, 1) := by decide +kernel
theorem dX7_changePaper_76 : decode cX7_changePaper 76 = .ok (.iadd, 1) := by decide +kernel
theorem dX7_changePaper_77 : decode cX7_changePaper 77 = .ok (.iload_n 3, 1) := by decide +kernel
theorem dX7_changePaper_78 : decode cX7_changePaper 78 = .ok (.castore, 1) := by decide +kernel
theorem dX7_changePaper_79 : decode cX7_changePaper 79 = .ok (.iload 4, 2) := by decide +kernel
theorem dX7_changePaper_81 : decode cX7_changePaper 81 = .ok (.ireturn, 1) := by decide +kernel
set_option maxRecDepth 20000 in
theorem ggX7_sheetsIn_X7_isTray : GoodIn wsX7_sheetsIn wsX7_isTray := goodIn_ca (goodIn_r _ [6, 7, 8, 9, 10, 5, 11, 12, 13, 14, 15, 21, 22, 23, 24, 25, 26, 27, 28, 29, 30, 31, 32, 33, 34, 35, 36, 37, 38, 39, 40, 41, 42, 43, 44, 45, 46, 47, 48, 49, 50, 51, 52, 53, 54, 55, 56, 57, 58] (by decide +kernel) (by decide +kernel)) (goodIn_sub (fun _ h => List.mem_cons_of_mem _ (List.mem_append_right _ h)) (by decide +kernel))
set_option maxRecDepth 20000 in
theorem gX7_sheetsIn_X7_isTray : GoodIn wsX7_sheetsIn (wsV RX7 152 RX7 yX7_isTray wsX7_isTray) := goodIn_app (goodIn_of _ (by decide +kernel)) ggX7_sheetsIn_X7_isTray
set_option maxRecDepth 20000 in
theorem ggX7_sheetsIn_X7_checked : GoodIn wsX7_sheetsIn wsX7_checked := goodIn_r _ [19, 20, 21, 22, 23, 24, 25, 26, 27, 28, 29, 30, 31, 32, 33, 34, 35, 36, 37, 38, 39, 40, 41, 42, 43, 44, 45, 46, 47, 48, 49, 50, 51, 52, 53, 54, 55, 56, 57, 58] (by decide +kernel) (by decide +kernel)
set_option maxRecDepth 20000 in
theorem gX7_sheetsIn_X7_checked : GoodIn wsX7_sheetsIn (wsV RX7 148 RX7 yX7_checked wsX7_checked) := goodIn_app (goodIn_of _ (by decide +kernel)) ggX7_sheetsIn_X7_checked
theorem dX7_sheetsIn_0 : decode cX7_sheetsIn 0 = .ok (.aload_n 0, 1) := by decide +kernel
theorem dX7_sheetsIn_1 : decode cX7_sheetsIn 1 = .ok (.aload_n 0, 1) := by decide +kernel
theorem dX7_sheetsIn_2 : decode cX7_sheetsIn 2 = .ok (.iload_n 1, 1) := by decide +kernel
theorem dX7_sheetsIn_3 : decode cX7_sheetsIn 3 = .ok (.iload_n 2, 1) := by decide +kernel
theorem dX7_sheetsIn_4 : decode cX7_sheetsIn 4 = .ok (.invokevirtual 152, 3) := by decide +kernel
theorem dX7_sheetsIn_7 : decode cX7_sheetsIn 7 = .ok (.invokevirtual 148, 3) := by decide +kernel
theorem dX7_sheetsIn_10 : decode cX7_sheetsIn 10 = .ok (.ifCond .le 7, 3) := by decide +kernel
theorem dX7_sheetsIn_13 : decode cX7_sheetsIn 13 = .ok (.iconst 0, 1) := by decide +kernel
theorem dX7_sheetsIn_14 : decode cX7_sheetsIn 14 = .ok (.goto 13, 3) := by decide +kernel
theorem dX7_sheetsIn_17 : decode cX7_sheetsIn 17 = .ok (.aload_n 0, 1) := by decide +kernel
theorem dX7_sheetsIn_18 : decode cX7_sheetsIn 18 = .ok (.getfield 19, 3) := by decide +kernel
theorem dX7_sheetsIn_21 : decode cX7_sheetsIn 21 = .ok (.iconst 3, 1) := by decide +kernel
theorem dX7_sheetsIn_22 : decode cX7_sheetsIn 22 = .ok (.iload_n 1, 1) := by decide +kernel
theorem dX7_sheetsIn_23 : decode cX7_sheetsIn 23 = .ok (.imul, 1) := by decide +kernel
theorem dX7_sheetsIn_24 : decode cX7_sheetsIn 24 = .ok (.iload_n 2, 1) := by decide +kernel
theorem dX7_sheetsIn_25 : decode cX7_sheetsIn 25 = .ok (.iadd, 1) := by decide +kernel
theorem dX7_sheetsIn_26 : decode cX7_sheetsIn 26 = .ok (.iaload, 1) := by decide +kernel
theorem dX7_sheetsIn_27 : decode cX7_sheetsIn 27 = .ok (.ireturn, 1) := by decide +kernel
set_option maxRecDepth 20000 in
theorem ggX7_paperOf_X7_isTray : GoodIn wsX7_paperOf wsX7_isTray := goodIn_ca (goodIn_r _ [6, 7, 8, 9, 10, 5, 11, 12, 13, 14, 15, 21, 22, 23, 24, 25, 26, 27, 28, 29, 30, 31, 32, 33, 34, 35, 36, 37, 38, 39, 40, 41, 42, 43, 44, 45, 46, 47, 48, 49, 50, 51, 52, 53, 54, 55, 56, 57, 58] (by decide +kernel) (by decide +kernel)) (goodIn_sub (fun _ h => List.mem_cons_of_mem _ (List.mem_append_right _ h)) (by decide +kernel))
set_option maxRecDepth 20000 in
theorem gX7_paperOf_X7_isTray : GoodIn wsX7_paperOf (wsV RX7 152 RX7 yX7_isTray wsX7_isTray) := goodIn_app (goodIn_of _ (by decide +kernel)) ggX7_paperOf_X7_isTray
set_option maxRecDepth 20000 in
theorem ggX7_paperOf_X7_checked : GoodIn wsX7_paperOf wsX7_checked := goodIn_r _ [19, 20, 21, 22, 23, 24, 25, 26, 27, 28, 29, 30, 31, 32, 33, 34, 35, 36, 37, 38, 39, 40, 41, 42, 43, 44, 45, 46, 47, 48, 49, 50, 51, 52, 53, 54, 55, 56, 57, 58] (by decide +kernel) (by decide +kernel)
set_option maxRecDepth 20000 in
theorem gX7_paperOf_X7_checked : GoodIn wsX7_paperOf (wsV RX7 148 RX7 yX7_checked wsX7_checked) := goodIn_app (goodIn_of _ (by decide +kernel)) ggX7_paperOf_X7_checked
theorem dX7_paperOf_0 : decode cX7_paperOf 0 = .ok (.aload_n 0, 1) := by decide +kernel
theorem dX7_paperOf_1 : decode cX7_paperOf 1 = .ok (.aload_n 0, 1) := by decide +kernel
theorem dX7_paperOf_2 : decode cX7_paperOf 2 = .ok (.iload_n 1, 1) := by decide +kernel
theorem dX7_paperOf_3 : decode cX7_paperOf 3 = .ok (.iload_n 2, 1) := by decide +kernel
theorem dX7_paperOf_4 : decode cX7_paperOf 4 = .ok (.invokevirtual 152, 3) := by decide +kernel
theorem dX7_paperOf_7 : decode cX7_paperOf 7 = .ok (.invokevirtual 148, 3) := by decide +kernel
theorem dX7_paperOf_10 : decode cX7_paperOf 10 = .ok (.ifCond .le 8, 3) := by decide +kernel
theorem dX7_paperOf_13 : decode cX7_paperOf 13 = .ok (.bipush 32, 2) := by decide +kernel
theorem dX7_paperOf_15 : decode cX7_paperOf 15 = .ok (.goto 13, 3) := by decide +kernel
theorem dX7_paperOf_18 : decode cX7_paperOf 18 = .ok (.aload_n 0, 1) := by decide +kernel
theorem dX7_paperOf_19 : decode cX7_paperOf 19 = .ok (.getfield 35, 3) := by decide +kernel
theorem dX7_paperOf_22 : decode cX7_paperOf 22 = .ok (.iconst 3, 1) := by decide +kernel
theorem dX7_paperOf_23 : decode cX7_paperOf 23 = .ok (.iload_n 1, 1) := by decide +kernel
theorem dX7_paperOf_24 : decode cX7_paperOf 24 = .ok (.imul, 1) := by decide +kernel
theorem dX7_paperOf_25 : decode cX7_paperOf 25 = .ok (.iload_n 2, 1) := by decide +kernel
theorem dX7_paperOf_26 : decode cX7_paperOf 26 = .ok (.iadd, 1) := by decide +kernel
theorem dX7_paperOf_27 : decode cX7_paperOf 27 = .ok (.caload, 1) := by decide +kernel
theorem dX7_paperOf_28 : decode cX7_paperOf 28 = .ok (.ireturn, 1) := by decide +kernel
set_option maxRecDepth 20000 in
theorem ggX7_setToner_X7_isPrinter : GoodIn wsX7_setToner wsX7_isPrinter := goodIn_r _ [9, 10, 11, 12, 8, 13, 14, 15, 16, 17, 18, 19, 20, 21, 22, 23, 24, 25, 26, 27, 28, 29, 30, 31, 32, 33, 34, 35, 36, 37, 38, 39, 40, 41, 42, 43, 44, 45, 46, 47, 48, 49, 50, 51] (by decide +kernel) (by decide +kernel)
set_option maxRecDepth 20000 in
theorem gX7_setToner_X7_isPrinter : GoodIn wsX7_setToner (wsV RX7 140 RX7 yX7_isPrinter wsX7_isPrinter) := goodIn_app (goodIn_of _ (by decide +kernel)) ggX7_setToner_X7_isPrinter
set_option maxRecDepth 20000 in
theorem ggX7_setToner_X7_in : GoodIn wsX7_setToner wsX7_in := goodIn_r _ [13] (by decide +kernel) (by decide +kernel)
set_option maxRecDepth 20000 in
theorem gX7_setToner_X7_in : GoodIn wsX7_setToner (va_wsS RX7 136 yX7_in wsX7_in) := goodIn_app (goodIn_of _ (by decide +kernel)) ggX7_setToner_X7_in
theorem dX7_setToner_0 : decode cX7_setToner 0 = .ok (.aload_n 0, 1) := by decide +kernel
theorem dX7_setToner_1 : decode cX7_setToner 1 = .ok (.aload_n 0, 1) := by decide +kernel
theorem dX7_setToner_2 : decode cX7_setToner 2 = .ok (.iload_n 1, 1) := by decide +kernel
theorem dX7_setToner_3 : decode cX7_setToner 3 = .ok (.invokevirtual 140, 3) := by decide +kernel
theorem dX7_setToner_6 : decode cX7_setToner 6 = .ok (.ifCond .ne 7, 3) := by decide +kernel
theorem dX7_setToner_9 : decode cX7_setToner 9 = .ok (.iconst 1, 1) := by decide +kernel
theorem dX7_setToner_10 : decode cX7_setToner 10 = .ok (.goto 36, 3) := by decide +kernel
theorem dX7_setToner_13 : decode cX7_setToner 13 = .ok (.iload_n 3, 1) := by decide +kernel
theorem dX7_setToner_14 : decode cX7_setToner 14 = .ok (.iconst 0, 1) := by decide +kernel
theorem dX7_setToner_15 : decode cX7_setToner 15 = .ok (.sipush 1000, 3) := by decide +kernel
theorem dX7_setToner_18 : decode cX7_setToner 18 = .ok (.invokestatic 136, 3) := by decide +kernel
theorem dX7_setToner_21 : decode cX7_setToner 21 = .ok (.ifCond .ne 7, 3) := by decide +kernel
theorem dX7_setToner_24 : decode cX7_setToner 24 = .ok (.iconst 2, 1) := by decide +kernel
theorem dX7_setToner_25 : decode cX7_setToner 25 = .ok (.goto 21, 3) := by decide +kernel
theorem dX7_setToner_28 : decode cX7_setToner 28 = .ok (.iload_n 2, 1) := by decide +kernel
theorem dX7_setToner_29 : decode cX7_setToner 29 = .ok (.ifCond .eq 16, 3) := by decide +kernel
theorem dX7_setToner_32 : decode cX7_setToner 32 = .ok (.aload_n 0, 1) := by decide +kernel
theorem dX7_setToner_33 : decode cX7_setToner 33 = .ok (.getfield 45, 3) := by decide +kernel
theorem dX7_setToner_36 : decode cX7_setToner 36 = .ok (.iload_n 1, 1) := by decide +kernel
theorem dX7_setToner_37 : decode cX7_setToner 37 = .ok (.baload, 1) := by decide +kernel
theorem dX7_setToner_38 : decode cX7_setToner 38 = .ok (.ifCond .ne 7, 3) := by decide +kernel
theorem dX7_setToner_41 : decode cX7_setToner 41 = .ok (.iconst 3, 1) := by decide +kernel
theorem dX7_setToner_42 : decode cX7_setToner 42 = .ok (.goto 4, 3) := by decide +kernel
theorem dX7_setToner_45 : decode cX7_setToner 45 = .ok (.iconst 0, 1) := by decide +kernel
theorem dX7_setToner_46 : decode cX7_setToner 46 = .ok (.putfield 91, 3) := by decide +kernel
theorem dX7_setToner_49 : decode cX7_setToner 49 = .ok (.aload_n 0, 1) := by decide +kernel
theorem dX7_setToner_50 : decode cX7_setToner 50 = .ok (.getfield 91, 3) := by decide +kernel
theorem dX7_setToner_53 : decode cX7_setToner 53 = .ok (.ifCond .le 5, 3) := by decide +kernel
theorem dX7_setToner_56 : decode cX7_setToner 56 = .ok (.iconst 0, 1) := by decide +kernel
theorem dX7_setToner_57 : decode cX7_setToner 57 = .ok (.ireturn, 1) := by decide +kernel
theorem dX7_setToner_58 : decode cX7_setToner 58 = .ok (.iload_n 2, 1) := by decide +kernel
theorem dX7_setToner_59 : decode cX7_setToner 59 = .ok (.ifCond .eq 12, 3) := by decide +kernel
theorem dX7_setToner_62 : decode cX7_setToner 62 = .ok (.aload_n 0, 1) := by decide +kernel
theorem dX7_setToner_63 : decode cX7_setToner 63 = .ok (.getfield 25, 3) := by decide +kernel
theorem dX7_setToner_66 : decode cX7_setToner 66 = .ok (.iload_n 1, 1) := by decide +kernel
theorem dX7_setToner_67 : decode cX7_setToner 67 = .ok (.iaload, 1) := by decide +kernel
theorem dX7_setToner_68 : decode cX7_setToner 68 = .ok (.goto 9, 3) := by decide +kernel
theorem dX7_setToner_71 : decode cX7_setToner 71 = .ok (.aload_n 0, 1) := by decide +kernel
theorem dX7_setToner_72 : decode cX7_setToner 72 = .ok (.getfield 22, 3) := by decide +kernel
theorem dX7_setToner_75 : decode cX7_setToner 75 = .ok (.iload_n 1, 1) := by decide +kernel
theorem dX7_setToner_76 : decode cX7_setToner 76 = .ok (.iaload, 1) := by decide +kernel
theorem dX7_setToner_77 : decode cX7_setToner 77 = .ok (.istore 4, 2) := by decide +kernel
theorem dX7_setToner_79 : decode cX7_setToner 79 = .ok (.iload_n 2, 1) := by decide +kernel
theorem dX7_setToner_80 : decode cX7_setToner 80 = .ok (.ifCond .eq 13, 3) := by decide +kernel
theorem dX7_setToner_83 : decode cX7_setToner 83 = .ok (.aload_n 0, 1) := by decide +kernel
theorem dX7_setToner_84 : decode cX7_setToner 84 = .ok (.getfield 25, 3) := by decide +kernel
theorem dX7_setToner_87 : decode cX7_setToner 87 = .ok (.iload_n 1, 1) := by decide +kernel
theorem dX7_setToner_88 : decode cX7_setToner 88 = .ok (.iload_n 3, 1) := by decide +kernel
theorem dX7_setToner_89 : decode cX7_setToner 89 = .ok (.iastore, 1) := by decide +kernel
theorem dX7_setToner_90 : decode cX7_setToner 90 = .ok (.goto 10, 3) := by decide +kernel
theorem dX7_setToner_93 : decode cX7_setToner 93 = .ok (.aload_n 0, 1) := by decide +kernel
theorem dX7_setToner_94 : decode cX7_setToner 94 = .ok (.getfield 22, 3) := by decide +kernel
theorem dX7_setToner_97 : decode cX7_setToner 97 = .ok (.iload_n 1, 1) := by decide +kernel
theorem dX7_setToner_98 : decode cX7_setToner 98 = .ok (.iload_n 3, 1) := by decide +kernel
theorem dX7_setToner_99 : decode cX7_setToner 99 = .ok (.iastore, 1) := by decide +kernel
theorem dX7_setToner_100 : decode cX7_setToner 100 = .ok (.iload 4, 2) := by decide +kernel
theorem dX7_setToner_102 : decode cX7_setToner 102 = .ok (.ireturn, 1) := by decide +kernel
set_option maxRecDepth 20000 in
theorem ggX7_tonerOf_X7_isPrinter : GoodIn wsX7_tonerOf wsX7_isPrinter := goodIn_r _ [9, 10, 11, 12, 8, 13, 14, 15, 16, 17, 18, 19, 20, 21, 22, 23, 24, 25, 26, 27, 28, 29, 30, 31, 32, 33, 34, 35, 36, 37, 38, 39, 40, 41, 42, 43, 44, 45, 46, 47, 48, 49, 50, 51] (by decide +kernel) (by decide +kernel)
set_option maxRecDepth 20000 in
theorem gX7_tonerOf_X7_isPrinter : GoodIn wsX7_tonerOf (wsV RX7 140 RX7 yX7_isPrinter wsX7_isPrinter) := goodIn_app (goodIn_of _ (by decide +kernel)) ggX7_tonerOf_X7_isPrinter
theorem dX7_tonerOf_0 : decode cX7_tonerOf 0 = .ok (.aload_n 0, 1) := by decide +kernel
theorem dX7_tonerOf_1 : decode cX7_tonerOf 1 = .ok (.aload_n 0, 1) := by decide +kernel
theorem dX7_tonerOf_2 : decode cX7_tonerOf 2 = .ok (.iload_n 1, 1) := by decide +kernel
theorem dX7_tonerOf_3 : decode cX7_tonerOf 3 = .ok (.invokevirtual 140, 3) := by decide +kernel
theorem dX7_tonerOf_6 : decode cX7_tonerOf 6 = .ok (.ifCond .ne 7, 3) := by decide +kernel
theorem dX7_tonerOf_9 : decode cX7_tonerOf 9 = .ok (.iconst 1, 1) := by decide +kernel
theorem dX7_tonerOf_10 : decode cX7_tonerOf 10 = .ok (.goto 21, 3) := by decide +kernel
theorem dX7_tonerOf_13 : decode cX7_tonerOf 13 = .ok (.iload_n 2, 1) := by decide +kernel
theorem dX7_tonerOf_14 : decode cX7_tonerOf 14 = .ok (.ifCond .eq 16, 3) := by decide +kernel
theorem dX7_tonerOf_17 : decode cX7_tonerOf 17 = .ok (.aload_n 0, 1) := by decide +kernel
theorem dX7_tonerOf_18 : decode cX7_tonerOf 18 = .ok (.getfield 45, 3) := by decide +kernel
theorem dX7_tonerOf_21 : decode cX7_tonerOf 21 = .ok (.iload_n 1, 1) := by decide +kernel
theorem dX7_tonerOf_22 : decode cX7_tonerOf 22 = .ok (.baload, 1) := by decide +kernel
theorem dX7_tonerOf_23 : decode cX7_tonerOf 23 = .ok (.ifCond .ne 7, 3) := by decide +kernel
theorem dX7_tonerOf_26 : decode cX7_tonerOf 26 = .ok (.iconst 2, 1) := by decide +kernel
theorem dX7_tonerOf_27 : decode cX7_tonerOf 27 = .ok (.goto 4, 3) := by decide +kernel
theorem dX7_tonerOf_30 : decode cX7_tonerOf 30 = .ok (.iconst 0, 1) := by decide +kernel
theorem dX7_tonerOf_31 : decode cX7_tonerOf 31 = .ok (.putfield 91, 3) := by decide +kernel
theorem dX7_tonerOf_34 : decode cX7_tonerOf 34 = .ok (.aload_n 0, 1) := by decide +kernel
theorem dX7_tonerOf_35 : decode cX7_tonerOf 35 = .ok (.getfield 91, 3) := by decide +kernel
theorem dX7_tonerOf_38 : decode cX7_tonerOf 38 = .ok (.ifCond .le 5, 3) := by decide +kernel
theorem dX7_tonerOf_41 : decode cX7_tonerOf 41 = .ok (.iconst 0, 1) := by decide +kernel
theorem dX7_tonerOf_42 : decode cX7_tonerOf 42 = .ok (.ireturn, 1) := by decide +kernel
theorem dX7_tonerOf_43 : decode cX7_tonerOf 43 = .ok (.iload_n 2, 1) := by decide +kernel
theorem dX7_tonerOf_44 : decode cX7_tonerOf 44 = .ok (.ifCond .eq 12, 3) := by decide +kernel
theorem dX7_tonerOf_47 : decode cX7_tonerOf 47 = .ok (.aload_n 0, 1) := by decide +kernel
theorem dX7_tonerOf_48 : decode cX7_tonerOf 48 = .ok (.getfield 25, 3) := by decide +kernel
theorem dX7_tonerOf_51 : decode cX7_tonerOf 51 = .ok (.iload_n 1, 1) := by decide +kernel
theorem dX7_tonerOf_52 : decode cX7_tonerOf 52 = .ok (.iaload, 1) := by decide +kernel
theorem dX7_tonerOf_53 : decode cX7_tonerOf 53 = .ok (.goto 9, 3) := by decide +kernel
theorem dX7_tonerOf_56 : decode cX7_tonerOf 56 = .ok (.aload_n 0, 1) := by decide +kernel
theorem dX7_tonerOf_57 : decode cX7_tonerOf 57 = .ok (.getfield 22, 3) := by decide +kernel
theorem dX7_tonerOf_60 : decode cX7_tonerOf 60 = .ok (.iload_n 1, 1) := by decide +kernel
theorem dX7_tonerOf_61 : decode cX7_tonerOf 61 = .ok (.iaload, 1) := by decide +kernel
theorem dX7_tonerOf_62 : decode cX7_tonerOf 62 = .ok (.ireturn, 1) := by decide +kernel
set_option maxRecDepth 20000 in
theorem ggX7_setStaples_X7_isPrinter : GoodIn wsX7_setStaples wsX7_isPrinter := goodIn_r _ [7, 8, 9, 10, 6, 11, 12, 13, 14, 15, 16, 17, 18, 19, 20, 21, 22, 23, 24, 25, 26, 27, 28, 29, 30, 31, 32, 33, 34, 35, 36, 37, 38, 39, 40, 41, 42, 43, 44, 45, 46, 47, 48, 49] (by decide +kernel) (by decide +kernel)
set_option maxRecDepth 20000 in
theorem gX7_setStaples_X7_isPrinter : GoodIn wsX7_setStaples (wsV RX7 140 RX7 yX7_isPrinter wsX7_isPrinter) := goodIn_app (goodIn_of _ (by decide +kernel)) ggX7_setStaples_X7_isPrinter
set_option maxRecDepth 20000 in
theorem ggX7_setStaples_X7_in : GoodIn wsX7_setStaples wsX7_in := goodIn_r _ [11] (by decide +kernel) (by decide +kernel)
set_option maxRecDepth 20000 in
theorem gX7_setStaples_X7_in : GoodIn wsX7_setStaples (va_wsS RX7 136 yX7_in wsX7_in) := goodIn_app (goodIn_of _ (by decide +kernel)) ggX7_setStaples_X7_in
theorem dX7_setStaples_0 : decode cX7_setStaples 0 = .ok (.aload_n 0, 1) := by decide +kernel
theorem dX7_setStaples_1 : decode cX7_setStaples 1 = .ok (.aload_n 0, 1) := by decide +kernel
theorem dX7_setStaples_2 : decode cX7_setStaples 2 = .ok (.iload_n 1, 1) := by decide +kernel
theorem dX7_setStaples_3 : decode cX7_setStaples 3 = .ok (.invokevirtual 140, 3) := by decide +kernel
theorem dX7_setStaples_6 : decode cX7_setStaples 6 = .ok (.ifCond .ne 7, 3) := by decide +kernel
theorem dX7_setStaples_9 : decode cX7_setStaples 9 = .ok (.iconst 1, 1) := by decide +kernel
theorem dX7_setStaples_10 : decode cX7_setStaples 10 = .ok (.goto 18, 3) := by decide +kernel
theorem dX7_setStaples_13 : decode cX7_setStaples 13 = .ok (.iload_n 2, 1) := by decide +kernel
theorem dX7_setStaples_14 : decode cX7_setStaples 14 = .ok (.iconst 0, 1) := by decide +kernel
theorem dX7_setStaples_15 : decode cX7_setStaples 15 = .ok (.bipush 100, 2) := by decide +kernel
theorem dX7_setStaples_17 : decode cX7_setStaples 17 = .ok (.invokestatic 136, 3) := by decide +kernel
theorem dX7_setStaples_20 : decode cX7_setStaples 20 = .ok (.ifCond .ne 7, 3) := by decide +kernel
theorem dX7_setStaples_23 : decode cX7_setStaples 23 = .ok (.iconst 2, 1) := by decide +kernel
theorem dX7_setStaples_24 : decode cX7_setStaples 24 = .ok (.goto 4, 3) := by decide +kernel
theorem dX7_setStaples_27 : decode cX7_setStaples 27 = .ok (.iconst 0, 1) := by decide +kernel
theorem dX7_setStaples_28 : decode cX7_setStaples 28 = .ok (.putfield 91, 3) := by decide +kernel
theorem dX7_setStaples_31 : decode cX7_setStaples 31 = .ok (.aload_n 0, 1) := by decide +kernel
theorem dX7_setStaples_32 : decode cX7_setStaples 32 = .ok (.getfield 91, 3) := by decide +kernel
theorem dX7_setStaples_35 : decode cX7_setStaples 35 = .ok (.ifCond .le 5, 3) := by decide +kernel
theorem dX7_setStaples_38 : decode cX7_setStaples 38 = .ok (.iconst 0, 1) := by decide +kernel
theorem dX7_setStaples_39 : decode cX7_setStaples 39 = .ok (.ireturn, 1) := by decide +kernel
theorem dX7_setStaples_40 : decode cX7_setStaples 40 = .ok (.aload_n 0, 1) := by decide +kernel
theorem dX7_setStaples_41 : decode cX7_setStaples 41 = .ok (.getfield 28, 3) := by decide +kernel
theorem dX7_setStaples_44 : decode cX7_setStaples 44 = .ok (.iload_n 1, 1) := by decide +kernel
theorem dX7_setStaples_45 : decode cX7_setStaples 45 = .ok (.iaload, 1) := by decide +kernel
theorem dX7_setStaples_46 : decode cX7_setStaples 46 = .ok (.istore_n 3, 1) := by decide +kernel
theorem dX7_setStaples_47 : decode cX7_setStaples 47 = .ok (.aload_n 0, 1) := by decide +kernel
theorem dX7_setStaples_48 : decode cX7_setStaples 48 = .ok (.getfield 28, 3) := by decide +kernel
theorem dX7_setStaples_51 : decode cX7_setStaples 51 = .ok (.iload_n 1, 1) := by decide +kernel
theorem dX7_setStaples_52 : decode cX7_setStaples 52 = .ok (.iload_n 2, 1) := by decide +kernel
theorem dX7_setStaples_53 : decode cX7_setStaples 53 = .ok (.iastore, 1) := by decide +kernel
theorem dX7_setStaples_54 : decode cX7_setStaples 54 = .ok (.iload_n 3, 1) := by decide +kernel
theorem dX7_setStaples_55 : decode cX7_setStaples 55 = .ok (.ireturn, 1) := by decide +kernel
set_option maxRecDepth 20000 in
theorem ggX7_staplesIn_X7_isPrinter : GoodIn wsX7_staplesIn wsX7_isPrinter := goodIn_r _ [6, 7, 8, 9, 5, 10, 16, 17, 18, 19, 20, 21, 22, 23, 24, 25, 26, 27, 28, 29, 30, 31, 32, 33, 34, 35, 36, 37, 38, 39, 40, 41, 42, 43, 44, 45, 46, 47, 48, 49, 50, 51, 52, 53] (by decide +kernel) (by decide +kernel)
set_option maxRecDepth 20000 in
theorem gX7_staplesIn_X7_isPrinter : GoodIn wsX7_staplesIn (wsV RX7 140 RX7 yX7_isPrinter wsX7_isPrinter) := goodIn_app (goodIn_of _ (by decide +kernel)) ggX7_staplesIn_X7_isPrinter
set_option maxRecDepth 20000 in
theorem ggX7_staplesIn_X7_checked : GoodIn wsX7_staplesIn wsX7_checked := goodIn_r _ [14, 15, 16, 17, 18, 19, 20, 21, 22, 23, 24, 25, 26, 27, 28, 29, 30, 31, 32, 33, 34, 35, 36, 37, 38, 39, 40, 41, 42, 43, 44, 45, 46, 47, 48, 49, 50, 51, 52, 53] (by decide +kernel) (by decide +kernel)
set_option maxRecDepth 20000 in
theorem gX7_staplesIn_X7_checked : GoodIn wsX7_staplesIn (wsV RX7 148 RX7 yX7_checked wsX7_checked) := goodIn_app (goodIn_of _ (by decide +kernel)) ggX7_staplesIn_X7_checked
theorem dX7_staplesIn_0 : decode cX7_staplesIn 0 = .ok (.aload_n 0, 1) := by decide +kernel
theorem dX7_staplesIn_1 : decode cX7_staplesIn 1 = .ok (.aload_n 0, 1) := by decide +kernel
theorem dX7_staplesIn_2 : decode cX7_staplesIn 2 = .ok (.iload_n 1, 1) := by decide +kernel
theorem dX7_staplesIn_3 : decode cX7_staplesIn 3 = .ok (.invokevirtual 140, 3) := by decide +kernel
theorem dX7_staplesIn_6 : decode cX7_staplesIn 6 = .ok (.invokevirtual 148, 3) := by decide +kernel
theorem dX7_staplesIn_9 : decode cX7_staplesIn 9 = .ok (.ifCond .le 7, 3) := by decide +kernel
theorem dX7_staplesIn_12 : decode cX7_staplesIn 12 = .ok (.iconst 0, 1) := by decide +kernel
theorem dX7_staplesIn_13 : decode cX7_staplesIn 13 = .ok (.goto 9, 3) := by decide +kernel
theorem dX7_staplesIn_16 : decode cX7_staplesIn 16 = .ok (.aload_n 0, 1) := by decide +kernel
theorem dX7_staplesIn_17 : decode cX7_staplesIn 17 = .ok (.getfield 28, 3) := by decide +kernel
theorem dX7_staplesIn_20 : decode cX7_staplesIn 20 = .ok (.iload_n 1, 1) := by decide +kernel
theorem dX7_staplesIn_21 : decode cX7_staplesIn 21 = .ok (.iaload, 1) := by decide +kernel
theorem dX7_staplesIn_22 : decode cX7_staplesIn 22 = .ok (.ireturn, 1) := by decide +kernel
theorem dX7_quotaAt_0 : decode cX7_quotaAt 0 = .ok (.iconst 2, 1) := by decide +kernel
theorem dX7_quotaAt_1 : decode cX7_quotaAt 1 = .ok (.iload_n 0, 1) := by decide +kernel
theorem dX7_quotaAt_2 : decode cX7_quotaAt 2 = .ok (.imul, 1) := by decide +kernel
theorem dX7_quotaAt_3 : decode cX7_quotaAt 3 = .ok (.iload_n 1, 1) := by decide +kernel
theorem dX7_quotaAt_4 : decode cX7_quotaAt 4 = .ok (.ifCond .eq 7, 3) := by decide +kernel
theorem dX7_quotaAt_7 : decode cX7_quotaAt 7 = .ok (.iconst 1, 1) := by decide +kernel
theorem dX7_quotaAt_8 : decode cX7_quotaAt 8 = .ok (.goto 4, 3) := by decide +kernel
theorem dX7_quotaAt_11 : decode cX7_quotaAt 11 = .ok (.iconst 0, 1) := by decide +kernel
theorem dX7_quotaAt_12 : decode cX7_quotaAt 12 = .ok (.iadd, 1) := by decide +kernel
theorem dX7_quotaAt_13 : decode cX7_quotaAt 13 = .ok (.ireturn, 1) := by decide +kernel
set_option maxRecDepth 20000 in
theorem ggX7_grant_X7_isUser : GoodIn wsX7_grant wsX7_isUser := goodIn_r _ [7, 8, 9, 10, 6, 11, 15, 16, 17, 18, 19, 20, 21, 22, 23, 24, 25, 26, 27, 28, 29, 30, 31, 32, 33, 34, 35, 36, 37, 38, 39, 40, 41, 42, 43, 44, 45, 46, 47, 48, 49, 50, 51, 52] (by decide +kernel) (by decide +kernel)
set_option maxRecDepth 20000 in
theorem gX7_grant_X7_isUser : GoodIn wsX7_grant (wsV RX7 156 RX7 yX7_isUser wsX7_isUser) := goodIn_app (goodIn_of _ (by decide +kernel)) ggX7_grant_X7_isUser
set_option maxRecDepth 20000 in
theorem ggX7_grant_X7_in : GoodIn wsX7_grant wsX7_in := goodIn_r _ [11] (by decide +kernel) (by decide +kernel)
set_option maxRecDepth 20000 in
theorem gX7_grant_X7_in : GoodIn wsX7_grant (va_wsS RX7 136 yX7_in wsX7_in) := goodIn_app (goodIn_of _ (by decide +kernel)) ggX7_grant_X7_in
set_option maxRecDepth 20000 in
theorem ggX7_grant_X7_quotaAt : GoodIn wsX7_grant wsX7_quotaAt := goodIn_r _ [14] (by decide +kernel) (by decide +kernel)
set_option maxRecDepth 20000 in
theorem gX7_grant_X7_quotaAt : GoodIn wsX7_grant (va_wsS RX7 159 yX7_quotaAt wsX7_quotaAt) := goodIn_app (goodIn_of _ (by decide +kernel)) ggX7_grant_X7_quotaAt
theorem dX7_grant_0 : decode cX7_grant 0 = .ok (.aload_n 0, 1) := by decide +kernel
theorem dX7_grant_1 : decode cX7_grant 1 = .ok (.aload_n 0, 1) := by decide +kernel
theorem dX7_grant_2 : decode cX7_grant 2 = .ok (.iload_n 1, 1) := by decide +kernel
theorem dX7_grant_3 : decode cX7_grant 3 = .ok (.invokevirtual 156, 3) := by decide +kernel
theorem dX7_grant_6 : decode cX7_grant 6 = .ok (.ifCond .ne 7, 3) := by decide +kernel
theorem dX7_grant_9 : decode cX7_grant 9 = .ok (.iconst 1, 1) := by decide +kernel
theorem dX7_grant_10 : decode cX7_grant 10 = .ok (.goto 41, 3) := by decide +kernel
theorem dX7_grant_13 : decode cX7_grant 13 = .ok (.iload_n 3, 1) := by decide +kernel
theorem dX7_grant_14 : decode cX7_grant 14 = .ok (.iconst 1, 1) := by decide +kernel
theorem dX7_grant_15 : decode cX7_grant 15 = .ok (.sipush 999, 3) := by decide +kernel
theorem dX7_grant_18 : decode cX7_grant 18 = .ok (.invokestatic 136, 3) := by decide +kernel
theorem dX7_grant_21 : decode cX7_grant 21 = .ok (.ifCond .ne 7, 3) := by decide +kernel
theorem dX7_grant_24 : decode cX7_grant 24 = .ok (.iconst 2, 1) := by decide +kernel
theorem dX7_grant_25 : decode cX7_grant 25 = .ok (.goto 26, 3) := by decide +kernel
theorem dX7_grant_28 : decode cX7_grant 28 = .ok (.aload_n 0, 1) := by decide +kernel
theorem dX7_grant_29 : decode cX7_grant 29 = .ok (.getfield 7, 3) := by decide +kernel
theorem dX7_grant_32 : decode cX7_grant 32 = .ok (.iload_n 1, 1) := by decide +kernel
theorem dX7_grant_33 : decode cX7_grant 33 = .ok (.iload_n 2, 1) := by decide +kernel
theorem dX7_grant_34 : decode cX7_grant 34 = .ok (.invokestatic 159, 3) := by decide +kernel
theorem dX7_grant_37 : decode cX7_grant 37 = .ok (.iaload, 1) := by decide +kernel
theorem dX7_grant_38 : decode cX7_grant 38 = .ok (.iload_n 3, 1) := by decide +kernel
theorem dX7_grant_39 : decode cX7_grant 39 = .ok (.iadd, 1) := by decide +kernel
theorem dX7_grant_40 : decode cX7_grant 40 = .ok (.sipush 9999, 3) := by decide +kernel
theorem dX7_grant_43 : decode cX7_grant 43 = .ok (.if_icmp .le 7, 3) := by decide +kernel
theorem dX7_grant_46 : decode cX7_grant 46 = .ok (.iconst 3, 1) := by decide +kernel
theorem dX7_grant_47 : decode cX7_grant 47 = .ok (.goto 4, 3) := by decide +kernel
theorem dX7_grant_50 : decode cX7_grant 50 = .ok (.iconst 0, 1) := by decide +kernel
theorem dX7_grant_51 : decode cX7_grant 51 = .ok (.putfield 91, 3) := by decide +kernel
theorem dX7_grant_54 : decode cX7_grant 54 = .ok (.aload_n 0, 1) := by decide +kernel
theorem dX7_grant_55 : decode cX7_grant 55 = .ok (.getfield 91, 3) := by decide +kernel
theorem dX7_grant_58 : decode cX7_grant 58 = .ok (.ifCond .le 5, 3) := by decide +kernel
theorem dX7_grant_61 : decode cX7_grant 61 = .ok (.iconst 0, 1) := by decide +kernel
theorem dX7_grant_62 : decode cX7_grant 62 = .ok (.ireturn, 1) := by decide +kernel
theorem dX7_grant_63 : decode cX7_grant 63 = .ok (.aload_n 0, 1) := by decide +kernel
theorem dX7_grant_64 : decode cX7_grant 64 = .ok (.getfield 7, 3) := by decide +kernel
theorem dX7_grant_67 : decode cX7_grant 67 = .ok (.iload_n 1, 1) := by decide +kernel
theorem dX7_grant_68 : decode cX7_grant 68 = .ok (.iload_n 2, 1) := by decide +kernel
theorem dX7_grant_69 : decode cX7_grant 69 = .ok (.invokestatic 159, 3) := by decide +kernel
theorem dX7_grant_72 : decode cX7_grant 72 = .ok (.dup2, 1) := by decide +kernel
theorem dX7_grant_73 : decode cX7_grant 73 = .ok (.iaload, 1) := by decide +kernel
theorem dX7_grant_74 : decode cX7_grant 74 = .ok (.iload_n 3, 1) := by decide +kernel
theorem dX7_grant_75 : decode cX7_grant 75 = .ok (.iadd, 1) := by decide +kernel
theorem dX7_grant_76 : decode cX7_grant 76 = .ok (.iastore, 1) := by decide +kernel
theorem dX7_grant_77 : decode cX7_grant 77 = .ok (.aload_n 0, 1) := by decide +kernel
theorem dX7_grant_78 : decode cX7_grant 78 = .ok (.getfield 7, 3) := by decide +kernel
theorem dX7_grant_81 : decode cX7_grant 81 = .ok (.iload_n 1, 1) := by decide +kernel
theorem dX7_grant_82 : decode cX7_grant 82 = .ok (.iload_n 2, 1) := by decide +kernel
theorem dX7_grant_83 : decode cX7_grant 83 = .ok (.invokestatic 159, 3) := by decide +kernel
theorem dX7_grant_86 : decode cX7_grant 86 = .ok (.iaload, 1) := by decide +kernel
theorem dX7_grant_87 : decode cX7_grant 87 = .ok (.ireturn, 1) := by decide +kernel
set_option maxRecDepth 20000 in
theorem ggX7_quotaOf_X7_isUser : GoodIn wsX7_quotaOf wsX7_isUser := goodIn_r _ [6, 7, 8, 9, 5, 10, 19, 20, 21, 22, 23, 24, 25, 26, 27, 28, 29, 30, 31, 32, 33, 34, 35, 36, 37, 38, 39, 40, 41, 42, 43, 44, 45, 46, 47, 48, 49, 50, 51, 52, 53, 54, 55, 56] (by decide +kernel) (by decide +kernel)
set_option maxRecDepth 20000 in
theorem gX7_quotaOf_X7_isUser : GoodIn wsX7_quotaOf (wsV RX7 156 RX7 yX7_isUser wsX7_isUser) := goodIn_app (goodIn_of _ (by decide +kernel)) ggX7_quotaOf_X7_isUser
set_option maxRecDepth 20000 in
theorem ggX7_quotaOf_X7_checked : GoodIn wsX7_quotaOf wsX7_checked := goodIn_r _ [14, 15, 19, 20, 21, 22, 23, 24, 25, 26, 27, 28, 29, 30, 31, 32, 33, 34, 35, 36, 37, 38, 39, 40, 41, 42, 43, 44, 45, 46, 47, 48, 49, 50, 51, 52, 53, 54, 55, 56] (by decide +kernel) (by decide +kernel)
set_option maxRecDepth 20000 in
theorem gX7_quotaOf_X7_checked : GoodIn wsX7_quotaOf (wsV RX7 148 RX7 yX7_checked wsX7_checked) := goodIn_app (goodIn_of _ (by decide +kernel)) ggX7_quotaOf_X7_checked
set_option maxRecDepth 20000 in
theorem ggX7_quotaOf_X7_quotaAt : GoodIn wsX7_quotaOf wsX7_quotaAt := goodIn_r _ [18] (by decide +kernel) (by decide +kernel)
set_option maxRecDepth 20000 in
theorem gX7_quotaOf_X7_quotaAt : GoodIn wsX7_quotaOf (va_wsS RX7 159 yX7_quotaAt wsX7_quotaAt) := goodIn_app (goodIn_of _ (by decide +kernel)) ggX7_quotaOf_X7_quotaAt
theorem dX7_quotaOf_0 : decode cX7_quotaOf 0 = .ok (.aload_n 0, 1) := by decide +kernel
theorem dX7_quotaOf_1 : decode cX7_quotaOf 1 = .ok (.aload_n 0, 1) := by decide +kernel
theorem dX7_quotaOf_2 : decode cX7_quotaOf 2 = .ok (.iload_n 1, 1) := by decide +kernel
theorem dX7_quotaOf_3 : decode cX7_quotaOf 3 = .ok (.invokevirtual 156, 3) := by decide +kernel
theorem dX7_quotaOf_6 : decode cX7_quotaOf 6 = .ok (.invokevirtual 148, 3) := by decide +kernel
theorem dX7_quotaOf_9 : decode cX7_quotaOf 9 = .ok (.ifCond .le 7, 3) := by decide +kernel
theorem dX7_quotaOf_12 : decode cX7_quotaOf 12 = .ok (.iconst 0, 1) := by decide +kernel
theorem dX7_quotaOf_13 : decode cX7_quotaOf 13 = .ok (.goto 13, 3) := by decide +kernel
theorem dX7_quotaOf_16 : decode cX7_quotaOf 16 = .ok (.aload_n 0, 1) := by decide +kernel
theorem dX7_quotaOf_17 : decode cX7_quotaOf 17 = .ok (.getfield 7, 3) := by decide +kernel
theorem dX7_quotaOf_20 : decode cX7_quotaOf 20 = .ok (.iload_n 1, 1) := by decide +kernel
theorem dX7_quotaOf_21 : decode cX7_quotaOf 21 = .ok (.iload_n 2, 1) := by decide +kernel
theorem dX7_quotaOf_22 : decode cX7_quotaOf 22 = .ok (.invokestatic 159, 3) := by decide +kernel
theorem dX7_quotaOf_25 : decode cX7_quotaOf 25 = .ok (.iaload, 1) := by decide +kernel
theorem dX7_quotaOf_26 : decode cX7_quotaOf 26 = .ok (.ireturn, 1) := by decide +kernel
set_option maxRecDepth 20000 in
theorem ggX7_setPrices_X7_in : GoodIn wsX7_setPrices wsX7_in := goodIn_r _ [7] (by decide +kernel) (by decide +kernel)
set_option maxRecDepth 20000 in
theorem gX7_setPrices_X7_in : GoodIn wsX7_setPrices (va_wsS RX7 136 yX7_in wsX7_in) := goodIn_app (goodIn_of _ (by decide +kernel)) ggX7_setPrices_X7_in
set_option maxRecDepth 20000 in
theorem ggX7_setPrices_X7_checked : GoodIn wsX7_setPrices wsX7_checked := goodIn_r _ [11, 12, 13, 14, 15, 16, 17, 18, 19, 20, 21, 22, 23, 24, 25, 26, 27, 28, 29, 30, 31, 32, 33, 34, 35, 36, 37, 38, 39, 40, 41, 42, 43, 44, 45, 46, 47, 48, 49, 50] (by decide +kernel) (by decide +kernel)
set_option maxRecDepth 20000 in
theorem gX7_setPrices_X7_checked : GoodIn wsX7_setPrices (wsV RX7 148 RX7 yX7_checked wsX7_checked) := goodIn_app (goodIn_of _ (by decide +kernel)) ggX7_setPrices_X7_checked
theorem dX7_setPrices_0 : decode cX7_setPrices 0 = .ok (.aload_n 0, 1) := by decide +kernel
theorem dX7_setPrices_1 : decode cX7_setPrices 1 = .ok (.iload_n 1, 1) := by decide +kernel
theorem dX7_setPrices_2 : decode cX7_setPrices 2 = .ok (.iconst 0, 1) := by decide +kernel
theorem dX7_setPrices_3 : decode cX7_setPrices 3 = .ok (.bipush 99, 2) := by decide +kernel
theorem dX7_setPrices_5 : decode cX7_setPrices 5 = .ok (.invokestatic 136, 3) := by decide +kernel
theorem dX7_setPrices_8 : decode cX7_setPrices 8 = .ok (.ifCond .eq 27, 3) := by decide +kernel
theorem dX7_setPrices_11 : decode cX7_setPrices 11 = .ok (.iload_n 2, 1) := by decide +kernel
theorem dX7_setPrices_12 : decode cX7_setPrices 12 = .ok (.iconst 0, 1) := by decide +kernel
theorem dX7_setPrices_13 : decode cX7_setPrices 13 = .ok (.bipush 99, 2) := by decide +kernel
theorem dX7_setPrices_15 : decode cX7_setPrices 15 = .ok (.invokestatic 136, 3) := by decide +kernel
theorem dX7_setPrices_18 : decode cX7_setPrices 18 = .ok (.ifCond .eq 17, 3) := by decide +kernel
theorem dX7_setPrices_21 : decode cX7_setPrices 21 = .ok (.iload_n 3, 1) := by decide +kernel
theorem dX7_setPrices_22 : decode cX7_setPrices 22 = .ok (.iconst 0, 1) := by decide +kernel
theorem dX7_setPrices_23 : decode cX7_setPrices 23 = .ok (.bipush 99, 2) := by decide +kernel
theorem dX7_setPrices_25 : decode cX7_setPrices 25 = .ok (.invokestatic 136, 3) := by decide +kernel
theorem dX7_setPrices_28 : decode cX7_setPrices 28 = .ok (.ifCond .eq 7, 3) := by decide +kernel
theorem dX7_setPrices_31 : decode cX7_setPrices 31 = .ok (.iconst 1, 1) := by decide +kernel
theorem dX7_setPrices_32 : decode cX7_setPrices 32 = .ok (.goto 4, 3) := by decide +kernel
theorem dX7_setPrices_35 : decode cX7_setPrices 35 = .ok (.iconst 0, 1) := by decide +kernel
theorem dX7_setPrices_36 : decode cX7_setPrices 36 = .ok (.invokevirtual 148, 3) := by decide +kernel
theorem dX7_setPrices_39 : decode cX7_setPrices 39 = .ok (.ifCond .le 5, 3) := by decide +kernel
theorem dX7_setPrices_42 : decode cX7_setPrices 42 = .ok (.iconst 0, 1) := by decide +kernel
theorem dX7_setPrices_43 : decode cX7_setPrices 43 = .ok (.ireturn, 1) := by decide +kernel
theorem dX7_setPrices_44 : decode cX7_setPrices 44 = .ok (.aload_n 0, 1) := by decide +kernel
theorem dX7_setPrices_45 : decode cX7_setPrices 45 = .ok (.getfield 107, 3) := by decide +kernel
theorem dX7_setPrices_48 : decode cX7_setPrices 48 = .ok (.istore 4, 2) := by decide +kernel
theorem dX7_setPrices_50 : decode cX7_setPrices 50 = .ok (.aload_n 0, 1) := by decide +kernel
theorem dX7_setPrices_51 : decode cX7_setPrices 51 = .ok (.iload_n 1, 1) := by decide +kernel
theorem dX7_setPrices_52 : decode cX7_setPrices 52 = .ok (.putfield 107, 3) := by decide +kernel
theorem dX7_setPrices_55 : decode cX7_setPrices 55 = .ok (.aload_n 0, 1) := by decide +kernel
theorem dX7_setPrices_56 : decode cX7_setPrices 56 = .ok (.iload_n 2, 1) := by decide +kernel
theorem dX7_setPrices_57 : decode cX7_setPrices 57 = .ok (.putfield 110, 3) := by decide +kernel
theorem dX7_setPrices_60 : decode cX7_setPrices 60 = .ok (.aload_n 0, 1) := by decide +kernel
theorem dX7_setPrices_61 : decode cX7_setPrices 61 = .ok (.iload_n 3, 1) := by decide +kernel
theorem dX7_setPrices_62 : decode cX7_setPrices 62 = .ok (.putfield 113, 3) := by decide +kernel
theorem dX7_setPrices_65 : decode cX7_setPrices 65 = .ok (.iload 4, 2) := by decide +kernel
theorem dX7_setPrices_67 : decode cX7_setPrices 67 = .ok (.ireturn, 1) := by decide +kernel
set_option maxRecDepth 20000 in
theorem ggX7_submit_X7_isUser : GoodIn wsX7_submit wsX7_isUser := goodIn_r _ [14, 15, 16, 17, 13, 18, 22, 23, 24, 25, 26, 27, 28, 29, 30, 31, 32, 33, 34, 35, 36, 37, 38, 39, 40, 41, 42, 43, 44, 45, 46, 47, 48, 49, 50, 51, 52, 53, 54, 55, 56, 57, 58, 59] (by decide +kernel) (by decide +kernel)
set_option maxRecDepth 20000 in
theorem gX7_submit_X7_isUser : GoodIn wsX7_submit (wsV RX7 156 RX7 yX7_isUser wsX7_isUser) := goodIn_app (goodIn_of _ (by decide +kernel)) ggX7_submit_X7_isUser
set_option maxRecDepth 20000 in
theorem ggX7_submit_X7_in : GoodIn wsX7_submit wsX7_in := goodIn_r _ [18] (by decide +kernel) (by decide +kernel)
set_option maxRecDepth 20000 in
theorem gX7_submit_X7_in : GoodIn wsX7_submit (va_wsS RX7 136 yX7_in wsX7_in) := goodIn_app (goodIn_of _ (by decide +kernel)) ggX7_submit_X7_in
set_option maxRecDepth 20000 in
theorem ggX7_submit_X7_isPaper : GoodIn wsX7_submit wsX7_isPaper := goodIn_r _ [21] (by decide +kernel) (by decide +kernel)
set_option maxRecDepth 20000 in
theorem gX7_submit_X7_isPaper : GoodIn wsX7_submit (va_wsS RX7 144 yX7_isPaper wsX7_isPaper) := goodIn_app (goodIn_of _ (by decide +kernel)) ggX7_submit_X7_isPaper
theorem dX7_submit_0 : decode cX7_submit 0 = .ok (.aload_n 0, 1) := by decide +kernel
theorem dX7_submit_1 : decode cX7_submit 1 = .ok (.aload_n 0, 1) := by decide +kernel
theorem dX7_submit_2 : decode cX7_submit 2 = .ok (.iload_n 1, 1) := by decide +kernel
theorem dX7_submit_3 : decode cX7_submit 3 = .ok (.invokevirtual 156, 3) := by decide +kernel
theorem dX7_submit_6 : decode cX7_submit 6 = .ok (.ifCond .ne 7, 3) := by decide +kernel
theorem dX7_submit_9 : decode cX7_submit 9 = .ok (.iconst 1, 1) := by decide +kernel
theorem dX7_submit_10 : decode cX7_submit 10 = .ok (.goto 49, 3) := by decide +kernel
theorem dX7_submit_13 : decode cX7_submit 13 = .ok (.iload_n 2, 1) := by decide +kernel
theorem dX7_submit_14 : decode cX7_submit 14 = .ok (.iconst 1, 1) := by decide +kernel
theorem dX7_submit_15 : decode cX7_submit 15 = .ok (.bipush 100, 2) := by decide +kernel
theorem dX7_submit_17 : decode cX7_submit 17 = .ok (.invokestatic 136, 3) := by decide +kernel
theorem dX7_submit_20 : decode cX7_submit 20 = .ok (.ifCond .eq 21, 3) := by decide +kernel
theorem dX7_submit_23 : decode cX7_submit 23 = .ok (.iload_n 3, 1) := by decide +kernel
theorem dX7_submit_24 : decode cX7_submit 24 = .ok (.iconst 1, 1) := by decide +kernel
theorem dX7_submit_25 : decode cX7_submit 25 = .ok (.bipush 9, 2) := by decide +kernel
theorem dX7_submit_27 : decode cX7_submit 27 = .ok (.invokestatic 136, 3) := by decide +kernel
theorem dX7_submit_30 : decode cX7_submit 30 = .ok (.ifCond .eq 11, 3) := by decide +kernel
theorem dX7_submit_33 : decode cX7_submit 33 = .ok (.iload 4, 2) := by decide +kernel
theorem dX7_submit_35 : decode cX7_submit 35 = .ok (.invokestatic 144, 3) := by decide +kernel
theorem dX7_submit_38 : decode cX7_submit 38 = .ok (.ifCond .ne 7, 3) := by decide +kernel
theorem dX7_submit_41 : decode cX7_submit 41 = .ok (.iconst 2, 1) := by decide +kernel
theorem dX7_submit_42 : decode cX7_submit 42 = .ok (.goto 17, 3) := by decide +kernel
theorem dX7_submit_45 : decode cX7_submit 45 = .ok (.aload_n 0, 1) := by decide +kernel
theorem dX7_submit_46 : decode cX7_submit 46 = .ok (.getfield 101, 3) := by decide +kernel
theorem dX7_submit_49 : decode cX7_submit 49 = .ok (.bipush 40, 2) := by decide +kernel
theorem dX7_submit_51 : decode cX7_submit 51 = .ok (.if_icmp .ne 7, 3) := by decide +kernel
theorem dX7_submit_54 : decode cX7_submit 54 = .ok (.iconst 3, 1) := by decide +kernel
theorem dX7_submit_55 : decode cX7_submit 55 = .ok (.goto 4, 3) := by decide +kernel
theorem dX7_submit_58 : decode cX7_submit 58 = .ok (.iconst 0, 1) := by decide +kernel
theorem dX7_submit_59 : decode cX7_submit 59 = .ok (.putfield 91, 3) := by decide +kernel
theorem dX7_submit_62 : decode cX7_submit 62 = .ok (.aload_n 0, 1) := by decide +kernel
theorem dX7_submit_63 : decode cX7_submit 63 = .ok (.getfield 91, 3) := by decide +kernel
theorem dX7_submit_66 : decode cX7_submit 66 = .ok (.ifCond .le 5, 3) := by decide +kernel
theorem dX7_submit_69 : decode cX7_submit 69 = .ok (.iconst 0, 1) := by decide +kernel
theorem dX7_submit_70 : decode cX7_submit 70 = .ok (.ireturn, 1) := by decide +kernel
theorem dX7_submit_71 : decode cX7_submit 71 = .ok (.aload_n 0, 1) := by decide +kernel
theorem dX7_submit_72 : decode cX7_submit 72 = .ok (.getfield 61, 3) := by decide +kernel
theorem dX7_submit_75 : decode cX7_submit 75 = .ok (.aload_n 0, 1) := by decide +kernel
theorem dX7_submit_76 : decode cX7_submit 76 = .ok (.getfield 101, 3) := by decide +kernel
theorem dX7_submit_79 : decode cX7_submit 79 = .ok (.iload_n 1, 1) := by decide +kernel
theorem dX7_submit_80 : decode cX7_submit 80 = .ok (.iastore, 1) := by decide +kernel
theorem dX7_submit_81 : decode cX7_submit 81 = .ok (.aload_n 0, 1) := by decide +kernel
theorem dX7_submit_82 : decode cX7_submit 82 = .ok (.getfield 64, 3) := by decide +kernel
theorem dX7_submit_85 : decode cX7_submit 85 = .ok (.aload_n 0, 1) := by decide +kernel
theorem dX7_submit_86 : decode cX7_submit 86 = .ok (.getfield 101, 3) := by decide +kernel
theorem dX7_submit_89 : decode cX7_submit 89 = .ok (.iload_n 2, 1) := by decide +kernel
theorem dX7_submit_90 : decode cX7_submit 90 = .ok (.iastore, 1) := by decide +kernel
theorem dX7_submit_91 : decode cX7_submit 91 = .ok (.aload_n 0, 1) := by decide +kernel
theorem dX7_submit_92 : decode cX7_submit 92 = .ok (.getfield 67, 3) := by decide +kernel
theorem dX7_submit_95 : decode cX7_submit 95 = .ok (.aload_n 0, 1) := by decide +kernel
theorem dX7_submit_96 : decode cX7_submit 96 = .ok (.getfield 101, 3) := by decide +kernel
theorem dX7_submit_99 : decode cX7_submit 99 = .ok (.iload_n 3, 1) := by decide +kernel
theorem dX7_submit_100 : decode cX7_submit 100 = .ok (.iastore, 1) := by decide +kernel
theorem dX7_submit_101 : decode cX7_submit 101 = .ok (.aload_n 0, 1) := by decide +kernel
theorem dX7_submit_102 : decode cX7_submit 102 = .ok (.getfield 39, 3) := by decide +kernel
theorem dX7_submit_105 : decode cX7_submit 105 = .ok (.aload_n 0, 1) := by decide +kernel
theorem dX7_submit_106 : decode cX7_submit 106 = .ok (.getfield 101, 3) := by decide +kernel
theorem dX7_submit_109 : decode cX7_submit 109 = .ok (.iload 4, 2) := by decide +kernel
theorem dX7_submit_111 : decode cX7_submit 111 = .ok (.castore, 1) := by decide +kernel
theorem dX7_submit_112 : decode cX7_submit 112 = .ok (.aload_n 0, 1) := by decide +kernel
theorem dX7_submit_113 : decode cX7_submit 113 = .ok (.getfield 49, 3) := by decide +kernel
theorem dX7_submit_116 : decode cX7_submit 116 = .ok (.aload_n 0, 1) := by decide +kernel
theorem dX7_submit_117 : decode cX7_submit 117 = .ok (.getfield 101, 3) := by decide +kernel
theorem dX7_submit_120 : decode cX7_submit 120 = .ok (.iload 5, 2) := by decide +kernel
theorem dX7_submit_122 : decode cX7_submit 122 = .ok (.bastore, 1) := by decide +kernel
theorem dX7_submit_123 : decode cX7_submit 123 = .ok (.aload_n 0, 1) := by decide +kernel
theorem dX7_submit_124 : decode cX7_submit 124 = .ok (.getfield 52, 3) := by decide +kernel
theorem dX7_submit_127 : decode cX7_submit 127 = .ok (.aload_n 0, 1) := by decide +kernel
theorem dX7_submit_128 : decode cX7_submit 128 = .ok (.getfield 101, 3) := by decide +kernel
theorem dX7_submit_131 : decode cX7_submit 131 = .ok (.iload 6, 2) := by decide +kernel
theorem dX7_submit_133 : decode cX7_submit 133 = .ok (.bastore, 1) := by decide +kernel
theorem dX7_submit_134 : decode cX7_submit 134 = .ok (.aload_n 0, 1) := by decide +kernel
theorem dX7_submit_135 : decode cX7_submit 135 = .ok (.getfield 42, 3) := by decide +kernel
theorem dX7_submit_138 : decode cX7_submit 138 = .ok (.aload_n 0, 1) := by decide +kernel
theorem dX7_submit_139 : decode cX7_submit 139 = .ok (.getfield 101, 3) := by decide +kernel
theorem dX7_submit_142 : decode cX7_submit 142 = .ok (.bipush 45, 2) := by decide +kernel
theorem dX7_submit_144 : decode cX7_submit 144 = .ok (.castore, 1) := by decide +kernel
theorem dX7_submit_145 : decode cX7_submit 145 = .ok (.aload_n 0, 1) := by decide +kernel
theorem dX7_submit_146 : decode cX7_submit 146 = .ok (.dup, 1) := by decide +kernel
theorem dX7_submit_147 : decode cX7_submit 147 = .ok (.getfield 101, 3) := by decide +kernel
theorem dX7_submit_150 : decode cX7_submit 150 = .ok (.iconst 1, 1) := by decide +kernel
theorem dX7_submit_151 : decode cX7_submit 151 = .ok (.iadd, 1) := by decide +kernel
theorem dX7_submit_152 : decode cX7_submit 152 = .ok (.putfield 101, 3) := by decide +kernel
theorem dX7_submit_155 : decode cX7_submit 155 = .ok (.aload_n 0, 1) := by decide +kernel
theorem dX7_submit_156 : decode cX7_submit 156 = .ok (.getfield 101, 3) := by decide +kernel
theorem dX7_submit_159 : decode cX7_submit 159 = .ok (.iconst 1, 1) := by decide +kernel
theorem dX7_submit_160 : decode cX7_submit 160 = .ok (.isub, 1) := by decide +kernel
theorem dX7_submit_161 : decode cX7_submit 161 = .ok (.ireturn, 1) := by decide +kernel
set_option maxRecDepth 20000 in
theorem ggX7_setStapled_X7_isJob : GoodIn wsX7_setStapled wsX7_isJob := goodIn_r _ [6, 7, 8, 9, 5, 10, 16, 17, 18, 19, 20, 21, 22, 23, 24, 25, 26, 27, 28, 29, 30, 31, 32, 33, 34, 35, 36, 37, 38, 39, 40, 41, 42, 43, 44, 45, 46, 47, 48, 49, 50, 51, 52, 53] (by decide +kernel) (by decide +kernel)
set_option maxRecDepth 20000 in
theorem gX7_setStapled_X7_isJob : GoodIn wsX7_setStapled (wsV RX7 163 RX7 yX7_isJob wsX7_isJob) := goodIn_app (goodIn_of _ (by decide +kernel)) ggX7_setStapled_X7_isJob
set_option maxRecDepth 20000 in
theorem ggX7_setStapled_X7_checked : GoodIn wsX7_setStapled wsX7_checked := goodIn_r _ [14, 15, 16, 17, 18, 19, 20, 21, 22, 23, 24, 25, 26, 27, 28, 29, 30, 31, 32, 33, 34, 35, 36, 37, 38, 39, 40, 41, 42, 43, 44, 45, 46, 47, 48, 49, 50, 51, 52, 53] (by decide +kernel) (by decide +kernel)
set_option maxRecDepth 20000 in
theorem gX7_setStapled_X7_checked : GoodIn wsX7_setStapled (wsV RX7 148 RX7 yX7_checked wsX7_checked) := goodIn_app (goodIn_of _ (by decide +kernel)) ggX7_setStapled_X7_checked
theorem dX7_setStapled_0 : decode cX7_setStapled 0 = .ok (.aload_n 0, 1) := by decide +kernel
theorem dX7_setStapled_1 : decode cX7_setStapled 1 = .ok (.aload_n 0, 1) := by decide +kernel
theorem dX7_setStapled_2 : decode cX7_setStapled 2 = .ok (.iload_n 1, 1) := by decide +kernel
theorem dX7_setStapled_3 : decode cX7_setStapled 3 = .ok (.invokevirtual 163, 3) := by decide +kernel
theorem dX7_setStapled_6 : decode cX7_setStapled 6 = .ok (.invokevirtual 148, 3) := by decide +kernel
theorem dX7_setStapled_9 : decode cX7_setStapled 9 = .ok (.ifCond .le 5, 3) := by decide +kernel
theorem dX7_setStapled_12 : decode cX7_setStapled 12 = .ok (.iconst 0, 1) := by decide +kernel
theorem dX7_setStapled_13 : decode cX7_setStapled 13 = .ok (.ireturn, 1) := by decide +kernel
theorem dX7_setStapled_14 : decode cX7_setStapled 14 = .ok (.aload_n 0, 1) := by decide +kernel
theorem dX7_setStapled_15 : decode cX7_setStapled 15 = .ok (.getfield 55, 3) := by decide +kernel
theorem dX7_setStapled_18 : decode cX7_setStapled 18 = .ok (.iload_n 1, 1) := by decide +kernel
theorem dX7_setStapled_19 : decode cX7_setStapled 19 = .ok (.baload, 1) := by decide +kernel
theorem dX7_setStapled_20 : decode cX7_setStapled 20 = .ok (.istore_n 3, 1) := by decide +kernel
theorem dX7_setStapled_21 : decode cX7_setStapled 21 = .ok (.aload_n 0, 1) := by decide +kernel
theorem dX7_setStapled_22 : decode cX7_setStapled 22 = .ok (.getfield 55, 3) := by decide +kernel
theorem dX7_setStapled_25 : decode cX7_setStapled 25 = .ok (.iload_n 1, 1) := by decide +kernel
theorem dX7_setStapled_26 : decode cX7_setStapled 26 = .ok (.iload_n 2, 1) := by decide +kernel
theorem dX7_setStapled_27 : decode cX7_setStapled 27 = .ok (.bastore, 1) := by decide +kernel
theorem dX7_setStapled_28 : decode cX7_setStapled 28 = .ok (.iload_n 3, 1) := by decide +kernel
theorem dX7_setStapled_29 : decode cX7_setStapled 29 = .ok (.ireturn, 1) := by decide +kernel
theorem dX7_copySheets_0 : decode cX7_copySheets 0 = .ok (.aload_n 0, 1) := by decide +kernel
theorem dX7_copySheets_1 : decode cX7_copySheets 1 = .ok (.getfield 52, 3) := by decide +kernel
theorem dX7_copySheets_4 : decode cX7_copySheets 4 = .ok (.iload_n 1, 1) := by decide +kernel
theorem dX7_copySheets_5 : decode cX7_copySheets 5 = .ok (.baload, 1) := by decide +kernel
theorem dX7_copySheets_6 : decode cX7_copySheets 6 = .ok (.ifCond .eq 16, 3) := by decide +kernel
theorem dX7_copySheets_9 : decode cX7_copySheets 9 = .ok (.aload_n 0, 1) := by decide +kernel
theorem dX7_copySheets_10 : decode cX7_copySheets 10 = .ok (.getfield 64, 3) := by decide +kernel
theorem dX7_copySheets_13 : decode cX7_copySheets 13 = .ok (.iload_n 1, 1) := by decide +kernel
theorem dX7_copySheets_14 : decode cX7_copySheets 14 = .ok (.iaload, 1) := by decide +kernel
theorem dX7_copySheets_15 : decode cX7_copySheets 15 = .ok (.iconst 1, 1) := by decide +kernel
theorem dX7_copySheets_16 : decode cX7_copySheets 16 = .ok (.iadd, 1) := by decide +kernel
theorem dX7_copySheets_17 : decode cX7_copySheets 17 = .ok (.iconst 2, 1) := by decide +kernel
theorem dX7_copySheets_18 : decode cX7_copySheets 18 = .ok (.idiv, 1) := by decide +kernel
theorem dX7_copySheets_19 : decode cX7_copySheets 19 = .ok (.goto 9, 3) := by decide +kernel
theorem dX7_copySheets_22 : decode cX7_copySheets 22 = .ok (.aload_n 0, 1) := by decide +kernel
theorem dX7_copySheets_23 : decode cX7_copySheets 23 = .ok (.getfield 64, 3) := by decide +kernel
theorem dX7_copySheets_26 : decode cX7_copySheets 26 = .ok (.iload_n 1, 1) := by decide +kernel
theorem dX7_copySheets_27 : decode cX7_copySheets 27 = .ok (.iaload, 1) := by decide +kernel
theorem dX7_copySheets_28 : decode cX7_copySheets 28 = .ok (.ireturn, 1) := by decide +kernel
set_option maxRecDepth 20000 in
theorem ggX7_allSheets_X7_copySheets : GoodIn wsX7_allSheets wsX7_copySheets := goodIn_ca (goodIn_r _ [6, 7, 8, 9, 10, 11, 12, 13, 14, 15, 16, 17, 18, 19, 20, 21, 22, 23, 24, 25, 26, 27, 28, 29, 30, 31, 32, 33, 34, 35, 36, 37, 38, 39, 40, 41, 42, 43, 44, 45, 46] (by decide +kernel) (by decide +kernel)) (goodIn_sub (fun _ h => List.mem_cons_of_mem _ (List.mem_append_right _ h)) (by decide +kernel))
set_option maxRecDepth 20000 in
theorem gX7_allSheets_X7_copySheets : GoodIn wsX7_allSheets (wsV RX7 166 RX7 yX7_copySheets wsX7_copySheets) := goodIn_app (goodIn_of _ (by decide +kernel)) ggX7_allSheets_X7_copySheets
theorem dX7_allSheets_0 : decode cX7_allSheets 0 = .ok (.aload_n 0, 1) := by decide +kernel
theorem dX7_allSheets_1 : decode cX7_allSheets 1 = .ok (.iload_n 1, 1) := by decide +kernel
theorem dX7_allSheets_2 : decode cX7_allSheets 2 = .ok (.invokevirtual 166, 3) := by decide +kernel
theorem dX7_allSheets_5 : decode cX7_allSheets 5 = .ok (.aload_n 0, 1) := by decide +kernel
theorem dX7_allSheets_6 : decode cX7_allSheets 6 = .ok (.getfield 67, 3) := by decide +kernel
theorem dX7_allSheets_9 : decode cX7_allSheets 9 = .ok (.iload_n 1, 1) := by decide +kernel
theorem dX7_allSheets_10 : decode cX7_allSheets 10 = .ok (.iaload, 1) := by decide +kernel
theorem dX7_allSheets_11 : decode cX7_allSheets 11 = .ok (.imul, 1) := by decide +kernel
theorem dX7_allSheets_12 : decode cX7_allSheets 12 = .ok (.ireturn, 1) := by decide +kernel
set_option maxRecDepth 20000 in
theorem ggX7_pagesOn_X7_copySheets : GoodIn wsX7_pagesOn wsX7_copySheets := goodIn_ca (goodIn_r _ [7, 1, 2, 8, 9, 10, 11, 12, 13, 14, 15, 16, 17, 18, 19, 20, 21, 22, 23, 24, 25, 26, 27, 28, 29, 30, 31, 32, 33, 34, 35, 36, 37, 38, 39, 40, 41, 42, 43, 44, 45] (by decide +kernel) (by decide +kernel)) (goodIn_sub (fun _ h => List.mem_cons_of_mem _ (List.mem_append_left _ (List.mem_append_right _ h))) (by decide +kernel))
set_option maxRecDepth 20000 in
theorem gX7_pagesOn_X7_copySheets : GoodIn wsX7_pagesOn (wsV RX7 166 RX7 yX7_copySheets wsX7_copySheets) := goodIn_app (goodIn_of _ (by decide +kernel)) ggX7_pagesOn_X7_copySheets
theorem dX7_pagesOn_0 : decode cX7_pagesOn 0 = .ok (.aload_n 0, 1) := by decide +kernel
theorem dX7_pagesOn_1 : decode cX7_pagesOn 1 = .ok (.getfield 52, 3) := by decide +kernel
theorem dX7_pagesOn_4 : decode cX7_pagesOn 4 = .ok (.iload_n 1, 1) := by decide +kernel
theorem dX7_pagesOn_5 : decode cX7_pagesOn 5 = .ok (.baload, 1) := by decide +kernel
theorem dX7_pagesOn_6 : decode cX7_pagesOn 6 = .ok (.ifCond .ne 5, 3) := by decide +kernel
theorem dX7_pagesOn_9 : decode cX7_pagesOn 9 = .ok (.iconst 1, 1) := by decide +kernel
theorem dX7_pagesOn_10 : decode cX7_pagesOn 10 = .ok (.ireturn, 1) := by decide +kernel
theorem dX7_pagesOn_11 : decode cX7_pagesOn 11 = .ok (.iload_n 2, 1) := by decide +kernel
theorem dX7_pagesOn_12 : decode cX7_pagesOn 12 = .ok (.aload_n 0, 1) := by decide +kernel
theorem dX7_pagesOn_13 : decode cX7_pagesOn 13 = .ok (.iload_n 1, 1) := by decide +kernel
theorem dX7_pagesOn_14 : decode cX7_pagesOn 14 = .ok (.invokevirtual 166, 3) := by decide +kernel
theorem dX7_pagesOn_17 : decode cX7_pagesOn 17 = .ok (.irem, 1) := by decide +kernel
theorem dX7_pagesOn_18 : decode cX7_pagesOn 18 = .ok (.aload_n 0, 1) := by decide +kernel
theorem dX7_pagesOn_19 : decode cX7_pagesOn 19 = .ok (.iload_n 1, 1) := by decide +kernel
theorem dX7_pagesOn_20 : decode cX7_pagesOn 20 = .ok (.invokevirtual 166, 3) := by decide +kernel
theorem dX7_pagesOn_23 : decode cX7_pagesOn 23 = .ok (.iconst 1, 1) := by decide +kernel
theorem dX7_pagesOn_24 : decode cX7_pagesOn 24 = .ok (.isub, 1) := by decide +kernel
theorem dX7_pagesOn_25 : decode cX7_pagesOn 25 = .ok (.if_icmp .ne 19, 3) := by decide +kernel
theorem dX7_pagesOn_28 : decode cX7_pagesOn 28 = .ok (.aload_n 0, 1) := by decide +kernel
theorem dX7_pagesOn_29 : decode cX7_pagesOn 29 = .ok (.getfield 64, 3) := by decide +kernel
theorem dX7_pagesOn_32 : decode cX7_pagesOn 32 = .ok (.iload_n 1, 1) := by decide +kernel
theorem dX7_pagesOn_33 : decode cX7_pagesOn 33 = .ok (.iaload, 1) := by decide +kernel
theorem dX7_pagesOn_34 : decode cX7_pagesOn 34 = .ok (.iconst 2, 1) := by decide +kernel
theorem dX7_pagesOn_35 : decode cX7_pagesOn 35 = .ok (.irem, 1) := by decide +kernel
theorem dX7_pagesOn_36 : decode cX7_pagesOn 36 = .ok (.iconst 1, 1) := by decide +kernel
theorem dX7_pagesOn_37 : decode cX7_pagesOn 37 = .ok (.if_icmp .ne 7, 3) := by decide +kernel
theorem dX7_pagesOn_40 : decode cX7_pagesOn 40 = .ok (.iconst 1, 1) := by decide +kernel
theorem dX7_pagesOn_41 : decode cX7_pagesOn 41 = .ok (.goto 4, 3) := by decide +kernel
theorem dX7_pagesOn_44 : decode cX7_pagesOn 44 = .ok (.iconst 2, 1) := by decide +kernel
theorem dX7_pagesOn_45 : decode cX7_pagesOn 45 = .ok (.ireturn, 1) := by decide +kernel
set_option maxRecDepth 20000 in
theorem ggX7_pagesTo_X7_copySheets : GoodIn wsX7_pagesTo wsX7_copySheets := goodIn_ca (goodIn_r _ [7, 2, 1, 8, 9, 10, 11, 12, 13, 14, 15, 16, 17, 18, 19, 20, 21, 22, 23, 24, 25, 26, 27, 28, 29, 30, 31, 32, 33, 34, 35, 36, 37, 38, 39, 40, 41, 42, 43, 44, 45] (by decide +kernel) (by decide +kernel)) (goodIn_sub (fun _ h => List.mem_cons_of_mem _ (List.mem_append_right _ h)) (by decide +kernel))
set_option maxRecDepth 20000 in
theorem gX7_pagesTo_X7_copySheets : GoodIn wsX7_pagesTo (wsV RX7 166 RX7 yX7_copySheets wsX7_copySheets) := goodIn_app (goodIn_of _ (by decide +kernel)) ggX7_pagesTo_X7_copySheets
theorem dX7_pagesTo_0 : decode cX7_pagesTo 0 = .ok (.iload_n 2, 1) := by decide +kernel
theorem dX7_pagesTo_1 : decode cX7_pagesTo 1 = .ok (.aload_n 0, 1) := by decide +kernel
theorem dX7_pagesTo_2 : decode cX7_pagesTo 2 = .ok (.iload_n 1, 1) := by decide +kernel
theorem dX7_pagesTo_3 : decode cX7_pagesTo 3 = .ok (.invokevirtual 166, 3) := by decide +kernel
theorem dX7_pagesTo_6 : decode cX7_pagesTo 6 = .ok (.irem, 1) := by decide +kernel
theorem dX7_pagesTo_7 : decode cX7_pagesTo 7 = .ok (.istore_n 3, 1) := by decide +kernel
theorem dX7_pagesTo_8 : decode cX7_pagesTo 8 = .ok (.iload_n 2, 1) := by decide +kernel
theorem dX7_pagesTo_9 : decode cX7_pagesTo 9 = .ok (.aload_n 0, 1) := by decide +kernel
theorem dX7_pagesTo_10 : decode cX7_pagesTo 10 = .ok (.iload_n 1, 1) := by decide +kernel
theorem dX7_pagesTo_11 : decode cX7_pagesTo 11 = .ok (.invokevirtual 166, 3) := by decide +kernel
theorem dX7_pagesTo_14 : decode cX7_pagesTo 14 = .ok (.idiv, 1) := by decide +kernel
theorem dX7_pagesTo_15 : decode cX7_pagesTo 15 = .ok (.aload_n 0, 1) := by decide +kernel
theorem dX7_pagesTo_16 : decode cX7_pagesTo 16 = .ok (.getfield 64, 3) := by decide +kernel
theorem dX7_pagesTo_19 : decode cX7_pagesTo 19 = .ok (.iload_n 1, 1) := by decide +kernel
theorem dX7_pagesTo_20 : decode cX7_pagesTo 20 = .ok (.iaload, 1) := by decide +kernel
theorem dX7_pagesTo_21 : decode cX7_pagesTo 21 = .ok (.imul, 1) := by decide +kernel
theorem dX7_pagesTo_22 : decode cX7_pagesTo 22 = .ok (.aload_n 0, 1) := by decide +kernel
theorem dX7_pagesTo_23 : decode cX7_pagesTo 23 = .ok (.getfield 52, 3) := by decide +kernel
theorem dX7_pagesTo_26 : decode cX7_pagesTo 26 = .ok (.iload_n 1, 1) := by decide +kernel
theorem dX7_pagesTo_27 : decode cX7_pagesTo 27 = .ok (.baload, 1) := by decide +kernel
theorem dX7_pagesTo_28 : decode cX7_pagesTo 28 = .ok (.ifCond .eq 9, 3) := by decide +kernel
theorem dX7_pagesTo_31 : decode cX7_pagesTo 31 = .ok (.iconst 2, 1) := by decide +kernel
theorem dX7_pagesTo_32 : decode cX7_pagesTo 32 = .ok (.iload_n 3, 1) := by decide +kernel
theorem dX7_pagesTo_33 : decode cX7_pagesTo 33 = .ok (.imul, 1) := by decide +kernel
theorem dX7_pagesTo_34 : decode cX7_pagesTo 34 = .ok (.goto 4, 3) := by decide +kernel
theorem dX7_pagesTo_37 : decode cX7_pagesTo 37 = .ok (.iload_n 3, 1) := by decide +kernel
theorem dX7_pagesTo_38 : decode cX7_pagesTo 38 = .ok (.iadd, 1) := by decide +kernel
theorem dX7_pagesTo_39 : decode cX7_pagesTo 39 = .ok (.ireturn, 1) := by decide +kernel
set_option maxRecDepth 20000 in
theorem ggX7_isDone_X7_allSheets : GoodIn wsX7_isDone wsX7_allSheets := goodIn_ca (goodIn_r _ [6, 7, 8, 9, 10, 5, 11, 12, 13, 14, 15, 16, 17, 18, 19, 20, 21, 22, 23, 24, 25, 26, 27, 28, 29, 30, 31, 32, 33, 34, 35, 36, 37, 38, 39, 40, 41, 42, 43, 44, 45, 46, 47, 48, 49, 50, 51] (by decide +kernel) (by decide +kernel)) (goodIn_sub (fun _ h => List.mem_cons_of_mem _ (List.mem_append_right _ h)) (by decide +kernel))
set_option maxRecDepth 20000 in
theorem gX7_isDone_X7_allSheets : GoodIn wsX7_isDone (wsV RX7 170 RX7 yX7_allSheets wsX7_allSheets) := goodIn_app (goodIn_of _ (by decide +kernel)) ggX7_isDone_X7_allSheets
theorem dX7_isDone_0 : decode cX7_isDone 0 = .ok (.aload_n 0, 1) := by decide +kernel
theorem dX7_isDone_1 : decode cX7_isDone 1 = .ok (.getfield 70, 3) := by decide +kernel
theorem dX7_isDone_4 : decode cX7_isDone 4 = .ok (.iload_n 1, 1) := by decide +kernel
theorem dX7_isDone_5 : decode cX7_isDone 5 = .ok (.iaload, 1) := by decide +kernel
theorem dX7_isDone_6 : decode cX7_isDone 6 = .ok (.aload_n 0, 1) := by decide +kernel
theorem dX7_isDone_7 : decode cX7_isDone 7 = .ok (.iload_n 1, 1) := by decide +kernel
theorem dX7_isDone_8 : decode cX7_isDone 8 = .ok (.invokevirtual 170, 3) := by decide +kernel
theorem dX7_isDone_11 : decode cX7_isDone 11 = .ok (.if_icmp .ne 7, 3) := by decide +kernel
theorem dX7_isDone_14 : decode cX7_isDone 14 = .ok (.iconst 1, 1) := by decide +kernel
theorem dX7_isDone_15 : decode cX7_isDone 15 = .ok (.goto 4, 3) := by decide +kernel
theorem dX7_isDone_18 : decode cX7_isDone 18 = .ok (.iconst 0, 1) := by decide +kernel
theorem dX7_isDone_19 : decode cX7_isDone 19 = .ok (.ireturn, 1) := by decide +kernel
set_option maxRecDepth 20000 in
theorem ggX7_leftOf_X7_pagesTo : GoodIn wsX7_leftOf wsX7_pagesTo := goodIn_ca (goodIn_ca (goodIn_r _ [8, 1, 9, 10, 11, 12, 7, 13, 14, 15, 16, 17, 18, 19, 20, 21, 22, 23, 24, 25, 26, 27, 28, 29, 30, 31, 32, 33, 34, 35, 36, 37, 38, 39, 40, 41, 42, 43, 44, 45, 46, 47, 48, 49, 50, 51] (by decide +kernel) (by decide +kernel)) (goodIn_sub (fun _ h => List.mem_cons_of_mem _ (List.mem_append_right _ h)) (by decide +kernel))) (goodIn_sub (fun _ h => List.mem_cons_of_mem _ (List.mem_append_left _ (List.mem_append_right _ h))) (by decide +kernel))
set_option maxRecDepth 20000 in
theorem gX7_leftOf_X7_pagesTo : GoodIn wsX7_leftOf (wsV RX7 173 RX7 yX7_pagesTo wsX7_pagesTo) := goodIn_app (goodIn_of _ (by decide +kernel)) ggX7_leftOf_X7_pagesTo
theorem dX7_leftOf_0 : decode cX7_leftOf 0 = .ok (.aload_n 0, 1) := by decide +kernel
theorem dX7_leftOf_1 : decode cX7_leftOf 1 = .ok (.getfield 64, 3) := by decide +kernel
theorem dX7_leftOf_4 : decode cX7_leftOf 4 = .ok (.iload_n 1, 1) := by decide +kernel
theorem dX7_leftOf_5 : decode cX7_leftOf 5 = .ok (.iaload, 1) := by decide +kernel
theorem dX7_leftOf_6 : decode cX7_leftOf 6 = .ok (.aload_n 0, 1) := by decide +kernel
theorem dX7_leftOf_7 : decode cX7_leftOf 7 = .ok (.getfield 67, 3) := by decide +kernel
theorem dX7_leftOf_10 : decode cX7_leftOf 10 = .ok (.iload_n 1, 1) := by decide +kernel
theorem dX7_leftOf_11 : decode cX7_leftOf 11 = .ok (.iaload, 1) := by decide +kernel
theorem dX7_leftOf_12 : decode cX7_leftOf 12 = .ok (.imul, 1) := by decide +kernel
theorem dX7_leftOf_13 : decode cX7_leftOf 13 = .ok (.aload_n 0, 1) := by decide +kernel
theorem dX7_leftOf_14 : decode cX7_leftOf 14 = .ok (.iload_n 1, 1) := by decide +kernel
theorem dX7_leftOf_15 : decode cX7_leftOf 15 = .ok (.aload_n 0, 1) := by decide +kernel
theorem dX7_leftOf_16 : decode cX7_leftOf 16 = .ok (.getfield 70, 3) := by decide +kernel
theorem dX7_leftOf_19 : decode cX7_leftOf 19 = .ok (.iload_n 1, 1) := by decide +kernel
theorem dX7_leftOf_20 : decode cX7_leftOf 20 = .ok (.iaload, 1) := by decide +kernel
theorem dX7_leftOf_21 : decode cX7_leftOf 21 = .ok (.invokevirtual 173, 3) := by decide +kernel
theorem dX7_leftOf_24 : decode cX7_leftOf 24 = .ok (.isub, 1) := by decide +kernel
theorem dX7_leftOf_25 : decode cX7_leftOf 25 = .ok (.ireturn, 1) := by decide +kernel
set_option maxRecDepth 20000 in
theorem ggX7_cancel_X7_isJob : GoodIn wsX7_cancel wsX7_isJob := goodIn_r _ [7, 8, 9, 10, 6, 11, 36, 37, 38, 39, 40, 41, 42, 43, 44, 45, 46, 47, 48, 49, 50, 51, 52, 53, 54, 55, 56, 57, 58, 59, 60, 61, 62, 63, 64, 65, 66, 67, 68, 69, 70, 71, 72, 73] (by decide +kernel) (by decide +kernel)
set_option maxRecDepth 20000 in
theorem gX7_cancel_X7_isJob : GoodIn wsX7_cancel (wsV RX7 163 RX7 yX7_isJob wsX7_isJob) := goodIn_app (goodIn_of _ (by decide +kernel)) ggX7_cancel_X7_isJob
set_option maxRecDepth 20000 in
theorem ggX7_cancel_X7_isDone : GoodIn wsX7_cancel wsX7_isDone := goodIn_ca (goodIn_r _ [15, 16, 17, 18, 19, 6, 20, 21, 22, 23, 24, 25, 26, 27, 36, 37, 38, 39, 40, 41, 42, 43, 44, 45, 46, 47, 48, 49, 50, 51, 52, 53, 54, 55, 56, 57, 58, 59, 60, 61, 62, 63, 64, 65, 66, 67, 68, 69, 70, 71, 72, 73] (by decide +kernel) (by decide +kernel)) (goodIn_sub (fun _ h => List.mem_cons_of_mem _ (List.mem_append_left _ (List.mem_append_right _ h))) (by decide +kernel))
set_option maxRecDepth 20000 in
theorem gX7_cancel_X7_isDone : GoodIn wsX7_cancel (wsV RX7 177 RX7 yX7_isDone wsX7_isDone) := goodIn_app (goodIn_of _ (by decide +kernel)) ggX7_cancel_X7_isDone
set_option maxRecDepth 20000 in
theorem ggX7_cancel_X7_leftOf : GoodIn wsX7_cancel wsX7_leftOf := goodIn_ca (goodIn_ca (goodIn_r _ [31, 27, 21, 16, 32, 33, 34, 6, 35, 26, 22, 23, 24, 25, 36, 37, 38, 39, 40, 41, 42, 43, 44, 45, 46, 47, 48, 49, 50, 51, 52, 53, 54, 55, 56, 57, 58, 59, 60, 61, 62, 63, 64, 65, 66, 67, 68, 69, 70, 71, 72, 73] (by decide +kernel) (by decide +kernel)) (goodIn_sub (fun _ h => List.mem_cons_of_mem _ (List.mem_append_left _ (List.mem_append_right _ h))) (by decide +kernel))) (goodIn_sub (fun _ h => List.mem_cons_of_mem _ (List.mem_append_right _ h)) (by decide +kernel))
set_option maxRecDepth 20000 in
theorem gX7_cancel_X7_leftOf : GoodIn wsX7_cancel (wsV RX7 180 RX7 yX7_leftOf wsX7_leftOf) := goodIn_app (goodIn_of _ (by decide +kernel)) ggX7_cancel_X7_leftOf
theorem dX7_cancel_0 : decode cX7_cancel 0 = .ok (.aload_n 0, 1) := by decide +kernel
theorem dX7_cancel_1 : decode cX7_cancel 1 = .ok (.aload_n 0, 1) := by decide +kernel
theorem dX7_cancel_2 : decode cX7_cancel 2 = .ok (.iload_n 1, 1) := by decide +kernel
theorem dX7_cancel_3 : decode cX7_cancel 3 = .ok (.invokevirtual 163, 3) := by decide +kernel
theorem dX7_cancel_6 : decode cX7_cancel 6 = .ok (.ifCond .ne 7, 3) := by decide +kernel
theorem dX7_cancel_9 : decode cX7_cancel 9 = .ok (.iconst 1, 1) := by decide +kernel
theorem dX7_cancel_10 : decode cX7_cancel 10 = .ok (.goto 25, 3) := by decide +kernel
theorem dX7_cancel_13 : decode cX7_cancel 13 = .ok (.aload_n 0, 1) := by decide +kernel
theorem dX7_cancel_14 : decode cX7_cancel 14 = .ok (.iload_n 1, 1) := by decide +kernel
theorem dX7_cancel_15 : decode cX7_cancel 15 = .ok (.invokevirtual 177, 3) := by decide +kernel
theorem dX7_cancel_18 : decode cX7_cancel 18 = .ok (.ifCond .ne 12, 3) := by decide +kernel
theorem dX7_cancel_21 : decode cX7_cancel 21 = .ok (.aload_n 0, 1) := by decide +kernel
theorem dX7_cancel_22 : decode cX7_cancel 22 = .ok (.getfield 58, 3) := by decide +kernel
theorem dX7_cancel_25 : decode cX7_cancel 25 = .ok (.iload_n 1, 1) := by decide +kernel
theorem dX7_cancel_26 : decode cX7_cancel 26 = .ok (.baload, 1) := by decide +kernel
theorem dX7_cancel_27 : decode cX7_cancel 27 = .ok (.ifCond .eq 7, 3) := by decide +kernel
theorem dX7_cancel_30 : decode cX7_cancel 30 = .ok (.iconst 2, 1) := by decide +kernel
theorem dX7_cancel_31 : decode cX7_cancel 31 = .ok (.goto 4, 3) := by decide +kernel
theorem dX7_cancel_34 : decode cX7_cancel 34 = .ok (.iconst 0, 1) := by decide +kernel
theorem dX7_cancel_35 : decode cX7_cancel 35 = .ok (.putfield 91, 3) := by decide +kernel
theorem dX7_cancel_38 : decode cX7_cancel 38 = .ok (.aload_n 0, 1) := by decide +kernel
theorem dX7_cancel_39 : decode cX7_cancel 39 = .ok (.getfield 91, 3) := by decide +kernel
theorem dX7_cancel_42 : decode cX7_cancel 42 = .ok (.ifCond .le 5, 3) := by decide +kernel
theorem dX7_cancel_45 : decode cX7_cancel 45 = .ok (.iconst 0, 1) := by decide +kernel
theorem dX7_cancel_46 : decode cX7_cancel 46 = .ok (.ireturn, 1) := by decide +kernel
theorem dX7_cancel_47 : decode cX7_cancel 47 = .ok (.aload_n 0, 1) := by decide +kernel
theorem dX7_cancel_48 : decode cX7_cancel 48 = .ok (.getfield 58, 3) := by decide +kernel
theorem dX7_cancel_51 : decode cX7_cancel 51 = .ok (.iload_n 1, 1) := by decide +kernel
theorem dX7_cancel_52 : decode cX7_cancel 52 = .ok (.iconst 1, 1) := by decide +kernel
theorem dX7_cancel_53 : decode cX7_cancel 53 = .ok (.bastore, 1) := by decide +kernel
theorem dX7_cancel_54 : decode cX7_cancel 54 = .ok (.aload_n 0, 1) := by decide +kernel
theorem dX7_cancel_55 : decode cX7_cancel 55 = .ok (.iload_n 1, 1) := by decide +kernel
theorem dX7_cancel_56 : decode cX7_cancel 56 = .ok (.invokevirtual 180, 3) := by decide +kernel
theorem dX7_cancel_59 : decode cX7_cancel 59 = .ok (.ireturn, 1) := by decide +kernel
set_option maxRecDepth 20000 in
theorem ggX7_stateOf_X7_isJob : GoodIn wsX7_stateOf wsX7_isJob := goodIn_r _ [7, 8, 9, 10, 6, 11, 32, 33, 34, 35, 36, 37, 38, 39, 40, 41, 42, 43, 44, 45, 46, 47, 48, 49, 50, 51, 52, 53, 54, 55, 56, 57, 58, 59, 60, 61, 62, 63, 64, 65, 66, 67, 68, 69] (by decide +kernel) (by decide +kernel)
set_option maxRecDepth 20000 in
theorem gX7_stateOf_X7_isJob : GoodIn wsX7_stateOf (wsV RX7 163 RX7 yX7_isJob wsX7_isJob) := goodIn_app (goodIn_of _ (by decide +kernel)) ggX7_stateOf_X7_isJob
set_option maxRecDepth 20000 in
theorem ggX7_stateOf_X7_checked : GoodIn wsX7_stateOf wsX7_checked := goodIn_r _ [15, 16, 32, 33, 34, 35, 36, 37, 38, 39, 40, 41, 42, 43, 44, 45, 46, 47, 48, 49, 50, 51, 52, 53, 54, 55, 56, 57, 58, 59, 60, 61, 62, 63, 64, 65, 66, 67, 68, 69] (by decide +kernel) (by decide +kernel)
set_option maxRecDepth 20000 in
theorem gX7_stateOf_X7_checked : GoodIn wsX7_stateOf (wsV RX7 148 RX7 yX7_checked wsX7_checked) := goodIn_app (goodIn_of _ (by decide +kernel)) ggX7_stateOf_X7_checked
set_option maxRecDepth 20000 in
theorem ggX7_stateOf_X7_isDone : GoodIn wsX7_stateOf wsX7_isDone := goodIn_ca (goodIn_r _ [20, 2, 21, 22, 23, 6, 24, 25, 26, 27, 28, 29, 30, 31, 32, 33, 34, 35, 36, 37, 38, 39, 40, 41, 42, 43, 44, 45, 46, 47, 48, 49, 50, 51, 52, 53, 54, 55, 56, 57, 58, 59, 60, 61, 62, 63, 64, 65, 66, 67, 68, 69] (by decide +kernel) (by decide +kernel)) (goodIn_sub (fun _ h => List.mem_cons_of_mem _ (List.mem_append_right _ h)) (by decide +kernel))
set_option maxRecDepth 20000 in
theorem gX7_stateOf_X7_isDone : GoodIn wsX7_stateOf (wsV RX7 177 RX7 yX7_isDone wsX7_isDone) := goodIn_app (goodIn_of _ (by decide +kernel)) ggX7_stateOf_X7_isDone
theorem dX7_stateOf_0 : decode cX7_stateOf 0 = .ok (.aload_n 0, 1) := by decide +kernel
theorem dX7_stateOf_1 : decode cX7_stateOf 1 = .ok (.aload_n 0, 1) := by decide +kernel
theorem dX7_stateOf_2 : decode cX7_stateOf 2 = .ok (.iload_n 1, 1) := by decide +kernel
theorem dX7_stateOf_3 : decode cX7_stateOf 3 = .ok (.invokevirtual 163, 3) := by decide +kernel
theorem dX7_stateOf_6 : decode cX7_stateOf 6 = .ok (.invokevirtual 148, 3) := by decide +kernel
theorem dX7_stateOf_9 : decode cX7_stateOf 9 = .ok (.ifCond .le 6, 3) := by decide +kernel
theorem dX7_stateOf_12 : decode cX7_stateOf 12 = .ok (.bipush 32, 2) := by decide +kernel
theorem dX7_stateOf_14 : decode cX7_stateOf 14 = .ok (.ireturn, 1) := by decide +kernel
theorem dX7_stateOf_15 : decode cX7_stateOf 15 = .ok (.aload_n 0, 1) := by decide +kernel
theorem dX7_stateOf_16 : decode cX7_stateOf 16 = .ok (.getfield 58, 3) := by decide +kernel
theorem dX7_stateOf_19 : decode cX7_stateOf 19 = .ok (.iload_n 1, 1) := by decide +kernel
theorem dX7_stateOf_20 : decode cX7_stateOf 20 = .ok (.baload, 1) := by decide +kernel
theorem dX7_stateOf_21 : decode cX7_stateOf 21 = .ok (.ifCond .eq 6, 3) := by decide +kernel
theorem dX7_stateOf_24 : decode cX7_stateOf 24 = .ok (.bipush 120, 2) := by decide +kernel
theorem dX7_stateOf_26 : decode cX7_stateOf 26 = .ok (.ireturn, 1) := by decide +kernel
theorem dX7_stateOf_27 : decode cX7_stateOf 27 = .ok (.aload_n 0, 1) := by decide +kernel
theorem dX7_stateOf_28 : decode cX7_stateOf 28 = .ok (.iload_n 1, 1) := by decide +kernel
theorem dX7_stateOf_29 : decode cX7_stateOf 29 = .ok (.invokevirtual 177, 3) := by decide +kernel
theorem dX7_stateOf_32 : decode cX7_stateOf 32 = .ok (.ifCond .eq 6, 3) := by decide +kernel
theorem dX7_stateOf_35 : decode cX7_stateOf 35 = .ok (.bipush 100, 2) := by decide +kernel
theorem dX7_stateOf_37 : decode cX7_stateOf 37 = .ok (.ireturn, 1) := by decide +kernel
theorem dX7_stateOf_38 : decode cX7_stateOf 38 = .ok (.aload_n 0, 1) := by decide +kernel
theorem dX7_stateOf_39 : decode cX7_stateOf 39 = .ok (.getfield 70, 3) := by decide +kernel
theorem dX7_stateOf_42 : decode cX7_stateOf 42 = .ok (.iload_n 1, 1) := by decide +kernel
theorem dX7_stateOf_43 : decode cX7_stateOf 43 = .ok (.iaload, 1) := by decide +kernel
theorem dX7_stateOf_44 : decode cX7_stateOf 44 = .ok (.ifCond .le 8, 3) := by decide +kernel
theorem dX7_stateOf_47 : decode cX7_stateOf 47 = .ok (.bipush 112, 2) := by decide +kernel
theorem dX7_stateOf_49 : decode cX7_stateOf 49 = .ok (.goto 5, 3) := by decide +kernel
theorem dX7_stateOf_52 : decode cX7_stateOf 52 = .ok (.bipush 104, 2) := by decide +kernel
theorem dX7_stateOf_54 : decode cX7_stateOf 54 = .ok (.ireturn, 1) := by decide +kernel
set_option maxRecDepth 20000 in
theorem ggX7_pagesLeft_X7_isJob : GoodIn wsX7_pagesLeft wsX7_isJob := goodIn_r _ [5, 6, 7, 8, 4, 9, 31, 32, 33, 34, 35, 36, 37, 38, 39, 40, 41, 42, 43, 44, 45, 46, 47, 48, 49, 50, 51, 52, 53, 54, 55, 56, 57, 58, 59, 60, 61, 62, 63, 64, 65, 66, 67, 68] (by decide +kernel) (by decide +kernel)
set_option maxRecDepth 20000 in
theorem gX7_pagesLeft_X7_isJob : GoodIn wsX7_pagesLeft (wsV RX7 163 RX7 yX7_isJob wsX7_isJob) := goodIn_app (goodIn_of _ (by decide +kernel)) ggX7_pagesLeft_X7_isJob
set_option maxRecDepth 20000 in
theorem ggX7_pagesLeft_X7_checked : GoodIn wsX7_pagesLeft wsX7_checked := goodIn_r _ [13, 14, 31, 32, 33, 34, 35, 36, 37, 38, 39, 40, 41, 42, 43, 44, 45, 46, 47, 48, 49, 50, 51, 52, 53, 54, 55, 56, 57, 58, 59, 60, 61, 62, 63, 64, 65, 66, 67, 68] (by decide +kernel) (by decide +kernel)
set_option maxRecDepth 20000 in
theorem gX7_pagesLeft_X7_checked : GoodIn wsX7_pagesLeft (wsV RX7 148 RX7 yX7_checked wsX7_checked) := goodIn_app (goodIn_of _ (by decide +kernel)) ggX7_pagesLeft_X7_checked
set_option maxRecDepth 20000 in
theorem ggX7_pagesLeft_X7_leftOf : GoodIn wsX7_pagesLeft wsX7_leftOf := goodIn_ca (goodIn_ca (goodIn_r _ [18, 19, 20, 21, 22, 23, 24, 4, 25, 26, 27, 28, 29, 30, 31, 32, 33, 34, 35, 36, 37, 38, 39, 40, 41, 42, 43, 44, 45, 46, 47, 48, 49, 50, 51, 52, 53, 54, 55, 56, 57, 58, 59, 60, 61, 62, 63, 64, 65, 66, 67, 68] (by decide +kernel) (by decide +kernel)) (goodIn_sub (fun _ h => List.mem_cons_of_mem _ (List.mem_append_left _ (List.mem_append_right _ h))) (by decide +kernel))) (goodIn_sub (fun _ h => List.mem_cons_of_mem _ (List.mem_append_right _ h)) (by decide +kernel))
set_option maxRecDepth 20000 in
theorem gX7_pagesLeft_X7_leftOf : GoodIn wsX7_pagesLeft (wsV RX7 180 RX7 yX7_leftOf wsX7_leftOf) := goodIn_app (goodIn_of _ (by decide +kernel)) ggX7_pagesLeft_X7_leftOf
theorem dX7_pagesLeft_0 : decode cX7_pagesLeft 0 = .ok (.aload_n 0, 1) := by decide +kernel
theorem dX7_pagesLeft_1 : decode cX7_pagesLeft 1 = .ok (.aload_n 0, 1) := by decide +kernel
theorem dX7_pagesLeft_2 : decode cX7_pagesLeft 2 = .ok (.iload_n 1, 1) := by decide +kernel
theorem dX7_pagesLeft_3 : decode cX7_pagesLeft 3 = .ok (.invokevirtual 163, 3) := by decide +kernel
theorem dX7_pagesLeft_6 : decode cX7_pagesLeft 6 = .ok (.invokevirtual 148, 3) := by decide +kernel
theorem dX7_pagesLeft_9 : decode cX7_pagesLeft 9 = .ok (.ifCond .le 7, 3) := by decide +kernel
theorem dX7_pagesLeft_12 : decode cX7_pagesLeft 12 = .ok (.iconst 0, 1) := by decide +kernel
theorem dX7_pagesLeft_13 : decode cX7_pagesLeft 13 = .ok (.goto 8, 3) := by decide +kernel
theorem dX7_pagesLeft_16 : decode cX7_pagesLeft 16 = .ok (.aload_n 0, 1) := by decide +kernel
theorem dX7_pagesLeft_17 : decode cX7_pagesLeft 17 = .ok (.iload_n 1, 1) := by decide +kernel
theorem dX7_pagesLeft_18 : decode cX7_pagesLeft 18 = .ok (.invokevirtual 180, 3) := by decide +kernel
theorem dX7_pagesLeft_21 : decode cX7_pagesLeft 21 = .ok (.ireturn, 1) := by decide +kernel
set_option maxRecDepth 20000 in
theorem ggX7_sheetsOut_X7_isJob : GoodIn wsX7_sheetsOut wsX7_isJob := goodIn_r _ [6, 7, 8, 9, 5, 10, 16, 17, 18, 19, 20, 21, 22, 23, 24, 25, 26, 27, 28, 29, 30, 31, 32, 33, 34, 35, 36, 37, 38, 39, 40, 41, 42, 43, 44, 45, 46, 47, 48, 49, 50, 51, 52, 53] (by decide +kernel) (by decide +kernel)
set_option maxRecDepth 20000 in
theorem gX7_sheetsOut_X7_isJob : GoodIn wsX7_sheetsOut (wsV RX7 163 RX7 yX7_isJob wsX7_isJob) := goodIn_app (goodIn_of _ (by decide +kernel)) ggX7_sheetsOut_X7_isJob
set_option maxRecDepth 20000 in
theorem ggX7_sheetsOut_X7_checked : GoodIn wsX7_sheetsOut wsX7_checked := goodIn_r _ [14, 15, 16, 17, 18, 19, 20, 21, 22, 23, 24, 25, 26, 27, 28, 29, 30, 31, 32, 33, 34, 35, 36, 37, 38, 39, 40, 41, 42, 43, 44, 45, 46, 47, 48, 49, 50, 51, 52, 53] (by decide +kernel) (by decide +kernel)
set_option maxRecDepth 20000 in
theorem gX7_sheetsOut_X7_checked : GoodIn wsX7_sheetsOut (wsV RX7 148 RX7 yX7_checked wsX7_checked) := goodIn_app (goodIn_of _ (by decide +kernel)) ggX7_sheetsOut_X7_checked
theorem dX7_sheetsOut_0 : decode cX7_sheetsOut 0 = .ok (.aload_n 0, 1) := by decide +kernel
theorem dX7_sheetsOut_1 : decode cX7_sheetsOut 1 = .ok (.aload_n 0, 1) := by decide +kernel
theorem dX7_sheetsOut_2 : decode cX7_sheetsOut 2 = .ok (.iload_n 1, 1) := by decide +kernel
theorem dX7_sheetsOut_3 : decode cX7_sheetsOut 3 = .ok (.invokevirtual 163, 3) := by decide +kernel
theorem dX7_sheetsOut_6 : decode cX7_sheetsOut 6 = .ok (.invokevirtual 148, 3) := by decide +kernel
theorem dX7_sheetsOut_9 : decode cX7_sheetsOut 9 = .ok (.ifCond .le 7, 3) := by decide +kernel
theorem dX7_sheetsOut_12 : decode cX7_sheetsOut 12 = .ok (.iconst 0, 1) := by decide +kernel
theorem dX7_sheetsOut_13 : decode cX7_sheetsOut 13 = .ok (.goto 9, 3) := by decide +kernel
theorem dX7_sheetsOut_16 : decode cX7_sheetsOut 16 = .ok (.aload_n 0, 1) := by decide +kernel
theorem dX7_sheetsOut_17 : decode cX7_sheetsOut 17 = .ok (.getfield 70, 3) := by decide +kernel
theorem dX7_sheetsOut_20 : decode cX7_sheetsOut 20 = .ok (.iload_n 1, 1) := by decide +kernel
theorem dX7_sheetsOut_21 : decode cX7_sheetsOut 21 = .ok (.iaload, 1) := by decide +kernel
theorem dX7_sheetsOut_22 : decode cX7_sheetsOut 22 = .ok (.ireturn, 1) := by decide +kernel
set_option maxRecDepth 20000 in
theorem ggX7_stapledCopies_X7_isJob : GoodIn wsX7_stapledCopies wsX7_isJob := goodIn_r _ [6, 7, 8, 9, 5, 10, 16, 17, 18, 19, 20, 21, 22, 23, 24, 25, 26, 27, 28, 29, 30, 31, 32, 33, 34, 35, 36, 37, 38, 39, 40, 41, 42, 43, 44, 45, 46, 47, 48, 49, 50, 51, 52, 53] (by decide +kernel) (by decide +kernel)
set_option maxRecDepth 20000 in
theorem gX7_stapledCopies_X7_isJob : GoodIn wsX7_stapledCopies (wsV RX7 163 RX7 yX7_isJob wsX7_isJob) := goodIn_app (goodIn_of _ (by decide +kernel)) ggX7_stapledCopies_X7_isJob
set_option maxRecDepth 20000 in
theorem ggX7_stapledCopies_X7_checked : GoodIn wsX7_stapledCopies wsX7_checked := goodIn_r _ [14, 15, 16, 17, 18, 19, 20, 21, 22, 23, 24, 25, 26, 27, 28, 29, 30, 31, 32, 33, 34, 35, 36, 37, 38, 39, 40, 41, 42, 43, 44, 45, 46, 47, 48, 49, 50, 51, 52, 53] (by decide +kernel) (by decide +kernel)
set_option maxRecDepth 20000 in
theorem gX7_stapledCopies_X7_checked : GoodIn wsX7_stapledCopies (wsV RX7 148 RX7 yX7_checked wsX7_checked) := goodIn_app (goodIn_of _ (by decide +kernel)) ggX7_stapledCopies_X7_checked
theorem dX7_stapledCopies_0 : decode cX7_stapledCopies 0 = .ok (.aload_n 0, 1) := by decide +kernel
theorem dX7_stapledCopies_1 : decode cX7_stapledCopies 1 = .ok (.aload_n 0, 1) := by decide +kernel
theorem dX7_stapledCopies_2 : decode cX7_stapledCopies 2 = .ok (.iload_n 1, 1) := by decide +kernel
theorem dX7_stapledCopies_3 : decode cX7_stapledCopies 3 = .ok (.invokevirtual 163, 3) := by decide +kernel
theorem dX7_stapledCopies_6 : decode cX7_stapledCopies 6 = .ok (.invokevirtual 148, 3) := by decide +kernel
theorem dX7_stapledCopies_9 : decode cX7_stapledCopies 9 = .ok (.ifCond .le 7, 3) := by decide +kernel
theorem dX7_stapledCopies_12 : decode cX7_stapledCopies 12 = .ok (.iconst 0, 1) := by decide +kernel
theorem dX7_stapledCopies_13 : decode cX7_stapledCopies 13 = .ok (.goto 9, 3) := by decide +kernel
theorem dX7_stapledCopies_16 : decode cX7_stapledCopies 16 = .ok (.aload_n 0, 1) := by decide +kernel
theorem dX7_stapledCopies_17 : decode cX7_stapledCopies 17 = .ok (.getfield 73, 3) := by decide +kernel
theorem dX7_stapledCopies_20 : decode cX7_stapledCopies 20 = .ok (.iload_n 1, 1) := by decide +kernel
theorem dX7_stapledCopies_21 : decode cX7_stapledCopies 21 = .ok (.iaload, 1) := by decide +kernel
theorem dX7_stapledCopies_22 : decode cX7_stapledCopies 22 = .ok (.ireturn, 1) := by decide +kernel
set_option maxRecDepth 20000 in
theorem ggX7_laysTrial_X7_quotaAt : GoodIn wsX7_laysTrial wsX7_quotaAt := goodIn_r _ [14] (by decide +kernel) (by decide +kernel)
set_option maxRecDepth 20000 in
theorem gX7_laysTrial_X7_quotaAt : GoodIn wsX7_laysTrial (va_wsS RX7 159 yX7_quotaAt wsX7_quotaAt) := goodIn_app (goodIn_of _ (by decide +kernel)) ggX7_laysTrial_X7_quotaAt
theorem dX7_laysTrial_0 : decode cX7_laysTrial 0 = .ok (.iconst 0, 1) := by decide +kernel
theorem dX7_laysTrial_1 : decode cX7_laysTrial 1 = .ok (.istore_n 3, 1) := by decide +kernel
theorem dX7_laysTrial_2 : decode cX7_laysTrial 2 = .ok (.iload_n 3, 1) := by decide +kernel
theorem dX7_laysTrial_3 : decode cX7_laysTrial 3 = .ok (.iconst 3, 1) := by decide +kernel
theorem dX7_laysTrial_4 : decode cX7_laysTrial 4 = .ok (.if_icmp .ge 25, 3) := by decide +kernel
theorem dX7_laysTrial_7 : decode cX7_laysTrial 7 = .ok (.aload_n 0, 1) := by decide +kernel
theorem dX7_laysTrial_8 : decode cX7_laysTrial 8 = .ok (.getfield 88, 3) := by decide +kernel
theorem dX7_laysTrial_11 : decode cX7_laysTrial 11 = .ok (.iload_n 3, 1) := by decide +kernel
theorem dX7_laysTrial_12 : decode cX7_laysTrial 12 = .ok (.aload_n 0, 1) := by decide +kernel
theorem dX7_laysTrial_13 : decode cX7_laysTrial 13 = .ok (.getfield 19, 3) := by decide +kernel
theorem dX7_laysTrial_16 : decode cX7_laysTrial 16 = .ok (.iconst 3, 1) := by decide +kernel
theorem dX7_laysTrial_17 : decode cX7_laysTrial 17 = .ok (.iload_n 2, 1) := by decide +kernel
theorem dX7_laysTrial_18 : decode cX7_laysTrial 18 = .ok (.imul, 1) := by decide +kernel
theorem dX7_laysTrial_19 : decode cX7_laysTrial 19 = .ok (.iload_n 3, 1) := by decide +kernel
theorem dX7_laysTrial_20 : decode cX7_laysTrial 20 = .ok (.iadd, 1) := by decide +kernel
theorem dX7_laysTrial_21 : decode cX7_laysTrial 21 = .ok (.iaload, 1) := by decide +kernel
theorem dX7_laysTrial_22 : decode cX7_laysTrial 22 = .ok (.iastore, 1) := by decide +kernel
theorem dX7_laysTrial_23 : decode cX7_laysTrial 23 = .ok (.iinc 3 1, 3) := by decide +kernel
theorem dX7_laysTrial_26 : decode cX7_laysTrial 26 = .ok (.goto (-24), 3) := by decide +kernel
theorem dX7_laysTrial_29 : decode cX7_laysTrial 29 = .ok (.aload_n 0, 1) := by decide +kernel
theorem dX7_laysTrial_30 : decode cX7_laysTrial 30 = .ok (.aload_n 0, 1) := by decide +kernel
theorem dX7_laysTrial_31 : decode cX7_laysTrial 31 = .ok (.getfield 22, 3) := by decide +kernel
theorem dX7_laysTrial_34 : decode cX7_laysTrial 34 = .ok (.iload_n 2, 1) := by decide +kernel
theorem dX7_laysTrial_35 : decode cX7_laysTrial 35 = .ok (.iaload, 1) := by decide +kernel
theorem dX7_laysTrial_36 : decode cX7_laysTrial 36 = .ok (.putfield 116, 3) := by decide +kernel
theorem dX7_laysTrial_39 : decode cX7_laysTrial 39 = .ok (.aload_n 0, 1) := by decide +kernel
theorem dX7_laysTrial_40 : decode cX7_laysTrial 40 = .ok (.aload_n 0, 1) := by decide +kernel
theorem dX7_laysTrial_41 : decode cX7_laysTrial 41 = .ok (.getfield 25, 3) := by decide +kernel
theorem dX7_laysTrial_44 : decode cX7_laysTrial 44 = .ok (.iload_n 2, 1) := by decide +kernel
theorem dX7_laysTrial_45 : decode cX7_laysTrial 45 = .ok (.iaload, 1) := by decide +kernel
theorem dX7_laysTrial_46 : decode cX7_laysTrial 46 = .ok (.putfield 119, 3) := by decide +kernel
theorem dX7_laysTrial_49 : decode cX7_laysTrial 49 = .ok (.aload_n 0, 1) := by decide +kernel
theorem dX7_laysTrial_50 : decode cX7_laysTrial 50 = .ok (.aload_n 0, 1) := by decide +kernel
theorem dX7_laysTrial_51 : decode cX7_laysTrial 51 = .ok (.getfield 7, 3) := by decide +kernel
theorem dX7_laysTrial_54 : decode cX7_laysTrial 54 = .ok (.aload_n 0, 1) := by decide +kernel
theorem dX7_laysTrial_55 : decode cX7_laysTrial 55 = .ok (.getfield 61, 3) := by decide +kernel
theorem dX7_laysTrial_58 : decode cX7_laysTrial 58 = .ok (.iload_n 1, 1) := by decide +kernel
theorem dX7_laysTrial_59 : decode cX7_laysTrial 59 = .ok (.iaload, 1) := by decide +kernel
theorem dX7_laysTrial_60 : decode cX7_laysTrial 60 = .ok (.aload_n 0, 1) := by decide +kernel
theorem dX7_laysTrial_61 : decode cX7_laysTrial 61 = .ok (.getfield 49, 3) := by decide +kernel
theorem dX7_laysTrial_64 : decode cX7_laysTrial 64 = .ok (.iload_n 1, 1) := by decide +kernel
theorem dX7_laysTrial_65 : decode cX7_laysTrial 65 = .ok (.baload, 1) := by decide +kernel
theorem dX7_laysTrial_66 : decode cX7_laysTrial 66 = .ok (.invokestatic 159, 3) := by decide +kernel
theorem dX7_laysTrial_69 : decode cX7_laysTrial 69 = .ok (.iaload, 1) := by decide +kernel
theorem dX7_laysTrial_70 : decode cX7_laysTrial 70 = .ok (.putfield 122, 3) := by decide +kernel
theorem dX7_laysTrial_73 : decode cX7_laysTrial 73 = .ok (.return_, 1) := by decide +kernel
theorem dX7_trayFor_0 : decode cX7_trayFor 0 = .ok (.bipush (-2), 2) := by decide +kernel
theorem dX7_trayFor_2 : decode cX7_trayFor 2 = .ok (.istore_n 3, 1) := by decide +kernel
theorem dX7_trayFor_3 : decode cX7_trayFor 3 = .ok (.aload_n 0, 1) := by decide +kernel
theorem dX7_trayFor_4 : decode cX7_trayFor 4 = .ok (.getfield 16, 3) := by decide +kernel
theorem dX7_trayFor_7 : decode cX7_trayFor 7 = .ok (.iload_n 2, 1) := by decide +kernel
theorem dX7_trayFor_8 : decode cX7_trayFor 8 = .ok (.iaload, 1) := by decide +kernel
theorem dX7_trayFor_9 : decode cX7_trayFor 9 = .ok (.iconst 1, 1) := by decide +kernel
theorem dX7_trayFor_10 : decode cX7_trayFor 10 = .ok (.isub, 1) := by decide +kernel
theorem dX7_trayFor_11 : decode cX7_trayFor 11 = .ok (.istore 4, 2) := by decide +kernel
theorem dX7_trayFor_13 : decode cX7_trayFor 13 = .ok (.iload 4, 2) := by decide +kernel
theorem dX7_trayFor_15 : decode cX7_trayFor 15 = .ok (.ifCond .lt 56, 3) := by decide +kernel
theorem dX7_trayFor_18 : decode cX7_trayFor 18 = .ok (.aload_n 0, 1) := by decide +kernel
theorem dX7_trayFor_19 : decode cX7_trayFor 19 = .ok (.getfield 35, 3) := by decide +kernel
theorem dX7_trayFor_22 : decode cX7_trayFor 22 = .ok (.iconst 3, 1) := by decide +kernel
theorem dX7_trayFor_23 : decode cX7_trayFor 23 = .ok (.iload_n 2, 1) := by decide +kernel
theorem dX7_trayFor_24 : decode cX7_trayFor 24 = .ok (.imul, 1) := by decide +kernel
theorem dX7_trayFor_25 : decode cX7_trayFor 25 = .ok (.iload 4, 2) := by decide +kernel
theorem dX7_trayFor_27 : decode cX7_trayFor 27 = .ok (.iadd, 1) := by decide +kernel
theorem dX7_trayFor_28 : decode cX7_trayFor 28 = .ok (.caload, 1) := by decide +kernel
theorem dX7_trayFor_29 : decode cX7_trayFor 29 = .ok (.aload_n 0, 1) := by decide +kernel
theorem dX7_trayFor_30 : decode cX7_trayFor 30 = .ok (.getfield 39, 3) := by decide +kernel
theorem dX7_trayFor_33 : decode cX7_trayFor 33 = .ok (.iload_n 1, 1) := by decide +kernel
theorem dX7_trayFor_34 : decode cX7_trayFor 34 = .ok (.caload, 1) := by decide +kernel
theorem dX7_trayFor_35 : decode cX7_trayFor 35 = .ok (.if_icmp .eq 6, 3) := by decide +kernel
theorem dX7_trayFor_38 : decode cX7_trayFor 38 = .ok (.goto 27, 3) := by decide +kernel
theorem dX7_trayFor_41 : decode cX7_trayFor 41 = .ok (.aload_n 0, 1) := by decide +kernel
theorem dX7_trayFor_42 : decode cX7_trayFor 42 = .ok (.getfield 88, 3) := by decide +kernel
theorem dX7_trayFor_45 : decode cX7_trayFor 45 = .ok (.iload 4, 2) := by decide +kernel
theorem dX7_trayFor_47 : decode cX7_trayFor 47 = .ok (.iaload, 1) := by decide +kernel
theorem dX7_trayFor_48 : decode cX7_trayFor 48 = .ok (.ifCond .le 9, 3) := by decide +kernel
theorem dX7_trayFor_51 : decode cX7_trayFor 51 = .ok (.iload 4, 2) := by decide +kernel
theorem dX7_trayFor_53 : decode cX7_trayFor 53 = .ok (.istore_n 3, 1) := by decide +kernel
theorem dX7_trayFor_54 : decode cX7_trayFor 54 = .ok (.goto 11, 3) := by decide +kernel
theorem dX7_trayFor_57 : decode cX7_trayFor 57 = .ok (.iload_n 3, 1) := by decide +kernel
theorem dX7_trayFor_58 : decode cX7_trayFor 58 = .ok (.bipush (-2), 2) := by decide +kernel
theorem dX7_trayFor_60 : decode cX7_trayFor 60 = .ok (.if_icmp .ne 5, 3) := by decide +kernel
theorem dX7_trayFor_63 : decode cX7_trayFor 63 = .ok (.iconst (-1), 1) := by decide +kernel
theorem dX7_trayFor_64 : decode cX7_trayFor 64 = .ok (.istore_n 3, 1) := by decide +kernel
theorem dX7_trayFor_65 : decode cX7_trayFor 65 = .ok (.iinc 4 (-1), 3) := by decide +kernel
theorem dX7_trayFor_68 : decode cX7_trayFor 68 = .ok (.goto (-55), 3) := by decide +kernel
theorem dX7_trayFor_71 : decode cX7_trayFor 71 = .ok (.iload_n 3, 1) := by decide +kernel
theorem dX7_trayFor_72 : decode cX7_trayFor 72 = .ok (.ireturn, 1) := by decide +kernel
set_option maxRecDepth 20000 in
theorem ggX7_reason_X7_allSheets : GoodIn wsX7_reason wsX7_allSheets := goodIn_ca (goodIn_r _ [11, 12, 13, 14, 15, 10, 16, 17, 18, 31, 32, 33, 34, 35, 36, 37, 38, 39, 40, 41, 42, 43, 44, 45, 46, 47, 48, 49, 50, 51, 52, 53, 54, 55, 56, 57, 58, 59, 60, 61, 62, 63, 64, 65, 66, 67, 68] (by decide +kernel) (by decide +kernel)) (goodIn_sub (fun _ h => List.mem_cons_of_mem _ (List.mem_append_left _ (List.mem_append_right _ h))) (by decide +kernel))
set_option maxRecDepth 20000 in
theorem gX7_reason_X7_allSheets : GoodIn wsX7_reason (wsV RX7 170 RX7 yX7_allSheets wsX7_allSheets) := goodIn_app (goodIn_of _ (by decide +kernel)) ggX7_reason_X7_allSheets
set_option maxRecDepth 20000 in
theorem ggX7_reason_X7_trayFor : GoodIn wsX7_reason wsX7_trayFor := goodIn_ca (goodIn_r _ [22, 23, 24, 25, 26, 31, 32, 33, 34, 35, 36, 37, 38, 39, 40, 41, 42, 43, 44, 45, 46, 47, 48, 49, 50, 51, 52, 53, 54, 55, 56, 57, 58, 59, 60, 61, 62, 63, 64, 65, 66, 67, 68] (by decide +kernel) (by decide +kernel)) (goodIn_sub (fun _ h => List.mem_cons_of_mem _ (List.mem_append_left _ (List.mem_append_right _ h))) (by decide +kernel))
set_option maxRecDepth 20000 in
theorem gX7_reason_X7_trayFor : GoodIn wsX7_reason (wsV RX7 183 RX7 yX7_trayFor wsX7_trayFor) := goodIn_app (goodIn_of _ (by decide +kernel)) ggX7_reason_X7_trayFor
set_option maxRecDepth 20000 in
theorem ggX7_reason_X7_pagesOn : GoodIn wsX7_reason wsX7_pagesOn := goodIn_ca (goodIn_ca (goodIn_r _ [30, 17, 18, 13, 14, 15, 10, 16, 31, 32, 33, 34, 35, 36, 37, 38, 39, 40, 41, 42, 43, 44, 45, 46, 47, 48, 49, 50, 51, 52, 53, 54, 55, 56, 57, 58, 59, 60, 61, 62, 63, 64, 65, 66, 67, 68] (by decide +kernel) (by decide +kernel)) (goodIn_sub (fun _ h => List.mem_cons_of_mem _ (List.mem_append_left _ (List.mem_append_right _ h))) (by decide +kernel))) (goodIn_sub (fun _ h => List.mem_cons_of_mem _ (List.mem_append_right _ h)) (by decide +kernel))
set_option maxRecDepth 20000 in
theorem gX7_reason_X7_pagesOn : GoodIn wsX7_reason (wsV RX7 186 RX7 yX7_pagesOn wsX7_pagesOn) := goodIn_app (goodIn_of _ (by decide +kernel)) ggX7_reason_X7_pagesOn
theorem dX7_reason_0 : decode cX7_reason 0 = .ok (.iload_n 3, 1) := by decide +kernel
theorem dX7_reason_1 : decode cX7_reason 1 = .ok (.aload_n 0, 1) := by decide +kernel
theorem dX7_reason_2 : decode cX7_reason 2 = .ok (.iload_n 1, 1) := by decide +kernel
theorem dX7_reason_3 : decode cX7_reason 3 = .ok (.invokevirtual 170, 3) := by decide +kernel
theorem dX7_reason_6 : decode cX7_reason 6 = .ok (.if_icmp .ne 6, 3) := by decide +kernel
theorem dX7_reason_9 : decode cX7_reason 9 = .ok (.bipush 100, 2) := by decide +kernel
theorem dX7_reason_11 : decode cX7_reason 11 = .ok (.ireturn, 1) := by decide +kernel
theorem dX7_reason_12 : decode cX7_reason 12 = .ok (.aload_n 0, 1) := by decide +kernel
theorem dX7_reason_13 : decode cX7_reason 13 = .ok (.getfield 58, 3) := by decide +kernel
theorem dX7_reason_16 : decode cX7_reason 16 = .ok (.iload_n 1, 1) := by decide +kernel
theorem dX7_reason_17 : decode cX7_reason 17 = .ok (.baload, 1) := by decide +kernel
theorem dX7_reason_18 : decode cX7_reason 18 = .ok (.ifCond .eq 6, 3) := by decide +kernel
theorem dX7_reason_21 : decode cX7_reason 21 = .ok (.bipush 120, 2) := by decide +kernel
theorem dX7_reason_23 : decode cX7_reason 23 = .ok (.ireturn, 1) := by decide +kernel
theorem dX7_reason_24 : decode cX7_reason 24 = .ok (.aload_n 0, 1) := by decide +kernel
theorem dX7_reason_25 : decode cX7_reason 25 = .ok (.getfield 49, 3) := by decide +kernel
theorem dX7_reason_28 : decode cX7_reason 28 = .ok (.iload_n 1, 1) := by decide +kernel
theorem dX7_reason_29 : decode cX7_reason 29 = .ok (.baload, 1) := by decide +kernel
theorem dX7_reason_30 : decode cX7_reason 30 = .ok (.ifCond .eq 15, 3) := by decide +kernel
theorem dX7_reason_33 : decode cX7_reason 33 = .ok (.aload_n 0, 1) := by decide +kernel
theorem dX7_reason_34 : decode cX7_reason 34 = .ok (.getfield 45, 3) := by decide +kernel
theorem dX7_reason_37 : decode cX7_reason 37 = .ok (.iload_n 2, 1) := by decide +kernel
theorem dX7_reason_38 : decode cX7_reason 38 = .ok (.baload, 1) := by decide +kernel
theorem dX7_reason_39 : decode cX7_reason 39 = .ok (.ifCond .ne 6, 3) := by decide +kernel
theorem dX7_reason_42 : decode cX7_reason 42 = .ok (.bipush 110, 2) := by decide +kernel
theorem dX7_reason_44 : decode cX7_reason 44 = .ok (.ireturn, 1) := by decide +kernel
theorem dX7_reason_45 : decode cX7_reason 45 = .ok (.aload_n 0, 1) := by decide +kernel
theorem dX7_reason_46 : decode cX7_reason 46 = .ok (.iload_n 1, 1) := by decide +kernel
theorem dX7_reason_47 : decode cX7_reason 47 = .ok (.iload_n 2, 1) := by decide +kernel
theorem dX7_reason_48 : decode cX7_reason 48 = .ok (.invokevirtual 183, 3) := by decide +kernel
theorem dX7_reason_51 : decode cX7_reason 51 = .ok (.istore 4, 2) := by decide +kernel
theorem dX7_reason_53 : decode cX7_reason 53 = .ok (.iload 4, 2) := by decide +kernel
theorem dX7_reason_55 : decode cX7_reason 55 = .ok (.ifCond .ge 17, 3) := by decide +kernel
theorem dX7_reason_58 : decode cX7_reason 58 = .ok (.iload 4, 2) := by decide +kernel
theorem dX7_reason_60 : decode cX7_reason 60 = .ok (.iconst (-1), 1) := by decide +kernel
theorem dX7_reason_61 : decode cX7_reason 61 = .ok (.if_icmp .ne 8, 3) := by decide +kernel
theorem dX7_reason_64 : decode cX7_reason 64 = .ok (.bipush 112, 2) := by decide +kernel
theorem dX7_reason_66 : decode cX7_reason 66 = .ok (.goto 5, 3) := by decide +kernel
theorem dX7_reason_69 : decode cX7_reason 69 = .ok (.bipush 107, 2) := by decide +kernel
theorem dX7_reason_71 : decode cX7_reason 71 = .ok (.ireturn, 1) := by decide +kernel
theorem dX7_reason_72 : decode cX7_reason 72 = .ok (.aload_n 0, 1) := by decide +kernel
theorem dX7_reason_73 : decode cX7_reason 73 = .ok (.iload_n 1, 1) := by decide +kernel
theorem dX7_reason_74 : decode cX7_reason 74 = .ok (.iload_n 3, 1) := by decide +kernel
theorem dX7_reason_75 : decode cX7_reason 75 = .ok (.invokevirtual 186, 3) := by decide +kernel
theorem dX7_reason_78 : decode cX7_reason 78 = .ok (.istore 5, 2) := by decide +kernel
theorem dX7_reason_80 : decode cX7_reason 80 = .ok (.aload_n 0, 1) := by decide +kernel
theorem dX7_reason_81 : decode cX7_reason 81 = .ok (.getfield 116, 3) := by decide +kernel
theorem dX7_reason_84 : decode cX7_reason 84 = .ok (.aload_n 0, 1) := by decide +kernel
theorem dX7_reason_85 : decode cX7_reason 85 = .ok (.getfield 49, 3) := by decide +kernel
theorem dX7_reason_88 : decode cX7_reason 88 = .ok (.iload_n 1, 1) := by decide +kernel
theorem dX7_reason_89 : decode cX7_reason 89 = .ok (.baload, 1) := by decide +kernel
theorem dX7_reason_90 : decode cX7_reason 90 = .ok (.ifCond .eq 8, 3) := by decide +kernel
theorem dX7_reason_93 : decode cX7_reason 93 = .ok (.iload 5, 2) := by decide +kernel
theorem dX7_reason_95 : decode cX7_reason 95 = .ok (.goto 7, 3) := by decide +kernel
theorem dX7_reason_98 : decode cX7_reason 98 = .ok (.iconst 2, 1) := by decide +kernel
theorem dX7_reason_99 : decode cX7_reason 99 = .ok (.iload 5, 2) := by decide +kernel
theorem dX7_reason_101 : decode cX7_reason 101 = .ok (.imul, 1) := by decide +kernel
theorem dX7_reason_102 : decode cX7_reason 102 = .ok (.if_icmp .ge 6, 3) := by decide +kernel
theorem dX7_reason_105 : decode cX7_reason 105 = .ok (.bipush 116, 2) := by decide +kernel
theorem dX7_reason_107 : decode cX7_reason 107 = .ok (.ireturn, 1) := by decide +kernel
theorem dX7_reason_108 : decode cX7_reason 108 = .ok (.aload_n 0, 1) := by decide +kernel
theorem dX7_reason_109 : decode cX7_reason 109 = .ok (.getfield 49, 3) := by decide +kernel
theorem dX7_reason_112 : decode cX7_reason 112 = .ok (.iload_n 1, 1) := by decide +kernel
theorem dX7_reason_113 : decode cX7_reason 113 = .ok (.baload, 1) := by decide +kernel
theorem dX7_reason_114 : decode cX7_reason 114 = .ok (.ifCond .eq 17, 3) := by decide +kernel
theorem dX7_reason_117 : decode cX7_reason 117 = .ok (.aload_n 0, 1) := by decide +kernel
theorem dX7_reason_118 : decode cX7_reason 118 = .ok (.getfield 119, 3) := by decide +kernel
theorem dX7_reason_121 : decode cX7_reason 121 = .ok (.iconst 3, 1) := by decide +kernel
theorem dX7_reason_122 : decode cX7_reason 122 = .ok (.iload 5, 2) := by decide +kernel
theorem dX7_reason_124 : decode cX7_reason 124 = .ok (.imul, 1) := by decide +kernel
theorem dX7_reason_125 : decode cX7_reason 125 = .ok (.if_icmp .ge 6, 3) := by decide +kernel
theorem dX7_reason_128 : decode cX7_reason 128 = .ok (.bipush 99, 2) := by decide +kernel
theorem dX7_reason_130 : decode cX7_reason 130 = .ok (.ireturn, 1) := by decide +kernel
theorem dX7_reason_131 : decode cX7_reason 131 = .ok (.aload_n 0, 1) := by decide +kernel
theorem dX7_reason_132 : decode cX7_reason 132 = .ok (.getfield 122, 3) := by decide +kernel
theorem dX7_reason_135 : decode cX7_reason 135 = .ok (.iload 5, 2) := by decide +kernel
theorem dX7_reason_137 : decode cX7_reason 137 = .ok (.if_icmp .ge 8, 3) := by decide +kernel
theorem dX7_reason_140 : decode cX7_reason 140 = .ok (.bipush 113, 2) := by decide +kernel
theorem dX7_reason_142 : decode cX7_reason 142 = .ok (.goto 5, 3) := by decide +kernel
theorem dX7_reason_145 : decode cX7_reason 145 = .ok (.bipush 45, 2) := by decide +kernel
theorem dX7_reason_147 : decode cX7_reason 147 = .ok (.ireturn, 1) := by decide +kernel
set_option maxRecDepth 20000 in
theorem ggX7_takes_X7_pagesOn : GoodIn wsX7_takes wsX7_pagesOn := goodIn_ca (goodIn_ca (goodIn_r _ [10, 11, 12, 13, 14, 15, 9, 16, 24, 25, 26, 27, 28, 29, 30, 31, 32, 33, 34, 35, 36, 37, 38, 39, 40, 41, 42, 43, 44, 45, 46, 47, 48, 49, 50, 51, 52, 53, 54, 55, 56, 57, 58, 59, 60, 61] (by decide +kernel) (by decide +kernel)) (goodIn_sub (fun _ h => List.mem_cons_of_mem _ (List.mem_append_left _ (List.mem_append_right _ h))) (by decide +kernel))) (goodIn_sub (fun _ h => List.mem_cons_of_mem _ (List.mem_append_right _ h)) (by decide +kernel))
set_option maxRecDepth 20000 in
theorem gX7_takes_X7_pagesOn : GoodIn wsX7_takes (wsV RX7 186 RX7 yX7_pagesOn wsX7_pagesOn) := goodIn_app (goodIn_of _ (by decide +kernel)) ggX7_takes_X7_pagesOn
set_option maxRecDepth 20000 in
theorem ggX7_takes_X7_trayFor : GoodIn wsX7_takes wsX7_trayFor := goodIn_ca (goodIn_r _ [20, 21, 22, 23, 1, 24, 25, 26, 27, 28, 29, 30, 31, 32, 33, 34, 35, 36, 37, 38, 39, 40, 41, 42, 43, 44, 45, 46, 47, 48, 49, 50, 51, 52, 53, 54, 55, 56, 57, 58, 59, 60, 61] (by decide +kernel) (by decide +kernel)) (goodIn_sub (fun _ h => List.mem_cons_of_mem _ (List.mem_append_left _ (List.mem_append_right _ h))) (by decide +kernel))
set_option maxRecDepth 20000 in
theorem gX7_takes_X7_trayFor : GoodIn wsX7_takes (wsV RX7 183 RX7 yX7_trayFor wsX7_trayFor) := goodIn_app (goodIn_of _ (by decide +kernel)) ggX7_takes_X7_trayFor
theorem dX7_takes_0 : decode cX7_takes 0 = .ok (.aload_n 0, 1) := by decide +kernel
theorem dX7_takes_1 : decode cX7_takes 1 = .ok (.iload_n 1, 1) := by decide +kernel
theorem dX7_takes_2 : decode cX7_takes 2 = .ok (.iload_n 3, 1) := by decide +kernel
theorem dX7_takes_3 : decode cX7_takes 3 = .ok (.invokevirtual 186, 3) := by decide +kernel
theorem dX7_takes_6 : decode cX7_takes 6 = .ok (.istore 4, 2) := by decide +kernel
theorem dX7_takes_8 : decode cX7_takes 8 = .ok (.aload_n 0, 1) := by decide +kernel
theorem dX7_takes_9 : decode cX7_takes 9 = .ok (.getfield 88, 3) := by decide +kernel
theorem dX7_takes_12 : decode cX7_takes 12 = .ok (.aload_n 0, 1) := by decide +kernel
theorem dX7_takes_13 : decode cX7_takes 13 = .ok (.iload_n 1, 1) := by decide +kernel
theorem dX7_takes_14 : decode cX7_takes 14 = .ok (.iload_n 2, 1) := by decide +kernel
theorem dX7_takes_15 : decode cX7_takes 15 = .ok (.invokevirtual 183, 3) := by decide +kernel
theorem dX7_takes_18 : decode cX7_takes 18 = .ok (.dup2, 1) := by decide +kernel
theorem dX7_takes_19 : decode cX7_takes 19 = .ok (.iaload, 1) := by decide +kernel
theorem dX7_takes_20 : decode cX7_takes 20 = .ok (.iconst 1, 1) := by decide +kernel
theorem dX7_takes_21 : decode cX7_takes 21 = .ok (.isub, 1) := by decide +kernel
theorem dX7_takes_22 : decode cX7_takes 22 = .ok (.iastore, 1) := by decide +kernel
theorem dX7_takes_23 : decode cX7_takes 23 = .ok (.aload_n 0, 1) := by decide +kernel
theorem dX7_takes_24 : decode cX7_takes 24 = .ok (.dup, 1) := by decide +kernel
theorem dX7_takes_25 : decode cX7_takes 25 = .ok (.getfield 116, 3) := by decide +kernel
theorem dX7_takes_28 : decode cX7_takes 28 = .ok (.aload_n 0, 1) := by decide +kernel
theorem dX7_takes_29 : decode cX7_takes 29 = .ok (.getfield 49, 3) := by decide +kernel
theorem dX7_takes_32 : decode cX7_takes 32 = .ok (.iload_n 1, 1) := by decide +kernel
theorem dX7_takes_33 : decode cX7_takes 33 = .ok (.baload, 1) := by decide +kernel
theorem dX7_takes_34 : decode cX7_takes 34 = .ok (.ifCond .eq 8, 3) := by decide +kernel
theorem dX7_takes_37 : decode cX7_takes 37 = .ok (.iload 4, 2) := by decide +kernel
theorem dX7_takes_39 : decode cX7_takes 39 = .ok (.goto 7, 3) := by decide +kernel
theorem dX7_takes_42 : decode cX7_takes 42 = .ok (.iconst 2, 1) := by decide +kernel
theorem dX7_takes_43 : decode cX7_takes 43 = .ok (.iload 4, 2) := by decide +kernel
theorem dX7_takes_45 : decode cX7_takes 45 = .ok (.imul, 1) := by decide +kernel
theorem dX7_takes_46 : decode cX7_takes 46 = .ok (.isub, 1) := by decide +kernel
theorem dX7_takes_47 : decode cX7_takes 47 = .ok (.putfield 116, 3) := by decide +kernel
theorem dX7_takes_50 : decode cX7_takes 50 = .ok (.aload_n 0, 1) := by decide +kernel
theorem dX7_takes_51 : decode cX7_takes 51 = .ok (.dup, 1) := by decide +kernel
theorem dX7_takes_52 : decode cX7_takes 52 = .ok (.getfield 119, 3) := by decide +kernel
theorem dX7_takes_55 : decode cX7_takes 55 = .ok (.aload_n 0, 1) := by decide +kernel
theorem dX7_takes_56 : decode cX7_takes 56 = .ok (.getfield 49, 3) := by decide +kernel
theorem dX7_takes_59 : decode cX7_takes 59 = .ok (.iload_n 1, 1) := by decide +kernel
theorem dX7_takes_60 : decode cX7_takes 60 = .ok (.baload, 1) := by decide +kernel
theorem dX7_takes_61 : decode cX7_takes 61 = .ok (.ifCond .eq 10, 3) := by decide +kernel
theorem dX7_takes_64 : decode cX7_takes 64 = .ok (.iconst 3, 1) := by decide +kernel
theorem dX7_takes_65 : decode cX7_takes 65 = .ok (.iload 4, 2) := by decide +kernel
theorem dX7_takes_67 : decode cX7_takes 67 = .ok (.imul, 1) := by decide +kernel
theorem dX7_takes_68 : decode cX7_takes 68 = .ok (.goto 4, 3) := by decide +kernel
theorem dX7_takes_71 : decode cX7_takes 71 = .ok (.iconst 0, 1) := by decide +kernel
theorem dX7_takes_72 : decode cX7_takes 72 = .ok (.isub, 1) := by decide +kernel
theorem dX7_takes_73 : decode cX7_takes 73 = .ok (.putfield 119, 3) := by decide +kernel
theorem dX7_takes_76 : decode cX7_takes 76 = .ok (.aload_n 0, 1) := by decide +kernel
theorem dX7_takes_77 : decode cX7_takes 77 = .ok (.dup, 1) := by decide +kernel
theorem dX7_takes_78 : decode cX7_takes 78 = .ok (.getfield 122, 3) := by decide +kernel
theorem dX7_takes_81 : decode cX7_takes 81 = .ok (.iload 4, 2) := by decide +kernel
theorem dX7_takes_83 : decode cX7_takes 83 = .ok (.isub, 1) := by decide +kernel
theorem dX7_takes_84 : decode cX7_takes 84 = .ok (.putfield 122, 3) := by decide +kernel
theorem dX7_takes_87 : decode cX7_takes 87 = .ok (.return_, 1) := by decide +kernel
set_option maxRecDepth 20000 in
theorem ggX7_tried_X7_laysTrial : GoodIn wsX7_tried wsX7_laysTrial := goodIn_ca (goodIn_r _ [6, 7, 8, 9, 10, 11, 12, 13, 14, 15, 16, 17, 18, 5, 19, 52, 53, 54, 55, 56, 57, 58, 59, 60, 61, 62, 63, 64, 65, 66, 67, 68, 69, 70, 71, 72, 73, 74, 75, 76, 77, 78, 79, 80, 81, 82, 83, 84, 85, 86, 87, 88, 89] (by decide +kernel) (by decide +kernel)) (goodIn_sub (fun _ h => List.mem_cons_of_mem _ (List.mem_append_left _ (List.mem_append_right _ h))) (by decide +kernel))
set_option maxRecDepth 20000 in
theorem gX7_tried_X7_laysTrial : GoodIn wsX7_tried (wsV RX7 189 RX7 yX7_laysTrial wsX7_laysTrial) := goodIn_app (goodIn_of _ (by decide +kernel)) ggX7_tried_X7_laysTrial
set_option maxRecDepth 20000 in
theorem ggX7_tried_X7_reason : GoodIn wsX7_tried wsX7_reason := goodIn_ca (goodIn_ca (goodIn_r _ [23, 24, 15, 25, 10, 12, 16, 26, 27, 28, 5, 29, 30, 31, 32, 33, 34, 35, 36, 37, 38, 39, 40, 41, 42, 43, 7, 44, 45, 46, 47, 52, 53, 54, 55, 56, 57, 58, 59, 60, 61, 62, 63, 64, 65, 66, 67, 68, 69, 70, 71, 72, 73, 74, 75, 76, 77, 78, 79, 80, 81, 82, 83, 84, 85, 86, 87, 88, 89] (by decide +kernel) (by decide +kernel)) (goodIn_sub (fun _ h => List.mem_cons_of_mem _ (List.mem_append_left _ (List.mem_append_right _ h))) (by decide +kernel))) (goodIn_sub (fun _ h => List.mem_cons_of_mem _ (List.mem_append_right _ h)) (by decide +kernel))
set_option maxRecDepth 20000 in
theorem gX7_tried_X7_reason : GoodIn wsX7_tried (wsV RX7 193 RX7 yX7_reason wsX7_reason) := goodIn_app (goodIn_of _ (by decide +kernel)) ggX7_tried_X7_reason
set_option maxRecDepth 20000 in
theorem ggX7_tried_X7_takes : GoodIn wsX7_tried wsX7_takes := goodIn_ca (goodIn_ca (goodIn_r _ [51, 7, 10, 15, 12, 16, 44, 45, 46, 5, 47, 35, 36, 31, 32, 33, 34, 37, 38, 39, 40, 41, 42, 43, 52, 53, 54, 55, 56, 57, 58, 59, 60, 61, 62, 63, 64, 65, 66, 67, 68, 69, 70, 71, 72, 73, 74, 75, 76, 77, 78, 79, 80, 81, 82, 83, 84, 85, 86, 87, 88, 89] (by decide +kernel) (by decide +kernel)) (goodIn_sub (fun _ h => List.mem_cons_of_mem _ (List.mem_append_left _ (List.mem_append_right _ h))) (by decide +kernel))) (goodIn_sub (fun _ h => List.mem_cons_of_mem _ (List.mem_append_right _ h)) (by decide +kernel))
set_option maxRecDepth 20000 in
theorem gX7_tried_X7_takes : GoodIn wsX7_tried (wsV RX7 197 RX7 yX7_takes wsX7_takes) := goodIn_app (goodIn_of _ (by decide +kernel)) ggX7_tried_X7_takes
theorem dX7_tried_0 : decode cX7_tried 0 = .ok (.aload_n 0, 1) := by decide +kernel
theorem dX7_tried_1 : decode cX7_tried 1 = .ok (.iload_n 1, 1) := by decide +kernel
theorem dX7_tried_2 : decode cX7_tried 2 = .ok (.iload_n 2, 1) := by decide +kernel
theorem dX7_tried_3 : decode cX7_tried 3 = .ok (.invokevirtual 189, 3) := by decide +kernel
theorem dX7_tried_6 : decode cX7_tried 6 = .ok (.aload_n 0, 1) := by decide +kernel
theorem dX7_tried_7 : decode cX7_tried 7 = .ok (.getfield 70, 3) := by decide +kernel
theorem dX7_tried_10 : decode cX7_tried 10 = .ok (.iload_n 1, 1) := by decide +kernel
theorem dX7_tried_11 : decode cX7_tried 11 = .ok (.iaload, 1) := by decide +kernel
theorem dX7_tried_12 : decode cX7_tried 12 = .ok (.istore_n 3, 1) := by decide +kernel
theorem dX7_tried_13 : decode cX7_tried 13 = .ok (.aload_n 0, 1) := by decide +kernel
theorem dX7_tried_14 : decode cX7_tried 14 = .ok (.iload_n 1, 1) := by decide +kernel
theorem dX7_tried_15 : decode cX7_tried 15 = .ok (.iload_n 2, 1) := by decide +kernel
theorem dX7_tried_16 : decode cX7_tried 16 = .ok (.iload_n 3, 1) := by decide +kernel
theorem dX7_tried_17 : decode cX7_tried 17 = .ok (.invokevirtual 193, 3) := by decide +kernel
theorem dX7_tried_20 : decode cX7_tried 20 = .ok (.bipush 45, 2) := by decide +kernel
theorem dX7_tried_22 : decode cX7_tried 22 = .ok (.if_icmp .ne 16, 3) := by decide +kernel
theorem dX7_tried_25 : decode cX7_tried 25 = .ok (.aload_n 0, 1) := by decide +kernel
theorem dX7_tried_26 : decode cX7_tried 26 = .ok (.iload_n 1, 1) := by decide +kernel
theorem dX7_tried_27 : decode cX7_tried 27 = .ok (.iload_n 2, 1) := by decide +kernel
theorem dX7_tried_28 : decode cX7_tried 28 = .ok (.iload_n 3, 1) := by decide +kernel
theorem dX7_tried_29 : decode cX7_tried 29 = .ok (.invokevirtual 197, 3) := by decide +kernel
theorem dX7_tried_32 : decode cX7_tried 32 = .ok (.iinc 3 1, 3) := by decide +kernel
theorem dX7_tried_35 : decode cX7_tried 35 = .ok (.goto (-22), 3) := by decide +kernel
theorem dX7_tried_38 : decode cX7_tried 38 = .ok (.iload_n 3, 1) := by decide +kernel
theorem dX7_tried_39 : decode cX7_tried 39 = .ok (.ireturn, 1) := by decide +kernel
set_option maxRecDepth 20000 in
theorem ggX7_reasonFor_X7_isJob : GoodIn wsX7_reasonFor wsX7_isJob := goodIn_r _ [6, 7, 8, 9, 5, 10, 66, 67, 68, 69, 70, 71, 72, 73, 74, 75, 76, 77, 78, 79, 80, 81, 82, 83, 84, 85, 86, 87, 88, 89, 90, 91, 92, 93, 94, 95, 96, 97, 98, 99, 100, 101, 102, 103] (by decide +kernel) (by decide +kernel)
set_option maxRecDepth 20000 in
theorem gX7_reasonFor_X7_isJob : GoodIn wsX7_reasonFor (wsV RX7 163 RX7 yX7_isJob wsX7_isJob) := goodIn_app (goodIn_of _ (by decide +kernel)) ggX7_reasonFor_X7_isJob
set_option maxRecDepth 20000 in
theorem ggX7_reasonFor_X7_isPrinter : GoodIn wsX7_reasonFor wsX7_isPrinter := goodIn_r _ [14, 15, 8, 9, 5, 10, 66, 67, 68, 69, 70, 71, 72, 73, 74, 75, 76, 77, 78, 79, 80, 81, 82, 83, 84, 85, 86, 87, 88, 89, 90, 91, 92, 93, 94, 95, 96, 97, 98, 99, 100, 101, 102, 103] (by decide +kernel) (by decide +kernel)
set_option maxRecDepth 20000 in
theorem gX7_reasonFor_X7_isPrinter : GoodIn wsX7_reasonFor (wsV RX7 140 RX7 yX7_isPrinter wsX7_isPrinter) := goodIn_app (goodIn_of _ (by decide +kernel)) ggX7_reasonFor_X7_isPrinter
set_option maxRecDepth 20000 in
theorem ggX7_reasonFor_X7_checked : GoodIn wsX7_reasonFor wsX7_checked := goodIn_r _ [19, 20, 66, 67, 68, 69, 70, 71, 72, 73, 74, 75, 76, 77, 78, 79, 80, 81, 82, 83, 84, 85, 86, 87, 88, 89, 90, 91, 92, 93, 94, 95, 96, 97, 98, 99, 100, 101, 102, 103] (by decide +kernel) (by decide +kernel)
set_option maxRecDepth 20000 in
theorem gX7_reasonFor_X7_checked : GoodIn wsX7_reasonFor (wsV RX7 148 RX7 yX7_checked wsX7_checked) := goodIn_app (goodIn_of _ (by decide +kernel)) ggX7_reasonFor_X7_checked
set_option maxRecDepth 20000 in
theorem ggX7_reasonFor_X7_laysTrial : GoodIn wsX7_reasonFor wsX7_laysTrial := goodIn_ca (goodIn_r _ [24, 25, 26, 27, 28, 29, 30, 31, 32, 33, 34, 35, 36, 5, 37, 66, 67, 68, 69, 70, 71, 72, 73, 74, 75, 76, 77, 78, 79, 80, 81, 82, 83, 84, 85, 86, 87, 88, 89, 90, 91, 92, 93, 94, 95, 96, 97, 98, 99, 100, 101, 102, 103] (by decide +kernel) (by decide +kernel)) (goodIn_sub (fun _ h => List.mem_cons_of_mem _ (List.mem_append_left _ (List.mem_append_right _ h))) (by decide +kernel))
set_option maxRecDepth 20000 in
theorem gX7_reasonFor_X7_laysTrial : GoodIn wsX7_reasonFor (wsV RX7 189 RX7 yX7_laysTrial wsX7_laysTrial) := goodIn_app (goodIn_of _ (by decide +kernel)) ggX7_reasonFor_X7_laysTrial
set_option maxRecDepth 20000 in
theorem ggX7_reasonFor_X7_reason : GoodIn wsX7_reasonFor wsX7_reason := goodIn_ca (goodIn_ca (goodIn_r _ [41, 42, 33, 43, 28, 30, 34, 44, 45, 46, 5, 47, 48, 49, 50, 51, 52, 53, 54, 55, 56, 57, 58, 59, 60, 61, 25, 62, 63, 64, 65, 66, 67, 68, 69, 70, 71, 72, 73, 74, 75, 76, 77, 78, 79, 80, 81, 82, 83, 84, 85, 86, 87, 88, 89, 90, 91, 92, 93, 94, 95, 96, 97, 98, 99, 100, 101, 102, 103] (by decide +kernel) (by decide +kernel)) (goodIn_sub (fun _ h => List.mem_cons_of_mem _ (List.mem_append_left _ (List.mem_append_right _ h))) (by decide +kernel))) (goodIn_sub (fun _ h => List.mem_cons_of_mem _ (List.mem_append_right _ h)) (by decide +kernel))
set_option maxRecDepth 20000 in
theorem gX7_reasonFor_X7_reason : GoodIn wsX7_reasonFor (wsV RX7 193 RX7 yX7_reason wsX7_reason) := goodIn_app (goodIn_of _ (by decide +kernel)) ggX7_reasonFor_X7_reason
theorem dX7_reasonFor_0 : decode cX7_reasonFor 0 = .ok (.aload_n 0, 1) := by decide +kernel
theorem dX7_reasonFor_1 : decode cX7_reasonFor 1 = .ok (.aload_n 0, 1) := by decide +kernel
theorem dX7_reasonFor_2 : decode cX7_reasonFor 2 = .ok (.iload_n 1, 1) := by decide +kernel
theorem dX7_reasonFor_3 : decode cX7_reasonFor 3 = .ok (.invokevirtual 163, 3) := by decide +kernel
theorem dX7_reasonFor_6 : decode cX7_reasonFor 6 = .ok (.ifCond .eq 15, 3) := by decide +kernel
theorem dX7_reasonFor_9 : decode cX7_reasonFor 9 = .ok (.aload_n 0, 1) := by decide +kernel
theorem dX7_reasonFor_10 : decode cX7_reasonFor 10 = .ok (.iload_n 2, 1) := by decide +kernel
theorem dX7_reasonFor_11 : decode cX7_reasonFor 11 = .ok (.invokevirtual 140, 3) := by decide +kernel
theorem dX7_reasonFor_14 : decode cX7_reasonFor 14 = .ok (.ifCond .eq 7, 3) := by decide +kernel
theorem dX7_reasonFor_17 : decode cX7_reasonFor 17 = .ok (.iconst 1, 1) := by decide +kernel
theorem dX7_reasonFor_18 : decode cX7_reasonFor 18 = .ok (.goto 4, 3) := by decide +kernel
theorem dX7_reasonFor_21 : decode cX7_reasonFor 21 = .ok (.iconst 0, 1) := by decide +kernel
theorem dX7_reasonFor_22 : decode cX7_reasonFor 22 = .ok (.invokevirtual 148, 3) := by decide +kernel
theorem dX7_reasonFor_25 : decode cX7_reasonFor 25 = .ok (.ifCond .le 6, 3) := by decide +kernel
theorem dX7_reasonFor_28 : decode cX7_reasonFor 28 = .ok (.bipush 32, 2) := by decide +kernel
theorem dX7_reasonFor_30 : decode cX7_reasonFor 30 = .ok (.ireturn, 1) := by decide +kernel
theorem dX7_reasonFor_31 : decode cX7_reasonFor 31 = .ok (.aload_n 0, 1) := by decide +kernel
theorem dX7_reasonFor_32 : decode cX7_reasonFor 32 = .ok (.iload_n 1, 1) := by decide +kernel
theorem dX7_reasonFor_33 : decode cX7_reasonFor 33 = .ok (.iload_n 2, 1) := by decide +kernel
theorem dX7_reasonFor_34 : decode cX7_reasonFor 34 = .ok (.invokevirtual 189, 3) := by decide +kernel
theorem dX7_reasonFor_37 : decode cX7_reasonFor 37 = .ok (.aload_n 0, 1) := by decide +kernel
theorem dX7_reasonFor_38 : decode cX7_reasonFor 38 = .ok (.iload_n 1, 1) := by decide +kernel
theorem dX7_reasonFor_39 : decode cX7_reasonFor 39 = .ok (.iload_n 2, 1) := by decide +kernel
theorem dX7_reasonFor_40 : decode cX7_reasonFor 40 = .ok (.aload_n 0, 1) := by decide +kernel
theorem dX7_reasonFor_41 : decode cX7_reasonFor 41 = .ok (.getfield 70, 3) := by decide +kernel
theorem dX7_reasonFor_44 : decode cX7_reasonFor 44 = .ok (.iload_n 1, 1) := by decide +kernel
theorem dX7_reasonFor_45 : decode cX7_reasonFor 45 = .ok (.iaload, 1) := by decide +kernel
theorem dX7_reasonFor_46 : decode cX7_reasonFor 46 = .ok (.invokevirtual 193, 3) := by decide +kernel
theorem dX7_reasonFor_49 : decode cX7_reasonFor 49 = .ok (.ireturn, 1) := by decide +kernel
set_option maxRecDepth 20000 in
theorem ggX7_pagesAt_X7_tried : GoodIn wsX7_pagesAt wsX7_tried := goodIn_ca (goodIn_ca (goodIn_r _ [6, 1, 7, 8, 9, 5, 10, 11, 12, 13, 14, 15, 16, 17, 18, 19, 20, 21, 22, 23, 24, 25, 26, 27, 28, 29, 30, 31, 32, 33, 34, 35, 36, 37, 38, 39, 40, 41, 42, 43, 44, 45, 46, 47, 48, 49, 50, 51, 52, 53, 54, 55, 60, 61, 62, 63, 64, 65, 66, 67, 68, 69, 70, 71, 72, 73, 74, 75, 76, 77, 78, 79, 80, 81, 82, 83, 84, 85, 86, 87, 88, 89, 90, 91, 92, 93, 94, 95, 96, 97] (by decide +kernel) (by decide +kernel)) (goodIn_sub (fun _ h => List.mem_cons_of_mem _ (List.mem_append_left _ (List.mem_append_right _ h))) (by decide +kernel))) (goodIn_sub (fun _ h => List.mem_cons_of_mem _ (List.mem_append_right _ h)) (by decide +kernel))
set_option maxRecDepth 20000 in
theorem gX7_pagesAt_X7_tried : GoodIn wsX7_pagesAt (wsV RX7 201 RX7 yX7_tried wsX7_tried) := goodIn_app (goodIn_of _ (by decide +kernel)) ggX7_pagesAt_X7_tried
set_option maxRecDepth 20000 in
theorem ggX7_pagesAt_X7_pagesTo : GoodIn wsX7_pagesAt wsX7_pagesTo := goodIn_ca (goodIn_ca (goodIn_r _ [59, 40, 39, 35, 36, 37, 5, 38, 60, 61, 62, 63, 64, 65, 66, 67, 68, 69, 70, 71, 72, 73, 74, 75, 76, 77, 78, 79, 80, 81, 82, 83, 84, 85, 86, 87, 88, 89, 90, 91, 92, 93, 94, 95, 96, 97] (by decide +kernel) (by decide +kernel)) (goodIn_sub (fun _ h => List.mem_cons_of_mem _ (List.mem_append_right _ h)) (by decide +kernel))) (goodIn_sub (fun _ h => List.mem_cons_of_mem _ (List.mem_append_left _ (List.mem_append_right _ h))) (by decide +kernel))
set_option maxRecDepth 20000 in
theorem gX7_pagesAt_X7_pagesTo : GoodIn wsX7_pagesAt (wsV RX7 173 RX7 yX7_pagesTo wsX7_pagesTo) := goodIn_app (goodIn_of _ (by decide +kernel)) ggX7_pagesAt_X7_pagesTo
theorem dX7_pagesAt_0 : decode cX7_pagesAt 0 = .ok (.aload_n 0, 1) := by decide +kernel
theorem dX7_pagesAt_1 : decode cX7_pagesAt 1 = .ok (.iload_n 1, 1) := by decide +kernel
theorem dX7_pagesAt_2 : decode cX7_pagesAt 2 = .ok (.aload_n 0, 1) := by decide +kernel
theorem dX7_pagesAt_3 : decode cX7_pagesAt 3 = .ok (.iload_n 1, 1) := by decide +kernel
theorem dX7_pagesAt_4 : decode cX7_pagesAt 4 = .ok (.iload_n 2, 1) := by decide +kernel
theorem dX7_pagesAt_5 : decode cX7_pagesAt 5 = .ok (.invokevirtual 201, 3) := by decide +kernel
theorem dX7_pagesAt_8 : decode cX7_pagesAt 8 = .ok (.invokevirtual 173, 3) := by decide +kernel
theorem dX7_pagesAt_11 : decode cX7_pagesAt 11 = .ok (.aload_n 0, 1) := by decide +kernel
theorem dX7_pagesAt_12 : decode cX7_pagesAt 12 = .ok (.iload_n 1, 1) := by decide +kernel
theorem dX7_pagesAt_13 : decode cX7_pagesAt 13 = .ok (.aload_n 0, 1) := by decide +kernel
theorem dX7_pagesAt_14 : decode cX7_pagesAt 14 = .ok (.getfield 70, 3) := by decide +kernel
theorem dX7_pagesAt_17 : decode cX7_pagesAt 17 = .ok (.iload_n 1, 1) := by decide +kernel
theorem dX7_pagesAt_18 : decode cX7_pagesAt 18 = .ok (.iaload, 1) := by decide +kernel
theorem dX7_pagesAt_19 : decode cX7_pagesAt 19 = .ok (.invokevirtual 173, 3) := by decide +kernel
theorem dX7_pagesAt_22 : decode cX7_pagesAt 22 = .ok (.isub, 1) := by decide +kernel
theorem dX7_pagesAt_23 : decode cX7_pagesAt 23 = .ok (.ireturn, 1) := by decide +kernel
set_option maxRecDepth 20000 in
theorem ggX7_wouldPrint_X7_isJob : GoodIn wsX7_wouldPrint wsX7_isJob := goodIn_r _ [5, 6, 7, 8, 4, 9, 82, 83, 84, 85, 86, 87, 88, 89, 90, 91, 92, 93, 94, 95, 96, 97, 98, 99, 100, 101, 102, 103, 104, 105, 106, 107, 108, 109, 110, 111, 112, 113, 114, 115, 116, 117, 118, 119] (by decide +kernel) (by decide +kernel)
set_option maxRecDepth 20000 in
theorem gX7_wouldPrint_X7_isJob : GoodIn wsX7_wouldPrint (wsV RX7 163 RX7 yX7_isJob wsX7_isJob) := goodIn_app (goodIn_of _ (by decide +kernel)) ggX7_wouldPrint_X7_isJob
set_option maxRecDepth 20000 in
theorem ggX7_wouldPrint_X7_isPrinter : GoodIn wsX7_wouldPrint wsX7_isPrinter := goodIn_r _ [13, 14, 7, 8, 4, 9, 82, 83, 84, 85, 86, 87, 88, 89, 90, 91, 92, 93, 94, 95, 96, 97, 98, 99, 100, 101, 102, 103, 104, 105, 106, 107, 108, 109, 110, 111, 112, 113, 114, 115, 116, 117, 118, 119] (by decide +kernel) (by decide +kernel)
set_option maxRecDepth 20000 in
theorem gX7_wouldPrint_X7_isPrinter : GoodIn wsX7_wouldPrint (wsV RX7 140 RX7 yX7_isPrinter wsX7_isPrinter) := goodIn_app (goodIn_of _ (by decide +kernel)) ggX7_wouldPrint_X7_isPrinter
set_option maxRecDepth 20000 in
theorem ggX7_wouldPrint_X7_checked : GoodIn wsX7_wouldPrint wsX7_checked := goodIn_r _ [18, 19, 82, 83, 84, 85, 86, 87, 88, 89, 90, 91, 92, 93, 94, 95, 96, 97, 98, 99, 100, 101, 102, 103, 104, 105, 106, 107, 108, 109, 110, 111, 112, 113, 114, 115, 116, 117, 118, 119] (by decide +kernel) (by decide +kernel)
set_option maxRecDepth 20000 in
theorem gX7_wouldPrint_X7_checked : GoodIn wsX7_wouldPrint (wsV RX7 148 RX7 yX7_checked wsX7_checked) := goodIn_app (goodIn_of _ (by decide +kernel)) ggX7_wouldPrint_X7_checked
set_option maxRecDepth 20000 in
theorem ggX7_wouldPrint_X7_pagesAt : GoodIn wsX7_wouldPrint wsX7_pagesAt := goodIn_ca (goodIn_ca (goodIn_r _ [23, 24, 25, 26, 27, 4, 28, 29, 30, 31, 32, 33, 34, 35, 36, 37, 38, 39, 40, 41, 42, 43, 44, 45, 46, 47, 48, 49, 50, 51, 52, 53, 54, 55, 56, 57, 58, 59, 60, 61, 62, 63, 64, 65, 66, 67, 68, 69, 70, 71, 72, 73, 74, 75, 76, 77, 78, 79, 80, 81, 82, 83, 84, 85, 86, 87, 88, 89, 90, 91, 92, 93, 94, 95, 96, 97, 98, 99, 100, 101, 102, 103, 104, 105, 106, 107, 108, 109, 110, 111, 112, 113, 114, 115, 116, 117, 118, 119] (by decide +kernel) (by decide +kernel)) (goodIn_sub (fun _ h => List.mem_cons_of_mem _ (List.mem_append_left _ (List.mem_append_right _ h))) (by decide +kernel))) (goodIn_sub (fun _ h => List.mem_cons_of_mem _ (List.mem_append_right _ h)) (by decide +kernel))
set_option maxRecDepth 20000 in
theorem gX7_wouldPrint_X7_pagesAt : GoodIn wsX7_wouldPrint (wsV RX7 204 RX7 yX7_pagesAt wsX7_pagesAt) := goodIn_app (goodIn_of _ (by decide +kernel)) ggX7_wouldPrint_X7_pagesAt
theorem dX7_wouldPrint_0 : decode cX7_wouldPrint 0 = .ok (.aload_n 0, 1) := by decide +kernel
theorem dX7_wouldPrint_1 : decode cX7_wouldPrint 1 = .ok (.aload_n 0, 1) := by decide +kernel
theorem dX7_wouldPrint_2 : decode cX7_wouldPrint 2 = .ok (.iload_n 1, 1) := by decide +kernel
theorem dX7_wouldPrint_3 : decode cX7_wouldPrint 3 = .ok (.invokevirtual 163, 3) := by decide +kernel
theorem dX7_wouldPrint_6 : decode cX7_wouldPrint 6 = .ok (.ifCond .eq 15, 3) := by decide +kernel
theorem dX7_wouldPrint_9 : decode cX7_wouldPrint 9 = .ok (.aload_n 0, 1) := by decide +kernel
theorem dX7_wouldPrint_10 : decode cX7_wouldPrint 10 = .ok (.iload_n 2, 1) := by decide +kernel
theorem dX7_wouldPrint_11 : decode cX7_wouldPrint 11 = .ok (.invokevirtual 140, 3) := by decide +kernel
theorem dX7_wouldPrint_14 : decode cX7_wouldPrint 14 = .ok (.ifCond .eq 7, 3) := by decide +kernel
theorem dX7_wouldPrint_17 : decode cX7_wouldPrint 17 = .ok (.iconst 1, 1) := by decide +kernel
theorem dX7_wouldPrint_18 : decode cX7_wouldPrint 18 = .ok (.goto 4, 3) := by decide +kernel
theorem dX7_wouldPrint_21 : decode cX7_wouldPrint 21 = .ok (.iconst 0, 1) := by decide +kernel
theorem dX7_wouldPrint_22 : decode cX7_wouldPrint 22 = .ok (.invokevirtual 148, 3) := by decide +kernel
theorem dX7_wouldPrint_25 : decode cX7_wouldPrint 25 = .ok (.ifCond .le 7, 3) := by decide +kernel
theorem dX7_wouldPrint_28 : decode cX7_wouldPrint 28 = .ok (.iconst 0, 1) := by decide +kernel
theorem dX7_wouldPrint_29 : decode cX7_wouldPrint 29 = .ok (.goto 9, 3) := by decide +kernel
theorem dX7_wouldPrint_32 : decode cX7_wouldPrint 32 = .ok (.aload_n 0, 1) := by decide +kernel
theorem dX7_wouldPrint_33 : decode cX7_wouldPrint 33 = .ok (.iload_n 1, 1) := by decide +kernel
theorem dX7_wouldPrint_34 : decode cX7_wouldPrint 34 = .ok (.iload_n 2, 1) := by decide +kernel
theorem dX7_wouldPrint_35 : decode cX7_wouldPrint 35 = .ok (.invokevirtual 204, 3) := by decide +kernel
theorem dX7_wouldPrint_38 : decode cX7_wouldPrint 38 = .ok (.ireturn, 1) := by decide +kernel
theorem dX7_longer_0 : decode cX7_longer 0 = .ok (.iconst 2, 1) := by decide +kernel
theorem dX7_longer_1 : decode cX7_longer 1 = .ok (.aload_n 0, 1) := by decide +kernel
theorem dX7_longer_2 : decode cX7_longer 2 = .ok (.arraylength, 1) := by decide +kernel
theorem dX7_longer_3 : decode cX7_longer 3 = .ok (.imul, 1) := by decide +kernel
theorem dX7_longer_4 : decode cX7_longer 4 = .ok (.newarray .int, 2) := by decide +kernel
theorem dX7_longer_6 : decode cX7_longer 6 = .ok (.astore_n 1, 1) := by decide +kernel
theorem dX7_longer_7 : decode cX7_longer 7 = .ok (.iconst 0, 1) := by decide +kernel
theorem dX7_longer_8 : decode cX7_longer 8 = .ok (.istore_n 2, 1) := by decide +kernel
theorem dX7_longer_9 : decode cX7_longer 9 = .ok (.iload_n 2, 1) := by decide +kernel
theorem dX7_longer_10 : decode cX7_longer 10 = .ok (.aload_n 0, 1) := by decide +kernel
theorem dX7_longer_11 : decode cX7_longer 11 = .ok (.arraylength, 1) := by decide +kernel
theorem dX7_longer_12 : decode cX7_longer 12 = .ok (.if_icmp .ge 15, 3) := by decide +kernel
theorem dX7_longer_15 : decode cX7_longer 15 = .ok (.aload_n 1, 1) := by decide +kernel
theorem dX7_longer_16 : decode cX7_longer 16 = .ok (.iload_n 2, 1) := by decide +kernel
theorem dX7_longer_17 : decode cX7_longer 17 = .ok (.aload_n 0, 1) := by decide +kernel
theorem dX7_longer_18 : decode cX7_longer 18 = .ok (.iload_n 2, 1) := by decide +kernel
theorem dX7_longer_19 : decode cX7_longer 19 = .ok (.iaload, 1) := by decide +kernel
theorem dX7_longer_20 : decode cX7_longer 20 = .ok (.iastore, 1) := by decide +kernel
theorem dX7_longer_21 : decode cX7_longer 21 = .ok (.iinc 2 1, 3) := by decide +kernel
theorem dX7_longer_24 : decode cX7_longer 24 = .ok (.goto (-15), 3) := by decide +kernel
theorem dX7_longer_27 : decode cX7_longer 27 = .ok (.aload_n 1, 1) := by decide +kernel
theorem dX7_longer_28 : decode cX7_longer 28 = .ok (.areturn, 1) := by decide +kernel
set_option maxRecDepth 20000 in
theorem ggX7_notes_X7_longer : GoodIn wsX7_notes wsX7_longer := goodIn_ca (goodIn_r _ [9, 10] (by decide +kernel) (by decide +kernel)) (goodIn_sub (fun _ h => List.mem_cons_of_mem _ (List.mem_append_right _ h)) (by decide +kernel))
set_option maxRecDepth 20000 in
theorem gX7_notes_X7_longer : GoodIn wsX7_notes (va_wsS RX7 207 yX7_longer wsX7_longer) := goodIn_app (goodIn_of _ (by decide +kernel)) ggX7_notes_X7_longer
theorem dX7_notes_0 : decode cX7_notes 0 = .ok (.aload_n 0, 1) := by decide +kernel
theorem dX7_notes_1 : decode cX7_notes 1 = .ok (.getfield 104, 3) := by decide +kernel
theorem dX7_notes_4 : decode cX7_notes 4 = .ok (.aload_n 0, 1) := by decide +kernel
theorem dX7_notes_5 : decode cX7_notes 5 = .ok (.getfield 76, 3) := by decide +kernel
theorem dX7_notes_8 : decode cX7_notes 8 = .ok (.arraylength, 1) := by decide +kernel
theorem dX7_notes_9 : decode cX7_notes 9 = .ok (.if_icmp .ne 47, 3) := by decide +kernel
theorem dX7_notes_12 : decode cX7_notes 12 = .ok (.aload_n 0, 1) := by decide +kernel
theorem dX7_notes_13 : decode cX7_notes 13 = .ok (.aload_n 0, 1) := by decide +kernel
theorem dX7_notes_14 : decode cX7_notes 14 = .ok (.getfield 76, 3) := by decide +kernel
theorem dX7_notes_17 : decode cX7_notes 17 = .ok (.invokestatic 207, 3) := by decide +kernel
theorem dX7_notes_20 : decode cX7_notes 20 = .ok (.putfield 76, 3) := by decide +kernel
theorem dX7_notes_23 : decode cX7_notes 23 = .ok (.aload_n 0, 1) := by decide +kernel
theorem dX7_notes_24 : decode cX7_notes 24 = .ok (.aload_n 0, 1) := by decide +kernel
theorem dX7_notes_25 : decode cX7_notes 25 = .ok (.getfield 79, 3) := by decide +kernel
theorem dX7_notes_28 : decode cX7_notes 28 = .ok (.invokestatic 207, 3) := by decide +kernel
theorem dX7_notes_31 : decode cX7_notes 31 = .ok (.putfield 79, 3) := by decide +kernel
theorem dX7_notes_34 : decode cX7_notes 34 = .ok (.aload_n 0, 1) := by decide +kernel
theorem dX7_notes_35 : decode cX7_notes 35 = .ok (.aload_n 0, 1) := by decide +kernel
theorem dX7_notes_36 : decode cX7_notes 36 = .ok (.getfield 82, 3) := by decide +kernel
theorem dX7_notes_39 : decode cX7_notes 39 = .ok (.invokestatic 207, 3) := by decide +kernel
theorem dX7_notes_42 : decode cX7_notes 42 = .ok (.putfield 82, 3) := by decide +kernel
theorem dX7_notes_45 : decode cX7_notes 45 = .ok (.aload_n 0, 1) := by decide +kernel
theorem dX7_notes_46 : decode cX7_notes 46 = .ok (.aload_n 0, 1) := by decide +kernel
theorem dX7_notes_47 : decode cX7_notes 47 = .ok (.getfield 85, 3) := by decide +kernel
theorem dX7_notes_50 : decode cX7_notes 50 = .ok (.invokestatic 207, 3) := by decide +kernel
theorem dX7_notes_53 : decode cX7_notes 53 = .ok (.putfield 85, 3) := by decide +kernel
theorem dX7_notes_56 : decode cX7_notes 56 = .ok (.aload_n 0, 1) := by decide +kernel
theorem dX7_notes_57 : decode cX7_notes 57 = .ok (.getfield 76, 3) := by decide +kernel
theorem dX7_notes_60 : decode cX7_notes 60 = .ok (.aload_n 0, 1) := by decide +kernel
theorem dX7_notes_61 : decode cX7_notes 61 = .ok (.getfield 104, 3) := by decide +kernel
theorem dX7_notes_64 : decode cX7_notes 64 = .ok (.iload_n 1, 1) := by decide +kernel
theorem dX7_notes_65 : decode cX7_notes 65 = .ok (.iastore, 1) := by decide +kernel
theorem dX7_notes_66 : decode cX7_notes 66 = .ok (.aload_n 0, 1) := by decide +kernel
theorem dX7_notes_67 : decode cX7_notes 67 = .ok (.getfield 79, 3) := by decide +kernel
theorem dX7_notes_70 : decode cX7_notes 70 = .ok (.aload_n 0, 1) := by decide +kernel
theorem dX7_notes_71 : decode cX7_notes 71 = .ok (.getfield 104, 3) := by decide +kernel
theorem dX7_notes_74 : decode cX7_notes 74 = .ok (.iload_n 2, 1) := by decide +kernel
theorem dX7_notes_75 : decode cX7_notes 75 = .ok (.iastore, 1) := by decide +kernel
theorem dX7_notes_76 : decode cX7_notes 76 = .ok (.aload_n 0, 1) := by decide +kernel
theorem dX7_notes_77 : decode cX7_notes 77 = .ok (.getfield 82, 3) := by decide +kernel
theorem dX7_notes_80 : decode cX7_notes 80 = .ok (.aload_n 0, 1) := by decide +kernel
theorem dX7_notes_81 : decode cX7_notes 81 = .ok (.getfield 104, 3) := by decide +kernel
theorem dX7_notes_84 : decode cX7_notes 84 = .ok (.iload_n 3, 1) := by decide +kernel
theorem dX7_notes_85 : decode cX7_notes 85 = .ok (.iastore, 1) := by decide +kernel
theorem dX7_notes_86 : decode cX7_notes 86 = .ok (.aload_n 0, 1) := by decide +kernel
theorem dX7_notes_87 : decode cX7_notes 87 = .ok (.getfield 85, 3) := by decide +kernel
theorem dX7_notes_90 : decode cX7_notes 90 = .ok (.aload_n 0, 1) := by decide +kernel
theorem dX7_notes_91 : decode cX7_notes 91 = .ok (.getfield 104, 3) := by decide +kernel
theorem dX7_notes_94 : decode cX7_notes 94 = .ok (.iload 4, 2) := by decide +kernel
theorem dX7_notes_96 : decode cX7_notes 96 = .ok (.iastore, 1) := by decide +kernel
theorem dX7_notes_97 : decode cX7_notes 97 = .ok (.aload_n 0, 1) := by decide +kernel
theorem dX7_notes_98 : decode cX7_notes 98 = .ok (.dup, 1) := by decide +kernel
theorem dX7_notes_99 : decode cX7_notes 99 = .ok (.getfield 104, 3) := by decide +kernel
theorem dX7_notes_102 : decode cX7_notes 102 = .ok (.iconst 1, 1) := by decide +kernel
theorem dX7_notes_103 : decode cX7_notes 103 = .ok (.iadd, 1) := by decide +kernel
theorem dX7_notes_104 : decode cX7_notes 104 = .ok (.putfield 104, 3) := by decide +kernel
theorem dX7_notes_107 : decode cX7_notes 107 = .ok (.return_, 1) := by decide +kernel
set_option maxRecDepth 20000 in
theorem ggX7_binds_X7_copySheets : GoodIn wsX7_binds wsX7_copySheets := goodIn_ca (goodIn_r _ [8, 9, 10, 11, 12, 13, 14, 15, 16, 17, 18, 19, 20, 21, 22, 23, 24, 25, 26, 27, 28, 29, 30, 31, 32, 33, 34, 35, 36, 37, 38, 39, 40, 41, 42, 43, 44, 45, 46, 47, 48] (by decide +kernel) (by decide +kernel)) (goodIn_sub (fun _ h => List.mem_cons_of_mem _ (List.mem_append_left _ (List.mem_append_right _ h))) (by decide +kernel))
set_option maxRecDepth 20000 in
theorem gX7_binds_X7_copySheets : GoodIn wsX7_binds (wsV RX7 166 RX7 yX7_copySheets wsX7_copySheets) := goodIn_app (goodIn_of _ (by decide +kernel)) ggX7_binds_X7_copySheets
theorem dX7_binds_0 : decode cX7_binds 0 = .ok (.aload_n 0, 1) := by decide +kernel
theorem dX7_binds_1 : decode cX7_binds 1 = .ok (.iload_n 1, 1) := by decide +kernel
theorem dX7_binds_2 : decode cX7_binds 2 = .ok (.invokevirtual 166, 3) := by decide +kernel
theorem dX7_binds_5 : decode cX7_binds 5 = .ok (.istore 5, 2) := by decide +kernel
theorem dX7_binds_7 : decode cX7_binds 7 = .ok (.aload_n 0, 1) := by decide +kernel
theorem dX7_binds_8 : decode cX7_binds 8 = .ok (.getfield 55, 3) := by decide +kernel
theorem dX7_binds_11 : decode cX7_binds 11 = .ok (.iload_n 1, 1) := by decide +kernel
theorem dX7_binds_12 : decode cX7_binds 12 = .ok (.baload, 1) := by decide +kernel
theorem dX7_binds_13 : decode cX7_binds 13 = .ok (.ifCond .eq 9, 3) := by decide +kernel
theorem dX7_binds_16 : decode cX7_binds 16 = .ok (.iload 5, 2) := by decide +kernel
theorem dX7_binds_18 : decode cX7_binds 18 = .ok (.iconst 2, 1) := by decide +kernel
theorem dX7_binds_19 : decode cX7_binds 19 = .ok (.if_icmp .ge 4, 3) := by decide +kernel
theorem dX7_binds_22 : decode cX7_binds 22 = .ok (.return_, 1) := by decide +kernel
theorem dX7_binds_23 : decode cX7_binds 23 = .ok (.iload_n 3, 1) := by decide +kernel
theorem dX7_binds_24 : decode cX7_binds 24 = .ok (.iload 5, 2) := by decide +kernel
theorem dX7_binds_26 : decode cX7_binds 26 = .ok (.iadd, 1) := by decide +kernel
theorem dX7_binds_27 : decode cX7_binds 27 = .ok (.iconst 1, 1) := by decide +kernel
theorem dX7_binds_28 : decode cX7_binds 28 = .ok (.isub, 1) := by decide +kernel
theorem dX7_binds_29 : decode cX7_binds 29 = .ok (.iload 5, 2) := by decide +kernel
theorem dX7_binds_31 : decode cX7_binds 31 = .ok (.idiv, 1) := by decide +kernel
theorem dX7_binds_32 : decode cX7_binds 32 = .ok (.istore 6, 2) := by decide +kernel
theorem dX7_binds_34 : decode cX7_binds 34 = .ok (.iload 6, 2) := by decide +kernel
theorem dX7_binds_36 : decode cX7_binds 36 = .ok (.iconst 1, 1) := by decide +kernel
theorem dX7_binds_37 : decode cX7_binds 37 = .ok (.iadd, 1) := by decide +kernel
theorem dX7_binds_38 : decode cX7_binds 38 = .ok (.iload 5, 2) := by decide +kernel
theorem dX7_binds_40 : decode cX7_binds 40 = .ok (.imul, 1) := by decide +kernel
theorem dX7_binds_41 : decode cX7_binds 41 = .ok (.iload 4, 2) := by decide +kernel
theorem dX7_binds_43 : decode cX7_binds 43 = .ok (.if_icmp .gt 39, 3) := by decide +kernel
theorem dX7_binds_46 : decode cX7_binds 46 = .ok (.aload_n 0, 1) := by decide +kernel
theorem dX7_binds_47 : decode cX7_binds 47 = .ok (.getfield 28, 3) := by decide +kernel
theorem dX7_binds_50 : decode cX7_binds 50 = .ok (.iload_n 2, 1) := by decide +kernel
theorem dX7_binds_51 : decode cX7_binds 51 = .ok (.iaload, 1) := by decide +kernel
theorem dX7_binds_52 : decode cX7_binds 52 = .ok (.ifCond .ne 4, 3) := by decide +kernel
theorem dX7_binds_55 : decode cX7_binds 55 = .ok (.return_, 1) := by decide +kernel
theorem dX7_binds_56 : decode cX7_binds 56 = .ok (.aload_n 0, 1) := by decide +kernel
theorem dX7_binds_57 : decode cX7_binds 57 = .ok (.getfield 28, 3) := by decide +kernel
theorem dX7_binds_60 : decode cX7_binds 60 = .ok (.iload_n 2, 1) := by decide +kernel
theorem dX7_binds_61 : decode cX7_binds 61 = .ok (.dup2, 1) := by decide +kernel
theorem dX7_binds_62 : decode cX7_binds 62 = .ok (.iaload, 1) := by decide +kernel
theorem dX7_binds_63 : decode cX7_binds 63 = .ok (.iconst 1, 1) := by decide +kernel
theorem dX7_binds_64 : decode cX7_binds 64 = .ok (.isub, 1) := by decide +kernel
theorem dX7_binds_65 : decode cX7_binds 65 = .ok (.iastore, 1) := by decide +kernel
theorem dX7_binds_66 : decode cX7_binds 66 = .ok (.aload_n 0, 1) := by decide +kernel
theorem dX7_binds_67 : decode cX7_binds 67 = .ok (.getfield 73, 3) := by decide +kernel
theorem dX7_binds_70 : decode cX7_binds 70 = .ok (.iload_n 1, 1) := by decide +kernel
theorem dX7_binds_71 : decode cX7_binds 71 = .ok (.dup2, 1) := by decide +kernel
theorem dX7_binds_72 : decode cX7_binds 72 = .ok (.iaload, 1) := by decide +kernel
theorem dX7_binds_73 : decode cX7_binds 73 = .ok (.iconst 1, 1) := by decide +kernel
theorem dX7_binds_74 : decode cX7_binds 74 = .ok (.iadd, 1) := by decide +kernel
theorem dX7_binds_75 : decode cX7_binds 75 = .ok (.iastore, 1) := by decide +kernel
theorem dX7_binds_76 : decode cX7_binds 76 = .ok (.iinc 6 1, 3) := by decide +kernel
theorem dX7_binds_79 : decode cX7_binds 79 = .ok (.goto (-45), 3) := by decide +kernel
theorem dX7_binds_82 : decode cX7_binds 82 = .ok (.return_, 1) := by decide +kernel
set_option maxRecDepth 20000 in
theorem ggX7_releases_X7_tried : GoodIn wsX7_releases wsX7_tried := goodIn_ca (goodIn_ca (goodIn_r _ [22, 1, 23, 24, 25, 21, 26, 4, 3, 5, 6, 7, 8, 9, 10, 11, 12, 27, 28, 29, 30, 31, 32, 33, 34, 35, 36, 37, 38, 39, 40, 41, 42, 43, 44, 45, 46, 47, 48, 49, 50, 51, 52, 53, 54, 55, 56, 57, 58, 59, 60, 61, 86, 87, 88, 89, 90, 91, 92, 93, 94, 95, 96, 97, 98, 99, 100, 101, 102, 103, 104, 105, 106, 107, 108, 109, 110, 111, 112, 113, 114, 115, 116, 117, 118, 119, 120, 121, 122, 123] (by decide +kernel) (by decide +kernel)) (goodIn_sub (fun _ h => List.mem_cons_of_mem _ (List.mem_append_left _ (List.mem_append_right _ h))) (by decide +kernel))) (goodIn_sub (fun _ h => List.mem_cons_of_mem _ (List.mem_append_right _ h)) (by decide +kernel))
set_option maxRecDepth 20000 in
theorem gX7_releases_X7_tried : GoodIn wsX7_releases (wsV RX7 201 RX7 yX7_tried wsX7_tried) := goodIn_app (goodIn_of _ (by decide +kernel)) ggX7_releases_X7_tried
set_option maxRecDepth 20000 in
theorem ggX7_releases_X7_pagesTo : GoodIn wsX7_releases wsX7_pagesTo := goodIn_ca (goodIn_ca (goodIn_r _ [65, 46, 45, 41, 42, 43, 21, 44, 86, 87, 88, 89, 90, 91, 92, 93, 94, 95, 96, 97, 98, 99, 100, 101, 102, 103, 104, 105, 106, 107, 108, 109, 110, 111, 112, 113, 114, 115, 116, 117, 118, 119, 120, 121, 122, 123] (by decide +kernel) (by decide +kernel)) (goodIn_sub (fun _ h => List.mem_cons_of_mem _ (List.mem_append_right _ h)) (by decide +kernel))) (goodIn_sub (fun _ h => List.mem_cons_of_mem _ (List.mem_append_left _ (List.mem_append_right _ h))) (by decide +kernel))
set_option maxRecDepth 20000 in
theorem gX7_releases_X7_pagesTo : GoodIn wsX7_releases (wsV RX7 173 RX7 yX7_pagesTo wsX7_pagesTo) := goodIn_app (goodIn_of _ (by decide +kernel)) ggX7_releases_X7_pagesTo
set_option maxRecDepth 20000 in
theorem ggX7_releases_X7_reason : GoodIn wsX7_releases wsX7_reason := goodIn_ca (goodIn_ca (goodIn_r _ [33, 34, 11, 35, 6, 8, 12, 36, 37, 38, 21, 39, 40, 41, 42, 43, 44, 45, 46, 47, 48, 49, 50, 51, 52, 53, 4, 54, 55, 56, 57, 86, 87, 88, 89, 90, 91, 92, 93, 94, 95, 96, 97, 98, 99, 100, 101, 102, 103, 104, 105, 106, 107, 108, 109, 110, 111, 112, 113, 114, 115, 116, 117, 118, 119, 120, 121, 122, 123] (by decide +kernel) (by decide +kernel)) (goodIn_sub (fun _ h => List.mem_cons_of_mem _ (List.mem_append_left _ (List.mem_append_right _ h))) (by decide +kernel))) (goodIn_sub (fun _ h => List.mem_cons_of_mem _ (List.mem_append_right _ h)) (by decide +kernel))
set_option maxRecDepth 20000 in
theorem gX7_releases_X7_reason : GoodIn wsX7_releases (wsV RX7 193 RX7 yX7_reason wsX7_reason) := goodIn_app (goodIn_of _ (by decide +kernel)) ggX7_releases_X7_reason
set_option maxRecDepth 20000 in
theorem ggX7_releases_X7_quotaAt : GoodIn wsX7_releases wsX7_quotaAt := goodIn_r _ [29] (by decide +kernel) (by decide +kernel)
set_option maxRecDepth 20000 in
theorem gX7_releases_X7_quotaAt : GoodIn wsX7_releases (va_wsS RX7 159 yX7_quotaAt wsX7_quotaAt) := goodIn_app (goodIn_of _ (by decide +kernel)) ggX7_releases_X7_quotaAt
set_option maxRecDepth 20000 in
theorem ggX7_releases_X7_binds : GoodIn wsX7_releases wsX7_binds := goodIn_ca (goodIn_ca (goodIn_r _ [69, 70, 71, 72, 41, 42, 43, 21, 44, 45, 46, 86, 87, 88, 89, 90, 91, 92, 93, 94, 95, 96, 97, 98, 99, 100, 101, 102, 103, 104, 105, 106, 107, 108, 109, 110, 111, 112, 113, 114, 115, 116, 117, 118, 119, 120, 121, 122, 123] (by decide +kernel) (by decide +kernel)) (goodIn_sub (fun _ h => List.mem_cons_of_mem _ (List.mem_append_left _ (List.mem_append_right _ h))) (by decide +kernel))) (goodIn_sub (fun _ h => List.mem_cons_of_mem _ (List.mem_append_right _ h)) (by decide +kernel))
set_option maxRecDepth 20000 in
theorem gX7_releases_X7_binds : GoodIn wsX7_releases (wsV RX7 211 RX7 yX7_binds wsX7_binds) := goodIn_app (goodIn_of _ (by decide +kernel)) ggX7_releases_X7_binds
set_option maxRecDepth 20000 in
theorem ggX7_releases_X7_notes : GoodIn wsX7_releases wsX7_notes := goodIn_ca (goodIn_r _ [76, 77, 78, 79, 80, 81, 82, 83, 21, 84, 85, 86, 87, 88, 89, 90, 91, 92, 93, 94, 95, 96, 97, 98, 99, 100, 101, 102, 103, 104, 105, 106, 107, 108, 109, 110, 111, 112, 113, 114, 115, 116, 117, 118, 119, 120, 121, 122, 123] (by decide +kernel) (by decide +kernel)) (goodIn_sub (fun _ h => List.mem_cons_of_mem _ (List.mem_append_left _ (List.mem_append_right _ h))) (by decide +kernel))
set_option maxRecDepth 20000 in
theorem gX7_releases_X7_notes : GoodIn wsX7_releases (wsV RX7 215 RX7 yX7_notes wsX7_notes) := goodIn_app (goodIn_of _ (by decide +kernel)) ggX7_releases_X7_notes
theorem dX7_releases_0 : decode cX7_releases 0 = .ok (.aload_n 0, 1) := by decide +kernel
theorem dX7_releases_1 : decode cX7_releases 1 = .ok (.getfield 70, 3) := by decide +kernel
theorem dX7_releases_4 : decode cX7_releases 4 = .ok (.iload_n 1, 1) := by decide +kernel
theorem dX7_releases_5 : decode cX7_releases 5 = .ok (.iaload, 1) := by decide +kernel
theorem dX7_releases_6 : decode cX7_releases 6 = .ok (.istore_n 3, 1) := by decide +kernel
theorem dX7_releases_7 : decode cX7_releases 7 = .ok (.aload_n 0, 1) := by decide +kernel
theorem dX7_releases_8 : decode cX7_releases 8 = .ok (.iload_n 1, 1) := by decide +kernel
theorem dX7_releases_9 : decode cX7_releases 9 = .ok (.iload_n 2, 1) := by decide +kernel
theorem dX7_releases_10 : decode cX7_releases 10 = .ok (.invokevirtual 201, 3) := by decide +kernel
theorem dX7_releases_13 : decode cX7_releases 13 = .ok (.istore 4, 2) := by decide +kernel
theorem dX7_releases_15 : decode cX7_releases 15 = .ok (.aload_n 0, 1) := by decide +kernel
theorem dX7_releases_16 : decode cX7_releases 16 = .ok (.iload_n 1, 1) := by decide +kernel
theorem dX7_releases_17 : decode cX7_releases 17 = .ok (.iload 4, 2) := by decide +kernel
theorem dX7_releases_19 : decode cX7_releases 19 = .ok (.invokevirtual 173, 3) := by decide +kernel
theorem dX7_releases_22 : decode cX7_releases 22 = .ok (.aload_n 0, 1) := by decide +kernel
theorem dX7_releases_23 : decode cX7_releases 23 = .ok (.iload_n 1, 1) := by decide +kernel
theorem dX7_releases_24 : decode cX7_releases 24 = .ok (.iload_n 3, 1) := by decide +kernel
theorem dX7_releases_25 : decode cX7_releases 25 = .ok (.invokevirtual 173, 3) := by decide +kernel
theorem dX7_releases_28 : decode cX7_releases 28 = .ok (.isub, 1) := by decide +kernel
theorem dX7_releases_29 : decode cX7_releases 29 = .ok (.istore 5, 2) := by decide +kernel
theorem dX7_releases_31 : decode cX7_releases 31 = .ok (.iload 4, 2) := by decide +kernel
theorem dX7_releases_33 : decode cX7_releases 33 = .ok (.iload_n 3, 1) := by decide +kernel
theorem dX7_releases_34 : decode cX7_releases 34 = .ok (.if_icmp .ne 5, 3) := by decide +kernel
theorem dX7_releases_37 : decode cX7_releases 37 = .ok (.iconst 0, 1) := by decide +kernel
theorem dX7_releases_38 : decode cX7_releases 38 = .ok (.ireturn, 1) := by decide +kernel
theorem dX7_releases_39 : decode cX7_releases 39 = .ok (.aload_n 0, 1) := by decide +kernel
theorem dX7_releases_40 : decode cX7_releases 40 = .ok (.getfield 42, 3) := by decide +kernel
theorem dX7_releases_43 : decode cX7_releases 43 = .ok (.iload_n 1, 1) := by decide +kernel
theorem dX7_releases_44 : decode cX7_releases 44 = .ok (.aload_n 0, 1) := by decide +kernel
theorem dX7_releases_45 : decode cX7_releases 45 = .ok (.iload_n 1, 1) := by decide +kernel
theorem dX7_releases_46 : decode cX7_releases 46 = .ok (.iload_n 2, 1) := by decide +kernel
theorem dX7_releases_47 : decode cX7_releases 47 = .ok (.iload 4, 2) := by decide +kernel
theorem dX7_releases_49 : decode cX7_releases 49 = .ok (.invokevirtual 193, 3) := by decide +kernel
theorem dX7_releases_52 : decode cX7_releases 52 = .ok (.castore, 1) := by decide +kernel
theorem dX7_releases_53 : decode cX7_releases 53 = .ok (.iconst 0, 1) := by decide +kernel
theorem dX7_releases_54 : decode cX7_releases 54 = .ok (.istore 6, 2) := by decide +kernel
theorem dX7_releases_56 : decode cX7_releases 56 = .ok (.iload 6, 2) := by decide +kernel
theorem dX7_releases_58 : decode cX7_releases 58 = .ok (.iconst 3, 1) := by decide +kernel
theorem dX7_releases_59 : decode cX7_releases 59 = .ok (.if_icmp .ge 27, 3) := by decide +kernel
theorem dX7_releases_62 : decode cX7_releases 62 = .ok (.aload_n 0, 1) := by decide +kernel
theorem dX7_releases_63 : decode cX7_releases 63 = .ok (.getfield 19, 3) := by decide +kernel
theorem dX7_releases_66 : decode cX7_releases 66 = .ok (.iconst 3, 1) := by decide +kernel
theorem dX7_releases_67 : decode cX7_releases 67 = .ok (.iload_n 2, 1) := by decide +kernel
theorem dX7_releases_68 : decode cX7_releases 68 = .ok (.imul, 1) := by decide +kernel
theorem dX7_releases_69 : decode cX7_releases 69 = .ok (.iload 6, 2) := by decide +kernel
theorem dX7_releases_71 : decode cX7_releases 71 = .ok (.iadd, 1) := by decide +kernel
theorem dX7_releases_72 : decode cX7_releases 72 = .ok (.aload_n 0, 1) := by decide +kernel
theorem dX7_releases_73 : decode cX7_releases 73 = .ok (.getfield 88, 3) := by decide +kernel
theorem dX7_releases_76 : decode cX7_releases 76 = .ok (.iload 6, 2) := by decide +kernel
theorem dX7_releases_78 : decode cX7_releases 78 = .ok (.iaload, 1) := by decide +kernel
theorem dX7_releases_79 : decode cX7_releases 79 = .ok (.iastore, 1) := by decide +kernel
theorem dX7_releases_80 : decode cX7_releases 80 = .ok (.iinc 6 1, 3) := by decide +kernel
theorem dX7_releases_83 : decode cX7_releases 83 = .ok (.goto (-27), 3) := by decide +kernel
theorem dX7_releases_86 : decode cX7_releases 86 = .ok (.aload_n 0, 1) := by decide +kernel
theorem dX7_releases_87 : decode cX7_releases 87 = .ok (.getfield 22, 3) := by decide +kernel
theorem dX7_releases_90 : decode cX7_releases 90 = .ok (.iload_n 2, 1) := by decide +kernel
theorem dX7_releases_91 : decode cX7_releases 91 = .ok (.aload_n 0, 1) := by decide +kernel
theorem dX7_releases_92 : decode cX7_releases 92 = .ok (.getfield 116, 3) := by decide +kernel
theorem dX7_releases_95 : decode cX7_releases 95 = .ok (.iastore, 1) := by decide +kernel
theorem dX7_releases_96 : decode cX7_releases 96 = .ok (.aload_n 0, 1) := by decide +kernel
theorem dX7_releases_97 : decode cX7_releases 97 = .ok (.getfield 25, 3) := by decide +kernel
theorem dX7_releases_100 : decode cX7_releases 100 = .ok (.iload_n 2, 1) := by decide +kernel
theorem dX7_releases_101 : decode cX7_releases 101 = .ok (.aload_n 0, 1) := by decide +kernel
theorem dX7_releases_102 : decode cX7_releases 102 = .ok (.getfield 119, 3) := by decide +kernel
theorem dX7_releases_105 : decode cX7_releases 105 = .ok (.iastore, 1) := by decide +kernel
theorem dX7_releases_106 : decode cX7_releases 106 = .ok (.aload_n 0, 1) := by decide +kernel
theorem dX7_releases_107 : decode cX7_releases 107 = .ok (.getfield 7, 3) := by decide +kernel
theorem dX7_releases_110 : decode cX7_releases 110 = .ok (.aload_n 0, 1) := by decide +kernel
theorem dX7_releases_111 : decode cX7_releases 111 = .ok (.getfield 61, 3) := by decide +kernel
theorem dX7_releases_114 : decode cX7_releases 114 = .ok (.iload_n 1, 1) := by decide +kernel
theorem dX7_releases_115 : decode cX7_releases 115 = .ok (.iaload, 1) := by decide +kernel
theorem dX7_releases_116 : decode cX7_releases 116 = .ok (.aload_n 0, 1) := by decide +kernel
theorem dX7_releases_117 : decode cX7_releases 117 = .ok (.getfield 49, 3) := by decide +kernel
theorem dX7_releases_120 : decode cX7_releases 120 = .ok (.iload_n 1, 1) := by decide +kernel
theorem dX7_releases_121 : decode cX7_releases 121 = .ok (.baload, 1) := by decide +kernel
theorem dX7_releases_122 : decode cX7_releases 122 = .ok (.invokestatic 159, 3) := by decide +kernel
theorem dX7_releases_125 : decode cX7_releases 125 = .ok (.aload_n 0, 1) := by decide +kernel
theorem dX7_releases_126 : decode cX7_releases 126 = .ok (.getfield 122, 3) := by decide +kernel
theorem dX7_releases_129 : decode cX7_releases 129 = .ok (.iastore, 1) := by decide +kernel
theorem dX7_releases_130 : decode cX7_releases 130 = .ok (.aload_n 0, 1) := by decide +kernel
theorem dX7_releases_131 : decode cX7_releases 131 = .ok (.iload_n 1, 1) := by decide +kernel
theorem dX7_releases_132 : decode cX7_releases 132 = .ok (.iload_n 2, 1) := by decide +kernel
theorem dX7_releases_133 : decode cX7_releases 133 = .ok (.iload_n 3, 1) := by decide +kernel
theorem dX7_releases_134 : decode cX7_releases 134 = .ok (.iload 4, 2) := by decide +kernel
theorem dX7_releases_136 : decode cX7_releases 136 = .ok (.invokevirtual 211, 3) := by decide +kernel
theorem dX7_releases_139 : decode cX7_releases 139 = .ok (.aload_n 0, 1) := by decide +kernel
theorem dX7_releases_140 : decode cX7_releases 140 = .ok (.getfield 70, 3) := by decide +kernel
theorem dX7_releases_143 : decode cX7_releases 143 = .ok (.iload_n 1, 1) := by decide +kernel
theorem dX7_releases_144 : decode cX7_releases 144 = .ok (.iload 4, 2) := by decide +kernel
theorem dX7_releases_146 : decode cX7_releases 146 = .ok (.iastore, 1) := by decide +kernel
theorem dX7_releases_147 : decode cX7_releases 147 = .ok (.aload_n 0, 1) := by decide +kernel
theorem dX7_releases_148 : decode cX7_releases 148 = .ok (.getfield 13, 3) := by decide +kernel
theorem dX7_releases_151 : decode cX7_releases 151 = .ok (.aload_n 0, 1) := by decide +kernel
theorem dX7_releases_152 : decode cX7_releases 152 = .ok (.getfield 61, 3) := by decide +kernel
theorem dX7_releases_155 : decode cX7_releases 155 = .ok (.iload_n 1, 1) := by decide +kernel
theorem dX7_releases_156 : decode cX7_releases 156 = .ok (.iaload, 1) := by decide +kernel
theorem dX7_releases_157 : decode cX7_releases 157 = .ok (.dup2, 1) := by decide +kernel
theorem dX7_releases_158 : decode cX7_releases 158 = .ok (.iaload, 1) := by decide +kernel
theorem dX7_releases_159 : decode cX7_releases 159 = .ok (.iload 5, 2) := by decide +kernel
theorem dX7_releases_161 : decode cX7_releases 161 = .ok (.iadd, 1) := by decide +kernel
theorem dX7_releases_162 : decode cX7_releases 162 = .ok (.iastore, 1) := by decide +kernel
theorem dX7_releases_163 : decode cX7_releases 163 = .ok (.aload_n 0, 1) := by decide +kernel
theorem dX7_releases_164 : decode cX7_releases 164 = .ok (.getfield 31, 3) := by decide +kernel
theorem dX7_releases_167 : decode cX7_releases 167 = .ok (.aload_n 0, 1) := by decide +kernel
theorem dX7_releases_168 : decode cX7_releases 168 = .ok (.getfield 61, 3) := by decide +kernel
theorem dX7_releases_171 : decode cX7_releases 171 = .ok (.iload_n 1, 1) := by decide +kernel
theorem dX7_releases_172 : decode cX7_releases 172 = .ok (.iaload, 1) := by decide +kernel
theorem dX7_releases_173 : decode cX7_releases 173 = .ok (.dup2, 1) := by decide +kernel
theorem dX7_releases_174 : decode cX7_releases 174 = .ok (.laload, 1) := by decide +kernel
theorem dX7_releases_175 : decode cX7_releases 175 = .ok (.aload_n 0, 1) := by decide +kernel
theorem dX7_releases_176 : decode cX7_releases 176 = .ok (.getfield 49, 3) := by decide +kernel
theorem dX7_releases_179 : decode cX7_releases 179 = .ok (.iload_n 1, 1) := by decide +kernel
theorem dX7_releases_180 : decode cX7_releases 180 = .ok (.baload, 1) := by decide +kernel
theorem dX7_releases_181 : decode cX7_releases 181 = .ok (.ifCond .eq 10, 3) := by decide +kernel
theorem dX7_releases_184 : decode cX7_releases 184 = .ok (.aload_n 0, 1) := by decide +kernel
theorem dX7_releases_185 : decode cX7_releases 185 = .ok (.getfield 110, 3) := by decide +kernel
theorem dX7_releases_188 : decode cX7_releases 188 = .ok (.goto 7, 3) := by decide +kernel
theorem dX7_releases_191 : decode cX7_releases 191 = .ok (.aload_n 0, 1) := by decide +kernel
theorem dX7_releases_192 : decode cX7_releases 192 = .ok (.getfield 107, 3) := by decide +kernel
theorem dX7_releases_195 : decode cX7_releases 195 = .ok (.iload 5, 2) := by decide +kernel
theorem dX7_releases_197 : decode cX7_releases 197 = .ok (.imul, 1) := by decide +kernel
theorem dX7_releases_198 : decode cX7_releases 198 = .ok (.aload_n 0, 1) := by decide +kernel
theorem dX7_releases_199 : decode cX7_releases 199 = .ok (.getfield 113, 3) := by decide +kernel
theorem dX7_releases_202 : decode cX7_releases 202 = .ok (.iload 4, 2) := by decide +kernel
theorem dX7_releases_204 : decode cX7_releases 204 = .ok (.iload_n 3, 1) := by decide +kernel
theorem dX7_releases_205 : decode cX7_releases 205 = .ok (.isub, 1) := by decide +kernel
theorem dX7_releases_206 : decode cX7_releases 206 = .ok (.imul, 1) := by decide +kernel
theorem dX7_releases_207 : decode cX7_releases 207 = .ok (.iadd, 1) := by decide +kernel
theorem dX7_releases_208 : decode cX7_releases 208 = .ok (.i2l, 1) := by decide +kernel
theorem dX7_releases_209 : decode cX7_releases 209 = .ok (.ladd, 1) := by decide +kernel
theorem dX7_releases_210 : decode cX7_releases 210 = .ok (.lastore, 1) := by decide +kernel
theorem dX7_releases_211 : decode cX7_releases 211 = .ok (.aload_n 0, 1) := by decide +kernel
theorem dX7_releases_212 : decode cX7_releases 212 = .ok (.iload_n 1, 1) := by decide +kernel
theorem dX7_releases_213 : decode cX7_releases 213 = .ok (.iload_n 2, 1) := by decide +kernel
theorem dX7_releases_214 : decode cX7_releases 214 = .ok (.iload 5, 2) := by decide +kernel
theorem dX7_releases_216 : decode cX7_releases 216 = .ok (.iload 4, 2) := by decide +kernel
theorem dX7_releases_218 : decode cX7_releases 218 = .ok (.iload_n 3, 1) := by decide +kernel
theorem dX7_releases_219 : decode cX7_releases 219 = .ok (.isub, 1) := by decide +kernel
theorem dX7_releases_220 : decode cX7_releases 220 = .ok (.invokevirtual 215, 3) := by decide +kernel
theorem dX7_releases_223 : decode cX7_releases 223 = .ok (.iload 5, 2) := by decide +kernel
theorem dX7_releases_225 : decode cX7_releases 225 = .ok (.ireturn, 1) := by decide +kernel
set_option maxRecDepth 20000 in
theorem ggX7_release_X7_isJob : GoodIn wsX7_release wsX7_isJob := goodIn_r _ [6, 7, 8, 9, 5, 10, 108, 109, 110, 111, 112, 113, 114, 115, 116, 117, 118, 119, 120, 121, 122, 123, 124, 125, 126, 127, 128, 129, 130, 131, 132, 133, 134, 135, 136, 137, 138, 139, 140, 141, 142, 143, 144, 145] (by decide +kernel) (by decide +kernel)
set_option maxRecDepth 20000 in
theorem gX7_release_X7_isJob : GoodIn wsX7_release (wsV RX7 163 RX7 yX7_isJob wsX7_isJob) := goodIn_app (goodIn_of _ (by decide +kernel)) ggX7_release_X7_isJob
set_option maxRecDepth 20000 in
theorem ggX7_release_X7_isPrinter : GoodIn wsX7_release wsX7_isPrinter := goodIn_r _ [14, 15, 8, 9, 5, 10, 108, 109, 110, 111, 112, 113, 114, 115, 116, 117, 118, 119, 120, 121, 122, 123, 124, 125, 126, 127, 128, 129, 130, 131, 132, 133, 134, 135, 136, 137, 138, 139, 140, 141, 142, 143, 144, 145] (by decide +kernel) (by decide +kernel)
set_option maxRecDepth 20000 in
theorem gX7_release_X7_isPrinter : GoodIn wsX7_release (wsV RX7 140 RX7 yX7_isPrinter wsX7_isPrinter) := goodIn_app (goodIn_of _ (by decide +kernel)) ggX7_release_X7_isPrinter
set_option maxRecDepth 20000 in
theorem ggX7_release_X7_pagesAt : GoodIn wsX7_release wsX7_pagesAt := goodIn_ca (goodIn_ca (goodIn_r _ [19, 20, 21, 22, 23, 5, 24, 25, 26, 27, 28, 29, 30, 31, 32, 33, 34, 35, 36, 37, 38, 39, 40, 41, 42, 43, 44, 45, 46, 47, 48, 49, 50, 51, 52, 53, 54, 55, 56, 57, 58, 59, 60, 61, 62, 63, 64, 65, 66, 67, 68, 69, 70, 71, 72, 73, 74, 75, 76, 77, 108, 109, 110, 111, 112, 113, 114, 115, 116, 117, 118, 119, 120, 121, 122, 123, 124, 125, 126, 127, 128, 129, 130, 131, 132, 133, 134, 135, 136, 137, 138, 139, 140, 141, 142, 143, 144, 145] (by decide +kernel) (by decide +kernel)) (goodIn_sub (fun _ h => List.mem_cons_of_mem _ (List.mem_append_left _ (List.mem_append_right _ h))) (by decide +kernel))) (goodIn_sub (fun _ h => List.mem_cons_of_mem _ (List.mem_append_right _ h)) (by decide +kernel))
set_option maxRecDepth 20000 in
theorem gX7_release_X7_pagesAt : GoodIn wsX7_release (wsV RX7 204 RX7 yX7_pagesAt wsX7_pagesAt) := goodIn_app (goodIn_of _ (by decide +kernel)) ggX7_release_X7_pagesAt
set_option maxRecDepth 20000 in
theorem ggX7_release_X7_releases : GoodIn wsX7_release wsX7_releases := goodIn_ca (goodIn_ca (goodIn_r _ [81, 20, 82, 30, 29, 31, 32, 33, 34, 35, 36, 37, 38, 83, 84, 85, 86, 87, 21, 22, 23, 5, 24, 25, 26, 27, 28, 39, 40, 41, 42, 43, 44, 45, 46, 47, 48, 49, 50, 51, 52, 53, 54, 55, 56, 57, 58, 59, 60, 61, 62, 63, 64, 65, 66, 67, 68, 69, 70, 71, 72, 73, 74, 75, 76, 77, 88, 89, 90, 91, 92, 93, 94, 95, 96, 97, 98, 99, 100, 101, 102, 103, 104, 105, 106, 107, 108, 109, 110, 111, 112, 113, 114, 115, 116, 117, 118, 119, 120, 121, 122, 123, 124, 125, 126, 127, 128, 129, 130, 131, 132, 133, 134, 135, 136, 137, 138, 139, 140, 141, 142, 143, 144, 145] (by decide +kernel) (by decide +kernel)) (goodIn_sub (fun _ h => List.mem_cons_of_mem _ (List.mem_append_left _ (List.mem_append_right _ h))) (by decide +kernel))) (goodIn_sub (fun _ h => List.mem_cons_of_mem _ (List.mem_append_right _ h)) (by decide +kernel))
set_option maxRecDepth 20000 in
theorem gX7_release_X7_releases : GoodIn wsX7_release (wsV RX7 218 RX7 yX7_releases wsX7_releases) := goodIn_app (goodIn_of _ (by decide +kernel)) ggX7_release_X7_releases
theorem dX7_release_0 : decode cX7_release 0 = .ok (.aload_n 0, 1) := by decide +kernel
theorem dX7_release_1 : decode cX7_release 1 = .ok (.aload_n 0, 1) := by decide +kernel
theorem dX7_release_2 : decode cX7_release 2 = .ok (.iload_n 1, 1) := by decide +kernel
theorem dX7_release_3 : decode cX7_release 3 = .ok (.invokevirtual 163, 3) := by decide +kernel
theorem dX7_release_6 : decode cX7_release 6 = .ok (.ifCond .eq 11, 3) := by decide +kernel
theorem dX7_release_9 : decode cX7_release 9 = .ok (.aload_n 0, 1) := by decide +kernel
theorem dX7_release_10 : decode cX7_release 10 = .ok (.iload_n 2, 1) := by decide +kernel
theorem dX7_release_11 : decode cX7_release 11 = .ok (.invokevirtual 140, 3) := by decide +kernel
theorem dX7_release_14 : decode cX7_release 14 = .ok (.ifCond .ne 7, 3) := by decide +kernel
theorem dX7_release_17 : decode cX7_release 17 = .ok (.iconst 1, 1) := by decide +kernel
theorem dX7_release_18 : decode cX7_release 18 = .ok (.goto 17, 3) := by decide +kernel
theorem dX7_release_21 : decode cX7_release 21 = .ok (.aload_n 0, 1) := by decide +kernel
theorem dX7_release_22 : decode cX7_release 22 = .ok (.iload_n 1, 1) := by decide +kernel
theorem dX7_release_23 : decode cX7_release 23 = .ok (.iload_n 2, 1) := by decide +kernel
theorem dX7_release_24 : decode cX7_release 24 = .ok (.invokevirtual 204, 3) := by decide +kernel
theorem dX7_release_27 : decode cX7_release 27 = .ok (.ifCond .ne 7, 3) := by decide +kernel
theorem dX7_release_30 : decode cX7_release 30 = .ok (.iconst 2, 1) := by decide +kernel
theorem dX7_release_31 : decode cX7_release 31 = .ok (.goto 4, 3) := by decide +kernel
theorem dX7_release_34 : decode cX7_release 34 = .ok (.iconst 0, 1) := by decide +kernel
theorem dX7_release_35 : decode cX7_release 35 = .ok (.putfield 91, 3) := by decide +kernel
theorem dX7_release_38 : decode cX7_release 38 = .ok (.aload_n 0, 1) := by decide +kernel
theorem dX7_release_39 : decode cX7_release 39 = .ok (.getfield 91, 3) := by decide +kernel
theorem dX7_release_42 : decode cX7_release 42 = .ok (.ifCond .le 7, 3) := by decide +kernel
theorem dX7_release_45 : decode cX7_release 45 = .ok (.iconst 0, 1) := by decide +kernel
theorem dX7_release_46 : decode cX7_release 46 = .ok (.goto 9, 3) := by decide +kernel
theorem dX7_release_49 : decode cX7_release 49 = .ok (.aload_n 0, 1) := by decide +kernel
theorem dX7_release_50 : decode cX7_release 50 = .ok (.iload_n 1, 1) := by decide +kernel
theorem dX7_release_51 : decode cX7_release 51 = .ok (.iload_n 2, 1) := by decide +kernel
theorem dX7_release_52 : decode cX7_release 52 = .ok (.invokevirtual 218, 3) := by decide +kernel
theorem dX7_release_55 : decode cX7_release 55 = .ok (.ireturn, 1) := by decide +kernel
set_option maxRecDepth 20000 in
theorem ggX7_releaseAll_X7_isUser : GoodIn wsX7_releaseAll wsX7_isUser := goodIn_r _ [8, 9, 10, 11, 7, 12, 113, 114, 115, 116, 117, 118, 119, 120, 121, 122, 123, 124, 125, 126, 127, 128, 129, 130, 131, 132, 133, 134, 135, 136, 137, 138, 139, 140, 141, 142, 143, 144, 145, 146, 147, 148, 149, 150] (by decide +kernel) (by decide +kernel)
set_option maxRecDepth 20000 in
theorem gX7_releaseAll_X7_isUser : GoodIn wsX7_releaseAll (wsV RX7 156 RX7 yX7_isUser wsX7_isUser) := goodIn_app (goodIn_of _ (by decide +kernel)) ggX7_releaseAll_X7_isUser
set_option maxRecDepth 20000 in
theorem ggX7_releaseAll_X7_isPrinter : GoodIn wsX7_releaseAll wsX7_isPrinter := goodIn_r _ [16, 17, 10, 11, 7, 12, 113, 114, 115, 116, 117, 118, 119, 120, 121, 122, 123, 124, 125, 126, 127, 128, 129, 130, 131, 132, 133, 134, 135, 136, 137, 138, 139, 140, 141, 142, 143, 144, 145, 146, 147, 148, 149, 150] (by decide +kernel) (by decide +kernel)
set_option maxRecDepth 20000 in
theorem gX7_releaseAll_X7_isPrinter : GoodIn wsX7_releaseAll (wsV RX7 140 RX7 yX7_isPrinter wsX7_isPrinter) := goodIn_app (goodIn_of _ (by decide +kernel)) ggX7_releaseAll_X7_isPrinter
set_option maxRecDepth 20000 in
theorem ggX7_releaseAll_X7_checked : GoodIn wsX7_releaseAll wsX7_checked := goodIn_r _ [21, 22, 113, 114, 115, 116, 117, 118, 119, 120, 121, 122, 123, 124, 125, 126, 127, 128, 129, 130, 131, 132, 133, 134, 135, 136, 137, 138, 139, 140, 141, 142, 143, 144, 145, 146, 147, 148, 149, 150] (by decide +kernel) (by decide +kernel)
set_option maxRecDepth 20000 in
theorem gX7_releaseAll_X7_checked : GoodIn wsX7_releaseAll (wsV RX7 148 RX7 yX7_checked wsX7_checked) := goodIn_app (goodIn_of _ (by decide +kernel)) ggX7_releaseAll_X7_checked
set_option maxRecDepth 20000 in
theorem ggX7_releaseAll_X7_isDone : GoodIn wsX7_releaseAll wsX7_isDone := goodIn_ca (goodIn_r _ [26, 27, 28, 29, 30, 7, 31, 32, 33, 34, 35, 36, 37, 38, 113, 114, 115, 116, 117, 118, 119, 120, 121, 122, 123, 124, 125, 126, 127, 128, 129, 130, 131, 132, 133, 134, 135, 136, 137, 138, 139, 140, 141, 142, 143, 144, 145, 146, 147, 148, 149, 150] (by decide +kernel) (by decide +kernel)) (goodIn_sub (fun _ h => List.mem_cons_of_mem _ (List.mem_append_left _ (List.mem_append_right _ h))) (by decide +kernel))
set_option maxRecDepth 20000 in
theorem gX7_releaseAll_X7_isDone : GoodIn wsX7_releaseAll (wsV RX7 177 RX7 yX7_isDone wsX7_isDone) := goodIn_app (goodIn_of _ (by decide +kernel)) ggX7_releaseAll_X7_isDone
set_option maxRecDepth 20000 in
theorem ggX7_releaseAll_X7_releases : GoodIn wsX7_releaseAll wsX7_releases := goodIn_ca (goodIn_ca (goodIn_r _ [42, 27, 43, 44, 45, 46, 47, 48, 49, 50, 2, 51, 52, 53, 54, 55, 56, 57, 58, 59, 60, 7, 61, 62, 63, 64, 65, 66, 67, 68, 69, 70, 71, 72, 3, 73, 28, 29, 30, 31, 32, 33, 34, 35, 36, 37, 38, 74, 75, 76, 77, 78, 79, 80, 81, 82, 83, 84, 85, 86, 87, 88, 89, 90, 91, 92, 93, 94, 95, 96, 97, 98, 99, 100, 101, 102, 103, 104, 105, 106, 107, 108, 109, 110, 111, 112, 113, 114, 115, 116, 117, 118, 119, 120, 121, 122, 123, 124, 125, 126, 127, 128, 129, 130, 131, 132, 133, 134, 135, 136, 137, 138, 139, 140, 141, 142, 143, 144, 145, 146, 147, 148, 149, 150] (by decide +kernel) (by decide +kernel)) (goodIn_sub (fun _ h => List.mem_cons_of_mem _ (List.mem_append_left _ (List.mem_append_right _ h))) (by decide +kernel))) (goodIn_sub (fun _ h => List.mem_cons_of_mem _ (List.mem_append_right _ h)) (by decide +kernel))
set_option maxRecDepth 20000 in
theorem gX7_releaseAll_X7_releases : GoodIn wsX7_releaseAll (wsV RX7 218 RX7 yX7_releases wsX7_releases) := goodIn_app (goodIn_of _ (by decide +kernel)) ggX7_releaseAll_X7_releases
theorem dX7_releaseAll_0 : decode cX7_releaseAll 0 = .ok (.aload_n 0, 1) := by decide +kernel
theorem dX7_releaseAll_1 : decode cX7_releaseAll 1 = .ok (.aload_n 0, 1) := by decide +kernel
theorem dX7_releaseAll_2 : decode cX7_releaseAll 2 = .ok (.iload_n 1, 1) := by decide +kernel
theorem dX7_releaseAll_3 : decode cX7_releaseAll 3 = .ok (.invokevirtual 156, 3) := by decide +kernel
theorem dX7_releaseAll_6 : decode cX7_releaseAll 6 = .ok (.ifCond .eq 15, 3) := by decide +kernel
theorem dX7_releaseAll_9 : decode cX7_releaseAll 9 = .ok (.aload_n 0, 1) := by decide +kernel
theorem dX7_releaseAll_10 : decode cX7_releaseAll 10 = .ok (.iload_n 2, 1) := by decide +kernel
theorem dX7_releaseAll_11 : decode cX7_releaseAll 11 = .ok (.invokevirtual 140, 3) := by decide +kernel
theorem dX7_releaseAll_14 : decode cX7_releaseAll 14 = .ok (.ifCond .eq 7, 3) := by decide +kernel
theorem dX7_releaseAll_17 : decode cX7_releaseAll 17 = .ok (.iconst 1, 1) := by decide +kernel
theorem dX7_releaseAll_18 : decode cX7_releaseAll 18 = .ok (.goto 4, 3) := by decide +kernel
theorem dX7_releaseAll_21 : decode cX7_releaseAll 21 = .ok (.iconst 0, 1) := by decide +kernel
theorem dX7_releaseAll_22 : decode cX7_releaseAll 22 = .ok (.invokevirtual 148, 3) := by decide +kernel
theorem dX7_releaseAll_25 : decode cX7_releaseAll 25 = .ok (.ifCond .le 5, 3) := by decide +kernel
theorem dX7_releaseAll_28 : decode cX7_releaseAll 28 = .ok (.iconst 0, 1) := by decide +kernel
theorem dX7_releaseAll_29 : decode cX7_releaseAll 29 = .ok (.ireturn, 1) := by decide +kernel
theorem dX7_releaseAll_30 : decode cX7_releaseAll 30 = .ok (.iconst 0, 1) := by decide +kernel
theorem dX7_releaseAll_31 : decode cX7_releaseAll 31 = .ok (.istore_n 3, 1) := by decide +kernel
theorem dX7_releaseAll_32 : decode cX7_releaseAll 32 = .ok (.iconst 0, 1) := by decide +kernel
theorem dX7_releaseAll_33 : decode cX7_releaseAll 33 = .ok (.istore 4, 2) := by decide +kernel
theorem dX7_releaseAll_35 : decode cX7_releaseAll 35 = .ok (.iload 4, 2) := by decide +kernel
theorem dX7_releaseAll_37 : decode cX7_releaseAll 37 = .ok (.aload_n 0, 1) := by decide +kernel
theorem dX7_releaseAll_38 : decode cX7_releaseAll 38 = .ok (.getfield 101, 3) := by decide +kernel
theorem dX7_releaseAll_41 : decode cX7_releaseAll 41 = .ok (.if_icmp .ge 64, 3) := by decide +kernel
theorem dX7_releaseAll_44 : decode cX7_releaseAll 44 = .ok (.aload_n 0, 1) := by decide +kernel
theorem dX7_releaseAll_45 : decode cX7_releaseAll 45 = .ok (.getfield 61, 3) := by decide +kernel
theorem dX7_releaseAll_48 : decode cX7_releaseAll 48 = .ok (.iload 4, 2) := by decide +kernel
theorem dX7_releaseAll_50 : decode cX7_releaseAll 50 = .ok (.iaload, 1) := by decide +kernel
theorem dX7_releaseAll_51 : decode cX7_releaseAll 51 = .ok (.iload_n 1, 1) := by decide +kernel
theorem dX7_releaseAll_52 : decode cX7_releaseAll 52 = .ok (.if_icmp .ne 47, 3) := by decide +kernel
theorem dX7_releaseAll_55 : decode cX7_releaseAll 55 = .ok (.aload_n 0, 1) := by decide +kernel
theorem dX7_releaseAll_56 : decode cX7_releaseAll 56 = .ok (.iload 4, 2) := by decide +kernel
theorem dX7_releaseAll_58 : decode cX7_releaseAll 58 = .ok (.invokevirtual 177, 3) := by decide +kernel
theorem dX7_releaseAll_61 : decode cX7_releaseAll 61 = .ok (.ifCond .ne 38, 3) := by decide +kernel
theorem dX7_releaseAll_64 : decode cX7_releaseAll 64 = .ok (.aload_n 0, 1) := by decide +kernel
theorem dX7_releaseAll_65 : decode cX7_releaseAll 65 = .ok (.getfield 58, 3) := by decide +kernel
theorem dX7_releaseAll_68 : decode cX7_releaseAll 68 = .ok (.iload 4, 2) := by decide +kernel
theorem dX7_releaseAll_70 : decode cX7_releaseAll 70 = .ok (.baload, 1) := by decide +kernel
theorem dX7_releaseAll_71 : decode cX7_releaseAll 71 = .ok (.ifCond .eq 6, 3) := by decide +kernel
theorem dX7_releaseAll_74 : decode cX7_releaseAll 74 = .ok (.goto 25, 3) := by decide +kernel
theorem dX7_releaseAll_77 : decode cX7_releaseAll 77 = .ok (.aload_n 0, 1) := by decide +kernel
theorem dX7_releaseAll_78 : decode cX7_releaseAll 78 = .ok (.iload 4, 2) := by decide +kernel
theorem dX7_releaseAll_80 : decode cX7_releaseAll 80 = .ok (.iload_n 2, 1) := by decide +kernel
theorem dX7_releaseAll_81 : decode cX7_releaseAll 81 = .ok (.invokevirtual 218, 3) := by decide +kernel
theorem dX7_releaseAll_84 : decode cX7_releaseAll 84 = .ok (.ifCond .le 15, 3) := by decide +kernel
theorem dX7_releaseAll_87 : decode cX7_releaseAll 87 = .ok (.aload_n 0, 1) := by decide +kernel
theorem dX7_releaseAll_88 : decode cX7_releaseAll 88 = .ok (.iload 4, 2) := by decide +kernel
theorem dX7_releaseAll_90 : decode cX7_releaseAll 90 = .ok (.invokevirtual 177, 3) := by decide +kernel
theorem dX7_releaseAll_93 : decode cX7_releaseAll 93 = .ok (.ifCond .eq 6, 3) := by decide +kernel
theorem dX7_releaseAll_96 : decode cX7_releaseAll 96 = .ok (.iinc 3 1, 3) := by decide +kernel
theorem dX7_releaseAll_99 : decode cX7_releaseAll 99 = .ok (.iinc 4 1, 3) := by decide +kernel
theorem dX7_releaseAll_102 : decode cX7_releaseAll 102 = .ok (.goto (-67), 3) := by decide +kernel
theorem dX7_releaseAll_105 : decode cX7_releaseAll 105 = .ok (.iload_n 3, 1) := by decide +kernel
theorem dX7_releaseAll_106 : decode cX7_releaseAll 106 = .ok (.ireturn, 1) := by decide +kernel
set_option maxRecDepth 20000 in
theorem ggX7_stopOf_X7_isJob : GoodIn wsX7_stopOf wsX7_isJob := goodIn_r _ [7, 8, 9, 10, 6, 11, 12, 13, 14, 15, 16, 17, 18, 19, 20, 21, 22, 23, 24, 25, 26, 27, 28, 29, 30, 31, 32, 33, 34, 35, 36, 37, 38, 39, 40, 41, 42, 43, 44, 45, 46, 47, 48, 49] (by decide +kernel) (by decide +kernel)
set_option maxRecDepth 20000 in
theorem gX7_stopOf_X7_isJob : GoodIn wsX7_stopOf (wsV RX7 163 RX7 yX7_isJob wsX7_isJob) := goodIn_app (goodIn_of _ (by decide +kernel)) ggX7_stopOf_X7_isJob
theorem dX7_stopOf_0 : decode cX7_stopOf 0 = .ok (.aload_n 0, 1) := by decide +kernel
theorem dX7_stopOf_1 : decode cX7_stopOf 1 = .ok (.aload_n 0, 1) := by decide +kernel
theorem dX7_stopOf_2 : decode cX7_stopOf 2 = .ok (.iload_n 1, 1) := by decide +kernel
theorem dX7_stopOf_3 : decode cX7_stopOf 3 = .ok (.invokevirtual 163, 3) := by decide +kernel
theorem dX7_stopOf_6 : decode cX7_stopOf 6 = .ok (.ifCond .ne 7, 3) := by decide +kernel
theorem dX7_stopOf_9 : decode cX7_stopOf 9 = .ok (.iconst 1, 1) := by decide +kernel
theorem dX7_stopOf_10 : decode cX7_stopOf 10 = .ok (.goto 19, 3) := by decide +kernel
theorem dX7_stopOf_13 : decode cX7_stopOf 13 = .ok (.aload_n 0, 1) := by decide +kernel
theorem dX7_stopOf_14 : decode cX7_stopOf 14 = .ok (.getfield 42, 3) := by decide +kernel
theorem dX7_stopOf_17 : decode cX7_stopOf 17 = .ok (.iload_n 1, 1) := by decide +kernel
theorem dX7_stopOf_18 : decode cX7_stopOf 18 = .ok (.caload, 1) := by decide +kernel
theorem dX7_stopOf_19 : decode cX7_stopOf 19 = .ok (.bipush 45, 2) := by decide +kernel
theorem dX7_stopOf_21 : decode cX7_stopOf 21 = .ok (.if_icmp .ne 7, 3) := by decide +kernel
theorem dX7_stopOf_24 : decode cX7_stopOf 24 = .ok (.iconst 2, 1) := by decide +kernel
theorem dX7_stopOf_25 : decode cX7_stopOf 25 = .ok (.goto 4, 3) := by decide +kernel
theorem dX7_stopOf_28 : decode cX7_stopOf 28 = .ok (.iconst 0, 1) := by decide +kernel
theorem dX7_stopOf_29 : decode cX7_stopOf 29 = .ok (.putfield 91, 3) := by decide +kernel
theorem dX7_stopOf_32 : decode cX7_stopOf 32 = .ok (.aload_n 0, 1) := by decide +kernel
theorem dX7_stopOf_33 : decode cX7_stopOf 33 = .ok (.getfield 91, 3) := by decide +kernel
theorem dX7_stopOf_36 : decode cX7_stopOf 36 = .ok (.ifCond .le 8, 3) := by decide +kernel
theorem dX7_stopOf_39 : decode cX7_stopOf 39 = .ok (.bipush 32, 2) := by decide +kernel
theorem dX7_stopOf_41 : decode cX7_stopOf 41 = .ok (.goto 9, 3) := by decide +kernel
theorem dX7_stopOf_44 : decode cX7_stopOf 44 = .ok (.aload_n 0, 1) := by decide +kernel
theorem dX7_stopOf_45 : decode cX7_stopOf 45 = .ok (.getfield 42, 3) := by decide +kernel
theorem dX7_stopOf_48 : decode cX7_stopOf 48 = .ok (.iload_n 1, 1) := by decide +kernel
theorem dX7_stopOf_49 : decode cX7_stopOf 49 = .ok (.caload, 1) := by decide +kernel
theorem dX7_stopOf_50 : decode cX7_stopOf 50 = .ok (.ireturn, 1) := by decide +kernel
set_option maxRecDepth 20000 in
theorem ggX7_bestPrinter_X7_isJob : GoodIn wsX7_bestPrinter wsX7_isJob := goodIn_r _ [7, 8, 9, 10, 6, 11, 78, 79, 80, 81, 82, 83, 84, 85, 86, 87, 88, 89, 90, 91, 92, 93, 94, 95, 96, 97, 98, 99, 100, 101, 102, 103, 104, 105, 106, 107, 108, 109, 110, 111, 112, 113, 114, 115] (by decide +kernel) (by decide +kernel)
set_option maxRecDepth 20000 in
theorem gX7_bestPrinter_X7_isJob : GoodIn wsX7_bestPrinter (wsV RX7 163 RX7 yX7_isJob wsX7_isJob) := goodIn_app (goodIn_of _ (by decide +kernel)) ggX7_bestPrinter_X7_isJob
set_option maxRecDepth 20000 in
theorem ggX7_bestPrinter_X7_checked : GoodIn wsX7_bestPrinter wsX7_checked := goodIn_r _ [15, 2, 78, 79, 80, 81, 82, 83, 84, 85, 86, 87, 88, 89, 90, 91, 92, 93, 94, 95, 96, 97, 98, 99, 100, 101, 102, 103, 104, 105, 106, 107, 108, 109, 110, 111, 112, 113, 114, 115] (by decide +kernel) (by decide +kernel)
set_option maxRecDepth 20000 in
theorem gX7_bestPrinter_X7_checked : GoodIn wsX7_bestPrinter (wsV RX7 148 RX7 yX7_checked wsX7_checked) := goodIn_app (goodIn_of _ (by decide +kernel)) ggX7_bestPrinter_X7_checked
set_option maxRecDepth 20000 in
theorem ggX7_bestPrinter_X7_pagesAt : GoodIn wsX7_bestPrinter wsX7_pagesAt := goodIn_ca (goodIn_ca (goodIn_r _ [19, 20, 21, 22, 23, 6, 24, 25, 26, 27, 28, 29, 30, 31, 32, 33, 34, 35, 36, 37, 38, 39, 40, 41, 42, 43, 44, 45, 46, 47, 48, 49, 50, 51, 52, 53, 54, 55, 56, 57, 58, 59, 60, 61, 62, 63, 64, 65, 66, 67, 68, 69, 70, 71, 72, 73, 74, 75, 76, 77, 78, 79, 80, 81, 82, 83, 84, 85, 86, 87, 88, 89, 90, 91, 92, 93, 94, 95, 96, 97, 98, 99, 100, 101, 102, 103, 104, 105, 106, 107, 108, 109, 110, 111, 112, 113, 114, 115] (by decide +kernel) (by decide +kernel)) (goodIn_sub (fun _ h => List.mem_cons_of_mem _ (List.mem_append_left _ (List.mem_append_right _ h))) (by decide +kernel))) (goodIn_sub (fun _ h => List.mem_cons_of_mem _ (List.mem_append_right _ h)) (by decide +kernel))
set_option maxRecDepth 20000 in
theorem gX7_bestPrinter_X7_pagesAt : GoodIn wsX7_bestPrinter (wsV RX7 204 RX7 yX7_pagesAt wsX7_pagesAt) := goodIn_app (goodIn_of _ (by decide +kernel)) ggX7_bestPrinter_X7_pagesAt
theorem dX7_bestPrinter_0 : decode cX7_bestPrinter 0 = .ok (.aload_n 0, 1) := by decide +kernel
theorem dX7_bestPrinter_1 : decode cX7_bestPrinter 1 = .ok (.aload_n 0, 1) := by decide +kernel
theorem dX7_bestPrinter_2 : decode cX7_bestPrinter 2 = .ok (.iload_n 1, 1) := by decide +kernel
theorem dX7_bestPrinter_3 : decode cX7_bestPrinter 3 = .ok (.invokevirtual 163, 3) := by decide +kernel
theorem dX7_bestPrinter_6 : decode cX7_bestPrinter 6 = .ok (.invokevirtual 148, 3) := by decide +kernel
theorem dX7_bestPrinter_9 : decode cX7_bestPrinter 9 = .ok (.ifCond .le 5, 3) := by decide +kernel
theorem dX7_bestPrinter_12 : decode cX7_bestPrinter 12 = .ok (.iconst 0, 1) := by decide +kernel
theorem dX7_bestPrinter_13 : decode cX7_bestPrinter 13 = .ok (.ireturn, 1) := by decide +kernel
theorem dX7_bestPrinter_14 : decode cX7_bestPrinter 14 = .ok (.iconst (-1), 1) := by decide +kernel
theorem dX7_bestPrinter_15 : decode cX7_bestPrinter 15 = .ok (.istore_n 2, 1) := by decide +kernel
theorem dX7_bestPrinter_16 : decode cX7_bestPrinter 16 = .ok (.iconst 0, 1) := by decide +kernel
theorem dX7_bestPrinter_17 : decode cX7_bestPrinter 17 = .ok (.istore_n 3, 1) := by decide +kernel
theorem dX7_bestPrinter_18 : decode cX7_bestPrinter 18 = .ok (.iconst 0, 1) := by decide +kernel
theorem dX7_bestPrinter_19 : decode cX7_bestPrinter 19 = .ok (.istore 4, 2) := by decide +kernel
theorem dX7_bestPrinter_21 : decode cX7_bestPrinter 21 = .ok (.iload 4, 2) := by decide +kernel
theorem dX7_bestPrinter_23 : decode cX7_bestPrinter 23 = .ok (.aload_n 0, 1) := by decide +kernel
theorem dX7_bestPrinter_24 : decode cX7_bestPrinter 24 = .ok (.getfield 98, 3) := by decide +kernel
theorem dX7_bestPrinter_27 : decode cX7_bestPrinter 27 = .ok (.if_icmp .ge 33, 3) := by decide +kernel
theorem dX7_bestPrinter_30 : decode cX7_bestPrinter 30 = .ok (.aload_n 0, 1) := by decide +kernel
theorem dX7_bestPrinter_31 : decode cX7_bestPrinter 31 = .ok (.iload_n 1, 1) := by decide +kernel
theorem dX7_bestPrinter_32 : decode cX7_bestPrinter 32 = .ok (.iload 4, 2) := by decide +kernel
theorem dX7_bestPrinter_34 : decode cX7_bestPrinter 34 = .ok (.invokevirtual 204, 3) := by decide +kernel
theorem dX7_bestPrinter_37 : decode cX7_bestPrinter 37 = .ok (.istore 5, 2) := by decide +kernel
theorem dX7_bestPrinter_39 : decode cX7_bestPrinter 39 = .ok (.iload 5, 2) := by decide +kernel
theorem dX7_bestPrinter_41 : decode cX7_bestPrinter 41 = .ok (.iload_n 3, 1) := by decide +kernel
theorem dX7_bestPrinter_42 : decode cX7_bestPrinter 42 = .ok (.if_icmp .gt 6, 3) := by decide +kernel
theorem dX7_bestPrinter_45 : decode cX7_bestPrinter 45 = .ok (.goto 9, 3) := by decide +kernel
theorem dX7_bestPrinter_48 : decode cX7_bestPrinter 48 = .ok (.iload 4, 2) := by decide +kernel
theorem dX7_bestPrinter_50 : decode cX7_bestPrinter 50 = .ok (.istore_n 2, 1) := by decide +kernel
theorem dX7_bestPrinter_51 : decode cX7_bestPrinter 51 = .ok (.iload 5, 2) := by decide +kernel
theorem dX7_bestPrinter_53 : decode cX7_bestPrinter 53 = .ok (.istore_n 3, 1) := by decide +kernel
theorem dX7_bestPrinter_54 : decode cX7_bestPrinter 54 = .ok (.iinc 4 1, 3) := by decide +kernel
theorem dX7_bestPrinter_57 : decode cX7_bestPrinter 57 = .ok (.goto (-36), 3) := by decide +kernel
theorem dX7_bestPrinter_60 : decode cX7_bestPrinter 60 = .ok (.aload_n 0, 1) := by decide +kernel
theorem dX7_bestPrinter_61 : decode cX7_bestPrinter 61 = .ok (.iload_n 2, 1) := by decide +kernel
theorem dX7_bestPrinter_62 : decode cX7_bestPrinter 62 = .ok (.ifCond .ge 7, 3) := by decide +kernel
theorem dX7_bestPrinter_65 : decode cX7_bestPrinter 65 = .ok (.iconst 2, 1) := by decide +kernel
theorem dX7_bestPrinter_66 : decode cX7_bestPrinter 66 = .ok (.goto 4, 3) := by decide +kernel
theorem dX7_bestPrinter_69 : decode cX7_bestPrinter 69 = .ok (.iconst 0, 1) := by decide +kernel
theorem dX7_bestPrinter_70 : decode cX7_bestPrinter 70 = .ok (.putfield 91, 3) := by decide +kernel
theorem dX7_bestPrinter_73 : decode cX7_bestPrinter 73 = .ok (.aload_n 0, 1) := by decide +kernel
theorem dX7_bestPrinter_74 : decode cX7_bestPrinter 74 = .ok (.getfield 91, 3) := by decide +kernel
theorem dX7_bestPrinter_77 : decode cX7_bestPrinter 77 = .ok (.ifCond .le 7, 3) := by decide +kernel
theorem dX7_bestPrinter_80 : decode cX7_bestPrinter 80 = .ok (.iconst 0, 1) := by decide +kernel
theorem dX7_bestPrinter_81 : decode cX7_bestPrinter 81 = .ok (.goto 4, 3) := by decide +kernel
theorem dX7_bestPrinter_84 : decode cX7_bestPrinter 84 = .ok (.iload_n 2, 1) := by decide +kernel
theorem dX7_bestPrinter_85 : decode cX7_bestPrinter 85 = .ok (.ireturn, 1) := by decide +kernel
set_option maxRecDepth 20000 in
theorem ggX7_rank_X7_tried : GoodIn wsX7_rank wsX7_tried := goodIn_ca (goodIn_ca (goodIn_r _ [6, 1, 7, 8, 9, 5, 10, 11, 12, 13, 14, 15, 16, 17, 18, 19, 20, 21, 22, 23, 24, 25, 26, 27, 28, 29, 30, 31, 32, 33, 34, 35, 36, 37, 38, 39, 40, 41, 42, 43, 44, 45, 46, 47, 48, 49, 50, 51, 52, 53, 54, 55, 56, 57, 58, 59, 60, 61, 62, 63, 64, 65, 66, 67, 68, 69, 70, 71, 72, 73, 74, 75, 76, 77, 78, 79, 80, 81, 82, 83, 84, 85, 86, 87, 88, 89, 90, 91, 92, 93] (by decide +kernel) (by decide +kernel)) (goodIn_sub (fun _ h => List.mem_cons_of_mem _ (List.mem_append_left _ (List.mem_append_right _ h))) (by decide +kernel))) (goodIn_sub (fun _ h => List.mem_cons_of_mem _ (List.mem_append_right _ h)) (by decide +kernel))
set_option maxRecDepth 20000 in
theorem gX7_rank_X7_tried : GoodIn wsX7_rank (wsV RX7 201 RX7 yX7_tried wsX7_tried) := goodIn_app (goodIn_of _ (by decide +kernel)) ggX7_rank_X7_tried
set_option maxRecDepth 20000 in
theorem ggX7_rank_X7_allSheets : GoodIn wsX7_rank wsX7_allSheets := goodIn_ca (goodIn_r _ [33, 34, 35, 36, 37, 5, 38, 39, 40, 56, 57, 58, 59, 60, 61, 62, 63, 64, 65, 66, 67, 68, 69, 70, 71, 72, 73, 74, 75, 76, 77, 78, 79, 80, 81, 82, 83, 84, 85, 86, 87, 88, 89, 90, 91, 92, 93] (by decide +kernel) (by decide +kernel)) (goodIn_sub (fun _ h => List.mem_cons_of_mem _ (List.mem_append_left _ (List.mem_append_right _ h))) (by decide +kernel))
set_option maxRecDepth 20000 in
theorem gX7_rank_X7_allSheets : GoodIn wsX7_rank (wsV RX7 170 RX7 yX7_allSheets wsX7_allSheets) := goodIn_app (goodIn_of _ (by decide +kernel)) ggX7_rank_X7_allSheets
theorem dX7_rank_0 : decode cX7_rank 0 = .ok (.aload_n 0, 1) := by decide +kernel
theorem dX7_rank_1 : decode cX7_rank 1 = .ok (.iload_n 1, 1) := by decide +kernel
theorem dX7_rank_2 : decode cX7_rank 2 = .ok (.iload_n 2, 1) := by decide +kernel
theorem dX7_rank_3 : decode cX7_rank 3 = .ok (.invokevirtual 201, 3) := by decide +kernel
theorem dX7_rank_6 : decode cX7_rank 6 = .ok (.istore_n 3, 1) := by decide +kernel
theorem dX7_rank_7 : decode cX7_rank 7 = .ok (.iload_n 3, 1) := by decide +kernel
theorem dX7_rank_8 : decode cX7_rank 8 = .ok (.aload_n 0, 1) := by decide +kernel
theorem dX7_rank_9 : decode cX7_rank 9 = .ok (.getfield 70, 3) := by decide +kernel
theorem dX7_rank_12 : decode cX7_rank 12 = .ok (.iload_n 1, 1) := by decide +kernel
theorem dX7_rank_13 : decode cX7_rank 13 = .ok (.iaload, 1) := by decide +kernel
theorem dX7_rank_14 : decode cX7_rank 14 = .ok (.if_icmp .ne 5, 3) := by decide +kernel
theorem dX7_rank_17 : decode cX7_rank 17 = .ok (.iconst 0, 1) := by decide +kernel
theorem dX7_rank_18 : decode cX7_rank 18 = .ok (.ireturn, 1) := by decide +kernel
theorem dX7_rank_19 : decode cX7_rank 19 = .ok (.iload_n 3, 1) := by decide +kernel
theorem dX7_rank_20 : decode cX7_rank 20 = .ok (.aload_n 0, 1) := by decide +kernel
theorem dX7_rank_21 : decode cX7_rank 21 = .ok (.iload_n 1, 1) := by decide +kernel
theorem dX7_rank_22 : decode cX7_rank 22 = .ok (.invokevirtual 170, 3) := by decide +kernel
theorem dX7_rank_25 : decode cX7_rank 25 = .ok (.if_icmp .ne 7, 3) := by decide +kernel
theorem dX7_rank_28 : decode cX7_rank 28 = .ok (.iconst 2, 1) := by decide +kernel
theorem dX7_rank_29 : decode cX7_rank 29 = .ok (.goto 4, 3) := by decide +kernel
theorem dX7_rank_32 : decode cX7_rank 32 = .ok (.iconst 1, 1) := by decide +kernel
theorem dX7_rank_33 : decode cX7_rank 33 = .ok (.ireturn, 1) := by decide +kernel
set_option maxRecDepth 20000 in
theorem ggX7_queued_X7_rank : GoodIn wsX7_queued wsX7_rank := goodIn_ca (goodIn_ca (goodIn_r _ [6, 7, 8, 9, 10, 5, 11, 12, 13, 14, 15, 16, 17, 18, 19, 20, 21, 22, 23, 24, 25, 26, 27, 28, 29, 30, 31, 32, 33, 34, 35, 36, 37, 38, 39, 40, 41, 42, 43, 44, 45, 46, 47, 48, 49, 50, 51, 52, 53, 54, 55, 56, 57, 58, 59, 60, 61, 62, 63, 64, 65, 66, 67, 68, 69, 70, 71, 72, 73, 74, 75, 76, 77, 78, 79, 80, 81, 82, 83, 84, 85, 86, 87, 88, 89, 90, 91, 92, 93, 94, 95, 96, 97, 98] (by decide +kernel) (by decide +kernel)) (goodIn_sub (fun _ h => List.mem_cons_of_mem _ (List.mem_append_left _ (List.mem_append_right _ h))) (by decide +kernel))) (goodIn_sub (fun _ h => List.mem_cons_of_mem _ (List.mem_append_right _ h)) (by decide +kernel))
set_option maxRecDepth 20000 in
theorem gX7_queued_X7_rank : GoodIn wsX7_queued (wsV RX7 221 RX7 yX7_rank wsX7_rank) := goodIn_app (goodIn_of _ (by decide +kernel)) ggX7_queued_X7_rank
theorem dX7_queued_0 : decode cX7_queued 0 = .ok (.iconst 0, 1) := by decide +kernel
theorem dX7_queued_1 : decode cX7_queued 1 = .ok (.istore_n 2, 1) := by decide +kernel
theorem dX7_queued_2 : decode cX7_queued 2 = .ok (.iconst 0, 1) := by decide +kernel
theorem dX7_queued_3 : decode cX7_queued 3 = .ok (.istore_n 3, 1) := by decide +kernel
theorem dX7_queued_4 : decode cX7_queued 4 = .ok (.iload_n 3, 1) := by decide +kernel
theorem dX7_queued_5 : decode cX7_queued 5 = .ok (.aload_n 0, 1) := by decide +kernel
theorem dX7_queued_6 : decode cX7_queued 6 = .ok (.getfield 101, 3) := by decide +kernel
theorem dX7_queued_9 : decode cX7_queued 9 = .ok (.if_icmp .ge 26, 3) := by decide +kernel
theorem dX7_queued_12 : decode cX7_queued 12 = .ok (.iload_n 2, 1) := by decide +kernel
theorem dX7_queued_13 : decode cX7_queued 13 = .ok (.aload_n 0, 1) := by decide +kernel
theorem dX7_queued_14 : decode cX7_queued 14 = .ok (.iload_n 3, 1) := by decide +kernel
theorem dX7_queued_15 : decode cX7_queued 15 = .ok (.iload_n 1, 1) := by decide +kernel
theorem dX7_queued_16 : decode cX7_queued 16 = .ok (.invokevirtual 221, 3) := by decide +kernel
theorem dX7_queued_19 : decode cX7_queued 19 = .ok (.ifCond .le 7, 3) := by decide +kernel
theorem dX7_queued_22 : decode cX7_queued 22 = .ok (.iconst 1, 1) := by decide +kernel
theorem dX7_queued_23 : decode cX7_queued 23 = .ok (.goto 4, 3) := by decide +kernel
theorem dX7_queued_26 : decode cX7_queued 26 = .ok (.iconst 0, 1) := by decide +kernel
theorem dX7_queued_27 : decode cX7_queued 27 = .ok (.iadd, 1) := by decide +kernel
theorem dX7_queued_28 : decode cX7_queued 28 = .ok (.istore_n 2, 1) := by decide +kernel
theorem dX7_queued_29 : decode cX7_queued 29 = .ok (.iinc 3 1, 3) := by decide +kernel
theorem dX7_queued_32 : decode cX7_queued 32 = .ok (.goto (-28), 3) := by decide +kernel
theorem dX7_queued_35 : decode cX7_queued 35 = .ok (.iload_n 2, 1) := by decide +kernel
theorem dX7_queued_36 : decode cX7_queued 36 = .ok (.ireturn, 1) := by decide +kernel
set_option maxRecDepth 20000 in
theorem ggX7_queueLength_X7_isPrinter : GoodIn wsX7_queueLength wsX7_isPrinter := goodIn_r _ [5, 6, 7, 8, 4, 9, 78, 79, 80, 81, 82, 83, 84, 85, 86, 87, 88, 89, 90, 91, 92, 93, 94, 95, 96, 97, 98, 99, 100, 101, 102, 103, 104, 105, 106, 107, 108, 109, 110, 111, 112, 113, 114, 115] (by decide +kernel) (by decide +kernel)
set_option maxRecDepth 20000 in
theorem gX7_queueLength_X7_isPrinter : GoodIn wsX7_queueLength (wsV RX7 140 RX7 yX7_isPrinter wsX7_isPrinter) := goodIn_app (goodIn_of _ (by decide +kernel)) ggX7_queueLength_X7_isPrinter
set_option maxRecDepth 20000 in
theorem ggX7_queueLength_X7_checked : GoodIn wsX7_queueLength wsX7_checked := goodIn_r _ [13, 14, 78, 79, 80, 81, 82, 83, 84, 85, 86, 87, 88, 89, 90, 91, 92, 93, 94, 95, 96, 97, 98, 99, 100, 101, 102, 103, 104, 105, 106, 107, 108, 109, 110, 111, 112, 113, 114, 115] (by decide +kernel) (by decide +kernel)
set_option maxRecDepth 20000 in
theorem gX7_queueLength_X7_checked : GoodIn wsX7_queueLength (wsV RX7 148 RX7 yX7_checked wsX7_checked) := goodIn_app (goodIn_of _ (by decide +kernel)) ggX7_queueLength_X7_checked
set_option maxRecDepth 20000 in
theorem ggX7_queueLength_X7_queued : GoodIn wsX7_queueLength wsX7_queued := goodIn_ca (goodIn_ca (goodIn_r _ [18, 19, 20, 21, 22, 4, 23, 24, 25, 26, 27, 28, 29, 30, 31, 32, 33, 34, 35, 36, 37, 38, 39, 40, 41, 42, 43, 44, 45, 46, 47, 48, 49, 50, 51, 52, 53, 54, 55, 56, 57, 58, 59, 60, 61, 62, 63, 64, 65, 66, 67, 68, 69, 70, 71, 72, 73, 74, 75, 76, 77, 78, 79, 80, 81, 82, 83, 84, 85, 86, 87, 88, 89, 90, 91, 92, 93, 94, 95, 96, 97, 98, 99, 100, 101, 102, 103, 104, 105, 106, 107, 108, 109, 110, 111, 112, 113, 114, 115] (by decide +kernel) (by decide +kernel)) (goodIn_sub (fun _ h => List.mem_cons_of_mem _ (List.mem_append_left _ (List.mem_append_right _ h))) (by decide +kernel))) (goodIn_sub (fun _ h => List.mem_cons_of_mem _ (List.mem_append_right _ h)) (by decide +kernel))
set_option maxRecDepth 20000 in
theorem gX7_queueLength_X7_queued : GoodIn wsX7_queueLength (wsV RX7 224 RX7 yX7_queued wsX7_queued) := goodIn_app (goodIn_of _ (by decide +kernel)) ggX7_queueLength_X7_queued
theorem dX7_queueLength_0 : decode cX7_queueLength 0 = .ok (.aload_n 0, 1) := by decide +kernel
theorem dX7_queueLength_1 : decode cX7_queueLength 1 = .ok (.aload_n 0, 1) := by decide +kernel
theorem dX7_queueLength_2 : decode cX7_queueLength 2 = .ok (.iload_n 1, 1) := by decide +kernel
theorem dX7_queueLength_3 : decode cX7_queueLength 3 = .ok (.invokevirtual 140, 3) := by decide +kernel
theorem dX7_queueLength_6 : decode cX7_queueLength 6 = .ok (.invokevirtual 148, 3) := by decide +kernel
theorem dX7_queueLength_9 : decode cX7_queueLength 9 = .ok (.ifCond .le 7, 3) := by decide +kernel
theorem dX7_queueLength_12 : decode cX7_queueLength 12 = .ok (.iconst 0, 1) := by decide +kernel
theorem dX7_queueLength_13 : decode cX7_queueLength 13 = .ok (.goto 8, 3) := by decide +kernel
theorem dX7_queueLength_16 : decode cX7_queueLength 16 = .ok (.aload_n 0, 1) := by decide +kernel
theorem dX7_queueLength_17 : decode cX7_queueLength 17 = .ok (.iload_n 1, 1) := by decide +kernel
theorem dX7_queueLength_18 : decode cX7_queueLength 18 = .ok (.invokevirtual 224, 3) := by decide +kernel
theorem dX7_queueLength_21 : decode cX7_queueLength 21 = .ok (.ireturn, 1) := by decide +kernel
set_option maxRecDepth 20000 in
theorem ggX7_queueAt_X7_isPrinter : GoodIn wsX7_queueAt wsX7_isPrinter := goodIn_r _ [7, 8, 9, 10, 6, 11, 74, 75, 76, 77, 78, 79, 80, 81, 82, 83, 84, 85, 86, 87, 88, 89, 90, 91, 92, 93, 94, 95, 96, 97, 98, 99, 100, 101, 102, 103, 104, 105, 106, 107, 108, 109, 110, 111] (by decide +kernel) (by decide +kernel)
set_option maxRecDepth 20000 in
theorem gX7_queueAt_X7_isPrinter : GoodIn wsX7_queueAt (wsV RX7 140 RX7 yX7_isPrinter wsX7_isPrinter) := goodIn_app (goodIn_of _ (by decide +kernel)) ggX7_queueAt_X7_isPrinter
set_option maxRecDepth 20000 in
theorem ggX7_queueAt_X7_queued : GoodIn wsX7_queueAt wsX7_queued := goodIn_ca (goodIn_ca (goodIn_r _ [15, 2, 16, 17, 18, 6, 19, 20, 21, 22, 23, 24, 25, 26, 27, 28, 29, 30, 31, 32, 33, 34, 35, 36, 37, 38, 39, 40, 41, 42, 43, 44, 45, 46, 47, 48, 49, 50, 51, 52, 53, 54, 55, 56, 57, 58, 59, 60, 61, 62, 63, 64, 65, 66, 67, 68, 69, 70, 71, 72, 73, 74, 75, 76, 77, 78, 79, 80, 81, 82, 83, 84, 85, 86, 87, 88, 89, 90, 91, 92, 93, 94, 95, 96, 97, 98, 99, 100, 101, 102, 103, 104, 105, 106, 107, 108, 109, 110, 111] (by decide +kernel) (by decide +kernel)) (goodIn_sub (fun _ h => List.mem_cons_of_mem _ (List.mem_append_left _ (List.mem_append_right _ h))) (by decide +kernel))) (goodIn_sub (fun _ h => List.mem_cons_of_mem _ (List.mem_append_right _ h)) (by decide +kernel))
set_option maxRecDepth 20000 in
theorem gX7_queueAt_X7_queued : GoodIn wsX7_queueAt (wsV RX7 224 RX7 yX7_queued wsX7_queued) := goodIn_app (goodIn_of _ (by decide +kernel)) ggX7_queueAt_X7_queued
set_option maxRecDepth 20000 in
theorem ggX7_queueAt_X7_in : GoodIn wsX7_queueAt wsX7_in := goodIn_r _ [11] (by decide +kernel) (by decide +kernel)
set_option maxRecDepth 20000 in
theorem gX7_queueAt_X7_in : GoodIn wsX7_queueAt (va_wsS RX7 136 yX7_in wsX7_in) := goodIn_app (goodIn_of _ (by decide +kernel)) ggX7_queueAt_X7_in
set_option maxRecDepth 20000 in
theorem ggX7_queueAt_X7_rank : GoodIn wsX7_queueAt wsX7_rank := goodIn_ca (goodIn_ca (goodIn_r _ [19, 20, 21, 22, 23, 6, 24, 25, 26, 27, 28, 29, 30, 31, 32, 33, 34, 35, 36, 37, 38, 39, 40, 41, 42, 43, 44, 45, 46, 47, 48, 49, 50, 51, 52, 53, 54, 55, 56, 57, 58, 59, 60, 61, 62, 63, 64, 65, 66, 67, 68, 69, 70, 71, 72, 73, 74, 75, 76, 77, 78, 79, 80, 81, 82, 83, 84, 85, 86, 87, 88, 89, 90, 91, 92, 93, 94, 95, 96, 97, 98, 99, 100, 101, 102, 103, 104, 105, 106, 107, 108, 109, 110, 111] (by decide +kernel) (by decide +kernel)) (goodIn_sub (fun _ h => List.mem_cons_of_mem _ (List.mem_append_left _ (List.mem_append_right _ h))) (by decide +kernel))) (goodIn_sub (fun _ h => List.mem_cons_of_mem _ (List.mem_append_right _ h)) (by decide +kernel))
set_option maxRecDepth 20000 in
theorem gX7_queueAt_X7_rank : GoodIn wsX7_queueAt (wsV RX7 221 RX7 yX7_rank wsX7_rank) := goodIn_app (goodIn_of _ (by decide +kernel)) ggX7_queueAt_X7_rank
theorem dX7_queueAt_0 : decode cX7_queueAt 0 = .ok (.aload_n 0, 1) := by decide +kernel
theorem dX7_queueAt_1 : decode cX7_queueAt 1 = .ok (.aload_n 0, 1) := by decide +kernel
theorem dX7_queueAt_2 : decode cX7_queueAt 2 = .ok (.iload_n 1, 1) := by decide +kernel
theorem dX7_queueAt_3 : decode cX7_queueAt 3 = .ok (.invokevirtual 140, 3) := by decide +kernel
theorem dX7_queueAt_6 : decode cX7_queueAt 6 = .ok (.ifCond .ne 7, 3) := by decide +kernel
theorem dX7_queueAt_9 : decode cX7_queueAt 9 = .ok (.iconst 1, 1) := by decide +kernel
theorem dX7_queueAt_10 : decode cX7_queueAt 10 = .ok (.goto 23, 3) := by decide +kernel
theorem dX7_queueAt_13 : decode cX7_queueAt 13 = .ok (.iload_n 2, 1) := by decide +kernel
theorem dX7_queueAt_14 : decode cX7_queueAt 14 = .ok (.iconst 0, 1) := by decide +kernel
theorem dX7_queueAt_15 : decode cX7_queueAt 15 = .ok (.aload_n 0, 1) := by decide +kernel
theorem dX7_queueAt_16 : decode cX7_queueAt 16 = .ok (.iload_n 1, 1) := by decide +kernel
theorem dX7_queueAt_17 : decode cX7_queueAt 17 = .ok (.invokevirtual 224, 3) := by decide +kernel
theorem dX7_queueAt_20 : decode cX7_queueAt 20 = .ok (.iconst 1, 1) := by decide +kernel
theorem dX7_queueAt_21 : decode cX7_queueAt 21 = .ok (.isub, 1) := by decide +kernel
theorem dX7_queueAt_22 : decode cX7_queueAt 22 = .ok (.invokestatic 136, 3) := by decide +kernel
theorem dX7_queueAt_25 : decode cX7_queueAt 25 = .ok (.ifCond .ne 7, 3) := by decide +kernel
theorem dX7_queueAt_28 : decode cX7_queueAt 28 = .ok (.iconst 2, 1) := by decide +kernel
theorem dX7_queueAt_29 : decode cX7_queueAt 29 = .ok (.goto 4, 3) := by decide +kernel
theorem dX7_queueAt_32 : decode cX7_queueAt 32 = .ok (.iconst 0, 1) := by decide +kernel
theorem dX7_queueAt_33 : decode cX7_queueAt 33 = .ok (.putfield 91, 3) := by decide +kernel
theorem dX7_queueAt_36 : decode cX7_queueAt 36 = .ok (.aload_n 0, 1) := by decide +kernel
theorem dX7_queueAt_37 : decode cX7_queueAt 37 = .ok (.getfield 91, 3) := by decide +kernel
theorem dX7_queueAt_40 : decode cX7_queueAt 40 = .ok (.ifCond .le 5, 3) := by decide +kernel
theorem dX7_queueAt_43 : decode cX7_queueAt 43 = .ok (.iconst 0, 1) := by decide +kernel
theorem dX7_queueAt_44 : decode cX7_queueAt 44 = .ok (.ireturn, 1) := by decide +kernel
theorem dX7_queueAt_45 : decode cX7_queueAt 45 = .ok (.iload_n 2, 1) := by decide +kernel
theorem dX7_queueAt_46 : decode cX7_queueAt 46 = .ok (.istore_n 3, 1) := by decide +kernel
theorem dX7_queueAt_47 : decode cX7_queueAt 47 = .ok (.iconst 2, 1) := by decide +kernel
theorem dX7_queueAt_48 : decode cX7_queueAt 48 = .ok (.istore 4, 2) := by decide +kernel
theorem dX7_queueAt_50 : decode cX7_queueAt 50 = .ok (.iload 4, 2) := by decide +kernel
theorem dX7_queueAt_52 : decode cX7_queueAt 52 = .ok (.ifCond .le 52, 3) := by decide +kernel
theorem dX7_queueAt_55 : decode cX7_queueAt 55 = .ok (.iconst 0, 1) := by decide +kernel
theorem dX7_queueAt_56 : decode cX7_queueAt 56 = .ok (.istore 5, 2) := by decide +kernel
theorem dX7_queueAt_58 : decode cX7_queueAt 58 = .ok (.iload 5, 2) := by decide +kernel
theorem dX7_queueAt_60 : decode cX7_queueAt 60 = .ok (.aload_n 0, 1) := by decide +kernel
theorem dX7_queueAt_61 : decode cX7_queueAt 61 = .ok (.getfield 101, 3) := by decide +kernel
theorem dX7_queueAt_64 : decode cX7_queueAt 64 = .ok (.if_icmp .ge 34, 3) := by decide +kernel
theorem dX7_queueAt_67 : decode cX7_queueAt 67 = .ok (.aload_n 0, 1) := by decide +kernel
theorem dX7_queueAt_68 : decode cX7_queueAt 68 = .ok (.iload 5, 2) := by decide +kernel
theorem dX7_queueAt_70 : decode cX7_queueAt 70 = .ok (.iload_n 1, 1) := by decide +kernel
theorem dX7_queueAt_71 : decode cX7_queueAt 71 = .ok (.invokevirtual 221, 3) := by decide +kernel
theorem dX7_queueAt_74 : decode cX7_queueAt 74 = .ok (.iload 4, 2) := by decide +kernel
theorem dX7_queueAt_76 : decode cX7_queueAt 76 = .ok (.if_icmp .eq 6, 3) := by decide +kernel
theorem dX7_queueAt_79 : decode cX7_queueAt 79 = .ok (.goto 13, 3) := by decide +kernel
theorem dX7_queueAt_82 : decode cX7_queueAt 82 = .ok (.iload_n 3, 1) := by decide +kernel
theorem dX7_queueAt_83 : decode cX7_queueAt 83 = .ok (.ifCond .ne 6, 3) := by decide +kernel
theorem dX7_queueAt_86 : decode cX7_queueAt 86 = .ok (.iload 5, 2) := by decide +kernel
theorem dX7_queueAt_88 : decode cX7_queueAt 88 = .ok (.ireturn, 1) := by decide +kernel
theorem dX7_queueAt_89 : decode cX7_queueAt 89 = .ok (.iinc 3 (-1), 3) := by decide +kernel
theorem dX7_queueAt_92 : decode cX7_queueAt 92 = .ok (.iinc 5 1, 3) := by decide +kernel
theorem dX7_queueAt_95 : decode cX7_queueAt 95 = .ok (.goto (-37), 3) := by decide +kernel
theorem dX7_queueAt_98 : decode cX7_queueAt 98 = .ok (.iinc 4 (-1), 3) := by decide +kernel
theorem dX7_queueAt_101 : decode cX7_queueAt 101 = .ok (.goto (-51), 3) := by decide +kernel
theorem dX7_queueAt_104 : decode cX7_queueAt 104 = .ok (.iconst 0, 1) := by decide +kernel
theorem dX7_queueAt_105 : decode cX7_queueAt 105 = .ok (.ireturn, 1) := by decide +kernel
set_option maxRecDepth 20000 in
theorem ggX7_logSize_X7_plain : GoodIn wsX7_logSize wsX7_plain := goodIn_r _ [6, 7, 8, 9, 10, 11, 12, 13, 14, 15, 16, 17, 18, 19, 20, 21, 22, 23, 24, 25, 26, 27, 28, 29, 30, 31, 32, 33, 34, 35, 36, 37, 38, 39, 40, 41, 42, 43, 44, 45] (by decide +kernel) (by decide +kernel)
set_option maxRecDepth 20000 in
theorem gX7_logSize_X7_plain : GoodIn wsX7_logSize (wsV RX7 227 RX7 yX7_plain wsX7_plain) := goodIn_app (goodIn_of _ (by decide +kernel)) ggX7_logSize_X7_plain
theorem dX7_logSize_0 : decode cX7_logSize 0 = .ok (.aload_n 0, 1) := by decide +kernel
theorem dX7_logSize_1 : decode cX7_logSize 1 = .ok (.aload_n 0, 1) := by decide +kernel
theorem dX7_logSize_2 : decode cX7_logSize 2 = .ok (.getfield 104, 3) := by decide +kernel
theorem dX7_logSize_5 : decode cX7_logSize 5 = .ok (.invokevirtual 227, 3) := by decide +kernel
theorem dX7_logSize_8 : decode cX7_logSize 8 = .ok (.ireturn, 1) := by decide +kernel
set_option maxRecDepth 20000 in
theorem ggX7_isEntry_X7_in : GoodIn wsX7_isEntry wsX7_in := goodIn_r _ [5] (by decide +kernel) (by decide +kernel)
set_option maxRecDepth 20000 in
theorem gX7_isEntry_X7_in : GoodIn wsX7_isEntry (va_wsS RX7 136 yX7_in wsX7_in) := goodIn_app (goodIn_of _ (by decide +kernel)) ggX7_isEntry_X7_in
theorem dX7_isEntry_0 : decode cX7_isEntry 0 = .ok (.iload_n 1, 1) := by decide +kernel
theorem dX7_isEntry_1 : decode cX7_isEntry 1 = .ok (.iconst 0, 1) := by decide +kernel
theorem dX7_isEntry_2 : decode cX7_isEntry 2 = .ok (.aload_n 0, 1) := by decide +kernel
theorem dX7_isEntry_3 : decode cX7_isEntry 3 = .ok (.getfield 104, 3) := by decide +kernel
theorem dX7_isEntry_6 : decode cX7_isEntry 6 = .ok (.iconst 1, 1) := by decide +kernel
theorem dX7_isEntry_7 : decode cX7_isEntry 7 = .ok (.isub, 1) := by decide +kernel
theorem dX7_isEntry_8 : decode cX7_isEntry 8 = .ok (.invokestatic 136, 3) := by decide +kernel
theorem dX7_isEntry_11 : decode cX7_isEntry 11 = .ok (.ireturn, 1) := by decide +kernel
set_option maxRecDepth 20000 in
theorem ggX7_logJob_X7_isEntry : GoodIn wsX7_logJob wsX7_isEntry := goodIn_r _ [6, 7, 8, 9, 5, 10, 16, 17, 18, 19, 20, 21, 22, 23, 24, 25, 26, 27, 28, 29, 30, 31, 32, 33, 34, 35, 36, 37, 38, 39, 40, 41, 42, 43, 44, 45, 46, 47, 48, 49, 50, 51, 52, 53] (by decide +kernel) (by decide +kernel)
set_option maxRecDepth 20000 in
theorem gX7_logJob_X7_isEntry : GoodIn wsX7_logJob (wsV RX7 230 RX7 yX7_isEntry wsX7_isEntry) := goodIn_app (goodIn_of _ (by decide +kernel)) ggX7_logJob_X7_isEntry
set_option maxRecDepth 20000 in
theorem ggX7_logJob_X7_checked : GoodIn wsX7_logJob wsX7_checked := goodIn_r _ [14, 15, 16, 17, 18, 19, 20, 21, 22, 23, 24, 25, 26, 27, 28, 29, 30, 31, 32, 33, 34, 35, 36, 37, 38, 39, 40, 41, 42, 43, 44, 45, 46, 47, 48, 49, 50, 51, 52, 53] (by decide +kernel) (by decide +kernel)
set_option maxRecDepth 20000 in
theorem gX7_logJob_X7_checked : GoodIn wsX7_logJob (wsV RX7 148 RX7 yX7_checked wsX7_checked) := goodIn_app (goodIn_of _ (by decide +kernel)) ggX7_logJob_X7_checked
theorem dX7_logJob_0 : decode cX7_logJob 0 = .ok (.aload_n 0, 1) := by decide +kernel
theorem dX7_logJob_1 : decode cX7_logJob 1 = .ok (.aload_n 0, 1) := by decide +kernel
theorem dX7_logJob_2 : decode cX7_logJob 2 = .ok (.iload_n 1, 1) := by decide +kernel
theorem dX7_logJob_3 : decode cX7_logJob 3 = .ok (.invokevirtual 230, 3) := by decide +kernel
theorem dX7_logJob_6 : decode cX7_logJob 6 = .ok (.invokevirtual 148, 3) := by decide +kernel
theorem dX7_logJob_9 : decode cX7_logJob 9 = .ok (.ifCond .le 7, 3) := by decide +kernel
theorem dX7_logJob_12 : decode cX7_logJob 12 = .ok (.iconst 0, 1) := by decide +kernel
theorem dX7_logJob_13 : decode cX7_logJob 13 = .ok (.goto 9, 3) := by decide +kernel
theorem dX7_logJob_16 : decode cX7_logJob 16 = .ok (.aload_n 0, 1) := by decide +kernel
theorem dX7_logJob_17 : decode cX7_logJob 17 = .ok (.getfield 76, 3) := by decide +kernel
theorem dX7_logJob_20 : decode cX7_logJob 20 = .ok (.iload_n 1, 1) := by decide +kernel
theorem dX7_logJob_21 : decode cX7_logJob 21 = .ok (.iaload, 1) := by decide +kernel
theorem dX7_logJob_22 : decode cX7_logJob 22 = .ok (.ireturn, 1) := by decide +kernel
set_option maxRecDepth 20000 in
theorem ggX7_logPrinter_X7_isEntry : GoodIn wsX7_logPrinter wsX7_isEntry := goodIn_r _ [6, 7, 8, 9, 5, 10, 16, 17, 18, 19, 20, 21, 22, 23, 24, 25, 26, 27, 28, 29, 30, 31, 32, 33, 34, 35, 36, 37, 38, 39, 40, 41, 42, 43, 44, 45, 46, 47, 48, 49, 50, 51, 52, 53] (by decide +kernel) (by decide +kernel)
set_option maxRecDepth 20000 in
theorem gX7_logPrinter_X7_isEntry : GoodIn wsX7_logPrinter (wsV RX7 230 RX7 yX7_isEntry wsX7_isEntry) := goodIn_app (goodIn_of _ (by decide +kernel)) ggX7_logPrinter_X7_isEntry
set_option maxRecDepth 20000 in
theorem ggX7_logPrinter_X7_checked : GoodIn wsX7_logPrinter wsX7_checked := goodIn_r _ [14, 15, 16, 17, 18, 19, 20, 21, 22, 23, 24, 25, 26, 27, 28, 29, 30, 31, 32, 33, 34, 35, 36, 37, 38, 39, 40, 41, 42, 43, 44, 45, 46, 47, 48, 49, 50, 51, 52, 53] (by decide +kernel) (by decide +kernel)
set_option maxRecDepth 20000 in
theorem gX7_logPrinter_X7_checked : GoodIn wsX7_logPrinter (wsV RX7 148 RX7 yX7_checked wsX7_checked) := goodIn_app (goodIn_of _ (by decide +kernel)) ggX7_logPrinter_X7_checked
theorem dX7_logPrinter_0 : decode cX7_logPrinter 0 = .ok (.aload_n 0, 1) := by decide +kernel
theorem dX7_logPrinter_1 : decode cX7_logPrinter 1 = .ok (.aload_n 0, 1) := by decide +kernel
theorem dX7_logPrinter_2 : decode cX7_logPrinter 2 = .ok (.iload_n 1, 1) := by decide +kernel
theorem dX7_logPrinter_3 : decode cX7_logPrinter 3 = .ok (.invokevirtual 230, 3) := by decide +kernel
theorem dX7_logPrinter_6 : decode cX7_logPrinter 6 = .ok (.invokevirtual 148, 3) := by decide +kernel
theorem dX7_logPrinter_9 : decode cX7_logPrinter 9 = .ok (.ifCond .le 7, 3) := by decide +kernel
theorem dX7_logPrinter_12 : decode cX7_logPrinter 12 = .ok (.iconst 0, 1) := by decide +kernel
theorem dX7_logPrinter_13 : decode cX7_logPrinter 13 = .ok (.goto 9, 3) := by decide +kernel
theorem dX7_logPrinter_16 : decode cX7_logPrinter 16 = .ok (.aload_n 0, 1) := by decide +kernel
theorem dX7_logPrinter_17 : decode cX7_logPrinter 17 = .ok (.getfield 79, 3) := by decide +kernel
theorem dX7_logPrinter_20 : decode cX7_logPrinter 20 = .ok (.iload_n 1, 1) := by decide +kernel
theorem dX7_logPrinter_21 : decode cX7_logPrinter 21 = .ok (.iaload, 1) := by decide +kernel
theorem dX7_logPrinter_22 : decode cX7_logPrinter 22 = .ok (.ireturn, 1) := by decide +kernel
set_option maxRecDepth 20000 in
theorem ggX7_logPages_X7_isEntry : GoodIn wsX7_logPages wsX7_isEntry := goodIn_r _ [6, 7, 8, 9, 5, 10, 16, 17, 18, 19, 20, 21, 22, 23, 24, 25, 26, 27, 28, 29, 30, 31, 32, 33, 34, 35, 36, 37, 38, 39, 40, 41, 42, 43, 44, 45, 46, 47, 48, 49, 50, 51, 52, 53] (by decide +kernel) (by decide +kernel)
set_option maxRecDepth 20000 in
theorem gX7_logPages_X7_isEntry : GoodIn wsX7_logPages (wsV RX7 230 RX7 yX7_isEntry wsX7_isEntry) := goodIn_app (goodIn_of _ (by decide +kernel)) ggX7_logPages_X7_isEntry
set_option maxRecDepth 20000 in
theorem ggX7_logPages_X7_checked : GoodIn wsX7_logPages wsX7_checked := goodIn_r _ [14, 15, 16, 17, 18, 19, 20, 21, 22, 23, 24, 25, 26, 27, 28, 29, 30, 31, 32, 33, 34, 35, 36, 37, 38, 39, 40, 41, 42, 43, 44, 45, 46, 47, 48, 49, 50, 51, 52, 53] (by decide +kernel) (by decide +kernel)
set_option maxRecDepth 20000 in
theorem gX7_logPages_X7_checked : GoodIn wsX7_logPages (wsV RX7 148 RX7 yX7_checked wsX7_checked) := goodIn_app (goodIn_of _ (by decide +kernel)) ggX7_logPages_X7_checked
theorem dX7_logPages_0 : decode cX7_logPages 0 = .ok (.aload_n 0, 1) := by decide +kernel
theorem dX7_logPages_1 : decode cX7_logPages 1 = .ok (.aload_n 0, 1) := by decide +kernel
theorem dX7_logPages_2 : decode cX7_logPages 2 = .ok (.iload_n 1, 1) := by decide +kernel
theorem dX7_logPages_3 : decode cX7_logPages 3 = .ok (.invokevirtual 230, 3) := by decide +kernel
theorem dX7_logPages_6 : decode cX7_logPages 6 = .ok (.invokevirtual 148, 3) := by decide +kernel
theorem dX7_logPages_9 : decode cX7_logPages 9 = .ok (.ifCond .le 7, 3) := by decide +kernel
theorem dX7_logPages_12 : decode cX7_logPages 12 = .ok (.iconst 0, 1) := by decide +kernel
theorem dX7_logPages_13 : decode cX7_logPages 13 = .ok (.goto 9, 3) := by decide +kernel
theorem dX7_logPages_16 : decode cX7_logPages 16 = .ok (.aload_n 0, 1) := by decide +kernel
theorem dX7_logPages_17 : decode cX7_logPages 17 = .ok (.getfield 82, 3) := by decide +kernel
theorem dX7_logPages_20 : decode cX7_logPages 20 = .ok (.iload_n 1, 1) := by decide +kernel
theorem dX7_logPages_21 : decode cX7_logPages 21 = .ok (.iaload, 1) := by decide +kernel
theorem dX7_logPages_22 : decode cX7_logPages 22 = .ok (.ireturn, 1) := by decide +kernel
set_option maxRecDepth 20000 in
theorem ggX7_logSheets_X7_isEntry : GoodIn wsX7_logSheets wsX7_isEntry := goodIn_r _ [6, 7, 8, 9, 5, 10, 16, 17, 18, 19, 20, 21, 22, 23, 24, 25, 26, 27, 28, 29, 30, 31, 32, 33, 34, 35, 36, 37, 38, 39, 40, 41, 42, 43, 44, 45, 46, 47, 48, 49, 50, 51, 52, 53] (by decide +kernel) (by decide +kernel)
set_option maxRecDepth 20000 in
theorem gX7_logSheets_X7_isEntry : GoodIn wsX7_logSheets (wsV RX7 230 RX7 yX7_isEntry wsX7_isEntry) := goodIn_app (goodIn_of _ (by decide +kernel)) ggX7_logSheets_X7_isEntry
set_option maxRecDepth 20000 in
theorem ggX7_logSheets_X7_checked : GoodIn wsX7_logSheets wsX7_checked := goodIn_r _ [14, 15, 16, 17, 18, 19, 20, 21, 22, 23, 24, 25, 26, 27, 28, 29, 30, 31, 32, 33, 34, 35, 36, 37, 38, 39, 40, 41, 42, 43, 44, 45, 46, 47, 48, 49, 50, 51, 52, 53] (by decide +kernel) (by decide +kernel)
set_option maxRecDepth 20000 in
theorem gX7_logSheets_X7_checked : GoodIn wsX7_logSheets (wsV RX7 148 RX7 yX7_checked wsX7_checked) := goodIn_app (goodIn_of _ (by decide +kernel)) ggX7_logSheets_X7_checked
theorem dX7_logSheets_0 : decode cX7_logSheets 0 = .ok (.aload_n 0, 1) := by decide +kernel
theorem dX7_logSheets_1 : decode cX7_logSheets 1 = .ok (.aload_n 0, 1) := by decide +kernel
theorem dX7_logSheets_2 : decode cX7_logSheets 2 = .ok (.iload_n 1, 1) := by decide +kernel
theorem dX7_logSheets_3 : decode cX7_logSheets 3 = .ok (.invokevirtual 230, 3) := by decide +kernel
theorem dX7_logSheets_6 : decode cX7_logSheets 6 = .ok (.invokevirtual 148, 3) := by decide +kernel
theorem dX7_logSheets_9 : decode cX7_logSheets 9 = .ok (.ifCond .le 7, 3) := by decide +kernel
theorem dX7_logSheets_12 : decode cX7_logSheets 12 = .ok (.iconst 0, 1) := by decide +kernel
theorem dX7_logSheets_13 : decode cX7_logSheets 13 = .ok (.goto 9, 3) := by decide +kernel
theorem dX7_logSheets_16 : decode cX7_logSheets 16 = .ok (.aload_n 0, 1) := by decide +kernel
theorem dX7_logSheets_17 : decode cX7_logSheets 17 = .ok (.getfield 85, 3) := by decide +kernel
theorem dX7_logSheets_20 : decode cX7_logSheets 20 = .ok (.iload_n 1, 1) := by decide +kernel
theorem dX7_logSheets_21 : decode cX7_logSheets 21 = .ok (.iaload, 1) := by decide +kernel
theorem dX7_logSheets_22 : decode cX7_logSheets 22 = .ok (.ireturn, 1) := by decide +kernel
set_option maxRecDepth 20000 in
theorem ggX7_pagesOf_X7_isUser : GoodIn wsX7_pagesOf wsX7_isUser := goodIn_r _ [6, 7, 8, 9, 5, 10, 16, 17, 18, 19, 20, 21, 22, 23, 24, 25, 26, 27, 28, 29, 30, 31, 32, 33, 34, 35, 36, 37, 38, 39, 40, 41, 42, 43, 44, 45, 46, 47, 48, 49, 50, 51, 52, 53] (by decide +kernel) (by decide +kernel)
set_option maxRecDepth 20000 in
theorem gX7_pagesOf_X7_isUser : GoodIn wsX7_pagesOf (wsV RX7 156 RX7 yX7_isUser wsX7_isUser) := goodIn_app (goodIn_of _ (by decide +kernel)) ggX7_pagesOf_X7_isUser
set_option maxRecDepth 20000 in
theorem ggX7_pagesOf_X7_checked : GoodIn wsX7_pagesOf wsX7_checked := goodIn_r _ [14, 15, 16, 17, 18, 19, 20, 21, 22, 23, 24, 25, 26, 27, 28, 29, 30, 31, 32, 33, 34, 35, 36, 37, 38, 39, 40, 41, 42, 43, 44, 45, 46, 47, 48, 49, 50, 51, 52, 53] (by decide +kernel) (by decide +kernel)
set_option maxRecDepth 20000 in
theorem gX7_pagesOf_X7_checked : GoodIn wsX7_pagesOf (wsV RX7 148 RX7 yX7_checked wsX7_checked) := goodIn_app (goodIn_of _ (by decide +kernel)) ggX7_pagesOf_X7_checked
theorem dX7_pagesOf_0 : decode cX7_pagesOf 0 = .ok (.aload_n 0, 1) := by decide +kernel
theorem dX7_pagesOf_1 : decode cX7_pagesOf 1 = .ok (.aload_n 0, 1) := by decide +kernel
theorem dX7_pagesOf_2 : decode cX7_pagesOf 2 = .ok (.iload_n 1, 1) := by decide +kernel
theorem dX7_pagesOf_3 : decode cX7_pagesOf 3 = .ok (.invokevirtual 156, 3) := by decide +kernel
theorem dX7_pagesOf_6 : decode cX7_pagesOf 6 = .ok (.invokevirtual 148, 3) := by decide +kernel
theorem dX7_pagesOf_9 : decode cX7_pagesOf 9 = .ok (.ifCond .le 7, 3) := by decide +kernel
theorem dX7_pagesOf_12 : decode cX7_pagesOf 12 = .ok (.iconst 0, 1) := by decide +kernel
theorem dX7_pagesOf_13 : decode cX7_pagesOf 13 = .ok (.goto 9, 3) := by decide +kernel
theorem dX7_pagesOf_16 : decode cX7_pagesOf 16 = .ok (.aload_n 0, 1) := by decide +kernel
theorem dX7_pagesOf_17 : decode cX7_pagesOf 17 = .ok (.getfield 13, 3) := by decide +kernel
theorem dX7_pagesOf_20 : decode cX7_pagesOf 20 = .ok (.iload_n 1, 1) := by decide +kernel
theorem dX7_pagesOf_21 : decode cX7_pagesOf 21 = .ok (.iaload, 1) := by decide +kernel
theorem dX7_pagesOf_22 : decode cX7_pagesOf 22 = .ok (.ireturn, 1) := by decide +kernel
set_option maxRecDepth 20000 in
theorem ggX7_pagesByLog_X7_pagesOf : GoodIn wsX7_pagesByLog wsX7_pagesOf := goodIn_ca (goodIn_r _ [5, 6, 7, 8, 9, 4, 10, 11, 12, 13, 14, 15, 16, 17, 18, 19, 20, 21, 22, 23, 24, 25, 26, 27, 28, 29, 30, 31, 32, 33, 34, 35, 36, 37, 38, 39, 40, 41, 42, 43, 44, 45, 46, 47, 48, 49, 50, 51, 52, 53, 54, 55, 56, 57] (by decide +kernel) (by decide +kernel)) (goodIn_sub (fun _ h => List.mem_cons_of_mem _ (List.mem_append_right _ h)) (by decide +kernel))
set_option maxRecDepth 20000 in
theorem gX7_pagesByLog_X7_pagesOf : GoodIn wsX7_pagesByLog (wsV RX7 233 RX7 yX7_pagesOf wsX7_pagesOf) := goodIn_app (goodIn_of _ (by decide +kernel)) ggX7_pagesByLog_X7_pagesOf
theorem dX7_pagesByLog_0 : decode cX7_pagesByLog 0 = .ok (.aload_n 0, 1) := by decide +kernel
theorem dX7_pagesByLog_1 : decode cX7_pagesByLog 1 = .ok (.iload_n 1, 1) := by decide +kernel
theorem dX7_pagesByLog_2 : decode cX7_pagesByLog 2 = .ok (.invokevirtual 233, 3) := by decide +kernel
theorem dX7_pagesByLog_5 : decode cX7_pagesByLog 5 = .ok (.ireturn, 1) := by decide +kernel
set_option maxRecDepth 20000 in
theorem ggX7_billOf_X7_isUser : GoodIn wsX7_billOf wsX7_isUser := goodIn_r _ [6, 7, 8, 9, 5, 10, 16, 17, 18, 19, 20, 21, 22, 23, 24, 25, 26, 27, 28, 29, 30, 31, 32, 33, 34, 35, 36, 37, 38, 39, 40, 41, 42, 43, 44, 45, 46, 47, 48, 49, 50, 51, 52, 53] (by decide +kernel) (by decide +kernel)
set_option maxRecDepth 20000 in
theorem gX7_billOf_X7_isUser : GoodIn wsX7_billOf (wsV RX7 156 RX7 yX7_isUser wsX7_isUser) := goodIn_app (goodIn_of _ (by decide +kernel)) ggX7_billOf_X7_isUser
set_option maxRecDepth 20000 in
theorem ggX7_billOf_X7_checked : GoodIn wsX7_billOf wsX7_checked := goodIn_r _ [14, 15, 16, 17, 18, 19, 20, 21, 22, 23, 24, 25, 26, 27, 28, 29, 30, 31, 32, 33, 34, 35, 36, 37, 38, 39, 40, 41, 42, 43, 44, 45, 46, 47, 48, 49, 50, 51, 52, 53] (by decide +kernel) (by decide +kernel)
set_option maxRecDepth 20000 in
theorem gX7_billOf_X7_checked : GoodIn wsX7_billOf (wsV RX7 148 RX7 yX7_checked wsX7_checked) := goodIn_app (goodIn_of _ (by decide +kernel)) ggX7_billOf_X7_checked
theorem dX7_billOf_0 : decode cX7_billOf 0 = .ok (.aload_n 0, 1) := by decide +kernel
theorem dX7_billOf_1 : decode cX7_billOf 1 = .ok (.aload_n 0, 1) := by decide +kernel
theorem dX7_billOf_2 : decode cX7_billOf 2 = .ok (.iload_n 1, 1) := by decide +kernel
theorem dX7_billOf_3 : decode cX7_billOf 3 = .ok (.invokevirtual 156, 3) := by decide +kernel
theorem dX7_billOf_6 : decode cX7_billOf 6 = .ok (.invokevirtual 148, 3) := by decide +kernel
theorem dX7_billOf_9 : decode cX7_billOf 9 = .ok (.ifCond .le 7, 3) := by decide +kernel
theorem dX7_billOf_12 : decode cX7_billOf 12 = .ok (.lconst 0, 1) := by decide +kernel
theorem dX7_billOf_13 : decode cX7_billOf 13 = .ok (.goto 9, 3) := by decide +kernel
theorem dX7_billOf_16 : decode cX7_billOf 16 = .ok (.aload_n 0, 1) := by decide +kernel
theorem dX7_billOf_17 : decode cX7_billOf 17 = .ok (.getfield 31, 3) := by decide +kernel
theorem dX7_billOf_20 : decode cX7_billOf 20 = .ok (.iload_n 1, 1) := by decide +kernel
theorem dX7_billOf_21 : decode cX7_billOf 21 = .ok (.laload, 1) := by decide +kernel
theorem dX7_billOf_22 : decode cX7_billOf 22 = .ok (.lreturn, 1) := by decide +kernel
set_option maxRecDepth 20000 in
theorem ggX7_billByLog_X7_billOf : GoodIn wsX7_billByLog wsX7_billOf := goodIn_ca (goodIn_r _ [5, 6, 7, 8, 9, 4, 10, 11, 12, 13, 14, 15, 16, 17, 18, 19, 20, 21, 22, 23, 24, 25, 26, 27, 28, 29, 30, 31, 32, 33, 34, 35, 36, 37, 38, 39, 40, 41, 42, 43, 44, 45, 46, 47, 48, 49, 50, 51, 52, 53, 54, 55, 56, 57] (by decide +kernel) (by decide +kernel)) (goodIn_sub (fun _ h => List.mem_cons_of_mem _ (List.mem_append_right _ h)) (by decide +kernel))
set_option maxRecDepth 20000 in
theorem gX7_billByLog_X7_billOf : GoodIn wsX7_billByLog (wsV RX7 236 RX7 yX7_billOf wsX7_billOf) := goodIn_app (goodIn_of _ (by decide +kernel)) ggX7_billByLog_X7_billOf
theorem dX7_billByLog_0 : decode cX7_billByLog 0 = .ok (.aload_n 0, 1) := by decide +kernel
theorem dX7_billByLog_1 : decode cX7_billByLog 1 = .ok (.iload_n 1, 1) := by decide +kernel
theorem dX7_billByLog_2 : decode cX7_billByLog 2 = .ok (.invokevirtual 236, 3) := by decide +kernel
theorem dX7_billByLog_5 : decode cX7_billByLog 5 = .ok (.lreturn, 1) := by decide +kernel
theorem dX7_outPages_0 : decode cX7_outPages 0 = .ok (.iconst 0, 1) := by decide +kernel
theorem dX7_outPages_1 : decode cX7_outPages 1 = .ok (.istore_n 2, 1) := by decide +kernel
theorem dX7_outPages_2 : decode cX7_outPages 2 = .ok (.iconst 0, 1) := by decide +kernel
theorem dX7_outPages_3 : decode cX7_outPages 3 = .ok (.istore_n 3, 1) := by decide +kernel
theorem dX7_outPages_4 : decode cX7_outPages 4 = .ok (.iload_n 3, 1) := by decide +kernel
theorem dX7_outPages_5 : decode cX7_outPages 5 = .ok (.aload_n 0, 1) := by decide +kernel
theorem dX7_outPages_6 : decode cX7_outPages 6 = .ok (.getfield 104, 3) := by decide +kernel
theorem dX7_outPages_9 : decode cX7_outPages 9 = .ok (.if_icmp .ge 40, 3) := by decide +kernel
theorem dX7_outPages_12 : decode cX7_outPages 12 = .ok (.iload_n 2, 1) := by decide +kernel
theorem dX7_outPages_13 : decode cX7_outPages 13 = .ok (.iload_n 1, 1) := by decide +kernel
theorem dX7_outPages_14 : decode cX7_outPages 14 = .ok (.ifCond .eq 17, 3) := by decide +kernel
theorem dX7_outPages_17 : decode cX7_outPages 17 = .ok (.aload_n 0, 1) := by decide +kernel
theorem dX7_outPages_18 : decode cX7_outPages 18 = .ok (.getfield 49, 3) := by decide +kernel
theorem dX7_outPages_21 : decode cX7_outPages 21 = .ok (.aload_n 0, 1) := by decide +kernel
theorem dX7_outPages_22 : decode cX7_outPages 22 = .ok (.getfield 76, 3) := by decide +kernel
theorem dX7_outPages_25 : decode cX7_outPages 25 = .ok (.iload_n 3, 1) := by decide +kernel
theorem dX7_outPages_26 : decode cX7_outPages 26 = .ok (.iaload, 1) := by decide +kernel
theorem dX7_outPages_27 : decode cX7_outPages 27 = .ok (.baload, 1) := by decide +kernel
theorem dX7_outPages_28 : decode cX7_outPages 28 = .ok (.ifCond .eq 12, 3) := by decide +kernel
theorem dX7_outPages_31 : decode cX7_outPages 31 = .ok (.aload_n 0, 1) := by decide +kernel
theorem dX7_outPages_32 : decode cX7_outPages 32 = .ok (.getfield 82, 3) := by decide +kernel
theorem dX7_outPages_35 : decode cX7_outPages 35 = .ok (.iload_n 3, 1) := by decide +kernel
theorem dX7_outPages_36 : decode cX7_outPages 36 = .ok (.iaload, 1) := by decide +kernel
theorem dX7_outPages_37 : decode cX7_outPages 37 = .ok (.goto 4, 3) := by decide +kernel
theorem dX7_outPages_40 : decode cX7_outPages 40 = .ok (.iconst 0, 1) := by decide +kernel
theorem dX7_outPages_41 : decode cX7_outPages 41 = .ok (.iadd, 1) := by decide +kernel
theorem dX7_outPages_42 : decode cX7_outPages 42 = .ok (.istore_n 2, 1) := by decide +kernel
theorem dX7_outPages_43 : decode cX7_outPages 43 = .ok (.iinc 3 1, 3) := by decide +kernel
theorem dX7_outPages_46 : decode cX7_outPages 46 = .ok (.goto (-42), 3) := by decide +kernel
theorem dX7_outPages_49 : decode cX7_outPages 49 = .ok (.iload_n 2, 1) := by decide +kernel
theorem dX7_outPages_50 : decode cX7_outPages 50 = .ok (.ireturn, 1) := by decide +kernel
set_option maxRecDepth 20000 in
theorem ggX7_meanPages_X7_checked : GoodIn wsX7_meanPages wsX7_checked := goodIn_r _ [6, 7, 15, 16, 17, 18, 19, 20, 21, 22, 23, 24, 25, 26, 27, 28, 29, 30, 31, 32, 33, 34, 35, 36, 37, 38, 39, 40, 41, 42, 43, 44, 45, 46, 47, 48, 49, 50, 51, 52] (by decide +kernel) (by decide +kernel)
set_option maxRecDepth 20000 in
theorem gX7_meanPages_X7_checked : GoodIn wsX7_meanPages (wsV RX7 148 RX7 yX7_checked wsX7_checked) := goodIn_app (goodIn_of _ (by decide +kernel)) ggX7_meanPages_X7_checked
set_option maxRecDepth 20000 in
theorem ggX7_meanPages_X7_outPages : GoodIn wsX7_meanPages wsX7_outPages := goodIn_ca (goodIn_r _ [11, 1, 12, 13, 14, 15, 16, 17, 18, 19, 20, 21, 22, 23, 24, 25, 26, 27, 28, 29, 30, 31, 32, 33, 34, 35, 36, 37, 38, 39, 40, 41, 42, 43, 44, 45, 46, 47, 48, 49, 50, 51, 52] (by decide +kernel) (by decide +kernel)) (goodIn_sub (fun _ h => List.mem_cons_of_mem _ (List.mem_append_right _ h)) (by decide +kernel))
set_option maxRecDepth 20000 in
theorem gX7_meanPages_X7_outPages : GoodIn wsX7_meanPages (wsV RX7 240 RX7 yX7_outPages wsX7_outPages) := goodIn_app (goodIn_of _ (by decide +kernel)) ggX7_meanPages_X7_outPages
theorem dX7_meanPages_0 : decode cX7_meanPages 0 = .ok (.aload_n 0, 1) := by decide +kernel
theorem dX7_meanPages_1 : decode cX7_meanPages 1 = .ok (.aload_n 0, 1) := by decide +kernel
theorem dX7_meanPages_2 : decode cX7_meanPages 2 = .ok (.getfield 104, 3) := by decide +kernel
theorem dX7_meanPages_5 : decode cX7_meanPages 5 = .ok (.ifCond .le 7, 3) := by decide +kernel
theorem dX7_meanPages_8 : decode cX7_meanPages 8 = .ok (.iconst 1, 1) := by decide +kernel
theorem dX7_meanPages_9 : decode cX7_meanPages 9 = .ok (.goto 4, 3) := by decide +kernel
theorem dX7_meanPages_12 : decode cX7_meanPages 12 = .ok (.iconst 0, 1) := by decide +kernel
theorem dX7_meanPages_13 : decode cX7_meanPages 13 = .ok (.invokevirtual 148, 3) := by decide +kernel
theorem dX7_meanPages_16 : decode cX7_meanPages 16 = .ok (.ifCond .le 7, 3) := by decide +kernel
theorem dX7_meanPages_19 : decode cX7_meanPages 19 = .ok (.dconst 0, 1) := by decide +kernel
theorem dX7_meanPages_20 : decode cX7_meanPages 20 = .ok (.goto 15, 3) := by decide +kernel
theorem dX7_meanPages_23 : decode cX7_meanPages 23 = .ok (.aload_n 0, 1) := by decide +kernel
theorem dX7_meanPages_24 : decode cX7_meanPages 24 = .ok (.iconst 0, 1) := by decide +kernel
theorem dX7_meanPages_25 : decode cX7_meanPages 25 = .ok (.invokevirtual 240, 3) := by decide +kernel
theorem dX7_meanPages_28 : decode cX7_meanPages 28 = .ok (.i2d, 1) := by decide +kernel
theorem dX7_meanPages_29 : decode cX7_meanPages 29 = .ok (.aload_n 0, 1) := by decide +kernel
theorem dX7_meanPages_30 : decode cX7_meanPages 30 = .ok (.getfield 104, 3) := by decide +kernel
theorem dX7_meanPages_33 : decode cX7_meanPages 33 = .ok (.i2d, 1) := by decide +kernel
theorem dX7_meanPages_34 : decode cX7_meanPages 34 = .ok (.ddiv, 1) := by decide +kernel
theorem dX7_meanPages_35 : decode cX7_meanPages 35 = .ok (.dreturn, 1) := by decide +kernel
set_option maxRecDepth 20000 in
theorem ggX7_colourShare_X7_outPages : GoodIn wsX7_colourShare wsX7_outPages := goodIn_ca (goodIn_r _ [5, 6, 7, 8, 9, 15, 16, 17, 18, 19, 20, 21, 22, 23, 24, 25, 26, 27, 28, 29, 30, 31, 32, 33, 34, 35, 36, 37, 38, 39, 40, 41, 42, 43, 44, 45, 46, 47, 48, 49, 50, 51, 52] (by decide +kernel) (by decide +kernel)) (goodIn_sub (fun _ h => List.mem_cons_of_mem _ (List.mem_append_right _ h)) (by decide +kernel))
set_option maxRecDepth 20000 in
theorem gX7_colourShare_X7_outPages : GoodIn wsX7_colourShare (wsV RX7 240 RX7 yX7_outPages wsX7_outPages) := goodIn_app (goodIn_of _ (by decide +kernel)) ggX7_colourShare_X7_outPages
