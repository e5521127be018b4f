theorem dX12_among_0 : decode cX12_among 0 = .ok (.iconst (-1), 1) := by decide +kernel
theorem dX12_among_1 : decode cX12_among 1 = .ok (.istore 4, 2) := by decide +kernel
theorem dX12_among_3 : decode cX12_among 3 = .ok (.iconst 0, 1) := by decide +kernel
theorem dX12_among_4 : decode cX12_among 4 = .ok (.istore 5, 2) := by decide +kernel
theorem dX12_among_6 : decode cX12_among 6 = .ok (.iload 5, 2) := by decide +kernel
theorem dX12_among_8 : decode cX12_among 8 = .ok (.iconst 1, 1) := by decide +kernel
theorem dX12_among_9 : decode cX12_among 9 = .ok (.iadd, 1) := by decide +kernel
theorem dX12_among_10 : decode cX12_among 10 = .ok (.aload_n 1, 1) := by decide +kernel
theorem dX12_among_11 : decode cX12_among 11 = .ok (.invokevirtual 279, 3) := by decide +kernel
theorem dX12_among_14 : decode cX12_among 14 = .ok (.if_icmp .ge 119, 3) := by decide +kernel
theorem dX12_among_17 : decode cX12_among 17 = .ok (.aload_n 1, 1) := by decide +kernel
theorem dX12_among_18 : decode cX12_among 18 = .ok (.iload 5, 2) := by decide +kernel
theorem dX12_among_20 : decode cX12_among 20 = .ok (.invokevirtual 285, 3) := by decide +kernel
theorem dX12_among_23 : decode cX12_among 23 = .ok (.bipush 32, 2) := by decide +kernel
theorem dX12_among_25 : decode cX12_among 25 = .ok (.if_icmp .eq 6, 3) := by decide +kernel
theorem dX12_among_28 : decode cX12_among 28 = .ok (.goto 99, 3) := by decide +kernel
theorem dX12_among_31 : decode cX12_among 31 = .ok (.iinc 4 1, 3) := by decide +kernel
theorem dX12_among_34 : decode cX12_among 34 = .ok (.iload 5, 2) := by decide +kernel
theorem dX12_among_36 : decode cX12_among 36 = .ok (.iload_n 3, 1) := by decide +kernel
theorem dX12_among_37 : decode cX12_among 37 = .ok (.iadd, 1) := by decide +kernel
theorem dX12_among_38 : decode cX12_among 38 = .ok (.iconst 1, 1) := by decide +kernel
theorem dX12_among_39 : decode cX12_among 39 = .ok (.iadd, 1) := by decide +kernel
theorem dX12_among_40 : decode cX12_among 40 = .ok (.aload_n 1, 1) := by decide +kernel
theorem dX12_among_41 : decode cX12_among 41 = .ok (.invokevirtual 279, 3) := by decide +kernel
theorem dX12_among_44 : decode cX12_among 44 = .ok (.if_icmp .ge 22, 3) := by decide +kernel
theorem dX12_among_47 : decode cX12_among 47 = .ok (.aload_n 1, 1) := by decide +kernel
theorem dX12_among_48 : decode cX12_among 48 = .ok (.iload 5, 2) := by decide +kernel
theorem dX12_among_50 : decode cX12_among 50 = .ok (.iload_n 3, 1) := by decide +kernel
theorem dX12_among_51 : decode cX12_among 51 = .ok (.iadd, 1) := by decide +kernel
theorem dX12_among_52 : decode cX12_among 52 = .ok (.iconst 1, 1) := by decide +kernel
theorem dX12_among_53 : decode cX12_among 53 = .ok (.iadd, 1) := by decide +kernel
theorem dX12_among_54 : decode cX12_among 54 = .ok (.invokevirtual 285, 3) := by decide +kernel
theorem dX12_among_57 : decode cX12_among 57 = .ok (.bipush 32, 2) := by decide +kernel
theorem dX12_among_59 : decode cX12_among 59 = .ok (.if_icmp .ne 7, 3) := by decide +kernel
theorem dX12_among_62 : decode cX12_among 62 = .ok (.iconst 1, 1) := by decide +kernel
theorem dX12_among_63 : decode cX12_among 63 = .ok (.goto 4, 3) := by decide +kernel
theorem dX12_among_66 : decode cX12_among 66 = .ok (.iconst 0, 1) := by decide +kernel
theorem dX12_among_67 : decode cX12_among 67 = .ok (.istore 6, 2) := by decide +kernel
theorem dX12_among_69 : decode cX12_among 69 = .ok (.iconst 0, 1) := by decide +kernel
theorem dX12_among_70 : decode cX12_among 70 = .ok (.istore 7, 2) := by decide +kernel
theorem dX12_among_72 : decode cX12_among 72 = .ok (.iload 7, 2) := by decide +kernel
theorem dX12_among_74 : decode cX12_among 74 = .ok (.iload_n 3, 1) := by decide +kernel
theorem dX12_among_75 : decode cX12_among 75 = .ok (.if_icmp .ge 44, 3) := by decide +kernel
theorem dX12_among_78 : decode cX12_among 78 = .ok (.iload 6, 2) := by decide +kernel
theorem dX12_among_80 : decode cX12_among 80 = .ok (.ifCond .eq 39, 3) := by decide +kernel
theorem dX12_among_83 : decode cX12_among 83 = .ok (.aload_n 1, 1) := by decide +kernel
theorem dX12_among_84 : decode cX12_among 84 = .ok (.iload 5, 2) := by decide +kernel
theorem dX12_among_86 : decode cX12_among 86 = .ok (.iconst 1, 1) := by decide +kernel
theorem dX12_among_87 : decode cX12_among 87 = .ok (.iadd, 1) := by decide +kernel
theorem dX12_among_88 : decode cX12_among 88 = .ok (.iload 7, 2) := by decide +kernel
theorem dX12_among_90 : decode cX12_among 90 = .ok (.iadd, 1) := by decide +kernel
theorem dX12_among_91 : decode cX12_among 91 = .ok (.invokevirtual 285, 3) := by decide +kernel
theorem dX12_among_94 : decode cX12_among 94 = .ok (.aload_n 0, 1) := by decide +kernel
theorem dX12_among_95 : decode cX12_among 95 = .ok (.getfield 44, 3) := by decide +kernel
theorem dX12_among_98 : decode cX12_among 98 = .ok (.iload_n 2, 1) := by decide +kernel
theorem dX12_among_99 : decode cX12_among 99 = .ok (.iload 7, 2) := by decide +kernel
theorem dX12_among_101 : decode cX12_among 101 = .ok (.iadd, 1) := by decide +kernel
theorem dX12_among_102 : decode cX12_among 102 = .ok (.baload, 1) := by decide +kernel
theorem dX12_among_103 : decode cX12_among 103 = .ok (.if_icmp .ne 7, 3) := by decide +kernel
theorem dX12_among_106 : decode cX12_among 106 = .ok (.iconst 1, 1) := by decide +kernel
theorem dX12_among_107 : decode cX12_among 107 = .ok (.goto 4, 3) := by decide +kernel
theorem dX12_among_110 : decode cX12_among 110 = .ok (.iconst 0, 1) := by decide +kernel
theorem dX12_among_111 : decode cX12_among 111 = .ok (.istore 6, 2) := by decide +kernel
theorem dX12_among_113 : decode cX12_among 113 = .ok (.iinc 7 1, 3) := by decide +kernel
theorem dX12_among_116 : decode cX12_among 116 = .ok (.goto (-44), 3) := by decide +kernel
theorem dX12_among_119 : decode cX12_among 119 = .ok (.iload 6, 2) := by decide +kernel
theorem dX12_among_121 : decode cX12_among 121 = .ok (.ifCond .eq 6, 3) := by decide +kernel
theorem dX12_among_124 : decode cX12_among 124 = .ok (.iload 4, 2) := by decide +kernel
theorem dX12_among_126 : decode cX12_among 126 = .ok (.ireturn, 1) := by decide +kernel
theorem dX12_among_127 : decode cX12_among 127 = .ok (.iinc 5 1, 3) := by decide +kernel
theorem dX12_among_130 : decode cX12_among 130 = .ok (.goto (-124), 3) := by decide +kernel
theorem dX12_among_133 : decode cX12_among 133 = .ok (.iconst (-1), 1) := by decide +kernel
theorem dX12_among_134 : decode cX12_among 134 = .ok (.ireturn, 1) := by decide +kernel
theorem dX12_at_0 : decode cX12_at 0 = .ok (.iload_n 1, 1) := by decide +kernel
theorem dX12_at_1 : decode cX12_at 1 = .ok (.aload_n 0, 1) := by decide +kernel
theorem dX12_at_2 : decode cX12_at 2 = .ok (.getfield 276, 3) := by decide +kernel
theorem dX12_at_5 : decode cX12_at 5 = .ok (.if_icmp .ge 12, 3) := by decide +kernel
theorem dX12_at_8 : decode cX12_at 8 = .ok (.aload_n 0, 1) := by decide +kernel
theorem dX12_at_9 : decode cX12_at 9 = .ok (.getfield 44, 3) := by decide +kernel
theorem dX12_at_12 : decode cX12_at 12 = .ok (.iload_n 1, 1) := by decide +kernel
theorem dX12_at_13 : decode cX12_at 13 = .ok (.baload, 1) := by decide +kernel
theorem dX12_at_14 : decode cX12_at 14 = .ok (.goto 4, 3) := by decide +kernel
theorem dX12_at_17 : decode cX12_at 17 = .ok (.iconst 0, 1) := by decide +kernel
theorem dX12_at_18 : decode cX12_at 18 = .ok (.ireturn, 1) := by decide +kernel
theorem dX12_isDigit_0 : decode cX12_isDigit 0 = .ok (.iload_n 0, 1) := by decide +kernel
theorem dX12_isDigit_1 : decode cX12_isDigit 1 = .ok (.bipush 48, 2) := by decide +kernel
theorem dX12_isDigit_3 : decode cX12_isDigit 3 = .ok (.if_icmp .lt 13, 3) := by decide +kernel
theorem dX12_isDigit_6 : decode cX12_isDigit 6 = .ok (.iload_n 0, 1) := by decide +kernel
theorem dX12_isDigit_7 : decode cX12_isDigit 7 = .ok (.bipush 57, 2) := by decide +kernel
theorem dX12_isDigit_9 : decode cX12_isDigit 9 = .ok (.if_icmp .gt 7, 3) := by decide +kernel
theorem dX12_isDigit_12 : decode cX12_isDigit 12 = .ok (.iconst 1, 1) := by decide +kernel
theorem dX12_isDigit_13 : decode cX12_isDigit 13 = .ok (.goto 4, 3) := by decide +kernel
theorem dX12_isDigit_16 : decode cX12_isDigit 16 = .ok (.iconst 0, 1) := by decide +kernel
theorem dX12_isDigit_17 : decode cX12_isDigit 17 = .ok (.ireturn, 1) := by decide +kernel
theorem dX12_isLetter_0 : decode cX12_isLetter 0 = .ok (.iload_n 0, 1) := by decide +kernel
theorem dX12_isLetter_1 : decode cX12_isLetter 1 = .ok (.bipush 97, 2) := by decide +kernel
theorem dX12_isLetter_3 : decode cX12_isLetter 3 = .ok (.if_icmp .lt 9, 3) := by decide +kernel
theorem dX12_isLetter_6 : decode cX12_isLetter 6 = .ok (.iload_n 0, 1) := by decide +kernel
theorem dX12_isLetter_7 : decode cX12_isLetter 7 = .ok (.bipush 122, 2) := by decide +kernel
theorem dX12_isLetter_9 : decode cX12_isLetter 9 = .ok (.if_icmp .le 15, 3) := by decide +kernel
theorem dX12_isLetter_12 : decode cX12_isLetter 12 = .ok (.iload_n 0, 1) := by decide +kernel
theorem dX12_isLetter_13 : decode cX12_isLetter 13 = .ok (.bipush 65, 2) := by decide +kernel
theorem dX12_isLetter_15 : decode cX12_isLetter 15 = .ok (.if_icmp .lt 13, 3) := by decide +kernel
theorem dX12_isLetter_18 : decode cX12_isLetter 18 = .ok (.iload_n 0, 1) := by decide +kernel
theorem dX12_isLetter_19 : decode cX12_isLetter 19 = .ok (.bipush 90, 2) := by decide +kernel
theorem dX12_isLetter_21 : decode cX12_isLetter 21 = .ok (.if_icmp .gt 7, 3) := by decide +kernel
theorem dX12_isLetter_24 : decode cX12_isLetter 24 = .ok (.iconst 1, 1) := by decide +kernel
theorem dX12_isLetter_25 : decode cX12_isLetter 25 = .ok (.goto 4, 3) := by decide +kernel
theorem dX12_isLetter_28 : decode cX12_isLetter 28 = .ok (.iconst 0, 1) := by decide +kernel
theorem dX12_isLetter_29 : decode cX12_isLetter 29 = .ok (.ireturn, 1) := by decide +kernel
theorem dX12_signAt_0 : decode cX12_signAt 0 = .ok (.aload_n 0, 1) := by decide +kernel
theorem dX12_signAt_1 : decode cX12_signAt 1 = .ok (.iload_n 1, 1) := by decide +kernel
theorem dX12_signAt_2 : decode cX12_signAt 2 = .ok (.invokevirtual 292, 3) := by decide +kernel
theorem dX12_signAt_5 : decode cX12_signAt 5 = .ok (.istore_n 2, 1) := by decide +kernel
theorem dX12_signAt_6 : decode cX12_signAt 6 = .ok (.iload_n 2, 1) := by decide +kernel
theorem dX12_signAt_7 : decode cX12_signAt 7 = .ok (.tableswitch 285 40 93 #[229, 229, 229, 229, 229, 229, 231, 285, 285, 285, 285, 285, 285, 285, 285, 285, 285, 285, 229, 229, 249, 229, 267, 285, 285, 285, 285, 285, 285, 285, 285, 285, 285, 285, 285, 285, 285, 285, 285, 285, 285, 285, 285, 285, 285, 285, 285, 285, 285, 285, 285, 229, 285, 229], 229) := by decide +kernel
theorem dX12_signAt_236 : decode cX12_signAt 236 = .ok (.iload_n 2, 1) := by decide +kernel
theorem dX12_signAt_237 : decode cX12_signAt 237 = .ok (.ireturn, 1) := by decide +kernel
theorem dX12_signAt_238 : decode cX12_signAt 238 = .ok (.aload_n 0, 1) := by decide +kernel
theorem dX12_signAt_239 : decode cX12_signAt 239 = .ok (.iload_n 1, 1) := by decide +kernel
theorem dX12_signAt_240 : decode cX12_signAt 240 = .ok (.iconst 1, 1) := by decide +kernel
theorem dX12_signAt_241 : decode cX12_signAt 241 = .ok (.iadd, 1) := by decide +kernel
theorem dX12_signAt_242 : decode cX12_signAt 242 = .ok (.invokevirtual 292, 3) := by decide +kernel
theorem dX12_signAt_245 : decode cX12_signAt 245 = .ok (.bipush 46, 2) := by decide +kernel
theorem dX12_signAt_247 : decode cX12_signAt 247 = .ok (.if_icmp .ne 7, 3) := by decide +kernel
theorem dX12_signAt_250 : decode cX12_signAt 250 = .ok (.iconst 1, 1) := by decide +kernel
theorem dX12_signAt_251 : decode cX12_signAt 251 = .ok (.goto 4, 3) := by decide +kernel
theorem dX12_signAt_254 : decode cX12_signAt 254 = .ok (.iconst 0, 1) := by decide +kernel
theorem dX12_signAt_255 : decode cX12_signAt 255 = .ok (.ireturn, 1) := by decide +kernel
theorem dX12_signAt_256 : decode cX12_signAt 256 = .ok (.aload_n 0, 1) := by decide +kernel
theorem dX12_signAt_257 : decode cX12_signAt 257 = .ok (.iload_n 1, 1) := by decide +kernel
theorem dX12_signAt_258 : decode cX12_signAt 258 = .ok (.iconst 1, 1) := by decide +kernel
theorem dX12_signAt_259 : decode cX12_signAt 259 = .ok (.iadd, 1) := by decide +kernel
theorem dX12_signAt_260 : decode cX12_signAt 260 = .ok (.invokevirtual 292, 3) := by decide +kernel
theorem dX12_signAt_263 : decode cX12_signAt 263 = .ok (.bipush 61, 2) := by decide +kernel
theorem dX12_signAt_265 : decode cX12_signAt 265 = .ok (.if_icmp .ne 7, 3) := by decide +kernel
theorem dX12_signAt_268 : decode cX12_signAt 268 = .ok (.iconst 2, 1) := by decide +kernel
theorem dX12_signAt_269 : decode cX12_signAt 269 = .ok (.goto 4, 3) := by decide +kernel
theorem dX12_signAt_272 : decode cX12_signAt 272 = .ok (.iconst 0, 1) := by decide +kernel
theorem dX12_signAt_273 : decode cX12_signAt 273 = .ok (.ireturn, 1) := by decide +kernel
theorem dX12_signAt_274 : decode cX12_signAt 274 = .ok (.aload_n 0, 1) := by decide +kernel
theorem dX12_signAt_275 : decode cX12_signAt 275 = .ok (.iload_n 1, 1) := by decide +kernel
theorem dX12_signAt_276 : decode cX12_signAt 276 = .ok (.iconst 1, 1) := by decide +kernel
theorem dX12_signAt_277 : decode cX12_signAt 277 = .ok (.iadd, 1) := by decide +kernel
theorem dX12_signAt_278 : decode cX12_signAt 278 = .ok (.invokevirtual 292, 3) := by decide +kernel
theorem dX12_signAt_281 : decode cX12_signAt 281 = .ok (.bipush 61, 2) := by decide +kernel
theorem dX12_signAt_283 : decode cX12_signAt 283 = .ok (.if_icmp .ne 7, 3) := by decide +kernel
theorem dX12_signAt_286 : decode cX12_signAt 286 = .ok (.iconst 3, 1) := by decide +kernel
theorem dX12_signAt_287 : decode cX12_signAt 287 = .ok (.goto 4, 3) := by decide +kernel
theorem dX12_signAt_290 : decode cX12_signAt 290 = .ok (.iconst 0, 1) := by decide +kernel
theorem dX12_signAt_291 : decode cX12_signAt 291 = .ok (.ireturn, 1) := by decide +kernel
theorem dX12_signAt_292 : decode cX12_signAt 292 = .ok (.iconst 0, 1) := by decide +kernel
theorem dX12_signAt_293 : decode cX12_signAt 293 = .ok (.ireturn, 1) := by decide +kernel
theorem dX12_token_0 : decode cX12_token 0 = .ok (.aload_n 0, 1) := by decide +kernel
theorem dX12_token_1 : decode cX12_token 1 = .ok (.getfield 47, 3) := by decide +kernel
theorem dX12_token_4 : decode cX12_token 4 = .ok (.aload_n 0, 1) := by decide +kernel
theorem dX12_token_5 : decode cX12_token 5 = .ok (.getfield 289, 3) := by decide +kernel
theorem dX12_token_8 : decode cX12_token 8 = .ok (.iload_n 1, 1) := by decide +kernel
theorem dX12_token_9 : decode cX12_token 9 = .ok (.iastore, 1) := by decide +kernel
theorem dX12_token_10 : decode cX12_token 10 = .ok (.aload_n 0, 1) := by decide +kernel
theorem dX12_token_11 : decode cX12_token 11 = .ok (.getfield 50, 3) := by decide +kernel
theorem dX12_token_14 : decode cX12_token 14 = .ok (.aload_n 0, 1) := by decide +kernel
theorem dX12_token_15 : decode cX12_token 15 = .ok (.getfield 289, 3) := by decide +kernel
theorem dX12_token_18 : decode cX12_token 18 = .ok (.iload_n 2, 1) := by decide +kernel
theorem dX12_token_19 : decode cX12_token 19 = .ok (.iastore, 1) := by decide +kernel
theorem dX12_token_20 : decode cX12_token 20 = .ok (.aload_n 0, 1) := by decide +kernel
theorem dX12_token_21 : decode cX12_token 21 = .ok (.getfield 53, 3) := by decide +kernel
theorem dX12_token_24 : decode cX12_token 24 = .ok (.aload_n 0, 1) := by decide +kernel
theorem dX12_token_25 : decode cX12_token 25 = .ok (.getfield 289, 3) := by decide +kernel
theorem dX12_token_28 : decode cX12_token 28 = .ok (.iload_n 3, 1) := by decide +kernel
theorem dX12_token_29 : decode cX12_token 29 = .ok (.iastore, 1) := by decide +kernel
theorem dX12_token_30 : decode cX12_token 30 = .ok (.aload_n 0, 1) := by decide +kernel
theorem dX12_token_31 : decode cX12_token 31 = .ok (.getfield 56, 3) := by decide +kernel
theorem dX12_token_34 : decode cX12_token 34 = .ok (.aload_n 0, 1) := by decide +kernel
theorem dX12_token_35 : decode cX12_token 35 = .ok (.getfield 289, 3) := by decide +kernel
theorem dX12_token_38 : decode cX12_token 38 = .ok (.iload 4, 2) := by decide +kernel
theorem dX12_token_40 : decode cX12_token 40 = .ok (.iastore, 1) := by decide +kernel
theorem dX12_token_41 : decode cX12_token 41 = .ok (.aload_n 0, 1) := by decide +kernel
theorem dX12_token_42 : decode cX12_token 42 = .ok (.dup, 1) := by decide +kernel
theorem dX12_token_43 : decode cX12_token 43 = .ok (.getfield 289, 3) := by decide +kernel
theorem dX12_token_46 : decode cX12_token 46 = .ok (.iconst 1, 1) := by decide +kernel
theorem dX12_token_47 : decode cX12_token 47 = .ok (.iadd, 1) := by decide +kernel
theorem dX12_token_48 : decode cX12_token 48 = .ok (.putfield 289, 3) := by decide +kernel
theorem dX12_token_51 : decode cX12_token 51 = .ok (.return_, 1) := by decide +kernel
theorem dX12_tokenize_0 : decode cX12_tokenize 0 = .ok (.aload_n 0, 1) := by decide +kernel
theorem dX12_tokenize_1 : decode cX12_tokenize 1 = .ok (.iconst 0, 1) := by decide +kernel
theorem dX12_tokenize_2 : decode cX12_tokenize 2 = .ok (.putfield 289, 3) := by decide +kernel
theorem dX12_tokenize_5 : decode cX12_tokenize 5 = .ok (.iconst 0, 1) := by decide +kernel
theorem dX12_tokenize_6 : decode cX12_tokenize 6 = .ok (.istore_n 1, 1) := by decide +kernel
theorem dX12_tokenize_7 : decode cX12_tokenize 7 = .ok (.iload_n 1, 1) := by decide +kernel
theorem dX12_tokenize_8 : decode cX12_tokenize 8 = .ok (.aload_n 0, 1) := by decide +kernel
theorem dX12_tokenize_9 : decode cX12_tokenize 9 = .ok (.getfield 276, 3) := by decide +kernel
theorem dX12_tokenize_12 : decode cX12_tokenize 12 = .ok (.if_icmp .ge 277, 3) := by decide +kernel
theorem dX12_tokenize_15 : decode cX12_tokenize 15 = .ok (.aload_n 0, 1) := by decide +kernel
theorem dX12_tokenize_16 : decode cX12_tokenize 16 = .ok (.getfield 44, 3) := by decide +kernel
theorem dX12_tokenize_19 : decode cX12_tokenize 19 = .ok (.iload_n 1, 1) := by decide +kernel
theorem dX12_tokenize_20 : decode cX12_tokenize 20 = .ok (.baload, 1) := by decide +kernel
theorem dX12_tokenize_21 : decode cX12_tokenize 21 = .ok (.istore_n 2, 1) := by decide +kernel
theorem dX12_tokenize_22 : decode cX12_tokenize 22 = .ok (.iload_n 2, 1) := by decide +kernel
theorem dX12_tokenize_23 : decode cX12_tokenize 23 = .ok (.bipush 32, 2) := by decide +kernel
theorem dX12_tokenize_25 : decode cX12_tokenize 25 = .ok (.if_icmp .eq 9, 3) := by decide +kernel
theorem dX12_tokenize_28 : decode cX12_tokenize 28 = .ok (.iload_n 2, 1) := by decide +kernel
theorem dX12_tokenize_29 : decode cX12_tokenize 29 = .ok (.bipush 10, 2) := by decide +kernel
theorem dX12_tokenize_31 : decode cX12_tokenize 31 = .ok (.if_icmp .ne 9, 3) := by decide +kernel
theorem dX12_tokenize_34 : decode cX12_tokenize 34 = .ok (.iinc 1 1, 3) := by decide +kernel
theorem dX12_tokenize_37 : decode cX12_tokenize 37 = .ok (.goto (-30), 3) := by decide +kernel
theorem dX12_tokenize_40 : decode cX12_tokenize 40 = .ok (.iconst 0, 1) := by decide +kernel
theorem dX12_tokenize_41 : decode cX12_tokenize 41 = .ok (.istore_n 3, 1) := by decide +kernel
theorem dX12_tokenize_42 : decode cX12_tokenize 42 = .ok (.iload_n 2, 1) := by decide +kernel
theorem dX12_tokenize_43 : decode cX12_tokenize 43 = .ok (.invokestatic 295, 3) := by decide +kernel
theorem dX12_tokenize_46 : decode cX12_tokenize 46 = .ok (.ifCond .eq 78, 3) := by decide +kernel
theorem dX12_tokenize_49 : decode cX12_tokenize 49 = .ok (.aload_n 0, 1) := by decide +kernel
theorem dX12_tokenize_50 : decode cX12_tokenize 50 = .ok (.iload_n 1, 1) := by decide +kernel
theorem dX12_tokenize_51 : decode cX12_tokenize 51 = .ok (.iload_n 3, 1) := by decide +kernel
theorem dX12_tokenize_52 : decode cX12_tokenize 52 = .ok (.iadd, 1) := by decide +kernel
theorem dX12_tokenize_53 : decode cX12_tokenize 53 = .ok (.invokevirtual 292, 3) := by decide +kernel
theorem dX12_tokenize_56 : decode cX12_tokenize 56 = .ok (.invokestatic 295, 3) := by decide +kernel
theorem dX12_tokenize_59 : decode cX12_tokenize 59 = .ok (.ifCond .ne 16, 3) := by decide +kernel
theorem dX12_tokenize_62 : decode cX12_tokenize 62 = .ok (.aload_n 0, 1) := by decide +kernel
theorem dX12_tokenize_63 : decode cX12_tokenize 63 = .ok (.iload_n 1, 1) := by decide +kernel
theorem dX12_tokenize_64 : decode cX12_tokenize 64 = .ok (.iload_n 3, 1) := by decide +kernel
theorem dX12_tokenize_65 : decode cX12_tokenize 65 = .ok (.iadd, 1) := by decide +kernel
theorem dX12_tokenize_66 : decode cX12_tokenize 66 = .ok (.invokevirtual 292, 3) := by decide +kernel
theorem dX12_tokenize_69 : decode cX12_tokenize 69 = .ok (.invokestatic 299, 3) := by decide +kernel
theorem dX12_tokenize_72 : decode cX12_tokenize 72 = .ok (.ifCond .eq 9, 3) := by decide +kernel
theorem dX12_tokenize_75 : decode cX12_tokenize 75 = .ok (.iinc 3 1, 3) := by decide +kernel
theorem dX12_tokenize_78 : decode cX12_tokenize 78 = .ok (.goto (-29), 3) := by decide +kernel
theorem dX12_tokenize_81 : decode cX12_tokenize 81 = .ok (.aload_n 0, 1) := by decide +kernel
theorem dX12_tokenize_82 : decode cX12_tokenize 82 = .ok (.ldc_w 302, 3) := by decide +kernel
theorem dX12_tokenize_85 : decode cX12_tokenize 85 = .ok (.iload_n 1, 1) := by decide +kernel
theorem dX12_tokenize_86 : decode cX12_tokenize 86 = .ok (.iload_n 3, 1) := by decide +kernel
theorem dX12_tokenize_87 : decode cX12_tokenize 87 = .ok (.invokevirtual 304, 3) := by decide +kernel
theorem dX12_tokenize_90 : decode cX12_tokenize 90 = .ok (.istore 4, 2) := by decide +kernel
theorem dX12_tokenize_92 : decode cX12_tokenize 92 = .ok (.aload_n 0, 1) := by decide +kernel
theorem dX12_tokenize_93 : decode cX12_tokenize 93 = .ok (.iload 4, 2) := by decide +kernel
theorem dX12_tokenize_95 : decode cX12_tokenize 95 = .ok (.ifCond .lt 7, 3) := by decide +kernel
theorem dX12_tokenize_98 : decode cX12_tokenize 98 = .ok (.iconst 3, 1) := by decide +kernel
theorem dX12_tokenize_99 : decode cX12_tokenize 99 = .ok (.goto 15, 3) := by decide +kernel
theorem dX12_tokenize_102 : decode cX12_tokenize 102 = .ok (.iload_n 3, 1) := by decide +kernel
theorem dX12_tokenize_103 : decode cX12_tokenize 103 = .ok (.bipush 8, 2) := by decide +kernel
theorem dX12_tokenize_105 : decode cX12_tokenize 105 = .ok (.if_icmp .gt 7, 3) := by decide +kernel
theorem dX12_tokenize_108 : decode cX12_tokenize 108 = .ok (.iconst 1, 1) := by decide +kernel
theorem dX12_tokenize_109 : decode cX12_tokenize 109 = .ok (.goto 5, 3) := by decide +kernel
theorem dX12_tokenize_112 : decode cX12_tokenize 112 = .ok (.bipush 6, 2) := by decide +kernel
theorem dX12_tokenize_114 : decode cX12_tokenize 114 = .ok (.iload_n 1, 1) := by decide +kernel
theorem dX12_tokenize_115 : decode cX12_tokenize 115 = .ok (.iload_n 3, 1) := by decide +kernel
theorem dX12_tokenize_116 : decode cX12_tokenize 116 = .ok (.iload 4, 2) := by decide +kernel
theorem dX12_tokenize_118 : decode cX12_tokenize 118 = .ok (.invokevirtual 308, 3) := by decide +kernel
theorem dX12_tokenize_121 : decode cX12_tokenize 121 = .ok (.goto 142, 3) := by decide +kernel
theorem dX12_tokenize_124 : decode cX12_tokenize 124 = .ok (.iload_n 2, 1) := by decide +kernel
theorem dX12_tokenize_125 : decode cX12_tokenize 125 = .ok (.invokestatic 299, 3) := by decide +kernel
theorem dX12_tokenize_128 : decode cX12_tokenize 128 = .ok (.ifCond .eq 88, 3) := by decide +kernel
theorem dX12_tokenize_131 : decode cX12_tokenize 131 = .ok (.iconst 0, 1) := by decide +kernel
theorem dX12_tokenize_132 : decode cX12_tokenize 132 = .ok (.istore 4, 2) := by decide +kernel
theorem dX12_tokenize_134 : decode cX12_tokenize 134 = .ok (.aload_n 0, 1) := by decide +kernel
theorem dX12_tokenize_135 : decode cX12_tokenize 135 = .ok (.iload_n 1, 1) := by decide +kernel
theorem dX12_tokenize_136 : decode cX12_tokenize 136 = .ok (.iload_n 3, 1) := by decide +kernel
theorem dX12_tokenize_137 : decode cX12_tokenize 137 = .ok (.iadd, 1) := by decide +kernel
theorem dX12_tokenize_138 : decode cX12_tokenize 138 = .ok (.invokevirtual 292, 3) := by decide +kernel
theorem dX12_tokenize_141 : decode cX12_tokenize 141 = .ok (.invokestatic 299, 3) := by decide +kernel
theorem dX12_tokenize_144 : decode cX12_tokenize 144 = .ok (.ifCond .eq 37, 3) := by decide +kernel
theorem dX12_tokenize_147 : decode cX12_tokenize 147 = .ok (.iload_n 3, 1) := by decide +kernel
theorem dX12_tokenize_148 : decode cX12_tokenize 148 = .ok (.iconst 5, 1) := by decide +kernel
theorem dX12_tokenize_149 : decode cX12_tokenize 149 = .ok (.if_icmp .ge 22, 3) := by decide +kernel
theorem dX12_tokenize_152 : decode cX12_tokenize 152 = .ok (.bipush 10, 2) := by decide +kernel
theorem dX12_tokenize_154 : decode cX12_tokenize 154 = .ok (.iload 4, 2) := by decide +kernel
theorem dX12_tokenize_156 : decode cX12_tokenize 156 = .ok (.imul, 1) := by decide +kernel
theorem dX12_tokenize_157 : decode cX12_tokenize 157 = .ok (.aload_n 0, 1) := by decide +kernel
theorem dX12_tokenize_158 : decode cX12_tokenize 158 = .ok (.iload_n 1, 1) := by decide +kernel
theorem dX12_tokenize_159 : decode cX12_tokenize 159 = .ok (.iload_n 3, 1) := by decide +kernel
theorem dX12_tokenize_160 : decode cX12_tokenize 160 = .ok (.iadd, 1) := by decide +kernel
theorem dX12_tokenize_161 : decode cX12_tokenize 161 = .ok (.invokevirtual 292, 3) := by decide +kernel
theorem dX12_tokenize_164 : decode cX12_tokenize 164 = .ok (.iadd, 1) := by decide +kernel
theorem dX12_tokenize_165 : decode cX12_tokenize 165 = .ok (.bipush 48, 2) := by decide +kernel
theorem dX12_tokenize_167 : decode cX12_tokenize 167 = .ok (.isub, 1) := by decide +kernel
theorem dX12_tokenize_168 : decode cX12_tokenize 168 = .ok (.goto 5, 3) := by decide +kernel
theorem dX12_tokenize_171 : decode cX12_tokenize 171 = .ok (.iload 4, 2) := by decide +kernel
theorem dX12_tokenize_173 : decode cX12_tokenize 173 = .ok (.istore 4, 2) := by decide +kernel
theorem dX12_tokenize_175 : decode cX12_tokenize 175 = .ok (.iinc 3 1, 3) := by decide +kernel
theorem dX12_tokenize_178 : decode cX12_tokenize 178 = .ok (.goto (-44), 3) := by decide +kernel
theorem dX12_tokenize_181 : decode cX12_tokenize 181 = .ok (.aload_n 0, 1) := by decide +kernel
theorem dX12_tokenize_182 : decode cX12_tokenize 182 = .ok (.iload_n 3, 1) := by decide +kernel
theorem dX12_tokenize_183 : decode cX12_tokenize 183 = .ok (.iconst 5, 1) := by decide +kernel
theorem dX12_tokenize_184 : decode cX12_tokenize 184 = .ok (.if_icmp .gt 20, 3) := by decide +kernel
theorem dX12_tokenize_187 : decode cX12_tokenize 187 = .ok (.aload_n 0, 1) := by decide +kernel
theorem dX12_tokenize_188 : decode cX12_tokenize 188 = .ok (.iload_n 1, 1) := by decide +kernel
theorem dX12_tokenize_189 : decode cX12_tokenize 189 = .ok (.iload_n 3, 1) := by decide +kernel
theorem dX12_tokenize_190 : decode cX12_tokenize 190 = .ok (.iadd, 1) := by decide +kernel
theorem dX12_tokenize_191 : decode cX12_tokenize 191 = .ok (.invokevirtual 292, 3) := by decide +kernel
theorem dX12_tokenize_194 : decode cX12_tokenize 194 = .ok (.invokestatic 295, 3) := by decide +kernel
theorem dX12_tokenize_197 : decode cX12_tokenize 197 = .ok (.ifCond .ne 7, 3) := by decide +kernel
theorem dX12_tokenize_200 : decode cX12_tokenize 200 = .ok (.iconst 2, 1) := by decide +kernel
theorem dX12_tokenize_201 : decode cX12_tokenize 201 = .ok (.goto 5, 3) := by decide +kernel
theorem dX12_tokenize_204 : decode cX12_tokenize 204 = .ok (.bipush 6, 2) := by decide +kernel
theorem dX12_tokenize_206 : decode cX12_tokenize 206 = .ok (.iload_n 1, 1) := by decide +kernel
theorem dX12_tokenize_207 : decode cX12_tokenize 207 = .ok (.iload_n 3, 1) := by decide +kernel
theorem dX12_tokenize_208 : decode cX12_tokenize 208 = .ok (.iload 4, 2) := by decide +kernel
theorem dX12_tokenize_210 : decode cX12_tokenize 210 = .ok (.invokevirtual 308, 3) := by decide +kernel
theorem dX12_tokenize_213 : decode cX12_tokenize 213 = .ok (.goto 50, 3) := by decide +kernel
theorem dX12_tokenize_216 : decode cX12_tokenize 216 = .ok (.aload_n 0, 1) := by decide +kernel
theorem dX12_tokenize_217 : decode cX12_tokenize 217 = .ok (.iload_n 1, 1) := by decide +kernel
theorem dX12_tokenize_218 : decode cX12_tokenize 218 = .ok (.invokevirtual 312, 3) := by decide +kernel
theorem dX12_tokenize_221 : decode cX12_tokenize 221 = .ok (.istore 4, 2) := by decide +kernel
theorem dX12_tokenize_223 : decode cX12_tokenize 223 = .ok (.iload 4, 2) := by decide +kernel
theorem dX12_tokenize_225 : decode cX12_tokenize 225 = .ok (.ifCond .ne 7, 3) := by decide +kernel
theorem dX12_tokenize_228 : decode cX12_tokenize 228 = .ok (.iconst 1, 1) := by decide +kernel
theorem dX12_tokenize_229 : decode cX12_tokenize 229 = .ok (.goto 14, 3) := by decide +kernel
theorem dX12_tokenize_232 : decode cX12_tokenize 232 = .ok (.iload 4, 2) := by decide +kernel
theorem dX12_tokenize_234 : decode cX12_tokenize 234 = .ok (.iconst 3, 1) := by decide +kernel
theorem dX12_tokenize_235 : decode cX12_tokenize 235 = .ok (.if_icmp .gt 7, 3) := by decide +kernel
theorem dX12_tokenize_238 : decode cX12_tokenize 238 = .ok (.iconst 2, 1) := by decide +kernel
theorem dX12_tokenize_239 : decode cX12_tokenize 239 = .ok (.goto 4, 3) := by decide +kernel
theorem dX12_tokenize_242 : decode cX12_tokenize 242 = .ok (.iconst 1, 1) := by decide +kernel
theorem dX12_tokenize_243 : decode cX12_tokenize 243 = .ok (.istore_n 3, 1) := by decide +kernel
theorem dX12_tokenize_244 : decode cX12_tokenize 244 = .ok (.aload_n 0, 1) := by decide +kernel
theorem dX12_tokenize_245 : decode cX12_tokenize 245 = .ok (.iload 4, 2) := by decide +kernel
theorem dX12_tokenize_247 : decode cX12_tokenize 247 = .ok (.ifCond .ne 8, 3) := by decide +kernel
theorem dX12_tokenize_250 : decode cX12_tokenize 250 = .ok (.bipush 6, 2) := by decide +kernel
theorem dX12_tokenize_252 : decode cX12_tokenize 252 = .ok (.goto 4, 3) := by decide +kernel
theorem dX12_tokenize_255 : decode cX12_tokenize 255 = .ok (.iconst 4, 1) := by decide +kernel
theorem dX12_tokenize_256 : decode cX12_tokenize 256 = .ok (.iload_n 1, 1) := by decide +kernel
theorem dX12_tokenize_257 : decode cX12_tokenize 257 = .ok (.iload_n 3, 1) := by decide +kernel
theorem dX12_tokenize_258 : decode cX12_tokenize 258 = .ok (.iload 4, 2) := by decide +kernel
theorem dX12_tokenize_260 : decode cX12_tokenize 260 = .ok (.invokevirtual 308, 3) := by decide +kernel
theorem dX12_tokenize_263 : decode cX12_tokenize 263 = .ok (.aload_n 0, 1) := by decide +kernel
theorem dX12_tokenize_264 : decode cX12_tokenize 264 = .ok (.getfield 47, 3) := by decide +kernel
theorem dX12_tokenize_267 : decode cX12_tokenize 267 = .ok (.aload_n 0, 1) := by decide +kernel
theorem dX12_tokenize_268 : decode cX12_tokenize 268 = .ok (.getfield 289, 3) := by decide +kernel
theorem dX12_tokenize_271 : decode cX12_tokenize 271 = .ok (.iconst 1, 1) := by decide +kernel
theorem dX12_tokenize_272 : decode cX12_tokenize 272 = .ok (.isub, 1) := by decide +kernel
theorem dX12_tokenize_273 : decode cX12_tokenize 273 = .ok (.iaload, 1) := by decide +kernel
theorem dX12_tokenize_274 : decode cX12_tokenize 274 = .ok (.bipush 6, 2) := by decide +kernel
theorem dX12_tokenize_276 : decode cX12_tokenize 276 = .ok (.if_icmp .ne 6, 3) := by decide +kernel
theorem dX12_tokenize_279 : decode cX12_tokenize 279 = .ok (.goto 10, 3) := by decide +kernel
theorem dX12_tokenize_282 : decode cX12_tokenize 282 = .ok (.iload_n 1, 1) := by decide +kernel
theorem dX12_tokenize_283 : decode cX12_tokenize 283 = .ok (.iload_n 3, 1) := by decide +kernel
theorem dX12_tokenize_284 : decode cX12_tokenize 284 = .ok (.iadd, 1) := by decide +kernel
theorem dX12_tokenize_285 : decode cX12_tokenize 285 = .ok (.istore_n 1, 1) := by decide +kernel
theorem dX12_tokenize_286 : decode cX12_tokenize 286 = .ok (.goto (-279), 3) := by decide +kernel
theorem dX12_tokenize_289 : decode cX12_tokenize 289 = .ok (.aload_n 0, 1) := by decide +kernel
theorem dX12_tokenize_290 : decode cX12_tokenize 290 = .ok (.getfield 289, 3) := by decide +kernel
theorem dX12_tokenize_293 : decode cX12_tokenize 293 = .ok (.ifCond .eq 19, 3) := by decide +kernel
theorem dX12_tokenize_296 : decode cX12_tokenize 296 = .ok (.aload_n 0, 1) := by decide +kernel
theorem dX12_tokenize_297 : decode cX12_tokenize 297 = .ok (.getfield 47, 3) := by decide +kernel
theorem dX12_tokenize_300 : decode cX12_tokenize 300 = .ok (.aload_n 0, 1) := by decide +kernel
theorem dX12_tokenize_301 : decode cX12_tokenize 301 = .ok (.getfield 289, 3) := by decide +kernel
theorem dX12_tokenize_304 : decode cX12_tokenize 304 = .ok (.iconst 1, 1) := by decide +kernel
theorem dX12_tokenize_305 : decode cX12_tokenize 305 = .ok (.isub, 1) := by decide +kernel
theorem dX12_tokenize_306 : decode cX12_tokenize 306 = .ok (.iaload, 1) := by decide +kernel
theorem dX12_tokenize_307 : decode cX12_tokenize 307 = .ok (.bipush 6, 2) := by decide +kernel
theorem dX12_tokenize_309 : decode cX12_tokenize 309 = .ok (.if_icmp .eq 14, 3) := by decide +kernel
theorem dX12_tokenize_312 : decode cX12_tokenize 312 = .ok (.aload_n 0, 1) := by decide +kernel
theorem dX12_tokenize_313 : decode cX12_tokenize 313 = .ok (.iconst 5, 1) := by decide +kernel
theorem dX12_tokenize_314 : decode cX12_tokenize 314 = .ok (.aload_n 0, 1) := by decide +kernel
theorem dX12_tokenize_315 : decode cX12_tokenize 315 = .ok (.getfield 276, 3) := by decide +kernel
theorem dX12_tokenize_318 : decode cX12_tokenize 318 = .ok (.iconst 0, 1) := by decide +kernel
theorem dX12_tokenize_319 : decode cX12_tokenize 319 = .ok (.iconst 0, 1) := by decide +kernel
theorem dX12_tokenize_320 : decode cX12_tokenize 320 = .ok (.invokevirtual 308, 3) := by decide +kernel
theorem dX12_tokenize_323 : decode cX12_tokenize 323 = .ok (.aload_n 0, 1) := by decide +kernel
theorem dX12_tokenize_324 : decode cX12_tokenize 324 = .ok (.getfield 289, 3) := by decide +kernel
theorem dX12_tokenize_327 : decode cX12_tokenize 327 = .ok (.istore_n 2, 1) := by decide +kernel
theorem dX12_tokenize_328 : decode cX12_tokenize 328 = .ok (.iload_n 2, 1) := by decide +kernel
theorem dX12_tokenize_329 : decode cX12_tokenize 329 = .ok (.aload_n 0, 1) := by decide +kernel
theorem dX12_tokenize_330 : decode cX12_tokenize 330 = .ok (.getfield 289, 3) := by decide +kernel
theorem dX12_tokenize_333 : decode cX12_tokenize 333 = .ok (.iconst 3, 1) := by decide +kernel
theorem dX12_tokenize_334 : decode cX12_tokenize 334 = .ok (.iadd, 1) := by decide +kernel
theorem dX12_tokenize_335 : decode cX12_tokenize 335 = .ok (.if_icmp .ge 16, 3) := by decide +kernel
theorem dX12_tokenize_338 : decode cX12_tokenize 338 = .ok (.aload_n 0, 1) := by decide +kernel
theorem dX12_tokenize_339 : decode cX12_tokenize 339 = .ok (.getfield 47, 3) := by decide +kernel
theorem dX12_tokenize_342 : decode cX12_tokenize 342 = .ok (.iload_n 2, 1) := by decide +kernel
theorem dX12_tokenize_343 : decode cX12_tokenize 343 = .ok (.iconst 5, 1) := by decide +kernel
theorem dX12_tokenize_344 : decode cX12_tokenize 344 = .ok (.iastore, 1) := by decide +kernel
theorem dX12_tokenize_345 : decode cX12_tokenize 345 = .ok (.iinc 2 1, 3) := by decide +kernel
theorem dX12_tokenize_348 : decode cX12_tokenize 348 = .ok (.goto (-20), 3) := by decide +kernel
theorem dX12_tokenize_351 : decode cX12_tokenize 351 = .ok (.return_, 1) := by decide +kernel
theorem w_105 : Cond.selects RX12 yX12_at yX12_at ∈ tb := sel_7 (q := (yX12_at, 105)) 9 (by decide +kernel)
theorem w_106 : Cond.selects RX12 yX12_among yX12_among ∈ tb := sel_7 (q := (yX12_among, 105)) 10 (by decide +kernel)
theorem w_107 : Cond.selects RX12 yX12_token yX12_token ∈ tb := sel_7 (q := (yX12_token, 105)) 11 (by decide +kernel)
theorem w_108 : Cond.selects RX12 yX12_signAt yX12_signAt ∈ tb := sel_7 (q := (yX12_signAt, 105)) 12 (by decide +kernel)
theorem w_1974 : Cond.fieldLink RX12 44 (TX12 13).1 (TX12 13).2.1 (TX12 13).2.2.1 ∈ tb := tbc_8 91 (by decide +kernel) rfl
theorem w_1975 : Cond.fieldLink RX12 276 (TX12 14).1 (TX12 14).2.1 (TX12 14).2.2.1 ∈ tb := tbc_8 92 (by decide +kernel) rfl
theorem w_1976 : Cond.fieldLink RX12 47 (TX12 15).1 (TX12 15).2.1 (TX12 15).2.2.1 ∈ tb := tbc_8 93 (by decide +kernel) rfl
theorem w_1977 : Cond.fieldLink RX12 50 (TX12 16).1 (TX12 16).2.1 (TX12 16).2.2.1 ∈ tb := tbc_8 94 (by decide +kernel) rfl
theorem w_1978 : Cond.fieldLink RX12 53 (TX12 17).1 (TX12 17).2.1 (TX12 17).2.2.1 ∈ tb := tbc_8 95 (by decide +kernel) rfl
theorem w_1979 : Cond.fieldLink RX12 56 (TX12 18).1 (TX12 18).2.1 (TX12 18).2.2.1 ∈ tb := tbc_8 96 (by decide +kernel) rfl
theorem w_1980 : Cond.fieldLink RX12 289 (TX12 19).1 (TX12 19).2.1 (TX12 19).2.2.1 ∈ tb := tbc_8 97 (by decide +kernel) rfl
theorem w_2297 : Cond.methodLink RX12 295 yX12_isLetter ∈ tb := tbc_9 174 (by decide +kernel) rfl
theorem w_2298 : Cond.static yX12_isLetter ∈ tb := tbc_9 175 (by decide +kernel) rfl
theorem w_2299 : Cond.code yX12_isLetter cX12_isLetter 1 (some .boolean) ∈ tb := tbc_9 176 (by decide +kernel) rfl
theorem w_2300 : Cond.methodLink RX12 292 yX12_at ∈ tb := tbc_9 177 (by decide +kernel) rfl
theorem w_2302 : Cond.instanceMethod yX12_at ∈ tb := tbc_9 179 (by decide +kernel) rfl
theorem w_2303 : Cond.code yX12_at cX12_at 2 (some .int) ∈ tb := tbc_9 180 (by decide +kernel) rfl
theorem w_2304 : Cond.methodLink RX12 299 yX12_isDigit ∈ tb := tbc_9 181 (by decide +kernel) rfl
theorem w_2305 : Cond.static yX12_isDigit ∈ tb := tbc_9 182 (by decide +kernel) rfl
theorem w_2306 : Cond.code yX12_isDigit cX12_isDigit 1 (some .boolean) ∈ tb := tbc_9 183 (by decide +kernel) rfl
theorem w_2308 : Cond.methodLink RX12 304 yX12_among ∈ tb := tbc_9 185 (by decide +kernel) rfl
theorem w_2310 : Cond.instanceMethod yX12_among ∈ tb := tbc_9 187 (by decide +kernel) rfl
theorem w_2311 : Cond.code yX12_among cX12_among 8 (some .int) ∈ tb := tbc_9 188 (by decide +kernel) rfl
theorem w_2314 : Cond.methodLink RX12 308 yX12_token ∈ tb := tbc_9 191 (by decide +kernel) rfl
theorem w_2316 : Cond.instanceMethod yX12_token ∈ tb := tbc_9 193 (by decide +kernel) rfl
theorem w_2317 : Cond.code yX12_token cX12_token 5 none ∈ tb := tbc_9 194 (by decide +kernel) rfl
theorem w_2318 : Cond.methodLink RX12 312 yX12_signAt ∈ tb := tbc_9 195 (by decide +kernel) rfl
theorem w_2320 : Cond.instanceMethod yX12_signAt ∈ tb := tbc_9 197 (by decide +kernel) rfl
theorem w_2321 : Cond.code yX12_signAt cX12_signAt 3 (some .int) ∈ tb := tbc_9 198 (by decide +kernel) rfl
section RW70
variable {p : Program} {l : Launch} {e : Env} {R : Room} {s : State} {m : MethodId} {args : Array Value} {below : List Frame} {meth : Method} {c : Code} {H : Heap} {locs : List Loc} {cells slots : Nat} {Q : State → Prop}
variable {cc : ByteArray} {pc nL : Nat} {ls : Array Slot} {rest st0 : List Value} {G : sG} {n : Nat} {S : sS}
theorem g_X12_276 (Cx : sC G p m c cc nL s args RX12) (hW : sW G n S H) {k : Nat} (hk : k < n) (ht : tau k = .inl 12) {v : Int} (hv : S.1 k 14 = v) (hdg : decode cc pc = .ok (.getfield 276, 3)) (kk : W p l e R s m args below meth c H locs cells slots Q (F0 m (pc + 3) ls (.int (iv v) :: rest))) : W p l e R s m args below meth c H locs cells slots Q (F0 m pc ls (.ref (G.2.2.1 + k) :: rest)) :=
  sGet Cx inX12 rfl 14 (by decide) w_1975 hW hk ht (congrArg (fun z => Value.int (iv z)) hv) hdg kk
theorem g_X12_44 (Cx : sC G p m c cc nL s args RX12) (hW : sW G n S H) {k : Nat} (hk : k < n) (ht : tau k = .inl 12) {v : Value} (hv : S.2.2.2 k 13 = v) (hdg : decode cc pc = .ok (.getfield 44, 3)) (kk : W p l e R s m args below meth c H locs cells slots Q (F0 m (pc + 3) ls (v :: rest))) : W p l e R s m args below meth c H locs cells slots Q (F0 m pc ls (.ref (G.2.2.1 + k) :: rest)) :=
  sGet Cx inX12 rfl 13 (by decide) w_1974 hW hk ht hv hdg kk
theorem c_X12_292 (Cx : sC G p m c cc nL s args RX12) {rm : Room} {mc ms : Nat} (h1 : rm.cells = mc) (h2 : rm.slots = ms) (h3 : rm.frames + 1 ≤ R.frames ∧ 8 + (2 + 11) + rm.locals ≤ R.locals) : CallW R s args RX12 RX12 292 yX12_at cX12_at 2 (some .int) (.code yX12_at cX12_at 2 (some .int) :: tb) rm mc ms 1 :=
  sCw Cx 1 w_2300 w_2302 w_105 w_217 w_2303 (by decide +kernel) h1 h2 h3
theorem g_X12_47 (Cx : sC G p m c cc nL s args RX12) (hW : sW G n S H) {k : Nat} (hk : k < n) (ht : tau k = .inl 12) {v : Value} (hv : S.2.2.2 k 15 = v) (hdg : decode cc pc = .ok (.getfield 47, 3)) (kk : W p l e R s m args below meth c H locs cells slots Q (F0 m (pc + 3) ls (v :: rest))) : W p l e R s m args below meth c H locs cells slots Q (F0 m pc ls (.ref (G.2.2.1 + k) :: rest)) :=
  sGet Cx inX12 rfl 15 (by decide) w_1976 hW hk ht hv hdg kk
theorem g_X12_289 (Cx : sC G p m c cc nL s args RX12) (hW : sW G n S H) {k : Nat} (hk : k < n) (ht : tau k = .inl 12) {v : Int} (hv : S.1 k 19 = v) (hdg : decode cc pc = .ok (.getfield 289, 3)) (kk : W p l e R s m args below meth c H locs cells slots Q (F0 m (pc + 3) ls (.int (iv v) :: rest))) : W p l e R s m args below meth c H locs cells slots Q (F0 m pc ls (.ref (G.2.2.1 + k) :: rest)) :=
  sGet Cx inX12 rfl 19 (by decide) w_1980 hW hk ht (congrArg (fun z => Value.int (iv z)) hv) hdg kk
theorem g_X12_50 (Cx : sC G p m c cc nL s args RX12) (hW : sW G n S H) {k : Nat} (hk : k < n) (ht : tau k = .inl 12) {v : Value} (hv : S.2.2.2 k 16 = v) (hdg : decode cc pc = .ok (.getfield 50, 3)) (kk : W p l e R s m args below meth c H locs cells slots Q (F0 m (pc + 3) ls (v :: rest))) : W p l e R s m args below meth c H locs cells slots Q (F0 m pc ls (.ref (G.2.2.1 + k) :: rest)) :=
  sGet Cx inX12 rfl 16 (by decide) w_1977 hW hk ht hv hdg kk
theorem g_X12_53 (Cx : sC G p m c cc nL s args RX12) (hW : sW G n S H) {k : Nat} (hk : k < n) (ht : tau k = .inl 12) {v : Value} (hv : S.2.2.2 k 17 = v) (hdg : decode cc pc = .ok (.getfield 53, 3)) (kk : W p l e R s m args below meth c H locs cells slots Q (F0 m (pc + 3) ls (v :: rest))) : W p l e R s m args below meth c H locs cells slots Q (F0 m pc ls (.ref (G.2.2.1 + k) :: rest)) :=
  sGet Cx inX12 rfl 17 (by decide) w_1978 hW hk ht hv hdg kk
theorem g_X12_56 (Cx : sC G p m c cc nL s args RX12) (hW : sW G n S H) {k : Nat} (hk : k < n) (ht : tau k = .inl 12) {v : Value} (hv : S.2.2.2 k 18 = v) (hdg : decode cc pc = .ok (.getfield 56, 3)) (kk : W p l e R s m args below meth c H locs cells slots Q (F0 m (pc + 3) ls (v :: rest))) : W p l e R s m args below meth c H locs cells slots Q (F0 m pc ls (.ref (G.2.2.1 + k) :: rest)) :=
  sGet Cx inX12 rfl 18 (by decide) w_1979 hW hk ht hv hdg kk
theorem p_X12_289 (Cx : sC G p m c cc nL s args RX12) (hW : sW G n S H) (hL : sL G locs) {k : Nat} (hk : k < n) (ht : tau k = .inl 12) {v : Int} (hdg : decode cc pc = .ok (.putfield 289, 3)) (kk : ∀ (H1 : Heap) (locs1 : List Loc), sW G n (uF S k 19 v) H1 → sL G locs1 → W p l e R s m args below meth c H1 locs1 cells slots Q (F0 m (pc + 3) ls rest)) : W p l e R s m args below meth c H locs cells slots Q (F0 m pc ls (.int (iv v) :: .ref (G.2.2.1 + k) :: rest)) :=
  sPut Cx inX12 tyX12 tyX12_ok nmX12 rfl 19 (by decide) w_1980 rfl hW hL hk ht rfl rfl (fun _ h => uF_same h) (fun _ h => uF_off h) (congrArg (fun z => Value.int (iv z)) uF_on) hdg kk
theorem c_X12_308 (Cx : sC G p m c cc nL s args RX12) {rm : Room} {mc ms : Nat} (h1 : rm.cells = mc) (h2 : rm.slots = ms) (h3 : rm.frames + 1 ≤ R.frames ∧ 8 + (5 + 11) + rm.locals ≤ R.locals) : CallW R s args RX12 RX12 308 yX12_token cX12_token 5 none (.code yX12_token cX12_token 5 none :: tb) rm mc ms 4 :=
  sCw Cx 4 w_2314 w_2316 w_107 w_217 w_2317 (by decide +kernel) h1 h2 h3
theorem c_X12_295 (Cx : sC G p m c cc nL s args RX12) {rm : Room} {mc ms : Nat} (h1 : rm.cells = mc) (h2 : rm.slots = ms) (h3 : rm.frames + 1 ≤ R.frames ∧ 8 + (1 + 11) + rm.locals ≤ R.locals) : CallB R s args RX12 295 yX12_isLetter cX12_isLetter 1 (some .boolean) (.code yX12_isLetter cX12_isLetter 1 (some .boolean) :: tb) rm mc ms 1 ∧ (Cond.static yX12_isLetter).before args s = true :=
  sCS Cx 1 w_2297 w_2298 w_217 w_2299 (by decide +kernel) h1 h2 h3
theorem c_X12_299 (Cx : sC G p m c cc nL s args RX12) {rm : Room} {mc ms : Nat} (h1 : rm.cells = mc) (h2 : rm.slots = ms) (h3 : rm.frames + 1 ≤ R.frames ∧ 8 + (1 + 11) + rm.locals ≤ R.locals) : CallB R s args RX12 299 yX12_isDigit cX12_isDigit 1 (some .boolean) (.code yX12_isDigit cX12_isDigit 1 (some .boolean) :: tb) rm mc ms 1 ∧ (Cond.static yX12_isDigit).before args s = true :=
  sCS Cx 1 w_2304 w_2305 w_217 w_2306 (by decide +kernel) h1 h2 h3
theorem c_X12_312 (Cx : sC G p m c cc nL s args RX12) {rm : Room} {mc ms : Nat} (h1 : rm.cells = mc) (h2 : rm.slots = ms) (h3 : rm.frames + 1 ≤ R.frames ∧ 8 + (3 + 11) + rm.locals ≤ R.locals) : CallW R s args RX12 RX12 312 yX12_signAt cX12_signAt 3 (some .int) (.code yX12_signAt cX12_signAt 3 (some .int) :: tb) rm mc ms 1 :=
  sCw Cx 1 w_2318 w_2320 w_108 w_217 w_2321 (by decide +kernel) h1 h2 h3
theorem c_X12_304 (Cx : sC G p m c cc nL s args RX12) {rm : Room} {mc ms : Nat} (h1 : rm.cells = mc) (h2 : rm.slots = ms) (h3 : rm.frames + 1 ≤ R.frames ∧ 8 + (8 + 11) + rm.locals ≤ R.locals) : CallW R s args RX12 RX12 304 yX12_among cX12_among 8 (some .int) (.code yX12_among cX12_among 8 (some .int) :: tb) rm mc ms 3 :=
  sCw Cx 3 w_2308 w_2310 w_106 w_217 w_2311 (by decide +kernel) h1 h2 h3
end RW70
