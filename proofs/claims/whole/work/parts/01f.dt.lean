theorem dX1_ifs_48 : decode cX1_ifs 48 = .ok (.aload_n 0, 1) := by decide +kernel
theorem dX1_ifs_49 : decode cX1_ifs 49 = .ok (.aload_n 0, 1) := by decide +kernel
theorem dX1_ifs_50 : decode cX1_ifs 50 = .ok (.aload_n 0, 1) := by decide +kernel
theorem dX1_ifs_51 : decode cX1_ifs 51 = .ok (.getfield 33, 3) := by decide +kernel
theorem dX1_ifs_54 : decode cX1_ifs 54 = .ok (.invokevirtual 65, 3) := by decide +kernel
theorem dX1_ifs_57 : decode cX1_ifs 57 = .ok (.putfield 42, 3) := by decide +kernel
theorem dX1_ifs_60 : decode cX1_ifs 60 = .ok (.iload_n 1, 1) := by decide +kernel
theorem dX1_ifs_61 : decode cX1_ifs 61 = .ok (.sipush 159, 3) := by decide +kernel
theorem dX1_ifs_64 : decode cX1_ifs 64 = .ok (.if_icmp .ne 22, 3) := by decide +kernel
theorem dX1_ifs_67 : decode cX1_ifs 67 = .ok (.aload_n 0, 1) := by decide +kernel
theorem dX1_ifs_68 : decode cX1_ifs 68 = .ok (.iload_n 2, 1) := by decide +kernel
theorem dX1_ifs_69 : decode cX1_ifs 69 = .ok (.iload_n 3, 1) := by decide +kernel
theorem dX1_ifs_70 : decode cX1_ifs 70 = .ok (.if_icmp .ne 7, 3) := by decide +kernel
theorem dX1_ifs_73 : decode cX1_ifs 73 = .ok (.iconst 1, 1) := by decide +kernel
theorem dX1_ifs_74 : decode cX1_ifs 74 = .ok (.goto 4, 3) := by decide +kernel
theorem dX1_ifs_77 : decode cX1_ifs 77 = .ok (.iconst 0, 1) := by decide +kernel
theorem dX1_ifs_78 : decode cX1_ifs 78 = .ok (.bipush 13, 2) := by decide +kernel
theorem dX1_ifs_80 : decode cX1_ifs 80 = .ok (.bipush 10, 2) := by decide +kernel
theorem dX1_ifs_82 : decode cX1_ifs 82 = .ok (.invokevirtual 92, 3) := by decide +kernel
theorem dX1_ifs_85 : decode cX1_ifs 85 = .ok (.ireturn, 1) := by decide +kernel
theorem dX1_ifs_86 : decode cX1_ifs 86 = .ok (.aload_n 0, 1) := by decide +kernel
theorem dX1_ifs_87 : decode cX1_ifs 87 = .ok (.iload_n 1, 1) := by decide +kernel
theorem dX1_ifs_88 : decode cX1_ifs 88 = .ok (.sipush 155, 3) := by decide +kernel
theorem dX1_ifs_91 : decode cX1_ifs 91 = .ok (.if_icmp .ne 15, 3) := by decide +kernel
theorem dX1_ifs_94 : decode cX1_ifs 94 = .ok (.iload_n 2, 1) := by decide +kernel
theorem dX1_ifs_95 : decode cX1_ifs 95 = .ok (.ifCond .ge 7, 3) := by decide +kernel
theorem dX1_ifs_98 : decode cX1_ifs 98 = .ok (.iconst 1, 1) := by decide +kernel
theorem dX1_ifs_99 : decode cX1_ifs 99 = .ok (.goto 16, 3) := by decide +kernel
theorem dX1_ifs_102 : decode cX1_ifs 102 = .ok (.iconst 0, 1) := by decide +kernel
theorem dX1_ifs_103 : decode cX1_ifs 103 = .ok (.goto 12, 3) := by decide +kernel
theorem dX1_ifs_106 : decode cX1_ifs 106 = .ok (.iload_n 2, 1) := by decide +kernel
theorem dX1_ifs_107 : decode cX1_ifs 107 = .ok (.ifCond .ne 7, 3) := by decide +kernel
theorem dX1_ifs_110 : decode cX1_ifs 110 = .ok (.iconst 1, 1) := by decide +kernel
theorem dX1_ifs_111 : decode cX1_ifs 111 = .ok (.goto 4, 3) := by decide +kernel
theorem dX1_ifs_114 : decode cX1_ifs 114 = .ok (.iconst 0, 1) := by decide +kernel
theorem dX1_ifs_115 : decode cX1_ifs 115 = .ok (.bipush 11, 2) := by decide +kernel
theorem dX1_ifs_117 : decode cX1_ifs 117 = .ok (.bipush 8, 2) := by decide +kernel
theorem dX1_ifs_119 : decode cX1_ifs 119 = .ok (.invokevirtual 92, 3) := by decide +kernel
theorem dX1_ifs_122 : decode cX1_ifs 122 = .ok (.ireturn, 1) := by decide +kernel
theorem dX1_call_0 : decode cX1_call 0 = .ok (.aload_n 0, 1) := by decide +kernel
theorem dX1_call_1 : decode cX1_call 1 = .ok (.aload_n 0, 1) := by decide +kernel
theorem dX1_call_2 : decode cX1_call 2 = .ok (.getfield 39, 3) := by decide +kernel
theorem dX1_call_5 : decode cX1_call 5 = .ok (.aload_n 0, 1) := by decide +kernel
theorem dX1_call_6 : decode cX1_call 6 = .ok (.aload_n 0, 1) := by decide +kernel
theorem dX1_call_7 : decode cX1_call 7 = .ok (.getfield 30, 3) := by decide +kernel
theorem dX1_call_10 : decode cX1_call 10 = .ok (.iconst 1, 1) := by decide +kernel
theorem dX1_call_11 : decode cX1_call 11 = .ok (.iadd, 1) := by decide +kernel
theorem dX1_call_12 : decode cX1_call 12 = .ok (.invokevirtual 78, 3) := by decide +kernel
theorem dX1_call_15 : decode cX1_call 15 = .ok (.iadd, 1) := by decide +kernel
theorem dX1_call_16 : decode cX1_call 16 = .ok (.invokevirtual 65, 3) := by decide +kernel
theorem dX1_call_19 : decode cX1_call 19 = .ok (.istore_n 1, 1) := by decide +kernel
theorem dX1_call_20 : decode cX1_call 20 = .ok (.aload_n 0, 1) := by decide +kernel
theorem dX1_call_21 : decode cX1_call 21 = .ok (.iload_n 1, 1) := by decide +kernel
theorem dX1_call_22 : decode cX1_call 22 = .ok (.invokevirtual 78, 3) := by decide +kernel
theorem dX1_call_25 : decode cX1_call 25 = .ok (.istore_n 2, 1) := by decide +kernel
theorem dX1_call_26 : decode cX1_call 26 = .ok (.aload_n 0, 1) := by decide +kernel
theorem dX1_call_27 : decode cX1_call 27 = .ok (.iload_n 1, 1) := by decide +kernel
theorem dX1_call_28 : decode cX1_call 28 = .ok (.iconst 2, 1) := by decide +kernel
theorem dX1_call_29 : decode cX1_call 29 = .ok (.iadd, 1) := by decide +kernel
theorem dX1_call_30 : decode cX1_call 30 = .ok (.invokevirtual 78, 3) := by decide +kernel
theorem dX1_call_33 : decode cX1_call 33 = .ok (.istore_n 3, 1) := by decide +kernel
theorem dX1_call_34 : decode cX1_call 34 = .ok (.aload_n 0, 1) := by decide +kernel
theorem dX1_call_35 : decode cX1_call 35 = .ok (.getfield 33, 3) := by decide +kernel
theorem dX1_call_38 : decode cX1_call 38 = .ok (.iload_n 2, 1) := by decide +kernel
theorem dX1_call_39 : decode cX1_call 39 = .ok (.isub, 1) := by decide +kernel
theorem dX1_call_40 : decode cX1_call 40 = .ok (.iconst 1, 1) := by decide +kernel
theorem dX1_call_41 : decode cX1_call 41 = .ok (.iadd, 1) := by decide +kernel
theorem dX1_call_42 : decode cX1_call 42 = .ok (.istore 4, 2) := by decide +kernel
theorem dX1_call_44 : decode cX1_call 44 = .ok (.aload_n 0, 1) := by decide +kernel
theorem dX1_call_45 : decode cX1_call 45 = .ok (.getfield 33, 3) := by decide +kernel
theorem dX1_call_48 : decode cX1_call 48 = .ok (.iload_n 3, 1) := by decide +kernel
theorem dX1_call_49 : decode cX1_call 49 = .ok (.iadd, 1) := by decide +kernel
theorem dX1_call_50 : decode cX1_call 50 = .ok (.iconst 1, 1) := by decide +kernel
theorem dX1_call_51 : decode cX1_call 51 = .ok (.iadd, 1) := by decide +kernel
theorem dX1_call_52 : decode cX1_call 52 = .ok (.istore 5, 2) := by decide +kernel
theorem dX1_call_54 : decode cX1_call 54 = .ok (.aload_n 0, 1) := by decide +kernel
theorem dX1_call_55 : decode cX1_call 55 = .ok (.iload 4, 2) := by decide +kernel
theorem dX1_call_57 : decode cX1_call 57 = .ok (.iload 5, 2) := by decide +kernel
theorem dX1_call_59 : decode cX1_call 59 = .ok (.invokevirtual 68, 3) := by decide +kernel
theorem dX1_call_62 : decode cX1_call 62 = .ok (.aload_n 0, 1) := by decide +kernel
theorem dX1_call_63 : decode cX1_call 63 = .ok (.iload 5, 2) := by decide +kernel
theorem dX1_call_65 : decode cX1_call 65 = .ok (.aload_n 0, 1) := by decide +kernel
theorem dX1_call_66 : decode cX1_call 66 = .ok (.getfield 30, 3) := by decide +kernel
theorem dX1_call_69 : decode cX1_call 69 = .ok (.iconst 3, 1) := by decide +kernel
theorem dX1_call_70 : decode cX1_call 70 = .ok (.iadd, 1) := by decide +kernel
theorem dX1_call_71 : decode cX1_call 71 = .ok (.invokevirtual 68, 3) := by decide +kernel
theorem dX1_call_74 : decode cX1_call 74 = .ok (.aload_n 0, 1) := by decide +kernel
theorem dX1_call_75 : decode cX1_call 75 = .ok (.iload 5, 2) := by decide +kernel
theorem dX1_call_77 : decode cX1_call 77 = .ok (.iconst 1, 1) := by decide +kernel
theorem dX1_call_78 : decode cX1_call 78 = .ok (.iadd, 1) := by decide +kernel
theorem dX1_call_79 : decode cX1_call 79 = .ok (.putfield 33, 3) := by decide +kernel
theorem dX1_call_82 : decode cX1_call 82 = .ok (.aload_n 0, 1) := by decide +kernel
theorem dX1_call_83 : decode cX1_call 83 = .ok (.aload_n 0, 1) := by decide +kernel
theorem dX1_call_84 : decode cX1_call 84 = .ok (.getfield 33, 3) := by decide +kernel
theorem dX1_call_87 : decode cX1_call 87 = .ok (.aload_n 0, 1) := by decide +kernel
theorem dX1_call_88 : decode cX1_call 88 = .ok (.getfield 36, 3) := by decide +kernel
theorem dX1_call_91 : decode cX1_call 91 = .ok (.invokevirtual 68, 3) := by decide +kernel
theorem dX1_call_94 : decode cX1_call 94 = .ok (.aload_n 0, 1) := by decide +kernel
theorem dX1_call_95 : decode cX1_call 95 = .ok (.iload 4, 2) := by decide +kernel
theorem dX1_call_97 : decode cX1_call 97 = .ok (.putfield 36, 3) := by decide +kernel
theorem dX1_call_100 : decode cX1_call 100 = .ok (.aload_n 0, 1) := by decide +kernel
theorem dX1_call_101 : decode cX1_call 101 = .ok (.iload 4, 2) := by decide +kernel
theorem dX1_call_103 : decode cX1_call 103 = .ok (.putfield 42, 3) := by decide +kernel
theorem dX1_call_106 : decode cX1_call 106 = .ok (.aload_n 0, 1) := by decide +kernel
theorem dX1_call_107 : decode cX1_call 107 = .ok (.iload_n 1, 1) := by decide +kernel
theorem dX1_call_108 : decode cX1_call 108 = .ok (.iconst 4, 1) := by decide +kernel
theorem dX1_call_109 : decode cX1_call 109 = .ok (.iadd, 1) := by decide +kernel
theorem dX1_call_110 : decode cX1_call 110 = .ok (.putfield 72, 3) := by decide +kernel
theorem dX1_call_113 : decode cX1_call 113 = .ok (.bipush 23, 2) := by decide +kernel
theorem dX1_call_115 : decode cX1_call 115 = .ok (.ireturn, 1) := by decide +kernel
theorem dX1_giveBack_0 : decode cX1_giveBack 0 = .ok (.aload_n 0, 1) := by decide +kernel
theorem dX1_giveBack_1 : decode cX1_giveBack 1 = .ok (.aload_n 0, 1) := by decide +kernel
theorem dX1_giveBack_2 : decode cX1_giveBack 2 = .ok (.getfield 36, 3) := by decide +kernel
theorem dX1_giveBack_5 : decode cX1_giveBack 5 = .ok (.invokevirtual 65, 3) := by decide +kernel
theorem dX1_giveBack_8 : decode cX1_giveBack 8 = .ok (.istore_n 1, 1) := by decide +kernel
theorem dX1_giveBack_9 : decode cX1_giveBack 9 = .ok (.aload_n 0, 1) := by decide +kernel
theorem dX1_giveBack_10 : decode cX1_giveBack 10 = .ok (.aload_n 0, 1) := by decide +kernel
theorem dX1_giveBack_11 : decode cX1_giveBack 11 = .ok (.getfield 36, 3) := by decide +kernel
theorem dX1_giveBack_14 : decode cX1_giveBack 14 = .ok (.putfield 33, 3) := by decide +kernel
theorem dX1_giveBack_17 : decode cX1_giveBack 17 = .ok (.aload_n 0, 1) := by decide +kernel
theorem dX1_giveBack_18 : decode cX1_giveBack 18 = .ok (.aload_n 0, 1) := by decide +kernel
theorem dX1_giveBack_19 : decode cX1_giveBack 19 = .ok (.iload_n 1, 1) := by decide +kernel
theorem dX1_giveBack_20 : decode cX1_giveBack 20 = .ok (.invokevirtual 65, 3) := by decide +kernel
theorem dX1_giveBack_23 : decode cX1_giveBack 23 = .ok (.putfield 72, 3) := by decide +kernel
theorem dX1_giveBack_26 : decode cX1_giveBack 26 = .ok (.aload_n 0, 1) := by decide +kernel
theorem dX1_giveBack_27 : decode cX1_giveBack 27 = .ok (.aload_n 0, 1) := by decide +kernel
theorem dX1_giveBack_28 : decode cX1_giveBack 28 = .ok (.iload_n 1, 1) := by decide +kernel
theorem dX1_giveBack_29 : decode cX1_giveBack 29 = .ok (.iconst 1, 1) := by decide +kernel
theorem dX1_giveBack_30 : decode cX1_giveBack 30 = .ok (.iadd, 1) := by decide +kernel
theorem dX1_giveBack_31 : decode cX1_giveBack 31 = .ok (.invokevirtual 65, 3) := by decide +kernel
theorem dX1_giveBack_34 : decode cX1_giveBack 34 = .ok (.putfield 36, 3) := by decide +kernel
theorem dX1_giveBack_37 : decode cX1_giveBack 37 = .ok (.aload_n 0, 1) := by decide +kernel
theorem dX1_giveBack_38 : decode cX1_giveBack 38 = .ok (.aload_n 0, 1) := by decide +kernel
theorem dX1_giveBack_39 : decode cX1_giveBack 39 = .ok (.getfield 33, 3) := by decide +kernel
theorem dX1_giveBack_42 : decode cX1_giveBack 42 = .ok (.aload_n 0, 1) := by decide +kernel
theorem dX1_giveBack_43 : decode cX1_giveBack 43 = .ok (.getfield 42, 3) := by decide +kernel
theorem dX1_giveBack_46 : decode cX1_giveBack 46 = .ok (.invokevirtual 68, 3) := by decide +kernel
theorem dX1_giveBack_49 : decode cX1_giveBack 49 = .ok (.bipush 9, 2) := by decide +kernel
theorem dX1_giveBack_51 : decode cX1_giveBack 51 = .ok (.ireturn, 1) := by decide +kernel
theorem dX1_perform_0 : decode cX1_perform 0 = .ok (.aload_n 0, 1) := by decide +kernel
theorem dX1_perform_1 : decode cX1_perform 1 = .ok (.aload_n 0, 1) := by decide +kernel
theorem dX1_perform_2 : decode cX1_perform 2 = .ok (.getfield 30, 3) := by decide +kernel
theorem dX1_perform_5 : decode cX1_perform 5 = .ok (.iconst 1, 1) := by decide +kernel
theorem dX1_perform_6 : decode cX1_perform 6 = .ok (.iadd, 1) := by decide +kernel
theorem dX1_perform_7 : decode cX1_perform 7 = .ok (.putfield 72, 3) := by decide +kernel
theorem dX1_perform_10 : decode cX1_perform 10 = .ok (.iload_n 1, 1) := by decide +kernel
theorem dX1_perform_11 : decode cX1_perform 11 = .ok (.lookupswitch 370 #[(0, 177), (16, 225), (19, 302), (21, 247), (54, 274), (87, 196), (89, 185), (95, 220), (96, 179), (100, 179), (126, 179), (128, 179), (132, 329), (153, 344), (155, 344), (159, 344), (167, 334), (172, 355), (182, 350), (196, 297), (255, 360)], 177) := by decide +kernel
theorem dX1_perform_188 : decode cX1_perform 188 = .ok (.iconst 2, 1) := by decide +kernel
theorem dX1_perform_189 : decode cX1_perform 189 = .ok (.ireturn, 1) := by decide +kernel
theorem dX1_perform_190 : decode cX1_perform 190 = .ok (.aload_n 0, 1) := by decide +kernel
theorem dX1_perform_191 : decode cX1_perform 191 = .ok (.iload_n 1, 1) := by decide +kernel
theorem dX1_perform_192 : decode cX1_perform 192 = .ok (.invokevirtual 96, 3) := by decide +kernel
theorem dX1_perform_195 : decode cX1_perform 195 = .ok (.ireturn, 1) := by decide +kernel
theorem dX1_perform_196 : decode cX1_perform 196 = .ok (.aload_n 0, 1) := by decide +kernel
theorem dX1_perform_197 : decode cX1_perform 197 = .ok (.aload_n 0, 1) := by decide +kernel
theorem dX1_perform_198 : decode cX1_perform 198 = .ok (.getfield 42, 3) := by decide +kernel
theorem dX1_perform_201 : decode cX1_perform 201 = .ok (.iconst 1, 1) := by decide +kernel
theorem dX1_perform_202 : decode cX1_perform 202 = .ok (.iconst 3, 1) := by decide +kernel
theorem dX1_perform_203 : decode cX1_perform 203 = .ok (.invokevirtual 81, 3) := by decide +kernel
theorem dX1_perform_206 : decode cX1_perform 206 = .ok (.ireturn, 1) := by decide +kernel
theorem dX1_perform_207 : decode cX1_perform 207 = .ok (.aload_n 0, 1) := by decide +kernel
theorem dX1_perform_208 : decode cX1_perform 208 = .ok (.dup, 1) := by decide +kernel
theorem dX1_perform_209 : decode cX1_perform 209 = .ok (.getfield 33, 3) := by decide +kernel
theorem dX1_perform_212 : decode cX1_perform 212 = .ok (.iconst 1, 1) := by decide +kernel
theorem dX1_perform_213 : decode cX1_perform 213 = .ok (.isub, 1) := by decide +kernel
theorem dX1_perform_214 : decode cX1_perform 214 = .ok (.putfield 33, 3) := by decide +kernel
theorem dX1_perform_217 : decode cX1_perform 217 = .ok (.aload_n 0, 1) := by decide +kernel
theorem dX1_perform_218 : decode cX1_perform 218 = .ok (.aload_n 0, 1) := by decide +kernel
theorem dX1_perform_219 : decode cX1_perform 219 = .ok (.aload_n 0, 1) := by decide +kernel
theorem dX1_perform_220 : decode cX1_perform 220 = .ok (.getfield 33, 3) := by decide +kernel
theorem dX1_perform_223 : decode cX1_perform 223 = .ok (.invokevirtual 65, 3) := by decide +kernel
theorem dX1_perform_226 : decode cX1_perform 226 = .ok (.putfield 42, 3) := by decide +kernel
theorem dX1_perform_229 : decode cX1_perform 229 = .ok (.iconst 4, 1) := by decide +kernel
theorem dX1_perform_230 : decode cX1_perform 230 = .ok (.ireturn, 1) := by decide +kernel
theorem dX1_perform_231 : decode cX1_perform 231 = .ok (.aload_n 0, 1) := by decide +kernel
theorem dX1_perform_232 : decode cX1_perform 232 = .ok (.invokevirtual 99, 3) := by decide +kernel
theorem dX1_perform_235 : decode cX1_perform 235 = .ok (.ireturn, 1) := by decide +kernel
theorem dX1_perform_236 : decode cX1_perform 236 = .ok (.aload_n 0, 1) := by decide +kernel
theorem dX1_perform_237 : decode cX1_perform 237 = .ok (.aload_n 0, 1) := by decide +kernel
theorem dX1_perform_238 : decode cX1_perform 238 = .ok (.aload_n 0, 1) := by decide +kernel
theorem dX1_perform_239 : decode cX1_perform 239 = .ok (.getfield 30, 3) := by decide +kernel
theorem dX1_perform_242 : decode cX1_perform 242 = .ok (.iconst 1, 1) := by decide +kernel
theorem dX1_perform_243 : decode cX1_perform 243 = .ok (.iadd, 1) := by decide +kernel
theorem dX1_perform_244 : decode cX1_perform 244 = .ok (.invokevirtual 61, 3) := by decide +kernel
theorem dX1_perform_247 : decode cX1_perform 247 = .ok (.bipush 8, 2) := by decide +kernel
theorem dX1_perform_249 : decode cX1_perform 249 = .ok (.invokestatic 88, 3) := by decide +kernel
theorem dX1_perform_252 : decode cX1_perform 252 = .ok (.iconst 2, 1) := by decide +kernel
theorem dX1_perform_253 : decode cX1_perform 253 = .ok (.iconst 4, 1) := by decide +kernel
theorem dX1_perform_254 : decode cX1_perform 254 = .ok (.invokevirtual 81, 3) := by decide +kernel
theorem dX1_perform_257 : decode cX1_perform 257 = .ok (.ireturn, 1) := by decide +kernel
theorem dX1_perform_258 : decode cX1_perform 258 = .ok (.aload_n 0, 1) := by decide +kernel
theorem dX1_perform_259 : decode cX1_perform 259 = .ok (.aload_n 0, 1) := by decide +kernel
theorem dX1_perform_260 : decode cX1_perform 260 = .ok (.aload_n 0, 1) := by decide +kernel
theorem dX1_perform_261 : decode cX1_perform 261 = .ok (.getfield 36, 3) := by decide +kernel
theorem dX1_perform_264 : decode cX1_perform 264 = .ok (.aload_n 0, 1) := by decide +kernel
theorem dX1_perform_265 : decode cX1_perform 265 = .ok (.aload_n 0, 1) := by decide +kernel
theorem dX1_perform_266 : decode cX1_perform 266 = .ok (.getfield 30, 3) := by decide +kernel
theorem dX1_perform_269 : decode cX1_perform 269 = .ok (.iconst 1, 1) := by decide +kernel
theorem dX1_perform_270 : decode cX1_perform 270 = .ok (.iadd, 1) := by decide +kernel
theorem dX1_perform_271 : decode cX1_perform 271 = .ok (.invokevirtual 61, 3) := by decide +kernel
theorem dX1_perform_274 : decode cX1_perform 274 = .ok (.iadd, 1) := by decide +kernel
theorem dX1_perform_275 : decode cX1_perform 275 = .ok (.invokevirtual 65, 3) := by decide +kernel
theorem dX1_perform_278 : decode cX1_perform 278 = .ok (.iconst 2, 1) := by decide +kernel
theorem dX1_perform_279 : decode cX1_perform 279 = .ok (.bipush 6, 2) := by decide +kernel
theorem dX1_perform_281 : decode cX1_perform 281 = .ok (.invokevirtual 81, 3) := by decide +kernel
theorem dX1_perform_284 : decode cX1_perform 284 = .ok (.ireturn, 1) := by decide +kernel
theorem dX1_perform_285 : decode cX1_perform 285 = .ok (.aload_n 0, 1) := by decide +kernel
theorem dX1_perform_286 : decode cX1_perform 286 = .ok (.aload_n 0, 1) := by decide +kernel
theorem dX1_perform_287 : decode cX1_perform 287 = .ok (.getfield 36, 3) := by decide +kernel
theorem dX1_perform_290 : decode cX1_perform 290 = .ok (.aload_n 0, 1) := by decide +kernel
theorem dX1_perform_291 : decode cX1_perform 291 = .ok (.aload_n 0, 1) := by decide +kernel
theorem dX1_perform_292 : decode cX1_perform 292 = .ok (.getfield 30, 3) := by decide +kernel
theorem dX1_perform_295 : decode cX1_perform 295 = .ok (.iconst 1, 1) := by decide +kernel
theorem dX1_perform_296 : decode cX1_perform 296 = .ok (.iadd, 1) := by decide +kernel
theorem dX1_perform_297 : decode cX1_perform 297 = .ok (.invokevirtual 61, 3) := by decide +kernel
theorem dX1_perform_300 : decode cX1_perform 300 = .ok (.iadd, 1) := by decide +kernel
theorem dX1_perform_301 : decode cX1_perform 301 = .ok (.iconst 2, 1) := by decide +kernel
theorem dX1_perform_302 : decode cX1_perform 302 = .ok (.bipush 7, 2) := by decide +kernel
theorem dX1_perform_304 : decode cX1_perform 304 = .ok (.invokevirtual 85, 3) := by decide +kernel
theorem dX1_perform_307 : decode cX1_perform 307 = .ok (.ireturn, 1) := by decide +kernel
theorem dX1_perform_308 : decode cX1_perform 308 = .ok (.aload_n 0, 1) := by decide +kernel
theorem dX1_perform_309 : decode cX1_perform 309 = .ok (.invokevirtual 103, 3) := by decide +kernel
theorem dX1_perform_312 : decode cX1_perform 312 = .ok (.ireturn, 1) := by decide +kernel
theorem dX1_perform_313 : decode cX1_perform 313 = .ok (.aload_n 0, 1) := by decide +kernel
theorem dX1_perform_314 : decode cX1_perform 314 = .ok (.aload_n 0, 1) := by decide +kernel
theorem dX1_perform_315 : decode cX1_perform 315 = .ok (.aload_n 0, 1) := by decide +kernel
theorem dX1_perform_316 : decode cX1_perform 316 = .ok (.getfield 39, 3) := by decide +kernel
theorem dX1_perform_319 : decode cX1_perform 319 = .ok (.aload_n 0, 1) := by decide +kernel
theorem dX1_perform_320 : decode cX1_perform 320 = .ok (.aload_n 0, 1) := by decide +kernel
theorem dX1_perform_321 : decode cX1_perform 321 = .ok (.getfield 30, 3) := by decide +kernel
theorem dX1_perform_324 : decode cX1_perform 324 = .ok (.iconst 1, 1) := by decide +kernel
theorem dX1_perform_325 : decode cX1_perform 325 = .ok (.iadd, 1) := by decide +kernel
theorem dX1_perform_326 : decode cX1_perform 326 = .ok (.invokevirtual 78, 3) := by decide +kernel
theorem dX1_perform_329 : decode cX1_perform 329 = .ok (.iadd, 1) := by decide +kernel
theorem dX1_perform_330 : decode cX1_perform 330 = .ok (.invokevirtual 65, 3) := by decide +kernel
theorem dX1_perform_333 : decode cX1_perform 333 = .ok (.iconst 3, 1) := by decide +kernel
theorem dX1_perform_334 : decode cX1_perform 334 = .ok (.bipush 8, 2) := by decide +kernel
theorem dX1_perform_336 : decode cX1_perform 336 = .ok (.invokevirtual 81, 3) := by decide +kernel
theorem dX1_perform_339 : decode cX1_perform 339 = .ok (.ireturn, 1) := by decide +kernel
theorem dX1_perform_340 : decode cX1_perform 340 = .ok (.aload_n 0, 1) := by decide +kernel
theorem dX1_perform_341 : decode cX1_perform 341 = .ok (.invokevirtual 106, 3) := by decide +kernel
theorem dX1_perform_344 : decode cX1_perform 344 = .ok (.ireturn, 1) := by decide +kernel
theorem dX1_perform_345 : decode cX1_perform 345 = .ok (.aload_n 0, 1) := by decide +kernel
theorem dX1_perform_346 : decode cX1_perform 346 = .ok (.iconst 1, 1) := by decide +kernel
theorem dX1_perform_347 : decode cX1_perform 347 = .ok (.bipush 7, 2) := by decide +kernel
theorem dX1_perform_349 : decode cX1_perform 349 = .ok (.bipush 7, 2) := by decide +kernel
theorem dX1_perform_351 : decode cX1_perform 351 = .ok (.invokevirtual 92, 3) := by decide +kernel
theorem dX1_perform_354 : decode cX1_perform 354 = .ok (.ireturn, 1) := by decide +kernel
theorem dX1_perform_355 : decode cX1_perform 355 = .ok (.aload_n 0, 1) := by decide +kernel
theorem dX1_perform_356 : decode cX1_perform 356 = .ok (.iload_n 1, 1) := by decide +kernel
theorem dX1_perform_357 : decode cX1_perform 357 = .ok (.invokevirtual 109, 3) := by decide +kernel
theorem dX1_perform_360 : decode cX1_perform 360 = .ok (.ireturn, 1) := by decide +kernel
theorem dX1_perform_361 : decode cX1_perform 361 = .ok (.aload_n 0, 1) := by decide +kernel
theorem dX1_perform_362 : decode cX1_perform 362 = .ok (.invokevirtual 112, 3) := by decide +kernel
theorem dX1_perform_365 : decode cX1_perform 365 = .ok (.ireturn, 1) := by decide +kernel
theorem dX1_perform_366 : decode cX1_perform 366 = .ok (.aload_n 0, 1) := by decide +kernel
theorem dX1_perform_367 : decode cX1_perform 367 = .ok (.invokevirtual 115, 3) := by decide +kernel
theorem dX1_perform_370 : decode cX1_perform 370 = .ok (.ireturn, 1) := by decide +kernel
theorem dX1_perform_371 : decode cX1_perform 371 = .ok (.aload_n 0, 1) := by decide +kernel
theorem dX1_perform_372 : decode cX1_perform 372 = .ok (.aload_n 0, 1) := by decide +kernel
theorem dX1_perform_373 : decode cX1_perform 373 = .ok (.getfield 30, 3) := by decide +kernel
theorem dX1_perform_376 : decode cX1_perform 376 = .ok (.putfield 72, 3) := by decide +kernel
theorem dX1_perform_379 : decode cX1_perform 379 = .ok (.iconst 2, 1) := by decide +kernel
theorem dX1_perform_380 : decode cX1_perform 380 = .ok (.ireturn, 1) := by decide +kernel
theorem dX1_perform_381 : decode cX1_perform 381 = .ok (.aload_n 0, 1) := by decide +kernel
theorem dX1_perform_382 : decode cX1_perform 382 = .ok (.iconst 1, 1) := by decide +kernel
theorem dX1_perform_383 : decode cX1_perform 383 = .ok (.putfield 75, 3) := by decide +kernel
theorem dX1_perform_386 : decode cX1_perform 386 = .ok (.iconst 0, 1) := by decide +kernel
theorem dX1_perform_387 : decode cX1_perform 387 = .ok (.ireturn, 1) := by decide +kernel
theorem dX1_step_0 : decode cX1_step 0 = .ok (.aload_n 0, 1) := by decide +kernel
theorem dX1_step_1 : decode cX1_step 1 = .ok (.getfield 33, 3) := by decide +kernel
theorem dX1_step_4 : decode cX1_step 4 = .ok (.istore_n 1, 1) := by decide +kernel
theorem dX1_step_5 : decode cX1_step 5 = .ok (.aload_n 0, 1) := by decide +kernel
theorem dX1_step_6 : decode cX1_step 6 = .ok (.getfield 36, 3) := by decide +kernel
theorem dX1_step_9 : decode cX1_step 9 = .ok (.istore_n 2, 1) := by decide +kernel
theorem dX1_step_10 : decode cX1_step 10 = .ok (.aload_n 0, 1) := by decide +kernel
theorem dX1_step_11 : decode cX1_step 11 = .ok (.getfield 42, 3) := by decide +kernel
theorem dX1_step_14 : decode cX1_step 14 = .ok (.istore_n 3, 1) := by decide +kernel
theorem dX1_step_15 : decode cX1_step 15 = .ok (.aload_n 0, 1) := by decide +kernel
theorem dX1_step_16 : decode cX1_step 16 = .ok (.iconst 0, 1) := by decide +kernel
theorem dX1_step_17 : decode cX1_step 17 = .ok (.putfield 54, 3) := by decide +kernel
theorem dX1_step_20 : decode cX1_step 20 = .ok (.aload_n 0, 1) := by decide +kernel
theorem dX1_step_21 : decode cX1_step 21 = .ok (.iconst 0, 1) := by decide +kernel
theorem dX1_step_22 : decode cX1_step 22 = .ok (.putfield 75, 3) := by decide +kernel
theorem dX1_step_25 : decode cX1_step 25 = .ok (.aload_n 0, 1) := by decide +kernel
theorem dX1_step_26 : decode cX1_step 26 = .ok (.iconst 0, 1) := by decide +kernel
theorem dX1_step_27 : decode cX1_step 27 = .ok (.putfield 58, 3) := by decide +kernel
theorem dX1_step_30 : decode cX1_step 30 = .ok (.aload_n 0, 1) := by decide +kernel
theorem dX1_step_31 : decode cX1_step 31 = .ok (.aload_n 0, 1) := by decide +kernel
theorem dX1_step_32 : decode cX1_step 32 = .ok (.getfield 30, 3) := by decide +kernel
theorem dX1_step_35 : decode cX1_step 35 = .ok (.invokevirtual 61, 3) := by decide +kernel
theorem dX1_step_38 : decode cX1_step 38 = .ok (.istore 4, 2) := by decide +kernel
theorem dX1_step_40 : decode cX1_step 40 = .ok (.aload_n 0, 1) := by decide +kernel
theorem dX1_step_41 : decode cX1_step 41 = .ok (.getfield 54, 3) := by decide +kernel
theorem dX1_step_44 : decode cX1_step 44 = .ok (.ifCond .eq 7, 3) := by decide +kernel
theorem dX1_step_47 : decode cX1_step 47 = .ok (.iconst 0, 1) := by decide +kernel
theorem dX1_step_48 : decode cX1_step 48 = .ok (.goto 9, 3) := by decide +kernel
theorem dX1_step_51 : decode cX1_step 51 = .ok (.aload_n 0, 1) := by decide +kernel
theorem dX1_step_52 : decode cX1_step 52 = .ok (.iload 4, 2) := by decide +kernel
theorem dX1_step_54 : decode cX1_step 54 = .ok (.invokevirtual 118, 3) := by decide +kernel
theorem dX1_step_57 : decode cX1_step 57 = .ok (.istore 5, 2) := by decide +kernel
theorem dX1_step_59 : decode cX1_step 59 = .ok (.aload_n 0, 1) := by decide +kernel
theorem dX1_step_60 : decode cX1_step 60 = .ok (.getfield 54, 3) := by decide +kernel
theorem dX1_step_63 : decode cX1_step 63 = .ok (.ifCond .ne 57, 3) := by decide +kernel
theorem dX1_step_66 : decode cX1_step 66 = .ok (.aload_n 0, 1) := by decide +kernel
theorem dX1_step_67 : decode cX1_step 67 = .ok (.getfield 75, 3) := by decide +kernel
theorem dX1_step_70 : decode cX1_step 70 = .ok (.ifCond .ne 50, 3) := by decide +kernel
theorem dX1_step_73 : decode cX1_step 73 = .ok (.aload_n 0, 1) := by decide +kernel
theorem dX1_step_74 : decode cX1_step 74 = .ok (.aload_n 0, 1) := by decide +kernel
theorem dX1_step_75 : decode cX1_step 75 = .ok (.getfield 72, 3) := by decide +kernel
theorem dX1_step_78 : decode cX1_step 78 = .ok (.putfield 30, 3) := by decide +kernel
theorem dX1_step_81 : decode cX1_step 81 = .ok (.aload_n 0, 1) := by decide +kernel
theorem dX1_step_82 : decode cX1_step 82 = .ok (.dup, 1) := by decide +kernel
theorem dX1_step_83 : decode cX1_step 83 = .ok (.getfield 48, 3) := by decide +kernel
theorem dX1_step_86 : decode cX1_step 86 = .ok (.iload 5, 2) := by decide +kernel
theorem dX1_step_88 : decode cX1_step 88 = .ok (.iadd, 1) := by decide +kernel
theorem dX1_step_89 : decode cX1_step 89 = .ok (.putfield 48, 3) := by decide +kernel
theorem dX1_step_92 : decode cX1_step 92 = .ok (.aload_n 0, 1) := by decide +kernel
theorem dX1_step_93 : decode cX1_step 93 = .ok (.dup, 1) := by decide +kernel
theorem dX1_step_94 : decode cX1_step 94 = .ok (.getfield 51, 3) := by decide +kernel
theorem dX1_step_97 : decode cX1_step 97 = .ok (.iconst 1, 1) := by decide +kernel
theorem dX1_step_98 : decode cX1_step 98 = .ok (.iadd, 1) := by decide +kernel
theorem dX1_step_99 : decode cX1_step 99 = .ok (.putfield 51, 3) := by decide +kernel
theorem dX1_step_102 : decode cX1_step 102 = .ok (.aload_n 0, 1) := by decide +kernel
theorem dX1_step_103 : decode cX1_step 103 = .ok (.iload 4, 2) := by decide +kernel
theorem dX1_step_105 : decode cX1_step 105 = .ok (.sipush 255, 3) := by decide +kernel
theorem dX1_step_108 : decode cX1_step 108 = .ok (.if_icmp .ne 7, 3) := by decide +kernel
theorem dX1_step_111 : decode cX1_step 111 = .ok (.iconst 1, 1) := by decide +kernel
theorem dX1_step_112 : decode cX1_step 112 = .ok (.goto 4, 3) := by decide +kernel
theorem dX1_step_115 : decode cX1_step 115 = .ok (.iconst 0, 1) := by decide +kernel
theorem dX1_step_116 : decode cX1_step 116 = .ok (.putfield 45, 3) := by decide +kernel
theorem dX1_step_119 : decode cX1_step 119 = .ok (.return_, 1) := by decide +kernel
theorem dX1_step_120 : decode cX1_step 120 = .ok (.aload_n 0, 1) := by decide +kernel
theorem dX1_step_121 : decode cX1_step 121 = .ok (.getfield 58, 3) := by decide +kernel
theorem dX1_step_124 : decode cX1_step 124 = .ok (.ifCond .le 39, 3) := by decide +kernel
theorem dX1_step_127 : decode cX1_step 127 = .ok (.aload_n 0, 1) := by decide +kernel
theorem dX1_step_128 : decode cX1_step 128 = .ok (.dup, 1) := by decide +kernel
theorem dX1_step_129 : decode cX1_step 129 = .ok (.getfield 58, 3) := by decide +kernel
theorem dX1_step_132 : decode cX1_step 132 = .ok (.iconst 1, 1) := by decide +kernel
theorem dX1_step_133 : decode cX1_step 133 = .ok (.isub, 1) := by decide +kernel
theorem dX1_step_134 : decode cX1_step 134 = .ok (.putfield 58, 3) := by decide +kernel
theorem dX1_step_137 : decode cX1_step 137 = .ok (.aload_n 0, 1) := by decide +kernel
theorem dX1_step_138 : decode cX1_step 138 = .ok (.getfield 7, 3) := by decide +kernel
theorem dX1_step_141 : decode cX1_step 141 = .ok (.aload_n 0, 1) := by decide +kernel
theorem dX1_step_142 : decode cX1_step 142 = .ok (.getfield 16, 3) := by decide +kernel
theorem dX1_step_145 : decode cX1_step 145 = .ok (.aload_n 0, 1) := by decide +kernel
theorem dX1_step_146 : decode cX1_step 146 = .ok (.getfield 58, 3) := by decide +kernel
theorem dX1_step_149 : decode cX1_step 149 = .ok (.iaload, 1) := by decide +kernel
theorem dX1_step_150 : decode cX1_step 150 = .ok (.aload_n 0, 1) := by decide +kernel
theorem dX1_step_151 : decode cX1_step 151 = .ok (.getfield 19, 3) := by decide +kernel
theorem dX1_step_154 : decode cX1_step 154 = .ok (.aload_n 0, 1) := by decide +kernel
theorem dX1_step_155 : decode cX1_step 155 = .ok (.getfield 58, 3) := by decide +kernel
theorem dX1_step_158 : decode cX1_step 158 = .ok (.iaload, 1) := by decide +kernel
theorem dX1_step_159 : decode cX1_step 159 = .ok (.iastore, 1) := by decide +kernel
theorem dX1_step_160 : decode cX1_step 160 = .ok (.goto (-40), 3) := by decide +kernel
theorem dX1_step_163 : decode cX1_step 163 = .ok (.aload_n 0, 1) := by decide +kernel
theorem dX1_step_164 : decode cX1_step 164 = .ok (.iload_n 1, 1) := by decide +kernel
theorem dX1_step_165 : decode cX1_step 165 = .ok (.putfield 33, 3) := by decide +kernel
theorem dX1_step_168 : decode cX1_step 168 = .ok (.aload_n 0, 1) := by decide +kernel
theorem dX1_step_169 : decode cX1_step 169 = .ok (.iload_n 2, 1) := by decide +kernel
theorem dX1_step_170 : decode cX1_step 170 = .ok (.putfield 36, 3) := by decide +kernel
theorem dX1_step_173 : decode cX1_step 173 = .ok (.aload_n 0, 1) := by decide +kernel
theorem dX1_step_174 : decode cX1_step 174 = .ok (.iload_n 3, 1) := by decide +kernel
theorem dX1_step_175 : decode cX1_step 175 = .ok (.putfield 42, 3) := by decide +kernel
theorem dX1_step_178 : decode cX1_step 178 = .ok (.aload_n 0, 1) := by decide +kernel
theorem dX1_step_179 : decode cX1_step 179 = .ok (.aload_n 0, 1) := by decide +kernel
theorem dX1_step_180 : decode cX1_step 180 = .ok (.getfield 54, 3) := by decide +kernel
theorem dX1_step_183 : decode cX1_step 183 = .ok (.ifCond .eq 7, 3) := by decide +kernel
theorem dX1_step_186 : decode cX1_step 186 = .ok (.iconst 3, 1) := by decide +kernel
theorem dX1_step_187 : decode cX1_step 187 = .ok (.goto 4, 3) := by decide +kernel
theorem dX1_step_190 : decode cX1_step 190 = .ok (.iconst 2, 1) := by decide +kernel
theorem dX1_step_191 : decode cX1_step 191 = .ok (.putfield 45, 3) := by decide +kernel
theorem dX1_step_194 : decode cX1_step 194 = .ok (.return_, 1) := by decide +kernel
theorem dX1_run_0 : decode cX1_run 0 = .ok (.aload_n 0, 1) := by decide +kernel
theorem dX1_run_1 : decode cX1_run 1 = .ok (.iload_n 1, 1) := by decide +kernel
theorem dX1_run_2 : decode cX1_run 2 = .ok (.ifCond .lt 10, 3) := by decide +kernel
theorem dX1_run_5 : decode cX1_run 5 = .ok (.iload_n 1, 1) := by decide +kernel
theorem dX1_run_6 : decode cX1_run 6 = .ok (.sipush 1000, 3) := by decide +kernel
theorem dX1_run_9 : decode cX1_run 9 = .ok (.if_icmp .le 7, 3) := by decide +kernel
theorem dX1_run_12 : decode cX1_run 12 = .ok (.iconst 1, 1) := by decide +kernel
theorem dX1_run_13 : decode cX1_run 13 = .ok (.goto 15, 3) := by decide +kernel
theorem dX1_run_16 : decode cX1_run 16 = .ok (.aload_n 0, 1) := by decide +kernel
theorem dX1_run_17 : decode cX1_run 17 = .ok (.getfield 45, 3) := by decide +kernel
theorem dX1_run_20 : decode cX1_run 20 = .ok (.ifCond .eq 7, 3) := by decide +kernel
theorem dX1_run_23 : decode cX1_run 23 = .ok (.iconst 2, 1) := by decide +kernel
theorem dX1_run_24 : decode cX1_run 24 = .ok (.goto 4, 3) := by decide +kernel
theorem dX1_run_27 : decode cX1_run 27 = .ok (.iconst 0, 1) := by decide +kernel
theorem dX1_run_28 : decode cX1_run 28 = .ok (.putfield 22, 3) := by decide +kernel
theorem dX1_run_31 : decode cX1_run 31 = .ok (.aload_n 0, 1) := by decide +kernel
theorem dX1_run_32 : decode cX1_run 32 = .ok (.getfield 22, 3) := by decide +kernel
theorem dX1_run_35 : decode cX1_run 35 = .ok (.ifCond .eq 5, 3) := by decide +kernel
theorem dX1_run_38 : decode cX1_run 38 = .ok (.iconst 0, 1) := by decide +kernel
theorem dX1_run_39 : decode cX1_run 39 = .ok (.ireturn, 1) := by decide +kernel
theorem dX1_run_40 : decode cX1_run 40 = .ok (.aload_n 0, 1) := by decide +kernel
theorem dX1_run_41 : decode cX1_run 41 = .ok (.getfield 51, 3) := by decide +kernel
theorem dX1_run_44 : decode cX1_run 44 = .ok (.istore_n 2, 1) := by decide +kernel
theorem dX1_run_45 : decode cX1_run 45 = .ok (.iconst 0, 1) := by decide +kernel
theorem dX1_run_46 : decode cX1_run 46 = .ok (.istore_n 3, 1) := by decide +kernel
theorem dX1_run_47 : decode cX1_run 47 = .ok (.iload_n 3, 1) := by decide +kernel
theorem dX1_run_48 : decode cX1_run 48 = .ok (.iload_n 1, 1) := by decide +kernel
theorem dX1_run_49 : decode cX1_run 49 = .ok (.if_icmp .ge 20, 3) := by decide +kernel
theorem dX1_run_52 : decode cX1_run 52 = .ok (.aload_n 0, 1) := by decide +kernel
theorem dX1_run_53 : decode cX1_run 53 = .ok (.getfield 45, 3) := by decide +kernel
theorem dX1_run_56 : decode cX1_run 56 = .ok (.ifCond .ne 13, 3) := by decide +kernel
theorem dX1_run_59 : decode cX1_run 59 = .ok (.aload_n 0, 1) := by decide +kernel
theorem dX1_run_60 : decode cX1_run 60 = .ok (.invokevirtual 121, 3) := by decide +kernel
theorem dX1_run_63 : decode cX1_run 63 = .ok (.iinc 3 1, 3) := by decide +kernel
theorem dX1_run_66 : decode cX1_run 66 = .ok (.goto (-19), 3) := by decide +kernel
theorem dX1_run_69 : decode cX1_run 69 = .ok (.aload_n 0, 1) := by decide +kernel
theorem dX1_run_70 : decode cX1_run 70 = .ok (.getfield 51, 3) := by decide +kernel
theorem dX1_run_73 : decode cX1_run 73 = .ok (.iload_n 2, 1) := by decide +kernel
theorem dX1_run_74 : decode cX1_run 74 = .ok (.isub, 1) := by decide +kernel
theorem dX1_run_75 : decode cX1_run 75 = .ok (.ireturn, 1) := by decide +kernel
theorem dX1_register_0 : decode cX1_register 0 = .ok (.aload_n 0, 1) := by decide +kernel
theorem dX1_register_1 : decode cX1_register 1 = .ok (.iload_n 1, 1) := by decide +kernel
theorem dX1_register_2 : decode cX1_register 2 = .ok (.ifCond .lt 9, 3) := by decide +kernel
theorem dX1_register_5 : decode cX1_register 5 = .ok (.iload_n 1, 1) := by decide +kernel
theorem dX1_register_6 : decode cX1_register 6 = .ok (.bipush 7, 2) := by decide +kernel
theorem dX1_register_8 : decode cX1_register 8 = .ok (.if_icmp .le 7, 3) := by decide +kernel
theorem dX1_register_11 : decode cX1_register 11 = .ok (.iconst 1, 1) := by decide +kernel
theorem dX1_register_12 : decode cX1_register 12 = .ok (.goto 4, 3) := by decide +kernel
theorem dX1_register_15 : decode cX1_register 15 = .ok (.iconst 0, 1) := by decide +kernel
theorem dX1_register_16 : decode cX1_register 16 = .ok (.putfield 22, 3) := by decide +kernel
theorem dX1_register_19 : decode cX1_register 19 = .ok (.iload_n 1, 1) := by decide +kernel
theorem dX1_register_20 : decode cX1_register 20 = .ok (.tableswitch 88 0 7 #[48, 53, 58, 63, 68, 73, 78, 83], 48) := by decide +kernel
theorem dX1_register_68 : decode cX1_register 68 = .ok (.aload_n 0, 1) := by decide +kernel
theorem dX1_register_69 : decode cX1_register 69 = .ok (.getfield 30, 3) := by decide +kernel
theorem dX1_register_72 : decode cX1_register 72 = .ok (.ireturn, 1) := by decide +kernel
theorem dX1_register_73 : decode cX1_register 73 = .ok (.aload_n 0, 1) := by decide +kernel
theorem dX1_register_74 : decode cX1_register 74 = .ok (.getfield 33, 3) := by decide +kernel
theorem dX1_register_77 : decode cX1_register 77 = .ok (.ireturn, 1) := by decide +kernel
theorem dX1_register_78 : decode cX1_register 78 = .ok (.aload_n 0, 1) := by decide +kernel
theorem dX1_register_79 : decode cX1_register 79 = .ok (.getfield 36, 3) := by decide +kernel
theorem dX1_register_82 : decode cX1_register 82 = .ok (.ireturn, 1) := by decide +kernel
theorem dX1_register_83 : decode cX1_register 83 = .ok (.aload_n 0, 1) := by decide +kernel
theorem dX1_register_84 : decode cX1_register 84 = .ok (.getfield 39, 3) := by decide +kernel
theorem dX1_register_87 : decode cX1_register 87 = .ok (.ireturn, 1) := by decide +kernel
theorem dX1_register_88 : decode cX1_register 88 = .ok (.aload_n 0, 1) := by decide +kernel
theorem dX1_register_89 : decode cX1_register 89 = .ok (.getfield 42, 3) := by decide +kernel
theorem dX1_register_92 : decode cX1_register 92 = .ok (.ireturn, 1) := by decide +kernel
theorem dX1_register_93 : decode cX1_register 93 = .ok (.aload_n 0, 1) := by decide +kernel
theorem dX1_register_94 : decode cX1_register 94 = .ok (.getfield 45, 3) := by decide +kernel
theorem dX1_register_97 : decode cX1_register 97 = .ok (.ireturn, 1) := by decide +kernel
theorem dX1_register_98 : decode cX1_register 98 = .ok (.aload_n 0, 1) := by decide +kernel
theorem dX1_register_99 : decode cX1_register 99 = .ok (.getfield 48, 3) := by decide +kernel
theorem dX1_register_102 : decode cX1_register 102 = .ok (.ireturn, 1) := by decide +kernel
theorem dX1_register_103 : decode cX1_register 103 = .ok (.aload_n 0, 1) := by decide +kernel
theorem dX1_register_104 : decode cX1_register 104 = .ok (.getfield 51, 3) := by decide +kernel
theorem dX1_register_107 : decode cX1_register 107 = .ok (.ireturn, 1) := by decide +kernel
theorem dX1_register_108 : decode cX1_register 108 = .ok (.iconst 0, 1) := by decide +kernel
theorem dX1_register_109 : decode cX1_register 109 = .ok (.ireturn, 1) := by decide +kernel
theorem dX1_look_0 : decode cX1_look 0 = .ok (.aload_n 0, 1) := by decide +kernel
theorem dX1_look_1 : decode cX1_look 1 = .ok (.iload_n 1, 1) := by decide +kernel
theorem dX1_look_2 : decode cX1_look 2 = .ok (.invokestatic 26, 3) := by decide +kernel
theorem dX1_look_5 : decode cX1_look 5 = .ok (.ifCond .eq 7, 3) := by decide +kernel
theorem dX1_look_8 : decode cX1_look 8 = .ok (.iconst 0, 1) := by decide +kernel
theorem dX1_look_9 : decode cX1_look 9 = .ok (.goto 4, 3) := by decide +kernel
theorem dX1_look_12 : decode cX1_look 12 = .ok (.iconst 1, 1) := by decide +kernel
theorem dX1_look_13 : decode cX1_look 13 = .ok (.putfield 22, 3) := by decide +kernel
theorem dX1_look_16 : decode cX1_look 16 = .ok (.aload_n 0, 1) := by decide +kernel
theorem dX1_look_17 : decode cX1_look 17 = .ok (.getfield 22, 3) := by decide +kernel
theorem dX1_look_20 : decode cX1_look 20 = .ok (.ifCond .ne 12, 3) := by decide +kernel
theorem dX1_look_23 : decode cX1_look 23 = .ok (.aload_n 0, 1) := by decide +kernel
theorem dX1_look_24 : decode cX1_look 24 = .ok (.getfield 7, 3) := by decide +kernel
theorem dX1_look_27 : decode cX1_look 27 = .ok (.iload_n 1, 1) := by decide +kernel
theorem dX1_look_28 : decode cX1_look 28 = .ok (.iaload, 1) := by decide +kernel
theorem dX1_look_29 : decode cX1_look 29 = .ok (.goto 4, 3) := by decide +kernel
theorem dX1_look_32 : decode cX1_look 32 = .ok (.iconst 0, 1) := by decide +kernel
theorem dX1_look_33 : decode cX1_look 33 = .ok (.ireturn, 1) := by decide +kernel
theorem dX1_sum_0 : decode cX1_sum 0 = .ok (.aload_n 0, 1) := by decide +kernel
theorem dX1_sum_1 : decode cX1_sum 1 = .ok (.iconst 0, 1) := by decide +kernel
theorem dX1_sum_2 : decode cX1_sum 2 = .ok (.putfield 22, 3) := by decide +kernel
theorem dX1_sum_5 : decode cX1_sum 5 = .ok (.iconst 0, 1) := by decide +kernel
theorem dX1_sum_6 : decode cX1_sum 6 = .ok (.istore_n 1, 1) := by decide +kernel
theorem dX1_sum_7 : decode cX1_sum 7 = .ok (.iconst 0, 1) := by decide +kernel
theorem dX1_sum_8 : decode cX1_sum 8 = .ok (.istore_n 2, 1) := by decide +kernel
theorem dX1_sum_9 : decode cX1_sum 9 = .ok (.iload_n 2, 1) := by decide +kernel
theorem dX1_sum_10 : decode cX1_sum 10 = .ok (.sipush 256, 3) := by decide +kernel
theorem dX1_sum_13 : decode cX1_sum 13 = .ok (.if_icmp .ge 21, 3) := by decide +kernel
theorem dX1_sum_16 : decode cX1_sum 16 = .ok (.bipush 31, 2) := by decide +kernel
theorem dX1_sum_18 : decode cX1_sum 18 = .ok (.iload_n 1, 1) := by decide +kernel
theorem dX1_sum_19 : decode cX1_sum 19 = .ok (.imul, 1) := by decide +kernel
theorem dX1_sum_20 : decode cX1_sum 20 = .ok (.aload_n 0, 1) := by decide +kernel
theorem dX1_sum_21 : decode cX1_sum 21 = .ok (.getfield 7, 3) := by decide +kernel
theorem dX1_sum_24 : decode cX1_sum 24 = .ok (.iload_n 2, 1) := by decide +kernel
theorem dX1_sum_25 : decode cX1_sum 25 = .ok (.iaload, 1) := by decide +kernel
theorem dX1_sum_26 : decode cX1_sum 26 = .ok (.iadd, 1) := by decide +kernel
theorem dX1_sum_27 : decode cX1_sum 27 = .ok (.istore_n 1, 1) := by decide +kernel
theorem dX1_sum_28 : decode cX1_sum 28 = .ok (.iinc 2 1, 3) := by decide +kernel
theorem dX1_sum_31 : decode cX1_sum 31 = .ok (.goto (-22), 3) := by decide +kernel
theorem dX1_sum_34 : decode cX1_sum 34 = .ok (.iload_n 1, 1) := by decide +kernel
theorem dX1_sum_35 : decode cX1_sum 35 = .ok (.ireturn, 1) := by decide +kernel
