theorem d_SlippedStreamsModel_moveAddress_195 : decode b_SlippedStreamsModel_moveAddress 195 = .ok (.iload_n 1, 1) := by decide +kernel
theorem d_SlippedStreamsModel_moveAddress_196 : decode b_SlippedStreamsModel_moveAddress 196 = .ok (.iaload, 1) := by decide +kernel
theorem d_SlippedStreamsModel_moveAddress_197 : decode b_SlippedStreamsModel_moveAddress 197 = .ok (.iload_n 2, 1) := by decide +kernel
theorem d_SlippedStreamsModel_moveAddress_198 : decode b_SlippedStreamsModel_moveAddress 198 = .ok (.ifCond .ne 12, 3) := by decide +kernel
theorem d_SlippedStreamsModel_moveAddress_201 : decode b_SlippedStreamsModel_moveAddress 201 = .ok (.aload_n 0, 1) := by decide +kernel
theorem d_SlippedStreamsModel_moveAddress_202 : decode b_SlippedStreamsModel_moveAddress 202 = .ok (.getfield 19, 3) := by decide +kernel
theorem d_SlippedStreamsModel_moveAddress_205 : decode b_SlippedStreamsModel_moveAddress 205 = .ok (.iload_n 1, 1) := by decide +kernel
theorem d_SlippedStreamsModel_moveAddress_206 : decode b_SlippedStreamsModel_moveAddress 206 = .ok (.iaload, 1) := by decide +kernel
theorem d_SlippedStreamsModel_moveAddress_207 : decode b_SlippedStreamsModel_moveAddress 207 = .ok (.goto 29, 3) := by decide +kernel
theorem d_SlippedStreamsModel_moveAddress_210 : decode b_SlippedStreamsModel_moveAddress 210 = .ok (.iload_n 2, 1) := by decide +kernel
theorem d_SlippedStreamsModel_moveAddress_211 : decode b_SlippedStreamsModel_moveAddress 211 = .ok (.aload_n 0, 1) := by decide +kernel
theorem d_SlippedStreamsModel_moveAddress_212 : decode b_SlippedStreamsModel_moveAddress 212 = .ok (.getfield 26, 3) := by decide +kernel
theorem d_SlippedStreamsModel_moveAddress_215 : decode b_SlippedStreamsModel_moveAddress 215 = .ok (.aload_n 0, 1) := by decide +kernel
theorem d_SlippedStreamsModel_moveAddress_216 : decode b_SlippedStreamsModel_moveAddress 216 = .ok (.getfield 16, 3) := by decide +kernel
theorem d_SlippedStreamsModel_moveAddress_219 : decode b_SlippedStreamsModel_moveAddress 219 = .ok (.iload_n 1, 1) := by decide +kernel
theorem d_SlippedStreamsModel_moveAddress_220 : decode b_SlippedStreamsModel_moveAddress 220 = .ok (.iaload, 1) := by decide +kernel
theorem d_SlippedStreamsModel_moveAddress_221 : decode b_SlippedStreamsModel_moveAddress 221 = .ok (.iaload, 1) := by decide +kernel
theorem d_SlippedStreamsModel_moveAddress_222 : decode b_SlippedStreamsModel_moveAddress 222 = .ok (.aload_n 0, 1) := by decide +kernel
theorem d_SlippedStreamsModel_moveAddress_223 : decode b_SlippedStreamsModel_moveAddress 223 = .ok (.getfield 26, 3) := by decide +kernel
theorem d_SlippedStreamsModel_moveAddress_226 : decode b_SlippedStreamsModel_moveAddress 226 = .ok (.aload_n 0, 1) := by decide +kernel
theorem d_SlippedStreamsModel_moveAddress_227 : decode b_SlippedStreamsModel_moveAddress 227 = .ok (.getfield 19, 3) := by decide +kernel
theorem d_SlippedStreamsModel_moveAddress_230 : decode b_SlippedStreamsModel_moveAddress 230 = .ok (.iload_n 1, 1) := by decide +kernel
theorem d_SlippedStreamsModel_moveAddress_231 : decode b_SlippedStreamsModel_moveAddress 231 = .ok (.iaload, 1) := by decide +kernel
theorem d_SlippedStreamsModel_moveAddress_232 : decode b_SlippedStreamsModel_moveAddress 232 = .ok (.iaload, 1) := by decide +kernel
theorem d_SlippedStreamsModel_moveAddress_233 : decode b_SlippedStreamsModel_moveAddress 233 = .ok (.invokestatic 167, 3) := by decide +kernel
theorem d_SlippedStreamsModel_moveAddress_236 : decode b_SlippedStreamsModel_moveAddress 236 = .ok (.iastore, 1) := by decide +kernel
theorem d_SlippedStreamsModel_moveAddress_237 : decode b_SlippedStreamsModel_moveAddress 237 = .ok (.aload_n 0, 1) := by decide +kernel
theorem d_SlippedStreamsModel_moveAddress_238 : decode b_SlippedStreamsModel_moveAddress 238 = .ok (.iconst 0, 1) := by decide +kernel
theorem d_SlippedStreamsModel_moveAddress_239 : decode b_SlippedStreamsModel_moveAddress 239 = .ok (.iload_n 1, 1) := by decide +kernel
theorem d_SlippedStreamsModel_moveAddress_240 : decode b_SlippedStreamsModel_moveAddress 240 = .ok (.iconst 1, 1) := by decide +kernel
theorem d_SlippedStreamsModel_moveAddress_241 : decode b_SlippedStreamsModel_moveAddress 241 = .ok (.iadd, 1) := by decide +kernel
theorem d_SlippedStreamsModel_moveAddress_242 : decode b_SlippedStreamsModel_moveAddress 242 = .ok (.invokevirtual 139, 3) := by decide +kernel
theorem d_SlippedStreamsModel_moveAddress_245 : decode b_SlippedStreamsModel_moveAddress 245 = .ok (.iconst 1, 1) := by decide +kernel
theorem d_SlippedStreamsModel_moveAddress_246 : decode b_SlippedStreamsModel_moveAddress 246 = .ok (.ireturn, 1) := by decide +kernel
theorem d_SlippedStreamsModel_address_0 : decode b_SlippedStreamsModel_address 0 = .ok (.iload_n 1, 1) := by decide +kernel
theorem d_SlippedStreamsModel_address_1 : decode b_SlippedStreamsModel_address 1 = .ok (.invokestatic 184, 3) := by decide +kernel
theorem d_SlippedStreamsModel_address_4 : decode b_SlippedStreamsModel_address 4 = .ok (.ifCond .ne 5, 3) := by decide +kernel
theorem d_SlippedStreamsModel_address_7 : decode b_SlippedStreamsModel_address 7 = .ok (.iconst (-1), 1) := by decide +kernel
theorem d_SlippedStreamsModel_address_8 : decode b_SlippedStreamsModel_address 8 = .ok (.ireturn, 1) := by decide +kernel
theorem d_SlippedStreamsModel_address_9 : decode b_SlippedStreamsModel_address 9 = .ok (.iconst 0, 1) := by decide +kernel
theorem d_SlippedStreamsModel_address_10 : decode b_SlippedStreamsModel_address 10 = .ok (.istore_n 2, 1) := by decide +kernel
theorem d_SlippedStreamsModel_address_11 : decode b_SlippedStreamsModel_address 11 = .ok (.iload_n 2, 1) := by decide +kernel
theorem d_SlippedStreamsModel_address_12 : decode b_SlippedStreamsModel_address 12 = .ok (.iload_n 1, 1) := by decide +kernel
theorem d_SlippedStreamsModel_address_13 : decode b_SlippedStreamsModel_address 13 = .ok (.if_icmp .ge 17, 3) := by decide +kernel
theorem d_SlippedStreamsModel_address_16 : decode b_SlippedStreamsModel_address 16 = .ok (.aload_n 0, 1) := by decide +kernel
theorem d_SlippedStreamsModel_address_17 : decode b_SlippedStreamsModel_address 17 = .ok (.invokevirtual 187, 3) := by decide +kernel
theorem d_SlippedStreamsModel_address_20 : decode b_SlippedStreamsModel_address 20 = .ok (.ifCond .eq 10, 3) := by decide +kernel
theorem d_SlippedStreamsModel_address_23 : decode b_SlippedStreamsModel_address 23 = .ok (.iload_n 2, 1) := by decide +kernel
theorem d_SlippedStreamsModel_address_24 : decode b_SlippedStreamsModel_address 24 = .ok (.iconst 1, 1) := by decide +kernel
theorem d_SlippedStreamsModel_address_25 : decode b_SlippedStreamsModel_address 25 = .ok (.iadd, 1) := by decide +kernel
theorem d_SlippedStreamsModel_address_26 : decode b_SlippedStreamsModel_address 26 = .ok (.istore_n 2, 1) := by decide +kernel
theorem d_SlippedStreamsModel_address_27 : decode b_SlippedStreamsModel_address 27 = .ok (.goto (-16), 3) := by decide +kernel
theorem d_SlippedStreamsModel_address_30 : decode b_SlippedStreamsModel_address 30 = .ok (.aload_n 0, 1) := by decide +kernel
theorem d_SlippedStreamsModel_address_31 : decode b_SlippedStreamsModel_address 31 = .ok (.iload_n 2, 1) := by decide +kernel
theorem d_SlippedStreamsModel_address_32 : decode b_SlippedStreamsModel_address 32 = .ok (.iload_n 1, 1) := by decide +kernel
theorem d_SlippedStreamsModel_address_33 : decode b_SlippedStreamsModel_address 33 = .ok (.if_icmp .ge 19, 3) := by decide +kernel
theorem d_SlippedStreamsModel_address_36 : decode b_SlippedStreamsModel_address 36 = .ok (.aload_n 0, 1) := by decide +kernel
theorem d_SlippedStreamsModel_address_37 : decode b_SlippedStreamsModel_address 37 = .ok (.getfield 151, 3) := by decide +kernel
theorem d_SlippedStreamsModel_address_40 : decode b_SlippedStreamsModel_address 40 = .ok (.ifCond .eq 12, 3) := by decide +kernel
theorem d_SlippedStreamsModel_address_43 : decode b_SlippedStreamsModel_address 43 = .ok (.aload_n 0, 1) := by decide +kernel
theorem d_SlippedStreamsModel_address_44 : decode b_SlippedStreamsModel_address 44 = .ok (.getfield 89, 3) := by decide +kernel
theorem d_SlippedStreamsModel_address_47 : decode b_SlippedStreamsModel_address 47 = .ok (.iconst 1, 1) := by decide +kernel
theorem d_SlippedStreamsModel_address_48 : decode b_SlippedStreamsModel_address 48 = .ok (.iadd, 1) := by decide +kernel
theorem d_SlippedStreamsModel_address_49 : decode b_SlippedStreamsModel_address 49 = .ok (.goto 7, 3) := by decide +kernel
theorem d_SlippedStreamsModel_address_52 : decode b_SlippedStreamsModel_address 52 = .ok (.aload_n 0, 1) := by decide +kernel
theorem d_SlippedStreamsModel_address_53 : decode b_SlippedStreamsModel_address 53 = .ok (.getfield 89, 3) := by decide +kernel
theorem d_SlippedStreamsModel_address_56 : decode b_SlippedStreamsModel_address 56 = .ok (.putfield 89, 3) := by decide +kernel
theorem d_SlippedStreamsModel_address_59 : decode b_SlippedStreamsModel_address 59 = .ok (.iload_n 2, 1) := by decide +kernel
theorem d_SlippedStreamsModel_address_60 : decode b_SlippedStreamsModel_address 60 = .ok (.ireturn, 1) := by decide +kernel
theorem d_SlippedStreamsModel_valueOf_0 : decode b_SlippedStreamsModel_valueOf 0 = .ok (.aload_n 0, 1) := by decide +kernel
theorem d_SlippedStreamsModel_valueOf_1 : decode b_SlippedStreamsModel_valueOf 1 = .ok (.iload_n 1, 1) := by decide +kernel
theorem d_SlippedStreamsModel_valueOf_2 : decode b_SlippedStreamsModel_valueOf 2 = .ok (.iload_n 2, 1) := by decide +kernel
theorem d_SlippedStreamsModel_valueOf_3 : decode b_SlippedStreamsModel_valueOf 3 = .ok (.invokevirtual 108, 3) := by decide +kernel
theorem d_SlippedStreamsModel_valueOf_6 : decode b_SlippedStreamsModel_valueOf 6 = .ok (.istore_n 3, 1) := by decide +kernel
theorem d_SlippedStreamsModel_valueOf_7 : decode b_SlippedStreamsModel_valueOf 7 = .ok (.aload_n 0, 1) := by decide +kernel
theorem d_SlippedStreamsModel_valueOf_8 : decode b_SlippedStreamsModel_valueOf 8 = .ok (.getfield 22, 3) := by decide +kernel
theorem d_SlippedStreamsModel_valueOf_11 : decode b_SlippedStreamsModel_valueOf 11 = .ok (.iload_n 3, 1) := by decide +kernel
theorem d_SlippedStreamsModel_valueOf_12 : decode b_SlippedStreamsModel_valueOf 12 = .ok (.baload, 1) := by decide +kernel
theorem d_SlippedStreamsModel_valueOf_13 : decode b_SlippedStreamsModel_valueOf 13 = .ok (.ifCond .ne 13, 3) := by decide +kernel
theorem d_SlippedStreamsModel_valueOf_16 : decode b_SlippedStreamsModel_valueOf 16 = .ok (.aload_n 0, 1) := by decide +kernel
theorem d_SlippedStreamsModel_valueOf_17 : decode b_SlippedStreamsModel_valueOf 17 = .ok (.getfield 26, 3) := by decide +kernel
theorem d_SlippedStreamsModel_valueOf_20 : decode b_SlippedStreamsModel_valueOf 20 = .ok (.bipush 8, 2) := by decide +kernel
theorem d_SlippedStreamsModel_valueOf_22 : decode b_SlippedStreamsModel_valueOf 22 = .ok (.iload_n 3, 1) := by decide +kernel
theorem d_SlippedStreamsModel_valueOf_23 : decode b_SlippedStreamsModel_valueOf 23 = .ok (.iadd, 1) := by decide +kernel
theorem d_SlippedStreamsModel_valueOf_24 : decode b_SlippedStreamsModel_valueOf 24 = .ok (.iaload, 1) := by decide +kernel
theorem d_SlippedStreamsModel_valueOf_25 : decode b_SlippedStreamsModel_valueOf 25 = .ok (.ireturn, 1) := by decide +kernel
theorem d_SlippedStreamsModel_valueOf_26 : decode b_SlippedStreamsModel_valueOf 26 = .ok (.aload_n 0, 1) := by decide +kernel
theorem d_SlippedStreamsModel_valueOf_27 : decode b_SlippedStreamsModel_valueOf 27 = .ok (.getfield 38, 3) := by decide +kernel
theorem d_SlippedStreamsModel_valueOf_30 : decode b_SlippedStreamsModel_valueOf 30 = .ok (.bipush 24, 2) := by decide +kernel
theorem d_SlippedStreamsModel_valueOf_32 : decode b_SlippedStreamsModel_valueOf 32 = .ok (.aload_n 0, 1) := by decide +kernel
theorem d_SlippedStreamsModel_valueOf_33 : decode b_SlippedStreamsModel_valueOf 33 = .ok (.iload_n 1, 1) := by decide +kernel
theorem d_SlippedStreamsModel_valueOf_34 : decode b_SlippedStreamsModel_valueOf 34 = .ok (.iconst 0, 1) := by decide +kernel
theorem d_SlippedStreamsModel_valueOf_35 : decode b_SlippedStreamsModel_valueOf 35 = .ok (.invokevirtual 112, 3) := by decide +kernel
theorem d_SlippedStreamsModel_valueOf_38 : decode b_SlippedStreamsModel_valueOf 38 = .ok (.iload_n 3, 1) := by decide +kernel
theorem d_SlippedStreamsModel_valueOf_39 : decode b_SlippedStreamsModel_valueOf 39 = .ok (.if_icmp .ne 7, 3) := by decide +kernel
theorem d_SlippedStreamsModel_valueOf_42 : decode b_SlippedStreamsModel_valueOf 42 = .ok (.iconst 0, 1) := by decide +kernel
theorem d_SlippedStreamsModel_valueOf_43 : decode b_SlippedStreamsModel_valueOf 43 = .ok (.goto 4, 3) := by decide +kernel
theorem d_SlippedStreamsModel_valueOf_46 : decode b_SlippedStreamsModel_valueOf 46 = .ok (.iconst 1, 1) := by decide +kernel
theorem d_SlippedStreamsModel_valueOf_47 : decode b_SlippedStreamsModel_valueOf 47 = .ok (.iadd, 1) := by decide +kernel
theorem d_SlippedStreamsModel_valueOf_48 : decode b_SlippedStreamsModel_valueOf 48 = .ok (.iaload, 1) := by decide +kernel
theorem d_SlippedStreamsModel_valueOf_49 : decode b_SlippedStreamsModel_valueOf 49 = .ok (.ireturn, 1) := by decide +kernel
theorem d_SlippedStreamsModel_write_0 : decode b_SlippedStreamsModel_write 0 = .ok (.iload_n 2, 1) := by decide +kernel
theorem d_SlippedStreamsModel_write_1 : decode b_SlippedStreamsModel_write 1 = .ok (.bipush 64, 2) := by decide +kernel
theorem d_SlippedStreamsModel_write_3 : decode b_SlippedStreamsModel_write 3 = .ok (.if_icmp .ge 12, 3) := by decide +kernel
theorem d_SlippedStreamsModel_write_6 : decode b_SlippedStreamsModel_write 6 = .ok (.aload_n 0, 1) := by decide +kernel
theorem d_SlippedStreamsModel_write_7 : decode b_SlippedStreamsModel_write 7 = .ok (.getfield 59, 3) := by decide +kernel
theorem d_SlippedStreamsModel_write_10 : decode b_SlippedStreamsModel_write 10 = .ok (.iload_n 1, 1) := by decide +kernel
theorem d_SlippedStreamsModel_write_11 : decode b_SlippedStreamsModel_write 11 = .ok (.iload_n 2, 1) := by decide +kernel
theorem d_SlippedStreamsModel_write_12 : decode b_SlippedStreamsModel_write 12 = .ok (.iadd, 1) := by decide +kernel
theorem d_SlippedStreamsModel_write_13 : decode b_SlippedStreamsModel_write 13 = .ok (.iload_n 3, 1) := by decide +kernel
theorem d_SlippedStreamsModel_write_14 : decode b_SlippedStreamsModel_write 14 = .ok (.iastore, 1) := by decide +kernel
theorem d_SlippedStreamsModel_write_15 : decode b_SlippedStreamsModel_write 15 = .ok (.return_, 1) := by decide +kernel
theorem d_SlippedStreamsModel_work_0 : decode b_SlippedStreamsModel_work 0 = .ok (.aload_n 0, 1) := by decide +kernel
theorem d_SlippedStreamsModel_work_1 : decode b_SlippedStreamsModel_work 1 = .ok (.getfield 7, 3) := by decide +kernel
theorem d_SlippedStreamsModel_work_4 : decode b_SlippedStreamsModel_work 4 = .ok (.iload_n 1, 1) := by decide +kernel
theorem d_SlippedStreamsModel_work_5 : decode b_SlippedStreamsModel_work 5 = .ok (.iaload, 1) := by decide +kernel
theorem d_SlippedStreamsModel_work_6 : decode b_SlippedStreamsModel_work 6 = .ok (.istore_n 2, 1) := by decide +kernel
theorem d_SlippedStreamsModel_work_7 : decode b_SlippedStreamsModel_work 7 = .ok (.aload_n 0, 1) := by decide +kernel
theorem d_SlippedStreamsModel_work_8 : decode b_SlippedStreamsModel_work 8 = .ok (.iload_n 1, 1) := by decide +kernel
theorem d_SlippedStreamsModel_work_9 : decode b_SlippedStreamsModel_work 9 = .ok (.invokevirtual 122, 3) := by decide +kernel
theorem d_SlippedStreamsModel_work_12 : decode b_SlippedStreamsModel_work 12 = .ok (.istore_n 3, 1) := by decide +kernel
theorem d_SlippedStreamsModel_work_13 : decode b_SlippedStreamsModel_work 13 = .ok (.aload_n 0, 1) := by decide +kernel
theorem d_SlippedStreamsModel_work_14 : decode b_SlippedStreamsModel_work 14 = .ok (.getfield 41, 3) := by decide +kernel
theorem d_SlippedStreamsModel_work_17 : decode b_SlippedStreamsModel_work 17 = .ok (.iconst 4, 1) := by decide +kernel
theorem d_SlippedStreamsModel_work_18 : decode b_SlippedStreamsModel_work 18 = .ok (.iaload, 1) := by decide +kernel
theorem d_SlippedStreamsModel_work_19 : decode b_SlippedStreamsModel_work 19 = .ok (.iload_n 3, 1) := by decide +kernel
theorem d_SlippedStreamsModel_work_20 : decode b_SlippedStreamsModel_work 20 = .ok (.if_icmp .lt 20, 3) := by decide +kernel
theorem d_SlippedStreamsModel_work_23 : decode b_SlippedStreamsModel_work 23 = .ok (.aload_n 0, 1) := by decide +kernel
theorem d_SlippedStreamsModel_work_24 : decode b_SlippedStreamsModel_work 24 = .ok (.iload_n 1, 1) := by decide +kernel
theorem d_SlippedStreamsModel_work_25 : decode b_SlippedStreamsModel_work 25 = .ok (.invokevirtual 115, 3) := by decide +kernel
theorem d_SlippedStreamsModel_work_28 : decode b_SlippedStreamsModel_work 28 = .ok (.ifCond .eq 14, 3) := by decide +kernel
theorem d_SlippedStreamsModel_work_31 : decode b_SlippedStreamsModel_work 31 = .ok (.aload_n 0, 1) := by decide +kernel
theorem d_SlippedStreamsModel_work_32 : decode b_SlippedStreamsModel_work 32 = .ok (.iconst 3, 1) := by decide +kernel
theorem d_SlippedStreamsModel_work_33 : decode b_SlippedStreamsModel_work 33 = .ok (.iconst 1, 1) := by decide +kernel
theorem d_SlippedStreamsModel_work_34 : decode b_SlippedStreamsModel_work 34 = .ok (.invokevirtual 136, 3) := by decide +kernel
theorem d_SlippedStreamsModel_work_37 : decode b_SlippedStreamsModel_work 37 = .ok (.ifCond .ne 5, 3) := by decide +kernel
theorem d_SlippedStreamsModel_work_40 : decode b_SlippedStreamsModel_work 40 = .ok (.iconst 0, 1) := by decide +kernel
theorem d_SlippedStreamsModel_work_41 : decode b_SlippedStreamsModel_work 41 = .ok (.ireturn, 1) := by decide +kernel
theorem d_SlippedStreamsModel_work_42 : decode b_SlippedStreamsModel_work 42 = .ok (.aload_n 0, 1) := by decide +kernel
theorem d_SlippedStreamsModel_work_43 : decode b_SlippedStreamsModel_work 43 = .ok (.iload_n 1, 1) := by decide +kernel
theorem d_SlippedStreamsModel_work_44 : decode b_SlippedStreamsModel_work 44 = .ok (.iconst 0, 1) := by decide +kernel
theorem d_SlippedStreamsModel_work_45 : decode b_SlippedStreamsModel_work 45 = .ok (.invokevirtual 108, 3) := by decide +kernel
theorem d_SlippedStreamsModel_work_48 : decode b_SlippedStreamsModel_work 48 = .ok (.ifCond .ge 7, 3) := by decide +kernel
theorem d_SlippedStreamsModel_work_51 : decode b_SlippedStreamsModel_work 51 = .ok (.iconst 0, 1) := by decide +kernel
theorem d_SlippedStreamsModel_work_52 : decode b_SlippedStreamsModel_work 52 = .ok (.goto 9, 3) := by decide +kernel
theorem d_SlippedStreamsModel_work_55 : decode b_SlippedStreamsModel_work 55 = .ok (.aload_n 0, 1) := by decide +kernel
theorem d_SlippedStreamsModel_work_56 : decode b_SlippedStreamsModel_work 56 = .ok (.iload_n 1, 1) := by decide +kernel
theorem d_SlippedStreamsModel_work_57 : decode b_SlippedStreamsModel_work 57 = .ok (.iconst 0, 1) := by decide +kernel
theorem d_SlippedStreamsModel_work_58 : decode b_SlippedStreamsModel_work 58 = .ok (.invokevirtual 171, 3) := by decide +kernel
theorem d_SlippedStreamsModel_work_61 : decode b_SlippedStreamsModel_work 61 = .ok (.istore 4, 2) := by decide +kernel
theorem d_SlippedStreamsModel_work_63 : decode b_SlippedStreamsModel_work 63 = .ok (.aload_n 0, 1) := by decide +kernel
theorem d_SlippedStreamsModel_work_64 : decode b_SlippedStreamsModel_work 64 = .ok (.iload_n 1, 1) := by decide +kernel
theorem d_SlippedStreamsModel_work_65 : decode b_SlippedStreamsModel_work 65 = .ok (.iconst 1, 1) := by decide +kernel
theorem d_SlippedStreamsModel_work_66 : decode b_SlippedStreamsModel_work 66 = .ok (.invokevirtual 108, 3) := by decide +kernel
theorem d_SlippedStreamsModel_work_69 : decode b_SlippedStreamsModel_work 69 = .ok (.ifCond .ge 7, 3) := by decide +kernel
theorem d_SlippedStreamsModel_work_72 : decode b_SlippedStreamsModel_work 72 = .ok (.iconst 0, 1) := by decide +kernel
theorem d_SlippedStreamsModel_work_73 : decode b_SlippedStreamsModel_work 73 = .ok (.goto 9, 3) := by decide +kernel
theorem d_SlippedStreamsModel_work_76 : decode b_SlippedStreamsModel_work 76 = .ok (.aload_n 0, 1) := by decide +kernel
theorem d_SlippedStreamsModel_work_77 : decode b_SlippedStreamsModel_work 77 = .ok (.iload_n 1, 1) := by decide +kernel
theorem d_SlippedStreamsModel_work_78 : decode b_SlippedStreamsModel_work 78 = .ok (.iconst 1, 1) := by decide +kernel
theorem d_SlippedStreamsModel_work_79 : decode b_SlippedStreamsModel_work 79 = .ok (.invokevirtual 171, 3) := by decide +kernel
theorem d_SlippedStreamsModel_work_82 : decode b_SlippedStreamsModel_work 82 = .ok (.istore 5, 2) := by decide +kernel
theorem d_SlippedStreamsModel_work_84 : decode b_SlippedStreamsModel_work 84 = .ok (.iconst 0, 1) := by decide +kernel
theorem d_SlippedStreamsModel_work_85 : decode b_SlippedStreamsModel_work 85 = .ok (.istore 6, 2) := by decide +kernel
theorem d_SlippedStreamsModel_work_87 : decode b_SlippedStreamsModel_work 87 = .ok (.iload 6, 2) := by decide +kernel
theorem d_SlippedStreamsModel_work_89 : decode b_SlippedStreamsModel_work 89 = .ok (.iload_n 3, 1) := by decide +kernel
theorem d_SlippedStreamsModel_work_90 : decode b_SlippedStreamsModel_work 90 = .ok (.if_icmp .ge 15, 3) := by decide +kernel
theorem d_SlippedStreamsModel_work_93 : decode b_SlippedStreamsModel_work 93 = .ok (.aload_n 0, 1) := by decide +kernel
theorem d_SlippedStreamsModel_work_94 : decode b_SlippedStreamsModel_work 94 = .ok (.iconst 4, 1) := by decide +kernel
theorem d_SlippedStreamsModel_work_95 : decode b_SlippedStreamsModel_work 95 = .ok (.invokevirtual 142, 3) := by decide +kernel
theorem d_SlippedStreamsModel_work_98 : decode b_SlippedStreamsModel_work 98 = .ok (.pop, 1) := by decide +kernel
theorem d_SlippedStreamsModel_work_99 : decode b_SlippedStreamsModel_work 99 = .ok (.iinc 6 1, 3) := by decide +kernel
theorem d_SlippedStreamsModel_work_102 : decode b_SlippedStreamsModel_work 102 = .ok (.goto (-15), 3) := by decide +kernel
theorem d_SlippedStreamsModel_work_105 : decode b_SlippedStreamsModel_work 105 = .ok (.aload_n 0, 1) := by decide +kernel
theorem d_SlippedStreamsModel_work_106 : decode b_SlippedStreamsModel_work 106 = .ok (.iload_n 1, 1) := by decide +kernel
theorem d_SlippedStreamsModel_work_107 : decode b_SlippedStreamsModel_work 107 = .ok (.invokevirtual 115, 3) := by decide +kernel
theorem d_SlippedStreamsModel_work_110 : decode b_SlippedStreamsModel_work 110 = .ok (.ifCond .eq 18, 3) := by decide +kernel
theorem d_SlippedStreamsModel_work_113 : decode b_SlippedStreamsModel_work 113 = .ok (.iload_n 2, 1) := by decide +kernel
theorem d_SlippedStreamsModel_work_114 : decode b_SlippedStreamsModel_work 114 = .ok (.iload 4, 2) := by decide +kernel
theorem d_SlippedStreamsModel_work_116 : decode b_SlippedStreamsModel_work 116 = .ok (.iload 5, 2) := by decide +kernel
theorem d_SlippedStreamsModel_work_118 : decode b_SlippedStreamsModel_work 118 = .ok (.invokestatic 163, 3) := by decide +kernel
theorem d_SlippedStreamsModel_work_121 : decode b_SlippedStreamsModel_work 121 = .ok (.ifCond .eq 7, 3) := by decide +kernel
theorem d_SlippedStreamsModel_work_124 : decode b_SlippedStreamsModel_work 124 = .ok (.iconst 1, 1) := by decide +kernel
theorem d_SlippedStreamsModel_work_125 : decode b_SlippedStreamsModel_work 125 = .ok (.goto 4, 3) := by decide +kernel
theorem d_SlippedStreamsModel_work_128 : decode b_SlippedStreamsModel_work 128 = .ok (.iconst 0, 1) := by decide +kernel
theorem d_SlippedStreamsModel_work_129 : decode b_SlippedStreamsModel_work 129 = .ok (.istore 6, 2) := by decide +kernel
theorem d_SlippedStreamsModel_work_131 : decode b_SlippedStreamsModel_work 131 = .ok (.aload_n 0, 1) := by decide +kernel
theorem d_SlippedStreamsModel_work_132 : decode b_SlippedStreamsModel_work 132 = .ok (.iload_n 1, 1) := by decide +kernel
theorem d_SlippedStreamsModel_work_133 : decode b_SlippedStreamsModel_work 133 = .ok (.invokevirtual 115, 3) := by decide +kernel
theorem d_SlippedStreamsModel_work_136 : decode b_SlippedStreamsModel_work 136 = .ok (.ifCond .eq 21, 3) := by decide +kernel
theorem d_SlippedStreamsModel_work_139 : decode b_SlippedStreamsModel_work 139 = .ok (.aload_n 0, 1) := by decide +kernel
theorem d_SlippedStreamsModel_work_140 : decode b_SlippedStreamsModel_work 140 = .ok (.iconst 3, 1) := by decide +kernel
theorem d_SlippedStreamsModel_work_141 : decode b_SlippedStreamsModel_work 141 = .ok (.iload 6, 2) := by decide +kernel
theorem d_SlippedStreamsModel_work_143 : decode b_SlippedStreamsModel_work 143 = .ok (.ifCond .eq 7, 3) := by decide +kernel
theorem d_SlippedStreamsModel_work_146 : decode b_SlippedStreamsModel_work 146 = .ok (.iconst 1, 1) := by decide +kernel
theorem d_SlippedStreamsModel_work_147 : decode b_SlippedStreamsModel_work 147 = .ok (.goto 4, 3) := by decide +kernel
theorem d_SlippedStreamsModel_work_150 : decode b_SlippedStreamsModel_work 150 = .ok (.iconst 0, 1) := by decide +kernel
theorem d_SlippedStreamsModel_work_151 : decode b_SlippedStreamsModel_work 151 = .ok (.invokevirtual 129, 3) := by decide +kernel
theorem d_SlippedStreamsModel_work_154 : decode b_SlippedStreamsModel_work 154 = .ok (.goto 68, 3) := by decide +kernel
theorem d_SlippedStreamsModel_work_157 : decode b_SlippedStreamsModel_work 157 = .ok (.iload_n 2, 1) := by decide +kernel
theorem d_SlippedStreamsModel_work_158 : decode b_SlippedStreamsModel_work 158 = .ok (.bipush 8, 2) := by decide +kernel
theorem d_SlippedStreamsModel_work_160 : decode b_SlippedStreamsModel_work 160 = .ok (.if_icmp .ne 27, 3) := by decide +kernel
theorem d_SlippedStreamsModel_work_163 : decode b_SlippedStreamsModel_work 163 = .ok (.aload_n 0, 1) := by decide +kernel
theorem d_SlippedStreamsModel_work_164 : decode b_SlippedStreamsModel_work 164 = .ok (.iconst 0, 1) := by decide +kernel
theorem d_SlippedStreamsModel_work_165 : decode b_SlippedStreamsModel_work 165 = .ok (.aload_n 0, 1) := by decide +kernel
theorem d_SlippedStreamsModel_work_166 : decode b_SlippedStreamsModel_work 166 = .ok (.getfield 95, 3) := by decide +kernel
theorem d_SlippedStreamsModel_work_169 : decode b_SlippedStreamsModel_work 169 = .ok (.iload 4, 2) := by decide +kernel
theorem d_SlippedStreamsModel_work_171 : decode b_SlippedStreamsModel_work 171 = .ok (.invokevirtual 174, 3) := by decide +kernel
theorem d_SlippedStreamsModel_work_174 : decode b_SlippedStreamsModel_work 174 = .ok (.aload_n 0, 1) := by decide +kernel
theorem d_SlippedStreamsModel_work_175 : decode b_SlippedStreamsModel_work 175 = .ok (.aload_n 0, 1) := by decide +kernel
theorem d_SlippedStreamsModel_work_176 : decode b_SlippedStreamsModel_work 176 = .ok (.getfield 95, 3) := by decide +kernel
theorem d_SlippedStreamsModel_work_179 : decode b_SlippedStreamsModel_work 179 = .ok (.iconst 1, 1) := by decide +kernel
theorem d_SlippedStreamsModel_work_180 : decode b_SlippedStreamsModel_work 180 = .ok (.iadd, 1) := by decide +kernel
theorem d_SlippedStreamsModel_work_181 : decode b_SlippedStreamsModel_work 181 = .ok (.putfield 95, 3) := by decide +kernel
theorem d_SlippedStreamsModel_work_184 : decode b_SlippedStreamsModel_work 184 = .ok (.goto 38, 3) := by decide +kernel
theorem d_SlippedStreamsModel_work_187 : decode b_SlippedStreamsModel_work 187 = .ok (.aload_n 0, 1) := by decide +kernel
theorem d_SlippedStreamsModel_work_188 : decode b_SlippedStreamsModel_work 188 = .ok (.getfield 26, 3) := by decide +kernel
theorem d_SlippedStreamsModel_work_191 : decode b_SlippedStreamsModel_work 191 = .ok (.bipush 8, 2) := by decide +kernel
theorem d_SlippedStreamsModel_work_193 : decode b_SlippedStreamsModel_work 193 = .ok (.aload_n 0, 1) := by decide +kernel
theorem d_SlippedStreamsModel_work_194 : decode b_SlippedStreamsModel_work 194 = .ok (.getfield 13, 3) := by decide +kernel
theorem d_SlippedStreamsModel_work_197 : decode b_SlippedStreamsModel_work 197 = .ok (.iload_n 1, 1) := by decide +kernel
theorem d_SlippedStreamsModel_work_198 : decode b_SlippedStreamsModel_work 198 = .ok (.iaload, 1) := by decide +kernel
theorem d_SlippedStreamsModel_work_199 : decode b_SlippedStreamsModel_work 199 = .ok (.iadd, 1) := by decide +kernel
theorem d_SlippedStreamsModel_work_200 : decode b_SlippedStreamsModel_work 200 = .ok (.iload_n 2, 1) := by decide +kernel
theorem d_SlippedStreamsModel_work_201 : decode b_SlippedStreamsModel_work 201 = .ok (.ifCond .ne 12, 3) := by decide +kernel
theorem d_SlippedStreamsModel_work_204 : decode b_SlippedStreamsModel_work 204 = .ok (.aload_n 0, 1) := by decide +kernel
theorem d_SlippedStreamsModel_work_205 : decode b_SlippedStreamsModel_work 205 = .ok (.getfield 19, 3) := by decide +kernel
theorem d_SlippedStreamsModel_work_208 : decode b_SlippedStreamsModel_work 208 = .ok (.iload_n 1, 1) := by decide +kernel
theorem d_SlippedStreamsModel_work_209 : decode b_SlippedStreamsModel_work 209 = .ok (.iaload, 1) := by decide +kernel
theorem d_SlippedStreamsModel_work_210 : decode b_SlippedStreamsModel_work 210 = .ok (.goto 11, 3) := by decide +kernel
theorem d_SlippedStreamsModel_work_213 : decode b_SlippedStreamsModel_work 213 = .ok (.iload_n 2, 1) := by decide +kernel
theorem d_SlippedStreamsModel_work_214 : decode b_SlippedStreamsModel_work 214 = .ok (.iload 4, 2) := by decide +kernel
theorem d_SlippedStreamsModel_work_216 : decode b_SlippedStreamsModel_work 216 = .ok (.iload 5, 2) := by decide +kernel
theorem d_SlippedStreamsModel_work_218 : decode b_SlippedStreamsModel_work 218 = .ok (.invokestatic 167, 3) := by decide +kernel
theorem d_SlippedStreamsModel_work_221 : decode b_SlippedStreamsModel_work 221 = .ok (.iastore, 1) := by decide +kernel
theorem d_SlippedStreamsModel_work_222 : decode b_SlippedStreamsModel_work 222 = .ok (.aload_n 0, 1) := by decide +kernel
theorem d_SlippedStreamsModel_work_223 : decode b_SlippedStreamsModel_work 223 = .ok (.iconst 1, 1) := by decide +kernel
theorem d_SlippedStreamsModel_work_224 : decode b_SlippedStreamsModel_work 224 = .ok (.iload 6, 2) := by decide +kernel
theorem d_SlippedStreamsModel_work_226 : decode b_SlippedStreamsModel_work 226 = .ok (.ifCond .eq 12, 3) := by decide +kernel
theorem d_SlippedStreamsModel_work_229 : decode b_SlippedStreamsModel_work 229 = .ok (.aload_n 0, 1) := by decide +kernel
theorem d_SlippedStreamsModel_work_230 : decode b_SlippedStreamsModel_work 230 = .ok (.getfield 19, 3) := by decide +kernel
theorem d_SlippedStreamsModel_work_233 : decode b_SlippedStreamsModel_work 233 = .ok (.iload_n 1, 1) := by decide +kernel
theorem d_SlippedStreamsModel_work_234 : decode b_SlippedStreamsModel_work 234 = .ok (.iaload, 1) := by decide +kernel
theorem d_SlippedStreamsModel_work_235 : decode b_SlippedStreamsModel_work 235 = .ok (.goto 6, 3) := by decide +kernel
theorem d_SlippedStreamsModel_work_238 : decode b_SlippedStreamsModel_work 238 = .ok (.iload_n 1, 1) := by decide +kernel
theorem d_SlippedStreamsModel_work_239 : decode b_SlippedStreamsModel_work 239 = .ok (.iconst 1, 1) := by decide +kernel
theorem d_SlippedStreamsModel_work_240 : decode b_SlippedStreamsModel_work 240 = .ok (.iadd, 1) := by decide +kernel
theorem d_SlippedStreamsModel_work_241 : decode b_SlippedStreamsModel_work 241 = .ok (.invokevirtual 139, 3) := by decide +kernel
theorem d_SlippedStreamsModel_work_244 : decode b_SlippedStreamsModel_work 244 = .ok (.iconst 1, 1) := by decide +kernel
theorem d_SlippedStreamsModel_work_245 : decode b_SlippedStreamsModel_work 245 = .ok (.ireturn, 1) := by decide +kernel
theorem d_SlippedStreamsModel_give_0 : decode b_SlippedStreamsModel_give 0 = .ok (.aload_n 0, 1) := by decide +kernel
theorem d_SlippedStreamsModel_give_1 : decode b_SlippedStreamsModel_give 1 = .ok (.getfield 26, 3) := by decide +kernel
theorem d_SlippedStreamsModel_give_4 : decode b_SlippedStreamsModel_give 4 = .ok (.bipush 8, 2) := by decide +kernel
theorem d_SlippedStreamsModel_give_6 : decode b_SlippedStreamsModel_give 6 = .ok (.aload_n 0, 1) := by decide +kernel
theorem d_SlippedStreamsModel_give_7 : decode b_SlippedStreamsModel_give 7 = .ok (.getfield 13, 3) := by decide +kernel
theorem d_SlippedStreamsModel_give_10 : decode b_SlippedStreamsModel_give 10 = .ok (.iload_n 1, 1) := by decide +kernel
theorem d_SlippedStreamsModel_give_11 : decode b_SlippedStreamsModel_give 11 = .ok (.iaload, 1) := by decide +kernel
theorem d_SlippedStreamsModel_give_12 : decode b_SlippedStreamsModel_give 12 = .ok (.iadd, 1) := by decide +kernel
theorem d_SlippedStreamsModel_give_13 : decode b_SlippedStreamsModel_give 13 = .ok (.iaload, 1) := by decide +kernel
theorem d_SlippedStreamsModel_give_14 : decode b_SlippedStreamsModel_give 14 = .ok (.istore_n 2, 1) := by decide +kernel
theorem d_SlippedStreamsModel_give_15 : decode b_SlippedStreamsModel_give 15 = .ok (.iconst 0, 1) := by decide +kernel
theorem d_SlippedStreamsModel_give_16 : decode b_SlippedStreamsModel_give 16 = .ok (.istore_n 3, 1) := by decide +kernel
theorem d_SlippedStreamsModel_give_17 : decode b_SlippedStreamsModel_give 17 = .ok (.iload_n 3, 1) := by decide +kernel
theorem d_SlippedStreamsModel_give_18 : decode b_SlippedStreamsModel_give 18 = .ok (.aload_n 0, 1) := by decide +kernel
theorem d_SlippedStreamsModel_give_19 : decode b_SlippedStreamsModel_give 19 = .ok (.getfield 82, 3) := by decide +kernel
theorem d_SlippedStreamsModel_give_22 : decode b_SlippedStreamsModel_give 22 = .ok (.if_icmp .ge 19, 3) := by decide +kernel
theorem d_SlippedStreamsModel_give_25 : decode b_SlippedStreamsModel_give 25 = .ok (.aload_n 0, 1) := by decide +kernel
theorem d_SlippedStreamsModel_give_26 : decode b_SlippedStreamsModel_give 26 = .ok (.getfield 50, 3) := by decide +kernel
theorem d_SlippedStreamsModel_give_29 : decode b_SlippedStreamsModel_give 29 = .ok (.iload_n 3, 1) := by decide +kernel
theorem d_SlippedStreamsModel_give_30 : decode b_SlippedStreamsModel_give 30 = .ok (.baload, 1) := by decide +kernel
theorem d_SlippedStreamsModel_give_31 : decode b_SlippedStreamsModel_give 31 = .ok (.ifCond .eq 10, 3) := by decide +kernel
theorem d_SlippedStreamsModel_give_34 : decode b_SlippedStreamsModel_give 34 = .ok (.iload_n 3, 1) := by decide +kernel
theorem d_SlippedStreamsModel_give_35 : decode b_SlippedStreamsModel_give 35 = .ok (.iconst 1, 1) := by decide +kernel
theorem d_SlippedStreamsModel_give_36 : decode b_SlippedStreamsModel_give 36 = .ok (.iadd, 1) := by decide +kernel
theorem d_SlippedStreamsModel_give_37 : decode b_SlippedStreamsModel_give 37 = .ok (.istore_n 3, 1) := by decide +kernel
theorem d_SlippedStreamsModel_give_38 : decode b_SlippedStreamsModel_give 38 = .ok (.goto (-21), 3) := by decide +kernel
theorem d_SlippedStreamsModel_give_41 : decode b_SlippedStreamsModel_give 41 = .ok (.iload_n 3, 1) := by decide +kernel
theorem d_SlippedStreamsModel_give_42 : decode b_SlippedStreamsModel_give 42 = .ok (.aload_n 0, 1) := by decide +kernel
theorem d_SlippedStreamsModel_give_43 : decode b_SlippedStreamsModel_give 43 = .ok (.getfield 82, 3) := by decide +kernel
theorem d_SlippedStreamsModel_give_46 : decode b_SlippedStreamsModel_give 46 = .ok (.if_icmp .ne 14, 3) := by decide +kernel
theorem d_SlippedStreamsModel_give_49 : decode b_SlippedStreamsModel_give 49 = .ok (.aload_n 0, 1) := by decide +kernel
theorem d_SlippedStreamsModel_give_50 : decode b_SlippedStreamsModel_give 50 = .ok (.iconst 1, 1) := by decide +kernel
theorem d_SlippedStreamsModel_give_51 : decode b_SlippedStreamsModel_give 51 = .ok (.iconst 1, 1) := by decide +kernel
theorem d_SlippedStreamsModel_give_52 : decode b_SlippedStreamsModel_give 52 = .ok (.invokevirtual 136, 3) := by decide +kernel
theorem d_SlippedStreamsModel_give_55 : decode b_SlippedStreamsModel_give 55 = .ok (.ifCond .ne 5, 3) := by decide +kernel
theorem d_SlippedStreamsModel_give_58 : decode b_SlippedStreamsModel_give 58 = .ok (.iconst 0, 1) := by decide +kernel
theorem d_SlippedStreamsModel_give_59 : decode b_SlippedStreamsModel_give 59 = .ok (.ireturn, 1) := by decide +kernel
theorem d_SlippedStreamsModel_give_60 : decode b_SlippedStreamsModel_give 60 = .ok (.iload_n 3, 1) := by decide +kernel
theorem d_SlippedStreamsModel_give_61 : decode b_SlippedStreamsModel_give 61 = .ok (.aload_n 0, 1) := by decide +kernel
theorem d_SlippedStreamsModel_give_62 : decode b_SlippedStreamsModel_give 62 = .ok (.getfield 82, 3) := by decide +kernel
theorem d_SlippedStreamsModel_give_65 : decode b_SlippedStreamsModel_give 65 = .ok (.if_icmp .ge 24, 3) := by decide +kernel
theorem d_SlippedStreamsModel_give_68 : decode b_SlippedStreamsModel_give 68 = .ok (.aload_n 0, 1) := by decide +kernel
theorem d_SlippedStreamsModel_give_69 : decode b_SlippedStreamsModel_give 69 = .ok (.getfield 50, 3) := by decide +kernel
theorem d_SlippedStreamsModel_give_72 : decode b_SlippedStreamsModel_give 72 = .ok (.iload_n 3, 1) := by decide +kernel
theorem d_SlippedStreamsModel_give_73 : decode b_SlippedStreamsModel_give 73 = .ok (.iconst 1, 1) := by decide +kernel
theorem d_SlippedStreamsModel_give_74 : decode b_SlippedStreamsModel_give 74 = .ok (.bastore, 1) := by decide +kernel
theorem d_SlippedStreamsModel_give_75 : decode b_SlippedStreamsModel_give 75 = .ok (.aload_n 0, 1) := by decide +kernel
theorem d_SlippedStreamsModel_give_76 : decode b_SlippedStreamsModel_give 76 = .ok (.getfield 47, 3) := by decide +kernel
theorem d_SlippedStreamsModel_give_79 : decode b_SlippedStreamsModel_give 79 = .ok (.iload_n 3, 1) := by decide +kernel
theorem d_SlippedStreamsModel_give_80 : decode b_SlippedStreamsModel_give 80 = .ok (.iload_n 2, 1) := by decide +kernel
theorem d_SlippedStreamsModel_give_81 : decode b_SlippedStreamsModel_give 81 = .ok (.iastore, 1) := by decide +kernel
theorem d_SlippedStreamsModel_give_82 : decode b_SlippedStreamsModel_give 82 = .ok (.aload_n 0, 1) := by decide +kernel
theorem d_SlippedStreamsModel_give_83 : decode b_SlippedStreamsModel_give 83 = .ok (.invokevirtual 145, 3) := by decide +kernel
theorem d_SlippedStreamsModel_give_86 : decode b_SlippedStreamsModel_give 86 = .ok (.goto 9, 3) := by decide +kernel
theorem d_SlippedStreamsModel_give_89 : decode b_SlippedStreamsModel_give 89 = .ok (.aload_n 0, 1) := by decide +kernel
theorem d_SlippedStreamsModel_give_90 : decode b_SlippedStreamsModel_give 90 = .ok (.iconst 1, 1) := by decide +kernel
theorem d_SlippedStreamsModel_give_91 : decode b_SlippedStreamsModel_give 91 = .ok (.iload_n 2, 1) := by decide +kernel
theorem d_SlippedStreamsModel_give_92 : decode b_SlippedStreamsModel_give 92 = .ok (.invokevirtual 129, 3) := by decide +kernel
theorem d_SlippedStreamsModel_give_95 : decode b_SlippedStreamsModel_give 95 = .ok (.aload_n 0, 1) := by decide +kernel
theorem d_SlippedStreamsModel_give_96 : decode b_SlippedStreamsModel_give 96 = .ok (.iconst 1, 1) := by decide +kernel
theorem d_SlippedStreamsModel_give_97 : decode b_SlippedStreamsModel_give 97 = .ok (.iload_n 1, 1) := by decide +kernel
theorem d_SlippedStreamsModel_give_98 : decode b_SlippedStreamsModel_give 98 = .ok (.iconst 1, 1) := by decide +kernel
theorem d_SlippedStreamsModel_give_99 : decode b_SlippedStreamsModel_give 99 = .ok (.iadd, 1) := by decide +kernel
theorem d_SlippedStreamsModel_give_100 : decode b_SlippedStreamsModel_give 100 = .ok (.invokevirtual 139, 3) := by decide +kernel
theorem d_SlippedStreamsModel_give_103 : decode b_SlippedStreamsModel_give 103 = .ok (.iconst 1, 1) := by decide +kernel
theorem d_SlippedStreamsModel_give_104 : decode b_SlippedStreamsModel_give 104 = .ok (.ireturn, 1) := by decide +kernel
theorem d_SlippedStreamsModel_moveValue_0 : decode b_SlippedStreamsModel_moveValue 0 = .ok (.aload_n 0, 1) := by decide +kernel
theorem d_SlippedStreamsModel_moveValue_1 : decode b_SlippedStreamsModel_moveValue 1 = .ok (.getfield 29, 3) := by decide +kernel
theorem d_SlippedStreamsModel_moveValue_4 : decode b_SlippedStreamsModel_moveValue 4 = .ok (.iconst 1, 1) := by decide +kernel
theorem d_SlippedStreamsModel_moveValue_5 : decode b_SlippedStreamsModel_moveValue 5 = .ok (.iaload, 1) := by decide +kernel
theorem d_SlippedStreamsModel_moveValue_6 : decode b_SlippedStreamsModel_moveValue 6 = .ok (.istore_n 1, 1) := by decide +kernel
theorem d_SlippedStreamsModel_moveValue_7 : decode b_SlippedStreamsModel_moveValue 7 = .ok (.iload_n 1, 1) := by decide +kernel
theorem d_SlippedStreamsModel_moveValue_8 : decode b_SlippedStreamsModel_moveValue 8 = .ok (.aload_n 0, 1) := by decide +kernel
theorem d_SlippedStreamsModel_moveValue_9 : decode b_SlippedStreamsModel_moveValue 9 = .ok (.getfield 62, 3) := by decide +kernel
theorem d_SlippedStreamsModel_moveValue_12 : decode b_SlippedStreamsModel_moveValue 12 = .ok (.if_icmp .lt 5, 3) := by decide +kernel
theorem d_SlippedStreamsModel_moveValue_15 : decode b_SlippedStreamsModel_moveValue 15 = .ok (.iconst 0, 1) := by decide +kernel
theorem d_SlippedStreamsModel_moveValue_16 : decode b_SlippedStreamsModel_moveValue 16 = .ok (.ireturn, 1) := by decide +kernel
theorem d_SlippedStreamsModel_moveValue_17 : decode b_SlippedStreamsModel_moveValue 17 = .ok (.aload_n 0, 1) := by decide +kernel
theorem d_SlippedStreamsModel_moveValue_18 : decode b_SlippedStreamsModel_moveValue 18 = .ok (.iload_n 1, 1) := by decide +kernel
theorem d_SlippedStreamsModel_moveValue_19 : decode b_SlippedStreamsModel_moveValue 19 = .ok (.invokevirtual 118, 3) := by decide +kernel
theorem d_SlippedStreamsModel_moveValue_22 : decode b_SlippedStreamsModel_moveValue 22 = .ok (.ifCond .ne 56, 3) := by decide +kernel
theorem d_SlippedStreamsModel_moveValue_25 : decode b_SlippedStreamsModel_moveValue 25 = .ok (.aload_n 0, 1) := by decide +kernel
theorem d_SlippedStreamsModel_moveValue_26 : decode b_SlippedStreamsModel_moveValue 26 = .ok (.iload_n 1, 1) := by decide +kernel
theorem d_SlippedStreamsModel_moveValue_27 : decode b_SlippedStreamsModel_moveValue 27 = .ok (.invokevirtual 115, 3) := by decide +kernel
theorem d_SlippedStreamsModel_moveValue_30 : decode b_SlippedStreamsModel_moveValue 30 = .ok (.ifCond .ne 9, 3) := by decide +kernel
theorem d_SlippedStreamsModel_moveValue_33 : decode b_SlippedStreamsModel_moveValue 33 = .ok (.aload_n 0, 1) := by decide +kernel
theorem d_SlippedStreamsModel_moveValue_34 : decode b_SlippedStreamsModel_moveValue 34 = .ok (.iload_n 1, 1) := by decide +kernel
theorem d_SlippedStreamsModel_moveValue_35 : decode b_SlippedStreamsModel_moveValue 35 = .ok (.invokevirtual 178, 3) := by decide +kernel
theorem d_SlippedStreamsModel_moveValue_38 : decode b_SlippedStreamsModel_moveValue 38 = .ok (.ireturn, 1) := by decide +kernel
theorem d_SlippedStreamsModel_moveValue_39 : decode b_SlippedStreamsModel_moveValue 39 = .ok (.aload_n 0, 1) := by decide +kernel
theorem d_SlippedStreamsModel_moveValue_40 : decode b_SlippedStreamsModel_moveValue 40 = .ok (.getfield 41, 3) := by decide +kernel
theorem d_SlippedStreamsModel_moveValue_43 : decode b_SlippedStreamsModel_moveValue 43 = .ok (.iconst 2, 1) := by decide +kernel
theorem d_SlippedStreamsModel_moveValue_44 : decode b_SlippedStreamsModel_moveValue 44 = .ok (.iaload, 1) := by decide +kernel
theorem d_SlippedStreamsModel_moveValue_45 : decode b_SlippedStreamsModel_moveValue 45 = .ok (.ifCond .ne 5, 3) := by decide +kernel
theorem d_SlippedStreamsModel_moveValue_48 : decode b_SlippedStreamsModel_moveValue 48 = .ok (.iconst 0, 1) := by decide +kernel
theorem d_SlippedStreamsModel_moveValue_49 : decode b_SlippedStreamsModel_moveValue 49 = .ok (.ireturn, 1) := by decide +kernel
theorem d_SlippedStreamsModel_moveValue_50 : decode b_SlippedStreamsModel_moveValue 50 = .ok (.aload_n 0, 1) := by decide +kernel
theorem d_SlippedStreamsModel_moveValue_51 : decode b_SlippedStreamsModel_moveValue 51 = .ok (.iconst 1, 1) := by decide +kernel
theorem d_SlippedStreamsModel_moveValue_52 : decode b_SlippedStreamsModel_moveValue 52 = .ok (.aload_n 0, 1) := by decide +kernel
theorem d_SlippedStreamsModel_moveValue_53 : decode b_SlippedStreamsModel_moveValue 53 = .ok (.iconst 2, 1) := by decide +kernel
theorem d_SlippedStreamsModel_moveValue_54 : decode b_SlippedStreamsModel_moveValue 54 = .ok (.invokevirtual 142, 3) := by decide +kernel
theorem d_SlippedStreamsModel_moveValue_57 : decode b_SlippedStreamsModel_moveValue 57 = .ok (.iconst 1, 1) := by decide +kernel
theorem d_SlippedStreamsModel_moveValue_58 : decode b_SlippedStreamsModel_moveValue 58 = .ok (.if_icmp .ne 12, 3) := by decide +kernel
theorem d_SlippedStreamsModel_moveValue_61 : decode b_SlippedStreamsModel_moveValue 61 = .ok (.aload_n 0, 1) := by decide +kernel
theorem d_SlippedStreamsModel_moveValue_62 : decode b_SlippedStreamsModel_moveValue 62 = .ok (.getfield 19, 3) := by decide +kernel
theorem d_SlippedStreamsModel_moveValue_65 : decode b_SlippedStreamsModel_moveValue 65 = .ok (.iload_n 1, 1) := by decide +kernel
theorem d_SlippedStreamsModel_moveValue_66 : decode b_SlippedStreamsModel_moveValue 66 = .ok (.iaload, 1) := by decide +kernel
theorem d_SlippedStreamsModel_moveValue_67 : decode b_SlippedStreamsModel_moveValue 67 = .ok (.goto 6, 3) := by decide +kernel
theorem d_SlippedStreamsModel_moveValue_70 : decode b_SlippedStreamsModel_moveValue 70 = .ok (.iload_n 1, 1) := by decide +kernel
theorem d_SlippedStreamsModel_moveValue_71 : decode b_SlippedStreamsModel_moveValue 71 = .ok (.iconst 1, 1) := by decide +kernel
theorem d_SlippedStreamsModel_moveValue_72 : decode b_SlippedStreamsModel_moveValue 72 = .ok (.iadd, 1) := by decide +kernel
theorem d_SlippedStreamsModel_moveValue_73 : decode b_SlippedStreamsModel_moveValue 73 = .ok (.invokevirtual 139, 3) := by decide +kernel
theorem d_SlippedStreamsModel_moveValue_76 : decode b_SlippedStreamsModel_moveValue 76 = .ok (.iconst 1, 1) := by decide +kernel
theorem d_SlippedStreamsModel_moveValue_77 : decode b_SlippedStreamsModel_moveValue 77 = .ok (.ireturn, 1) := by decide +kernel
theorem d_SlippedStreamsModel_moveValue_78 : decode b_SlippedStreamsModel_moveValue 78 = .ok (.aload_n 0, 1) := by decide +kernel
theorem d_SlippedStreamsModel_moveValue_79 : decode b_SlippedStreamsModel_moveValue 79 = .ok (.getfield 7, 3) := by decide +kernel
theorem d_SlippedStreamsModel_moveValue_82 : decode b_SlippedStreamsModel_moveValue 82 = .ok (.iload_n 1, 1) := by decide +kernel
theorem d_SlippedStreamsModel_moveValue_83 : decode b_SlippedStreamsModel_moveValue 83 = .ok (.iaload, 1) := by decide +kernel
theorem d_SlippedStreamsModel_moveValue_84 : decode b_SlippedStreamsModel_moveValue 84 = .ok (.iconst 4, 1) := by decide +kernel
theorem d_SlippedStreamsModel_moveValue_85 : decode b_SlippedStreamsModel_moveValue 85 = .ok (.if_icmp .eq 9, 3) := by decide +kernel
theorem d_SlippedStreamsModel_moveValue_88 : decode b_SlippedStreamsModel_moveValue 88 = .ok (.aload_n 0, 1) := by decide +kernel
theorem d_SlippedStreamsModel_moveValue_89 : decode b_SlippedStreamsModel_moveValue 89 = .ok (.iload_n 1, 1) := by decide +kernel
theorem d_SlippedStreamsModel_moveValue_90 : decode b_SlippedStreamsModel_moveValue 90 = .ok (.invokevirtual 181, 3) := by decide +kernel
theorem d_SlippedStreamsModel_moveValue_93 : decode b_SlippedStreamsModel_moveValue 93 = .ok (.ireturn, 1) := by decide +kernel
theorem d_SlippedStreamsModel_moveValue_94 : decode b_SlippedStreamsModel_moveValue 94 = .ok (.aload_n 0, 1) := by decide +kernel
theorem d_SlippedStreamsModel_moveValue_95 : decode b_SlippedStreamsModel_moveValue 95 = .ok (.getfield 41, 3) := by decide +kernel
theorem d_SlippedStreamsModel_moveValue_98 : decode b_SlippedStreamsModel_moveValue 98 = .ok (.iconst 0, 1) := by decide +kernel
theorem d_SlippedStreamsModel_moveValue_99 : decode b_SlippedStreamsModel_moveValue 99 = .ok (.iaload, 1) := by decide +kernel
theorem d_SlippedStreamsModel_moveValue_100 : decode b_SlippedStreamsModel_moveValue 100 = .ok (.ifCond .ne 5, 3) := by decide +kernel
theorem d_SlippedStreamsModel_moveValue_103 : decode b_SlippedStreamsModel_moveValue 103 = .ok (.iconst 0, 1) := by decide +kernel
theorem d_SlippedStreamsModel_moveValue_104 : decode b_SlippedStreamsModel_moveValue 104 = .ok (.ireturn, 1) := by decide +kernel
theorem d_SlippedStreamsModel_moveValue_105 : decode b_SlippedStreamsModel_moveValue 105 = .ok (.aload_n 0, 1) := by decide +kernel
theorem d_SlippedStreamsModel_moveValue_106 : decode b_SlippedStreamsModel_moveValue 106 = .ok (.getfield 26, 3) := by decide +kernel
theorem d_SlippedStreamsModel_moveValue_109 : decode b_SlippedStreamsModel_moveValue 109 = .ok (.bipush 8, 2) := by decide +kernel
theorem d_SlippedStreamsModel_moveValue_111 : decode b_SlippedStreamsModel_moveValue 111 = .ok (.aload_n 0, 1) := by decide +kernel
theorem d_SlippedStreamsModel_moveValue_112 : decode b_SlippedStreamsModel_moveValue 112 = .ok (.getfield 13, 3) := by decide +kernel
theorem d_SlippedStreamsModel_moveValue_115 : decode b_SlippedStreamsModel_moveValue 115 = .ok (.iload_n 1, 1) := by decide +kernel
theorem d_SlippedStreamsModel_moveValue_116 : decode b_SlippedStreamsModel_moveValue 116 = .ok (.iaload, 1) := by decide +kernel
theorem d_SlippedStreamsModel_moveValue_117 : decode b_SlippedStreamsModel_moveValue 117 = .ok (.iadd, 1) := by decide +kernel
theorem d_SlippedStreamsModel_moveValue_118 : decode b_SlippedStreamsModel_moveValue 118 = .ok (.aload_n 0, 1) := by decide +kernel
theorem d_SlippedStreamsModel_moveValue_119 : decode b_SlippedStreamsModel_moveValue 119 = .ok (.iconst 0, 1) := by decide +kernel
theorem d_SlippedStreamsModel_moveValue_120 : decode b_SlippedStreamsModel_moveValue 120 = .ok (.invokevirtual 142, 3) := by decide +kernel
theorem d_SlippedStreamsModel_moveValue_123 : decode b_SlippedStreamsModel_moveValue 123 = .ok (.iastore, 1) := by decide +kernel
theorem d_SlippedStreamsModel_moveValue_124 : decode b_SlippedStreamsModel_moveValue 124 = .ok (.aload_n 0, 1) := by decide +kernel
theorem d_SlippedStreamsModel_moveValue_125 : decode b_SlippedStreamsModel_moveValue 125 = .ok (.iconst 1, 1) := by decide +kernel
theorem d_SlippedStreamsModel_moveValue_126 : decode b_SlippedStreamsModel_moveValue 126 = .ok (.iload_n 1, 1) := by decide +kernel
theorem d_SlippedStreamsModel_moveValue_127 : decode b_SlippedStreamsModel_moveValue 127 = .ok (.iconst 1, 1) := by decide +kernel
theorem d_SlippedStreamsModel_moveValue_128 : decode b_SlippedStreamsModel_moveValue 128 = .ok (.iadd, 1) := by decide +kernel
theorem d_SlippedStreamsModel_moveValue_129 : decode b_SlippedStreamsModel_moveValue 129 = .ok (.invokevirtual 139, 3) := by decide +kernel
theorem d_SlippedStreamsModel_moveValue_132 : decode b_SlippedStreamsModel_moveValue 132 = .ok (.iconst 1, 1) := by decide +kernel
