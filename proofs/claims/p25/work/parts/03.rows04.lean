theorem gd_X12_write_31 : decode cX12_write 31 = .ok (.bipush (-2), 2) ∧ decode cX12_write 33 = .ok (.ireturn, 1) ∧ decode cX12_write 34 = .ok (.aload_n 0, 1) ∧ decode cX12_write 35 = .ok (.iload_n 3, 1) ∧ decode cX12_write 36 = .ok (.invokevirtual 348, 3) ∧ decode cX12_write 39 = .ok (.ifCond .eq 5, 3) ∧ decode cX12_write 44 = .ok (.aload_n 0, 1) ∧ decode cX12_write 45 = .ok (.iconst 0, 1) ∧ decode cX12_write 46 = .ok (.putfield 337, 3) ∧ decode cX12_write 49 = .ok (.iconst 0, 1) := by decide +kernel
theorem dX12_write_31 : decode cX12_write 31 = .ok (.bipush (-2), 2) := gd_X12_write_31.1
theorem dX12_write_33 : decode cX12_write 33 = .ok (.ireturn, 1) := gd_X12_write_31.2.1
theorem dX12_write_34 : decode cX12_write 34 = .ok (.aload_n 0, 1) := gd_X12_write_31.2.2.1
theorem dX12_write_35 : decode cX12_write 35 = .ok (.iload_n 3, 1) := gd_X12_write_31.2.2.2.1
theorem dX12_write_36 : decode cX12_write 36 = .ok (.invokevirtual 348, 3) := gd_X12_write_31.2.2.2.2.1
theorem dX12_write_39 : decode cX12_write 39 = .ok (.ifCond .eq 5, 3) := gd_X12_write_31.2.2.2.2.2.1
theorem dX12_write_44 : decode cX12_write 44 = .ok (.aload_n 0, 1) := gd_X12_write_31.2.2.2.2.2.2.1
theorem dX12_write_45 : decode cX12_write 45 = .ok (.iconst 0, 1) := gd_X12_write_31.2.2.2.2.2.2.2.1
theorem dX12_write_46 : decode cX12_write 46 = .ok (.putfield 337, 3) := gd_X12_write_31.2.2.2.2.2.2.2.2.1
theorem dX12_write_49 : decode cX12_write 49 = .ok (.iconst 0, 1) := gd_X12_write_31.2.2.2.2.2.2.2.2.2
theorem gd_X12_write_50 : decode cX12_write 50 = .ok (.istore 4, 2) ∧ decode cX12_write 52 = .ok (.iload 4, 2) ∧ decode cX12_write 54 = .ok (.iconst 5, 1) ∧ decode cX12_write 55 = .ok (.if_icmp .ge 17, 3) ∧ decode cX12_write 58 = .ok (.aload_n 0, 1) ∧ decode cX12_write 59 = .ok (.getfield 140, 3) ∧ decode cX12_write 62 = .ok (.iload 4, 2) ∧ decode cX12_write 64 = .ok (.iconst 0, 1) ∧ decode cX12_write 65 = .ok (.iastore, 1) ∧ decode cX12_write 66 = .ok (.iinc 4 1, 3) := by decide +kernel
theorem dX12_write_50 : decode cX12_write 50 = .ok (.istore 4, 2) := gd_X12_write_50.1
theorem dX12_write_52 : decode cX12_write 52 = .ok (.iload 4, 2) := gd_X12_write_50.2.1
theorem dX12_write_54 : decode cX12_write 54 = .ok (.iconst 5, 1) := gd_X12_write_50.2.2.1
theorem dX12_write_55 : decode cX12_write 55 = .ok (.if_icmp .ge 17, 3) := gd_X12_write_50.2.2.2.1
theorem dX12_write_58 : decode cX12_write 58 = .ok (.aload_n 0, 1) := gd_X12_write_50.2.2.2.2.1
theorem dX12_write_59 : decode cX12_write 59 = .ok (.getfield 140, 3) := gd_X12_write_50.2.2.2.2.2.1
theorem dX12_write_62 : decode cX12_write 62 = .ok (.iload 4, 2) := gd_X12_write_50.2.2.2.2.2.2.1
theorem dX12_write_64 : decode cX12_write 64 = .ok (.iconst 0, 1) := gd_X12_write_50.2.2.2.2.2.2.2.1
theorem dX12_write_65 : decode cX12_write 65 = .ok (.iastore, 1) := gd_X12_write_50.2.2.2.2.2.2.2.2.1
theorem dX12_write_66 : decode cX12_write 66 = .ok (.iinc 4 1, 3) := gd_X12_write_50.2.2.2.2.2.2.2.2.2
theorem gd_X12_write_69 : decode cX12_write 69 = .ok (.goto (-17), 3) ∧ decode cX12_write 72 = .ok (.iconst 0, 1) ∧ decode cX12_write 73 = .ok (.istore 4, 2) ∧ decode cX12_write 75 = .ok (.iload 4, 2) ∧ decode cX12_write 77 = .ok (.iload_n 3, 1) ∧ decode cX12_write 78 = .ok (.if_icmp .ge 130, 3) ∧ decode cX12_write 208 = .ok (.aload_n 0, 1) ∧ decode cX12_write 209 = .ok (.aload_n 0, 1) ∧ decode cX12_write 210 = .ok (.getfield 337, 3) ∧ decode cX12_write 213 = .ok (.putfield 361, 3) := by decide +kernel
theorem dX12_write_69 : decode cX12_write 69 = .ok (.goto (-17), 3) := gd_X12_write_69.1
theorem dX12_write_72 : decode cX12_write 72 = .ok (.iconst 0, 1) := gd_X12_write_69.2.1
theorem dX12_write_73 : decode cX12_write 73 = .ok (.istore 4, 2) := gd_X12_write_69.2.2.1
theorem dX12_write_75 : decode cX12_write 75 = .ok (.iload 4, 2) := gd_X12_write_69.2.2.2.1
theorem dX12_write_77 : decode cX12_write 77 = .ok (.iload_n 3, 1) := gd_X12_write_69.2.2.2.2.1
theorem dX12_write_78 : decode cX12_write 78 = .ok (.if_icmp .ge 130, 3) := gd_X12_write_69.2.2.2.2.2.1
theorem dX12_write_208 : decode cX12_write 208 = .ok (.aload_n 0, 1) := gd_X12_write_69.2.2.2.2.2.2.1
theorem dX12_write_209 : decode cX12_write 209 = .ok (.aload_n 0, 1) := gd_X12_write_69.2.2.2.2.2.2.2.1
theorem dX12_write_210 : decode cX12_write 210 = .ok (.getfield 337, 3) := gd_X12_write_69.2.2.2.2.2.2.2.2.1
theorem dX12_write_213 : decode cX12_write 213 = .ok (.putfield 361, 3) := gd_X12_write_69.2.2.2.2.2.2.2.2.2
theorem gd_X12_write_216 : decode cX12_write 216 = .ok (.aload_n 0, 1) ∧ decode cX12_write 217 = .ok (.iconst 1, 1) ∧ decode cX12_write 218 = .ok (.putfield 364, 3) ∧ decode cX12_write 221 = .ok (.iconst 0, 1) ∧ decode cX12_write 222 = .ok (.istore 5, 2) ∧ decode cX12_write 224 = .ok (.iload 5, 2) ∧ decode cX12_write 226 = .ok (.aload_n 0, 1) ∧ decode cX12_write 227 = .ok (.getfield 337, 3) ∧ decode cX12_write 230 = .ok (.if_icmp .ge 23, 3) ∧ decode cX12_write 253 = .ok (.iconst 0, 1) := by decide +kernel
theorem dX12_write_216 : decode cX12_write 216 = .ok (.aload_n 0, 1) := gd_X12_write_216.1
theorem dX12_write_217 : decode cX12_write 217 = .ok (.iconst 1, 1) := gd_X12_write_216.2.1
theorem dX12_write_218 : decode cX12_write 218 = .ok (.putfield 364, 3) := gd_X12_write_216.2.2.1
theorem dX12_write_221 : decode cX12_write 221 = .ok (.iconst 0, 1) := gd_X12_write_216.2.2.2.1
theorem dX12_write_222 : decode cX12_write 222 = .ok (.istore 5, 2) := gd_X12_write_216.2.2.2.2.1
theorem dX12_write_224 : decode cX12_write 224 = .ok (.iload 5, 2) := gd_X12_write_216.2.2.2.2.2.1
theorem dX12_write_226 : decode cX12_write 226 = .ok (.aload_n 0, 1) := gd_X12_write_216.2.2.2.2.2.2.1
theorem dX12_write_227 : decode cX12_write 227 = .ok (.getfield 337, 3) := gd_X12_write_216.2.2.2.2.2.2.2.1
theorem dX12_write_230 : decode cX12_write 230 = .ok (.if_icmp .ge 23, 3) := gd_X12_write_216.2.2.2.2.2.2.2.2.1
theorem dX12_write_253 : decode cX12_write 253 = .ok (.iconst 0, 1) := gd_X12_write_216.2.2.2.2.2.2.2.2.2
theorem gd_X12_write_254 : decode cX12_write 254 = .ok (.istore 5, 2) ∧ decode cX12_write 256 = .ok (.iload 5, 2) ∧ decode cX12_write 258 = .ok (.iconst 5, 1) ∧ decode cX12_write 259 = .ok (.if_icmp .ge 23, 3) ∧ decode cX12_write 262 = .ok (.aload_n 0, 1) ∧ decode cX12_write 263 = .ok (.getfield 137, 3) ∧ decode cX12_write 266 = .ok (.iload 5, 2) ∧ decode cX12_write 268 = .ok (.aload_n 0, 1) ∧ decode cX12_write 269 = .ok (.getfield 140, 3) ∧ decode cX12_write 272 = .ok (.iload 5, 2) := by decide +kernel
theorem dX12_write_254 : decode cX12_write 254 = .ok (.istore 5, 2) := gd_X12_write_254.1
theorem dX12_write_256 : decode cX12_write 256 = .ok (.iload 5, 2) := gd_X12_write_254.2.1
theorem dX12_write_258 : decode cX12_write 258 = .ok (.iconst 5, 1) := gd_X12_write_254.2.2.1
theorem dX12_write_259 : decode cX12_write 259 = .ok (.if_icmp .ge 23, 3) := gd_X12_write_254.2.2.2.1
theorem dX12_write_262 : decode cX12_write 262 = .ok (.aload_n 0, 1) := gd_X12_write_254.2.2.2.2.1
theorem dX12_write_263 : decode cX12_write 263 = .ok (.getfield 137, 3) := gd_X12_write_254.2.2.2.2.2.1
theorem dX12_write_266 : decode cX12_write 266 = .ok (.iload 5, 2) := gd_X12_write_254.2.2.2.2.2.2.1
theorem dX12_write_268 : decode cX12_write 268 = .ok (.aload_n 0, 1) := gd_X12_write_254.2.2.2.2.2.2.2.1
theorem dX12_write_269 : decode cX12_write 269 = .ok (.getfield 140, 3) := gd_X12_write_254.2.2.2.2.2.2.2.2.1
theorem dX12_write_272 : decode cX12_write 272 = .ok (.iload 5, 2) := gd_X12_write_254.2.2.2.2.2.2.2.2.2
theorem gd_X12_write_274 : decode cX12_write 274 = .ok (.iaload, 1) ∧ decode cX12_write 275 = .ok (.iastore, 1) ∧ decode cX12_write 276 = .ok (.iinc 5 1, 3) ∧ decode cX12_write 279 = .ok (.goto (-23), 3) ∧ decode cX12_write 282 = .ok (.aload_n 0, 1) ∧ decode cX12_write 283 = .ok (.getfield 361, 3) ∧ decode cX12_write 286 = .ok (.ireturn, 1) ∧ decode cX12_written 0 = .ok (.iload_n 1, 1) ∧ decode cX12_written 1 = .ok (.iconst 0, 1) ∧ decode cX12_written 2 = .ok (.aload_n 0, 1) := by decide +kernel
theorem dX12_write_274 : decode cX12_write 274 = .ok (.iaload, 1) := gd_X12_write_274.1
theorem dX12_write_275 : decode cX12_write 275 = .ok (.iastore, 1) := gd_X12_write_274.2.1
theorem dX12_write_276 : decode cX12_write 276 = .ok (.iinc 5 1, 3) := gd_X12_write_274.2.2.1
theorem dX12_write_279 : decode cX12_write 279 = .ok (.goto (-23), 3) := gd_X12_write_274.2.2.2.1
theorem dX12_write_282 : decode cX12_write 282 = .ok (.aload_n 0, 1) := gd_X12_write_274.2.2.2.2.1
theorem dX12_write_283 : decode cX12_write 283 = .ok (.getfield 361, 3) := gd_X12_write_274.2.2.2.2.2.1
theorem dX12_write_286 : decode cX12_write 286 = .ok (.ireturn, 1) := gd_X12_write_274.2.2.2.2.2.2.1
theorem dX12_written_0 : decode cX12_written 0 = .ok (.iload_n 1, 1) := gd_X12_write_274.2.2.2.2.2.2.2.1
theorem dX12_written_1 : decode cX12_written 1 = .ok (.iconst 0, 1) := gd_X12_write_274.2.2.2.2.2.2.2.2.1
theorem dX12_written_2 : decode cX12_written 2 = .ok (.aload_n 0, 1) := gd_X12_write_274.2.2.2.2.2.2.2.2.2
theorem gd_X12_written_3 : decode cX12_written 3 = .ok (.getfield 361, 3) ∧ decode cX12_written 6 = .ok (.iconst 1, 1) ∧ decode cX12_written 7 = .ok (.isub, 1) ∧ decode cX12_written 8 = .ok (.invokestatic 226, 3) ∧ decode cX12_written 11 = .ok (.ifCond .eq 16, 3) ∧ decode cX12_written 27 = .ok (.iconst (-1), 1) ∧ decode cX12_written 28 = .ok (.ireturn, 1) ∧ decode cX12_counted 0 = .ok (.aload_n 0, 1) ∧ decode cX12_counted 1 = .ok (.getfield 364, 3) ∧ decode cX12_counted 4 = .ok (.ifCond .eq 21, 3) := by decide +kernel
theorem dX12_written_3 : decode cX12_written 3 = .ok (.getfield 361, 3) := gd_X12_written_3.1
theorem dX12_written_6 : decode cX12_written 6 = .ok (.iconst 1, 1) := gd_X12_written_3.2.1
theorem dX12_written_7 : decode cX12_written 7 = .ok (.isub, 1) := gd_X12_written_3.2.2.1
theorem dX12_written_8 : decode cX12_written 8 = .ok (.invokestatic 226, 3) := gd_X12_written_3.2.2.2.1
theorem dX12_written_11 : decode cX12_written 11 = .ok (.ifCond .eq 16, 3) := gd_X12_written_3.2.2.2.2.1
theorem dX12_written_27 : decode cX12_written 27 = .ok (.iconst (-1), 1) := gd_X12_written_3.2.2.2.2.2.1
theorem dX12_written_28 : decode cX12_written 28 = .ok (.ireturn, 1) := gd_X12_written_3.2.2.2.2.2.2.1
theorem dX12_counted_0 : decode cX12_counted 0 = .ok (.aload_n 0, 1) := gd_X12_written_3.2.2.2.2.2.2.2.1
theorem dX12_counted_1 : decode cX12_counted 1 = .ok (.getfield 364, 3) := gd_X12_written_3.2.2.2.2.2.2.2.2.1
theorem dX12_counted_4 : decode cX12_counted 4 = .ok (.ifCond .eq 21, 3) := gd_X12_written_3.2.2.2.2.2.2.2.2.2
theorem gd_X12_counted_25 : decode cX12_counted 25 = .ok (.iconst (-1), 1) ∧ decode cX12_counted 26 = .ok (.ireturn, 1) ∧ decode cX12_mixed 0 = .ok (.aload_n 0, 1) ∧ decode cX12_mixed 1 = .ok (.getfield 152, 3) ∧ decode cX12_mixed 4 = .ok (.istore_n 2, 1) ∧ decode cX12_mixed 5 = .ok (.aload_n 0, 1) ∧ decode cX12_mixed 6 = .ok (.iconst 0, 1) ∧ decode cX12_mixed 7 = .ok (.putfield 152, 3) ∧ decode cX12_mixed 10 = .ok (.iload_n 1, 1) ∧ decode cX12_mixed 11 = .ok (.iconst 0, 1) := by decide +kernel
theorem dX12_counted_25 : decode cX12_counted 25 = .ok (.iconst (-1), 1) := gd_X12_counted_25.1
theorem dX12_counted_26 : decode cX12_counted 26 = .ok (.ireturn, 1) := gd_X12_counted_25.2.1
theorem dX12_mixed_0 : decode cX12_mixed 0 = .ok (.aload_n 0, 1) := gd_X12_counted_25.2.2.1
theorem dX12_mixed_1 : decode cX12_mixed 1 = .ok (.getfield 152, 3) := gd_X12_counted_25.2.2.2.1
theorem dX12_mixed_4 : decode cX12_mixed 4 = .ok (.istore_n 2, 1) := gd_X12_counted_25.2.2.2.2.1
theorem dX12_mixed_5 : decode cX12_mixed 5 = .ok (.aload_n 0, 1) := gd_X12_counted_25.2.2.2.2.2.1
theorem dX12_mixed_6 : decode cX12_mixed 6 = .ok (.iconst 0, 1) := gd_X12_counted_25.2.2.2.2.2.2.1
theorem dX12_mixed_7 : decode cX12_mixed 7 = .ok (.putfield 152, 3) := gd_X12_counted_25.2.2.2.2.2.2.2.1
theorem dX12_mixed_10 : decode cX12_mixed 10 = .ok (.iload_n 1, 1) := gd_X12_counted_25.2.2.2.2.2.2.2.2.1
theorem dX12_mixed_11 : decode cX12_mixed 11 = .ok (.iconst 0, 1) := gd_X12_counted_25.2.2.2.2.2.2.2.2.2
theorem gd_X12_mixed_12 : decode cX12_mixed 12 = .ok (.bipush 50, 2) ∧ decode cX12_mixed 14 = .ok (.invokestatic 226, 3) ∧ decode cX12_mixed 17 = .ok (.ifCond .ne 6, 3) ∧ decode cX12_mixed 20 = .ok (.bipush (-2), 2) ∧ decode cX12_mixed 22 = .ok (.ireturn, 1) ∧ decode cX12_mixed 23 = .ok (.aload_n 0, 1) ∧ decode cX12_mixed 24 = .ok (.iload_n 2, 1) ∧ decode cX12_mixed 25 = .ok (.invokevirtual 348, 3) ∧ decode cX12_mixed 28 = .ok (.ifCond .eq 5, 3) ∧ decode cX12_mixed 33 = .ok (.iconst 1, 1) := by decide +kernel
theorem dX12_mixed_12 : decode cX12_mixed 12 = .ok (.bipush 50, 2) := gd_X12_mixed_12.1
theorem dX12_mixed_14 : decode cX12_mixed 14 = .ok (.invokestatic 226, 3) := gd_X12_mixed_12.2.1
theorem dX12_mixed_17 : decode cX12_mixed 17 = .ok (.ifCond .ne 6, 3) := gd_X12_mixed_12.2.2.1
theorem dX12_mixed_20 : decode cX12_mixed 20 = .ok (.bipush (-2), 2) := gd_X12_mixed_12.2.2.2.1
theorem dX12_mixed_22 : decode cX12_mixed 22 = .ok (.ireturn, 1) := gd_X12_mixed_12.2.2.2.2.1
theorem dX12_mixed_23 : decode cX12_mixed 23 = .ok (.aload_n 0, 1) := gd_X12_mixed_12.2.2.2.2.2.1
theorem dX12_mixed_24 : decode cX12_mixed 24 = .ok (.iload_n 2, 1) := gd_X12_mixed_12.2.2.2.2.2.2.1
theorem dX12_mixed_25 : decode cX12_mixed 25 = .ok (.invokevirtual 348, 3) := gd_X12_mixed_12.2.2.2.2.2.2.2.1
theorem dX12_mixed_28 : decode cX12_mixed 28 = .ok (.ifCond .eq 5, 3) := gd_X12_mixed_12.2.2.2.2.2.2.2.2.1
theorem dX12_mixed_33 : decode cX12_mixed 33 = .ok (.iconst 1, 1) := gd_X12_mixed_12.2.2.2.2.2.2.2.2.2
theorem gd_X12_mixed_34 : decode cX12_mixed 34 = .ok (.istore_n 3, 1) ∧ decode cX12_mixed 35 = .ok (.iconst 0, 1) ∧ decode cX12_mixed 36 = .ok (.istore 4, 2) ∧ decode cX12_mixed 38 = .ok (.iload 4, 2) ∧ decode cX12_mixed 40 = .ok (.iload_n 2, 1) ∧ decode cX12_mixed 41 = .ok (.if_icmp .ge 29, 3) ∧ decode cX12_mixed 70 = .ok (.iload_n 3, 1) ∧ decode cX12_mixed 71 = .ok (.bipush 40, 2) ∧ decode cX12_mixed 73 = .ok (.if_icmp .le 5, 3) ∧ decode cX12_mixed 78 = .ok (.aload_n 0, 1) := by decide +kernel
theorem dX12_mixed_34 : decode cX12_mixed 34 = .ok (.istore_n 3, 1) := gd_X12_mixed_34.1
theorem dX12_mixed_35 : decode cX12_mixed 35 = .ok (.iconst 0, 1) := gd_X12_mixed_34.2.1
theorem dX12_mixed_36 : decode cX12_mixed 36 = .ok (.istore 4, 2) := gd_X12_mixed_34.2.2.1
theorem dX12_mixed_38 : decode cX12_mixed 38 = .ok (.iload 4, 2) := gd_X12_mixed_34.2.2.2.1
theorem dX12_mixed_40 : decode cX12_mixed 40 = .ok (.iload_n 2, 1) := gd_X12_mixed_34.2.2.2.2.1
theorem dX12_mixed_41 : decode cX12_mixed 41 = .ok (.if_icmp .ge 29, 3) := gd_X12_mixed_34.2.2.2.2.2.1
theorem dX12_mixed_70 : decode cX12_mixed 70 = .ok (.iload_n 3, 1) := gd_X12_mixed_34.2.2.2.2.2.2.1
theorem dX12_mixed_71 : decode cX12_mixed 71 = .ok (.bipush 40, 2) := gd_X12_mixed_34.2.2.2.2.2.2.2.1
theorem dX12_mixed_73 : decode cX12_mixed 73 = .ok (.if_icmp .le 5, 3) := gd_X12_mixed_34.2.2.2.2.2.2.2.2.1
theorem dX12_mixed_78 : decode cX12_mixed 78 = .ok (.aload_n 0, 1) := gd_X12_mixed_34.2.2.2.2.2.2.2.2.2
theorem gd_X12_mixed_79 : decode cX12_mixed 79 = .ok (.invokevirtual 315, 3) ∧ decode cX12_mixed 82 = .ok (.iconst 0, 1) ∧ decode cX12_mixed 83 = .ok (.istore 4, 2) ∧ decode cX12_mixed 85 = .ok (.iload 4, 2) ∧ decode cX12_mixed 87 = .ok (.sipush 280, 3) ∧ decode cX12_mixed 90 = .ok (.if_icmp .ge 17, 3) ∧ decode cX12_mixed 93 = .ok (.aload_n 0, 1) ∧ decode cX12_mixed 94 = .ok (.getfield 143, 3) ∧ decode cX12_mixed 97 = .ok (.iload 4, 2) ∧ decode cX12_mixed 99 = .ok (.iconst 0, 1) := by decide +kernel
theorem dX12_mixed_79 : decode cX12_mixed 79 = .ok (.invokevirtual 315, 3) := gd_X12_mixed_79.1
theorem dX12_mixed_82 : decode cX12_mixed 82 = .ok (.iconst 0, 1) := gd_X12_mixed_79.2.1
theorem dX12_mixed_83 : decode cX12_mixed 83 = .ok (.istore 4, 2) := gd_X12_mixed_79.2.2.1
theorem dX12_mixed_85 : decode cX12_mixed 85 = .ok (.iload 4, 2) := gd_X12_mixed_79.2.2.2.1
theorem dX12_mixed_87 : decode cX12_mixed 87 = .ok (.sipush 280, 3) := gd_X12_mixed_79.2.2.2.2.1
theorem dX12_mixed_90 : decode cX12_mixed 90 = .ok (.if_icmp .ge 17, 3) := gd_X12_mixed_79.2.2.2.2.2.1
theorem dX12_mixed_93 : decode cX12_mixed 93 = .ok (.aload_n 0, 1) := gd_X12_mixed_79.2.2.2.2.2.2.1
theorem dX12_mixed_94 : decode cX12_mixed 94 = .ok (.getfield 143, 3) := gd_X12_mixed_79.2.2.2.2.2.2.2.1
theorem dX12_mixed_97 : decode cX12_mixed 97 = .ok (.iload 4, 2) := gd_X12_mixed_79.2.2.2.2.2.2.2.2.1
theorem dX12_mixed_99 : decode cX12_mixed 99 = .ok (.iconst 0, 1) := gd_X12_mixed_79.2.2.2.2.2.2.2.2.2
theorem gd_X12_mixed_100 : decode cX12_mixed 100 = .ok (.iastore, 1) ∧ decode cX12_mixed 101 = .ok (.iinc 4 1, 3) ∧ decode cX12_mixed 104 = .ok (.goto (-19), 3) ∧ decode cX12_mixed 107 = .ok (.iconst 0, 1) ∧ decode cX12_mixed 108 = .ok (.istore 4, 2) ∧ decode cX12_mixed 110 = .ok (.iconst 0, 1) ∧ decode cX12_mixed 111 = .ok (.istore 5, 2) ∧ decode cX12_mixed 113 = .ok (.iload 5, 2) ∧ decode cX12_mixed 115 = .ok (.iload_n 2, 1) ∧ decode cX12_mixed 116 = .ok (.if_icmp .ge 198, 3) := by decide +kernel
theorem dX12_mixed_100 : decode cX12_mixed 100 = .ok (.iastore, 1) := gd_X12_mixed_100.1
theorem dX12_mixed_101 : decode cX12_mixed 101 = .ok (.iinc 4 1, 3) := gd_X12_mixed_100.2.1
theorem dX12_mixed_104 : decode cX12_mixed 104 = .ok (.goto (-19), 3) := gd_X12_mixed_100.2.2.1
theorem dX12_mixed_107 : decode cX12_mixed 107 = .ok (.iconst 0, 1) := gd_X12_mixed_100.2.2.2.1
theorem dX12_mixed_108 : decode cX12_mixed 108 = .ok (.istore 4, 2) := gd_X12_mixed_100.2.2.2.2.1
theorem dX12_mixed_110 : decode cX12_mixed 110 = .ok (.iconst 0, 1) := gd_X12_mixed_100.2.2.2.2.2.1
theorem dX12_mixed_111 : decode cX12_mixed 111 = .ok (.istore 5, 2) := gd_X12_mixed_100.2.2.2.2.2.2.1
theorem dX12_mixed_113 : decode cX12_mixed 113 = .ok (.iload 5, 2) := gd_X12_mixed_100.2.2.2.2.2.2.2.1
theorem dX12_mixed_115 : decode cX12_mixed 115 = .ok (.iload_n 2, 1) := gd_X12_mixed_100.2.2.2.2.2.2.2.2.1
theorem dX12_mixed_116 : decode cX12_mixed 116 = .ok (.if_icmp .ge 198, 3) := gd_X12_mixed_100.2.2.2.2.2.2.2.2.2
theorem gd_X12_mixed_314 : decode cX12_mixed 314 = .ok (.iconst 0, 1) ∧ decode cX12_mixed 315 = .ok (.istore 6, 2) ∧ decode cX12_mixed 317 = .ok (.iload 6, 2) ∧ decode cX12_mixed 319 = .ok (.aload_n 0, 1) ∧ decode cX12_mixed 320 = .ok (.getfield 222, 3) ∧ decode cX12_mixed 323 = .ok (.if_icmp .gt 22, 3) ∧ decode cX12_mixed 326 = .ok (.aload_n 0, 1) ∧ decode cX12_mixed 327 = .ok (.getfield 146, 3) ∧ decode cX12_mixed 330 = .ok (.bipush 7, 2) ∧ decode cX12_mixed 332 = .ok (.iload_n 3, 1) := by decide +kernel
theorem dX12_mixed_314 : decode cX12_mixed 314 = .ok (.iconst 0, 1) := gd_X12_mixed_314.1
theorem dX12_mixed_315 : decode cX12_mixed 315 = .ok (.istore 6, 2) := gd_X12_mixed_314.2.1
theorem dX12_mixed_317 : decode cX12_mixed 317 = .ok (.iload 6, 2) := gd_X12_mixed_314.2.2.1
theorem dX12_mixed_319 : decode cX12_mixed 319 = .ok (.aload_n 0, 1) := gd_X12_mixed_314.2.2.2.1
theorem dX12_mixed_320 : decode cX12_mixed 320 = .ok (.getfield 222, 3) := gd_X12_mixed_314.2.2.2.2.1
theorem dX12_mixed_323 : decode cX12_mixed 323 = .ok (.if_icmp .gt 22, 3) := gd_X12_mixed_314.2.2.2.2.2.1
theorem dX12_mixed_326 : decode cX12_mixed 326 = .ok (.aload_n 0, 1) := gd_X12_mixed_314.2.2.2.2.2.2.1
theorem dX12_mixed_327 : decode cX12_mixed 327 = .ok (.getfield 146, 3) := gd_X12_mixed_314.2.2.2.2.2.2.2.1
theorem dX12_mixed_330 : decode cX12_mixed 330 = .ok (.bipush 7, 2) := gd_X12_mixed_314.2.2.2.2.2.2.2.2.1
theorem dX12_mixed_332 : decode cX12_mixed 332 = .ok (.iload_n 3, 1) := gd_X12_mixed_314.2.2.2.2.2.2.2.2.2
theorem gd_X12_mixed_333 : decode cX12_mixed 333 = .ok (.imul, 1) ∧ decode cX12_mixed 334 = .ok (.iload 6, 2) ∧ decode cX12_mixed 336 = .ok (.iadd, 1) ∧ decode cX12_mixed 337 = .ok (.iconst 0, 1) ∧ decode cX12_mixed 338 = .ok (.iastore, 1) ∧ decode cX12_mixed 339 = .ok (.iinc 6 1, 3) ∧ decode cX12_mixed 342 = .ok (.goto (-25), 3) ∧ decode cX12_mixed 345 = .ok (.iload_n 3, 1) ∧ decode cX12_mixed 346 = .ok (.iconst 1, 1) ∧ decode cX12_mixed 347 = .ok (.isub, 1) := by decide +kernel
theorem dX12_mixed_333 : decode cX12_mixed 333 = .ok (.imul, 1) := gd_X12_mixed_333.1
theorem dX12_mixed_334 : decode cX12_mixed 334 = .ok (.iload 6, 2) := gd_X12_mixed_333.2.1
theorem dX12_mixed_336 : decode cX12_mixed 336 = .ok (.iadd, 1) := gd_X12_mixed_333.2.2.1
theorem dX12_mixed_337 : decode cX12_mixed 337 = .ok (.iconst 0, 1) := gd_X12_mixed_333.2.2.2.1
theorem dX12_mixed_338 : decode cX12_mixed 338 = .ok (.iastore, 1) := gd_X12_mixed_333.2.2.2.2.1
theorem dX12_mixed_339 : decode cX12_mixed 339 = .ok (.iinc 6 1, 3) := gd_X12_mixed_333.2.2.2.2.2.1
theorem dX12_mixed_342 : decode cX12_mixed 342 = .ok (.goto (-25), 3) := gd_X12_mixed_333.2.2.2.2.2.2.1
theorem dX12_mixed_345 : decode cX12_mixed 345 = .ok (.iload_n 3, 1) := gd_X12_mixed_333.2.2.2.2.2.2.2.1
theorem dX12_mixed_346 : decode cX12_mixed 346 = .ok (.iconst 1, 1) := gd_X12_mixed_333.2.2.2.2.2.2.2.2.1
theorem dX12_mixed_347 : decode cX12_mixed 347 = .ok (.isub, 1) := gd_X12_mixed_333.2.2.2.2.2.2.2.2.2
theorem gd_X12_mixed_348 : decode cX12_mixed 348 = .ok (.istore 6, 2) ∧ decode cX12_mixed 350 = .ok (.iload 6, 2) ∧ decode cX12_mixed 352 = .ok (.ifCond .lt 77, 3) ∧ decode cX12_mixed 355 = .ok (.iconst 0, 1) ∧ decode cX12_mixed 356 = .ok (.istore 7, 2) ∧ decode cX12_mixed 358 = .ok (.iload 7, 2) ∧ decode cX12_mixed 360 = .ok (.aload_n 0, 1) ∧ decode cX12_mixed 361 = .ok (.getfield 222, 3) ∧ decode cX12_mixed 364 = .ok (.if_icmp .gt 59, 3) ∧ decode cX12_mixed 367 = .ok (.aload_n 0, 1) := by decide +kernel
theorem dX12_mixed_348 : decode cX12_mixed 348 = .ok (.istore 6, 2) := gd_X12_mixed_348.1
theorem dX12_mixed_350 : decode cX12_mixed 350 = .ok (.iload 6, 2) := gd_X12_mixed_348.2.1
theorem dX12_mixed_352 : decode cX12_mixed 352 = .ok (.ifCond .lt 77, 3) := gd_X12_mixed_348.2.2.1
theorem dX12_mixed_355 : decode cX12_mixed 355 = .ok (.iconst 0, 1) := gd_X12_mixed_348.2.2.2.1
theorem dX12_mixed_356 : decode cX12_mixed 356 = .ok (.istore 7, 2) := gd_X12_mixed_348.2.2.2.2.1
theorem dX12_mixed_358 : decode cX12_mixed 358 = .ok (.iload 7, 2) := gd_X12_mixed_348.2.2.2.2.2.1
theorem dX12_mixed_360 : decode cX12_mixed 360 = .ok (.aload_n 0, 1) := gd_X12_mixed_348.2.2.2.2.2.2.1
theorem dX12_mixed_361 : decode cX12_mixed 361 = .ok (.getfield 222, 3) := gd_X12_mixed_348.2.2.2.2.2.2.2.1
theorem dX12_mixed_364 : decode cX12_mixed 364 = .ok (.if_icmp .gt 59, 3) := gd_X12_mixed_348.2.2.2.2.2.2.2.2.1
theorem dX12_mixed_367 : decode cX12_mixed 367 = .ok (.aload_n 0, 1) := gd_X12_mixed_348.2.2.2.2.2.2.2.2.2
theorem gd_X12_mixed_368 : decode cX12_mixed 368 = .ok (.getfield 146, 3) ∧ decode cX12_mixed 371 = .ok (.bipush 7, 2) ∧ decode cX12_mixed 373 = .ok (.iload 6, 2) ∧ decode cX12_mixed 375 = .ok (.imul, 1) ∧ decode cX12_mixed 376 = .ok (.iload 7, 2) ∧ decode cX12_mixed 378 = .ok (.iadd, 1) ∧ decode cX12_mixed 379 = .ok (.aload_n 0, 1) ∧ decode cX12_mixed 380 = .ok (.getfield 143, 3) ∧ decode cX12_mixed 383 = .ok (.bipush 7, 2) ∧ decode cX12_mixed 385 = .ok (.iload 6, 2) := by decide +kernel
theorem dX12_mixed_368 : decode cX12_mixed 368 = .ok (.getfield 146, 3) := gd_X12_mixed_368.1
theorem dX12_mixed_371 : decode cX12_mixed 371 = .ok (.bipush 7, 2) := gd_X12_mixed_368.2.1
theorem dX12_mixed_373 : decode cX12_mixed 373 = .ok (.iload 6, 2) := gd_X12_mixed_368.2.2.1
theorem dX12_mixed_375 : decode cX12_mixed 375 = .ok (.imul, 1) := gd_X12_mixed_368.2.2.2.1
theorem dX12_mixed_376 : decode cX12_mixed 376 = .ok (.iload 7, 2) := gd_X12_mixed_368.2.2.2.2.1
theorem dX12_mixed_378 : decode cX12_mixed 378 = .ok (.iadd, 1) := gd_X12_mixed_368.2.2.2.2.2.1
theorem dX12_mixed_379 : decode cX12_mixed 379 = .ok (.aload_n 0, 1) := gd_X12_mixed_368.2.2.2.2.2.2.1
theorem dX12_mixed_380 : decode cX12_mixed 380 = .ok (.getfield 143, 3) := gd_X12_mixed_368.2.2.2.2.2.2.2.1
theorem dX12_mixed_383 : decode cX12_mixed 383 = .ok (.bipush 7, 2) := gd_X12_mixed_368.2.2.2.2.2.2.2.2.1
theorem dX12_mixed_385 : decode cX12_mixed 385 = .ok (.iload 6, 2) := gd_X12_mixed_368.2.2.2.2.2.2.2.2.2
theorem gd_X12_mixed_387 : decode cX12_mixed 387 = .ok (.imul, 1) ∧ decode cX12_mixed 388 = .ok (.iload 7, 2) ∧ decode cX12_mixed 390 = .ok (.iadd, 1) ∧ decode cX12_mixed 391 = .ok (.iaload, 1) ∧ decode cX12_mixed 392 = .ok (.iload 6, 2) ∧ decode cX12_mixed 394 = .ok (.iconst 1, 1) ∧ decode cX12_mixed 395 = .ok (.iadd, 1) ∧ decode cX12_mixed 396 = .ok (.iload_n 3, 1) ∧ decode cX12_mixed 397 = .ok (.if_icmp .ge 17, 3) ∧ decode cX12_mixed 414 = .ok (.iconst 0, 1) := by decide +kernel
theorem dX12_mixed_387 : decode cX12_mixed 387 = .ok (.imul, 1) := gd_X12_mixed_387.1
theorem dX12_mixed_388 : decode cX12_mixed 388 = .ok (.iload 7, 2) := gd_X12_mixed_387.2.1
theorem dX12_mixed_390 : decode cX12_mixed 390 = .ok (.iadd, 1) := gd_X12_mixed_387.2.2.1
theorem dX12_mixed_391 : decode cX12_mixed 391 = .ok (.iaload, 1) := gd_X12_mixed_387.2.2.2.1
theorem dX12_mixed_392 : decode cX12_mixed 392 = .ok (.iload 6, 2) := gd_X12_mixed_387.2.2.2.2.1
theorem dX12_mixed_394 : decode cX12_mixed 394 = .ok (.iconst 1, 1) := gd_X12_mixed_387.2.2.2.2.2.1
theorem dX12_mixed_395 : decode cX12_mixed 395 = .ok (.iadd, 1) := gd_X12_mixed_387.2.2.2.2.2.2.1
theorem dX12_mixed_396 : decode cX12_mixed 396 = .ok (.iload_n 3, 1) := gd_X12_mixed_387.2.2.2.2.2.2.2.1
theorem dX12_mixed_397 : decode cX12_mixed 397 = .ok (.if_icmp .ge 17, 3) := gd_X12_mixed_387.2.2.2.2.2.2.2.2.1
theorem dX12_mixed_414 : decode cX12_mixed 414 = .ok (.iconst 0, 1) := gd_X12_mixed_387.2.2.2.2.2.2.2.2.2
theorem gd_X12_mixed_415 : decode cX12_mixed 415 = .ok (.iadd, 1) ∧ decode cX12_mixed 416 = .ok (.iastore, 1) ∧ decode cX12_mixed 417 = .ok (.iinc 7 1, 3) ∧ decode cX12_mixed 420 = .ok (.goto (-62), 3) ∧ decode cX12_mixed 423 = .ok (.iinc 6 (-1), 3) ∧ decode cX12_mixed 426 = .ok (.goto (-76), 3) ∧ decode cX12_mixed 429 = .ok (.aload_n 0, 1) ∧ decode cX12_mixed 430 = .ok (.iload_n 3, 1) ∧ decode cX12_mixed 431 = .ok (.putfield 374, 3) ∧ decode cX12_mixed 434 = .ok (.aload_n 0, 1) := by decide +kernel
theorem dX12_mixed_415 : decode cX12_mixed 415 = .ok (.iadd, 1) := gd_X12_mixed_415.1
theorem dX12_mixed_416 : decode cX12_mixed 416 = .ok (.iastore, 1) := gd_X12_mixed_415.2.1
theorem dX12_mixed_417 : decode cX12_mixed 417 = .ok (.iinc 7 1, 3) := gd_X12_mixed_415.2.2.1
theorem dX12_mixed_420 : decode cX12_mixed 420 = .ok (.goto (-62), 3) := gd_X12_mixed_415.2.2.2.1
theorem dX12_mixed_423 : decode cX12_mixed 423 = .ok (.iinc 6 (-1), 3) := gd_X12_mixed_415.2.2.2.2.1
theorem dX12_mixed_426 : decode cX12_mixed 426 = .ok (.goto (-76), 3) := gd_X12_mixed_415.2.2.2.2.2.1
theorem dX12_mixed_429 : decode cX12_mixed 429 = .ok (.aload_n 0, 1) := gd_X12_mixed_415.2.2.2.2.2.2.1
theorem dX12_mixed_430 : decode cX12_mixed 430 = .ok (.iload_n 3, 1) := gd_X12_mixed_415.2.2.2.2.2.2.2.1
theorem dX12_mixed_431 : decode cX12_mixed 431 = .ok (.putfield 374, 3) := gd_X12_mixed_415.2.2.2.2.2.2.2.2.1
theorem dX12_mixed_434 : decode cX12_mixed 434 = .ok (.aload_n 0, 1) := gd_X12_mixed_415.2.2.2.2.2.2.2.2.2
theorem gd_X12_mixed_435 : decode cX12_mixed 435 = .ok (.iconst 0, 1) ∧ decode cX12_mixed 436 = .ok (.iconst (-1), 1) ∧ decode cX12_mixed 437 = .ok (.iload_n 1, 1) ∧ decode cX12_mixed 438 = .ok (.invokevirtual 370, 3) ∧ decode cX12_mixed 441 = .ok (.istore 6, 2) ∧ decode cX12_mixed 443 = .ok (.iconst (-1), 1) ∧ decode cX12_mixed 444 = .ok (.istore 7, 2) ∧ decode cX12_mixed 446 = .ok (.iconst 0, 1) ∧ decode cX12_mixed 447 = .ok (.istore 8, 2) ∧ decode cX12_mixed 449 = .ok (.iload 8, 2) := by decide +kernel
theorem dX12_mixed_435 : decode cX12_mixed 435 = .ok (.iconst 0, 1) := gd_X12_mixed_435.1
theorem dX12_mixed_436 : decode cX12_mixed 436 = .ok (.iconst (-1), 1) := gd_X12_mixed_435.2.1
theorem dX12_mixed_437 : decode cX12_mixed 437 = .ok (.iload_n 1, 1) := gd_X12_mixed_435.2.2.1
theorem dX12_mixed_438 : decode cX12_mixed 438 = .ok (.invokevirtual 370, 3) := gd_X12_mixed_435.2.2.2.1
theorem dX12_mixed_441 : decode cX12_mixed 441 = .ok (.istore 6, 2) := gd_X12_mixed_435.2.2.2.2.1
theorem dX12_mixed_443 : decode cX12_mixed 443 = .ok (.iconst (-1), 1) := gd_X12_mixed_435.2.2.2.2.2.1
theorem dX12_mixed_444 : decode cX12_mixed 444 = .ok (.istore 7, 2) := gd_X12_mixed_435.2.2.2.2.2.2.1
theorem dX12_mixed_446 : decode cX12_mixed 446 = .ok (.iconst 0, 1) := gd_X12_mixed_435.2.2.2.2.2.2.2.1
theorem dX12_mixed_447 : decode cX12_mixed 447 = .ok (.istore 8, 2) := gd_X12_mixed_435.2.2.2.2.2.2.2.2.1
theorem dX12_mixed_449 : decode cX12_mixed 449 = .ok (.iload 8, 2) := gd_X12_mixed_435.2.2.2.2.2.2.2.2.2
theorem gd_X12_mixed_451 : decode cX12_mixed 451 = .ok (.iload_n 3, 1) ∧ decode cX12_mixed 452 = .ok (.if_icmp .ge 79, 3) ∧ decode cX12_mixed 455 = .ok (.aload_n 0, 1) ∧ decode cX12_mixed 456 = .ok (.iload 8, 2) ∧ decode cX12_mixed 458 = .ok (.iload 7, 2) ∧ decode cX12_mixed 460 = .ok (.iload_n 1, 1) ∧ decode cX12_mixed 461 = .ok (.invokevirtual 370, 3) ∧ decode cX12_mixed 464 = .ok (.istore 9, 2) ∧ decode cX12_mixed 466 = .ok (.iconst 0, 1) ∧ decode cX12_mixed 467 = .ok (.istore 10, 2) := by decide +kernel
theorem dX12_mixed_451 : decode cX12_mixed 451 = .ok (.iload_n 3, 1) := gd_X12_mixed_451.1
theorem dX12_mixed_452 : decode cX12_mixed 452 = .ok (.if_icmp .ge 79, 3) := gd_X12_mixed_451.2.1
theorem dX12_mixed_455 : decode cX12_mixed 455 = .ok (.aload_n 0, 1) := gd_X12_mixed_451.2.2.1
theorem dX12_mixed_456 : decode cX12_mixed 456 = .ok (.iload 8, 2) := gd_X12_mixed_451.2.2.2.1
theorem dX12_mixed_458 : decode cX12_mixed 458 = .ok (.iload 7, 2) := gd_X12_mixed_451.2.2.2.2.1
theorem dX12_mixed_460 : decode cX12_mixed 460 = .ok (.iload_n 1, 1) := gd_X12_mixed_451.2.2.2.2.2.1
theorem dX12_mixed_461 : decode cX12_mixed 461 = .ok (.invokevirtual 370, 3) := gd_X12_mixed_451.2.2.2.2.2.2.1
theorem dX12_mixed_464 : decode cX12_mixed 464 = .ok (.istore 9, 2) := gd_X12_mixed_451.2.2.2.2.2.2.2.1
theorem dX12_mixed_466 : decode cX12_mixed 466 = .ok (.iconst 0, 1) := gd_X12_mixed_451.2.2.2.2.2.2.2.2.1
theorem dX12_mixed_467 : decode cX12_mixed 467 = .ok (.istore 10, 2) := gd_X12_mixed_451.2.2.2.2.2.2.2.2.2
theorem gd_X12_mixed_469 : decode cX12_mixed 469 = .ok (.aload_n 0, 1) ∧ decode cX12_mixed 470 = .ok (.getfield 146, 3) ∧ decode cX12_mixed 473 = .ok (.bipush 7, 2) ∧ decode cX12_mixed 475 = .ok (.iload 8, 2) ∧ decode cX12_mixed 477 = .ok (.imul, 1) ∧ decode cX12_mixed 478 = .ok (.iload 10, 2) ∧ decode cX12_mixed 480 = .ok (.iadd, 1) ∧ decode cX12_mixed 481 = .ok (.iaload, 1) ∧ decode cX12_mixed 482 = .ok (.iload 7, 2) ∧ decode cX12_mixed 484 = .ok (.iconst (-1), 1) := by decide +kernel
theorem dX12_mixed_469 : decode cX12_mixed 469 = .ok (.aload_n 0, 1) := gd_X12_mixed_469.1
theorem dX12_mixed_470 : decode cX12_mixed 470 = .ok (.getfield 146, 3) := gd_X12_mixed_469.2.1
theorem dX12_mixed_473 : decode cX12_mixed 473 = .ok (.bipush 7, 2) := gd_X12_mixed_469.2.2.1
theorem dX12_mixed_475 : decode cX12_mixed 475 = .ok (.iload 8, 2) := gd_X12_mixed_469.2.2.2.1
theorem dX12_mixed_477 : decode cX12_mixed 477 = .ok (.imul, 1) := gd_X12_mixed_469.2.2.2.2.1
theorem dX12_mixed_478 : decode cX12_mixed 478 = .ok (.iload 10, 2) := gd_X12_mixed_469.2.2.2.2.2.1
theorem dX12_mixed_480 : decode cX12_mixed 480 = .ok (.iadd, 1) := gd_X12_mixed_469.2.2.2.2.2.2.1
theorem dX12_mixed_481 : decode cX12_mixed 481 = .ok (.iaload, 1) := gd_X12_mixed_469.2.2.2.2.2.2.2.1
theorem dX12_mixed_482 : decode cX12_mixed 482 = .ok (.iload 7, 2) := gd_X12_mixed_469.2.2.2.2.2.2.2.2.1
theorem dX12_mixed_484 : decode cX12_mixed 484 = .ok (.iconst (-1), 1) := gd_X12_mixed_469.2.2.2.2.2.2.2.2.2
theorem gd_X12_mixed_485 : decode cX12_mixed 485 = .ok (.if_icmp .eq 10, 3) ∧ decode cX12_mixed 495 = .ok (.iconst 0, 1) ∧ decode cX12_mixed 496 = .ok (.goto 4, 3) ∧ decode cX12_mixed 500 = .ok (.iadd, 1) ∧ decode cX12_mixed 501 = .ok (.iload 9, 2) ∧ decode cX12_mixed 503 = .ok (.if_icmp .eq 9, 3) ∧ decode cX12_mixed 512 = .ok (.aload_n 0, 1) ∧ decode cX12_mixed 513 = .ok (.getfield 149, 3) ∧ decode cX12_mixed 516 = .ok (.iload 8, 2) ∧ decode cX12_mixed 518 = .ok (.iload 10, 2) := by decide +kernel
theorem dX12_mixed_485 : decode cX12_mixed 485 = .ok (.if_icmp .eq 10, 3) := gd_X12_mixed_485.1
theorem dX12_mixed_495 : decode cX12_mixed 495 = .ok (.iconst 0, 1) := gd_X12_mixed_485.2.1
theorem dX12_mixed_496 : decode cX12_mixed 496 = .ok (.goto 4, 3) := gd_X12_mixed_485.2.2.1
theorem dX12_mixed_500 : decode cX12_mixed 500 = .ok (.iadd, 1) := gd_X12_mixed_485.2.2.2.1
theorem dX12_mixed_501 : decode cX12_mixed 501 = .ok (.iload 9, 2) := gd_X12_mixed_485.2.2.2.2.1
theorem dX12_mixed_503 : decode cX12_mixed 503 = .ok (.if_icmp .eq 9, 3) := gd_X12_mixed_485.2.2.2.2.2.1
theorem dX12_mixed_512 : decode cX12_mixed 512 = .ok (.aload_n 0, 1) := gd_X12_mixed_485.2.2.2.2.2.2.1
theorem dX12_mixed_513 : decode cX12_mixed 513 = .ok (.getfield 149, 3) := gd_X12_mixed_485.2.2.2.2.2.2.2.1
theorem dX12_mixed_516 : decode cX12_mixed 516 = .ok (.iload 8, 2) := gd_X12_mixed_485.2.2.2.2.2.2.2.2.1
theorem dX12_mixed_518 : decode cX12_mixed 518 = .ok (.iload 10, 2) := gd_X12_mixed_485.2.2.2.2.2.2.2.2.2
theorem gd_X12_mixed_520 : decode cX12_mixed 520 = .ok (.iastore, 1) ∧ decode cX12_mixed 521 = .ok (.iload 10, 2) ∧ decode cX12_mixed 523 = .ok (.istore 7, 2) ∧ decode cX12_mixed 525 = .ok (.iinc 8 1, 3) ∧ decode cX12_mixed 528 = .ok (.goto (-79), 3) ∧ decode cX12_mixed 531 = .ok (.iload 6, 2) ∧ decode cX12_mixed 533 = .ok (.ireturn, 1) ∧ decode cX12_onward 0 = .ok (.ldc_w 379, 3) ∧ decode cX12_onward 3 = .ok (.istore 4, 2) ∧ decode cX12_onward 5 = .ok (.iconst 0, 1) := by decide +kernel
theorem dX12_mixed_520 : decode cX12_mixed 520 = .ok (.iastore, 1) := gd_X12_mixed_520.1
theorem dX12_mixed_521 : decode cX12_mixed 521 = .ok (.iload 10, 2) := gd_X12_mixed_520.2.1
theorem dX12_mixed_523 : decode cX12_mixed 523 = .ok (.istore 7, 2) := gd_X12_mixed_520.2.2.1
theorem dX12_mixed_525 : decode cX12_mixed 525 = .ok (.iinc 8 1, 3) := gd_X12_mixed_520.2.2.2.1
theorem dX12_mixed_528 : decode cX12_mixed 528 = .ok (.goto (-79), 3) := gd_X12_mixed_520.2.2.2.2.1
theorem dX12_mixed_531 : decode cX12_mixed 531 = .ok (.iload 6, 2) := gd_X12_mixed_520.2.2.2.2.2.1
theorem dX12_mixed_533 : decode cX12_mixed 533 = .ok (.ireturn, 1) := gd_X12_mixed_520.2.2.2.2.2.2.1
theorem dX12_onward_0 : decode cX12_onward 0 = .ok (.ldc_w 379, 3) := gd_X12_mixed_520.2.2.2.2.2.2.2.1
theorem dX12_onward_3 : decode cX12_onward 3 = .ok (.istore 4, 2) := gd_X12_mixed_520.2.2.2.2.2.2.2.2.1
theorem dX12_onward_5 : decode cX12_onward 5 = .ok (.iconst 0, 1) := gd_X12_mixed_520.2.2.2.2.2.2.2.2.2
theorem gd_X12_onward_6 : decode cX12_onward 6 = .ok (.istore 5, 2) ∧ decode cX12_onward 8 = .ok (.iload 5, 2) ∧ decode cX12_onward 10 = .ok (.aload_n 0, 1) ∧ decode cX12_onward 11 = .ok (.getfield 222, 3) ∧ decode cX12_onward 14 = .ok (.if_icmp .gt 56, 3) ∧ decode cX12_onward 17 = .ok (.aload_n 0, 1) ∧ decode cX12_onward 18 = .ok (.getfield 146, 3) ∧ decode cX12_onward 21 = .ok (.bipush 7, 2) ∧ decode cX12_onward 23 = .ok (.iload_n 1, 1) ∧ decode cX12_onward 24 = .ok (.imul, 1) := by decide +kernel
theorem dX12_onward_6 : decode cX12_onward 6 = .ok (.istore 5, 2) := gd_X12_onward_6.1
theorem dX12_onward_8 : decode cX12_onward 8 = .ok (.iload 5, 2) := gd_X12_onward_6.2.1
theorem dX12_onward_10 : decode cX12_onward 10 = .ok (.aload_n 0, 1) := gd_X12_onward_6.2.2.1
theorem dX12_onward_11 : decode cX12_onward 11 = .ok (.getfield 222, 3) := gd_X12_onward_6.2.2.2.1
theorem dX12_onward_14 : decode cX12_onward 14 = .ok (.if_icmp .gt 56, 3) := gd_X12_onward_6.2.2.2.2.1
theorem dX12_onward_17 : decode cX12_onward 17 = .ok (.aload_n 0, 1) := gd_X12_onward_6.2.2.2.2.2.1
theorem dX12_onward_18 : decode cX12_onward 18 = .ok (.getfield 146, 3) := gd_X12_onward_6.2.2.2.2.2.2.1
theorem dX12_onward_21 : decode cX12_onward 21 = .ok (.bipush 7, 2) := gd_X12_onward_6.2.2.2.2.2.2.2.1
theorem dX12_onward_23 : decode cX12_onward 23 = .ok (.iload_n 1, 1) := gd_X12_onward_6.2.2.2.2.2.2.2.2.1
theorem dX12_onward_24 : decode cX12_onward 24 = .ok (.imul, 1) := gd_X12_onward_6.2.2.2.2.2.2.2.2.2
theorem gd_X12_onward_25 : decode cX12_onward 25 = .ok (.iload 5, 2) ∧ decode cX12_onward 27 = .ok (.iadd, 1) ∧ decode cX12_onward 28 = .ok (.iaload, 1) ∧ decode cX12_onward 29 = .ok (.iload_n 2, 1) ∧ decode cX12_onward 30 = .ok (.iconst (-1), 1) ∧ decode cX12_onward 31 = .ok (.if_icmp .eq 9, 3) ∧ decode cX12_onward 40 = .ok (.iconst 0, 1) ∧ decode cX12_onward 41 = .ok (.goto 4, 3) ∧ decode cX12_onward 45 = .ok (.iadd, 1) ∧ decode cX12_onward 46 = .ok (.istore 6, 2) := by decide +kernel
theorem dX12_onward_25 : decode cX12_onward 25 = .ok (.iload 5, 2) := gd_X12_onward_25.1
theorem dX12_onward_27 : decode cX12_onward 27 = .ok (.iadd, 1) := gd_X12_onward_25.2.1
theorem dX12_onward_28 : decode cX12_onward 28 = .ok (.iaload, 1) := gd_X12_onward_25.2.2.1
theorem dX12_onward_29 : decode cX12_onward 29 = .ok (.iload_n 2, 1) := gd_X12_onward_25.2.2.2.1
theorem dX12_onward_30 : decode cX12_onward 30 = .ok (.iconst (-1), 1) := gd_X12_onward_25.2.2.2.2.1
theorem dX12_onward_31 : decode cX12_onward 31 = .ok (.if_icmp .eq 9, 3) := gd_X12_onward_25.2.2.2.2.2.1
theorem dX12_onward_40 : decode cX12_onward 40 = .ok (.iconst 0, 1) := gd_X12_onward_25.2.2.2.2.2.2.1
theorem dX12_onward_41 : decode cX12_onward 41 = .ok (.goto 4, 3) := gd_X12_onward_25.2.2.2.2.2.2.2.1
theorem dX12_onward_45 : decode cX12_onward 45 = .ok (.iadd, 1) := gd_X12_onward_25.2.2.2.2.2.2.2.2.1
theorem dX12_onward_46 : decode cX12_onward 46 = .ok (.istore 6, 2) := gd_X12_onward_25.2.2.2.2.2.2.2.2.2
theorem gd_X12_onward_48 : decode cX12_onward 48 = .ok (.iload 6, 2) ∧ decode cX12_onward 50 = .ok (.iload 4, 2) ∧ decode cX12_onward 52 = .ok (.if_icmp .ge 8, 3) ∧ decode cX12_onward 55 = .ok (.iload 6, 2) ∧ decode cX12_onward 57 = .ok (.goto 5, 3) ∧ decode cX12_onward 62 = .ok (.istore 4, 2) ∧ decode cX12_onward 64 = .ok (.iinc 5 1, 3) ∧ decode cX12_onward 67 = .ok (.goto (-59), 3) ∧ decode cX12_onward 70 = .ok (.iload 4, 2) ∧ decode cX12_onward 72 = .ok (.ireturn, 1) := by decide +kernel
theorem dX12_onward_48 : decode cX12_onward 48 = .ok (.iload 6, 2) := gd_X12_onward_48.1
theorem dX12_onward_50 : decode cX12_onward 50 = .ok (.iload 4, 2) := gd_X12_onward_48.2.1
theorem dX12_onward_52 : decode cX12_onward 52 = .ok (.if_icmp .ge 8, 3) := gd_X12_onward_48.2.2.1
theorem dX12_onward_55 : decode cX12_onward 55 = .ok (.iload 6, 2) := gd_X12_onward_48.2.2.2.1
theorem dX12_onward_57 : decode cX12_onward 57 = .ok (.goto 5, 3) := gd_X12_onward_48.2.2.2.2.1
theorem dX12_onward_62 : decode cX12_onward 62 = .ok (.istore 4, 2) := gd_X12_onward_48.2.2.2.2.2.1
theorem dX12_onward_64 : decode cX12_onward 64 = .ok (.iinc 5 1, 3) := gd_X12_onward_48.2.2.2.2.2.2.1
theorem dX12_onward_67 : decode cX12_onward 67 = .ok (.goto (-59), 3) := gd_X12_onward_48.2.2.2.2.2.2.2.1
theorem dX12_onward_70 : decode cX12_onward 70 = .ok (.iload 4, 2) := gd_X12_onward_48.2.2.2.2.2.2.2.2.1
theorem dX12_onward_72 : decode cX12_onward 72 = .ok (.ireturn, 1) := gd_X12_onward_48.2.2.2.2.2.2.2.2.2
theorem gd_X12_line_0 : decode cX12_line 0 = .ok (.iload_n 1, 1) ∧ decode cX12_line 1 = .ok (.iconst 0, 1) ∧ decode cX12_line 2 = .ok (.aload_n 0, 1) ∧ decode cX12_line 3 = .ok (.getfield 374, 3) ∧ decode cX12_line 6 = .ok (.iconst 1, 1) ∧ decode cX12_line 7 = .ok (.isub, 1) ∧ decode cX12_line 8 = .ok (.invokestatic 226, 3) ∧ decode cX12_line 11 = .ok (.ifCond .eq 12, 3) ∧ decode cX12_line 23 = .ok (.iconst (-1), 1) ∧ decode cX12_line 24 = .ok (.ireturn, 1) := by decide +kernel
theorem dX12_line_0 : decode cX12_line 0 = .ok (.iload_n 1, 1) := gd_X12_line_0.1
theorem dX12_line_1 : decode cX12_line 1 = .ok (.iconst 0, 1) := gd_X12_line_0.2.1
theorem dX12_line_2 : decode cX12_line 2 = .ok (.aload_n 0, 1) := gd_X12_line_0.2.2.1
theorem dX12_line_3 : decode cX12_line 3 = .ok (.getfield 374, 3) := gd_X12_line_0.2.2.2.1
theorem dX12_line_6 : decode cX12_line 6 = .ok (.iconst 1, 1) := gd_X12_line_0.2.2.2.2.1
theorem dX12_line_7 : decode cX12_line 7 = .ok (.isub, 1) := gd_X12_line_0.2.2.2.2.2.1
theorem dX12_line_8 : decode cX12_line 8 = .ok (.invokestatic 226, 3) := gd_X12_line_0.2.2.2.2.2.2.1
theorem dX12_line_11 : decode cX12_line 11 = .ok (.ifCond .eq 12, 3) := gd_X12_line_0.2.2.2.2.2.2.2.1
theorem dX12_line_23 : decode cX12_line 23 = .ok (.iconst (-1), 1) := gd_X12_line_0.2.2.2.2.2.2.2.2.1
theorem dX12_line_24 : decode cX12_line 24 = .ok (.ireturn, 1) := gd_X12_line_0.2.2.2.2.2.2.2.2.2
theorem gd_X12_count_0 : decode cX12_count 0 = .ok (.iload_n 1, 1) ∧ decode cX12_count 1 = .ok (.ifCond .ne 10, 3) ∧ decode cX12_count 4 = .ok (.aload_n 0, 1) ∧ decode cX12_count 5 = .ok (.getfield 222, 3) ∧ decode cX12_count 8 = .ok (.goto 28, 3) ∧ decode cX12_count 11 = .ok (.iload_n 1, 1) ∧ decode cX12_count 12 = .ok (.iconst 1, 1) ∧ decode cX12_count 13 = .ok (.if_icmp .ne 10, 3) ∧ decode cX12_count 16 = .ok (.aload_n 0, 1) ∧ decode cX12_count 17 = .ok (.getfield 312, 3) := by decide +kernel
theorem dX12_count_0 : decode cX12_count 0 = .ok (.iload_n 1, 1) := gd_X12_count_0.1
theorem dX12_count_1 : decode cX12_count 1 = .ok (.ifCond .ne 10, 3) := gd_X12_count_0.2.1
theorem dX12_count_4 : decode cX12_count 4 = .ok (.aload_n 0, 1) := gd_X12_count_0.2.2.1
theorem dX12_count_5 : decode cX12_count 5 = .ok (.getfield 222, 3) := gd_X12_count_0.2.2.2.1
theorem dX12_count_8 : decode cX12_count 8 = .ok (.goto 28, 3) := gd_X12_count_0.2.2.2.2.1
theorem dX12_count_11 : decode cX12_count 11 = .ok (.iload_n 1, 1) := gd_X12_count_0.2.2.2.2.2.1
theorem dX12_count_12 : decode cX12_count 12 = .ok (.iconst 1, 1) := gd_X12_count_0.2.2.2.2.2.2.1
theorem dX12_count_13 : decode cX12_count 13 = .ok (.if_icmp .ne 10, 3) := gd_X12_count_0.2.2.2.2.2.2.2.1
theorem dX12_count_16 : decode cX12_count 16 = .ok (.aload_n 0, 1) := gd_X12_count_0.2.2.2.2.2.2.2.2.1
theorem dX12_count_17 : decode cX12_count 17 = .ok (.getfield 312, 3) := gd_X12_count_0.2.2.2.2.2.2.2.2.2
theorem gd_X12_count_20 : decode cX12_count 20 = .ok (.goto 16, 3) ∧ decode cX12_count 23 = .ok (.iload_n 1, 1) ∧ decode cX12_count 24 = .ok (.iconst 2, 1) ∧ decode cX12_count 25 = .ok (.if_icmp .ne 10, 3) ∧ decode cX12_count 28 = .ok (.aload_n 0, 1) ∧ decode cX12_count 29 = .ok (.getfield 152, 3) ∧ decode cX12_count 32 = .ok (.goto 4, 3) ∧ decode cX12_count 35 = .ok (.iconst (-1), 1) ∧ decode cX12_count 36 = .ok (.ireturn, 1) ∧ decode cJ7_fill_53178 0 = .ok (.iconst 0, 1) := by decide +kernel
theorem dX12_count_20 : decode cX12_count 20 = .ok (.goto 16, 3) := gd_X12_count_20.1
theorem dX12_count_23 : decode cX12_count 23 = .ok (.iload_n 1, 1) := gd_X12_count_20.2.1
theorem dX12_count_24 : decode cX12_count 24 = .ok (.iconst 2, 1) := gd_X12_count_20.2.2.1
theorem dX12_count_25 : decode cX12_count 25 = .ok (.if_icmp .ne 10, 3) := gd_X12_count_20.2.2.2.1
theorem dX12_count_28 : decode cX12_count 28 = .ok (.aload_n 0, 1) := gd_X12_count_20.2.2.2.2.1
theorem dX12_count_29 : decode cX12_count 29 = .ok (.getfield 152, 3) := gd_X12_count_20.2.2.2.2.2.1
theorem dX12_count_32 : decode cX12_count 32 = .ok (.goto 4, 3) := gd_X12_count_20.2.2.2.2.2.2.1
theorem dX12_count_35 : decode cX12_count 35 = .ok (.iconst (-1), 1) := gd_X12_count_20.2.2.2.2.2.2.2.1
theorem dX12_count_36 : decode cX12_count 36 = .ok (.ireturn, 1) := gd_X12_count_20.2.2.2.2.2.2.2.2.1
theorem dJ7_fill_53178_0 : decode cJ7_fill_53178 0 = .ok (.iconst 0, 1) := gd_X12_count_20.2.2.2.2.2.2.2.2.2
theorem gd_J7_fill_53178_1 : decode cJ7_fill_53178 1 = .ok (.istore_n 2, 1) ∧ decode cJ7_fill_53178 2 = .ok (.aload_n 0, 1) ∧ decode cJ7_fill_53178 3 = .ok (.arraylength, 1) ∧ decode cJ7_fill_53178 4 = .ok (.istore_n 3, 1) ∧ decode cJ7_fill_53178 5 = .ok (.iload_n 2, 1) ∧ decode cJ7_fill_53178 6 = .ok (.iload_n 3, 1) ∧ decode cJ7_fill_53178 7 = .ok (.if_icmp .ge 13, 3) ∧ decode cJ7_fill_53178 10 = .ok (.aload_n 0, 1) ∧ decode cJ7_fill_53178 11 = .ok (.iload_n 2, 1) ∧ decode cJ7_fill_53178 12 = .ok (.iload_n 1, 1) := by decide +kernel
theorem dJ7_fill_53178_1 : decode cJ7_fill_53178 1 = .ok (.istore_n 2, 1) := gd_J7_fill_53178_1.1
theorem dJ7_fill_53178_2 : decode cJ7_fill_53178 2 = .ok (.aload_n 0, 1) := gd_J7_fill_53178_1.2.1
theorem dJ7_fill_53178_3 : decode cJ7_fill_53178 3 = .ok (.arraylength, 1) := gd_J7_fill_53178_1.2.2.1
theorem dJ7_fill_53178_4 : decode cJ7_fill_53178 4 = .ok (.istore_n 3, 1) := gd_J7_fill_53178_1.2.2.2.1
theorem dJ7_fill_53178_5 : decode cJ7_fill_53178 5 = .ok (.iload_n 2, 1) := gd_J7_fill_53178_1.2.2.2.2.1
theorem dJ7_fill_53178_6 : decode cJ7_fill_53178 6 = .ok (.iload_n 3, 1) := gd_J7_fill_53178_1.2.2.2.2.2.1
theorem dJ7_fill_53178_7 : decode cJ7_fill_53178 7 = .ok (.if_icmp .ge 13, 3) := gd_J7_fill_53178_1.2.2.2.2.2.2.1
theorem dJ7_fill_53178_10 : decode cJ7_fill_53178 10 = .ok (.aload_n 0, 1) := gd_J7_fill_53178_1.2.2.2.2.2.2.2.1
theorem dJ7_fill_53178_11 : decode cJ7_fill_53178 11 = .ok (.iload_n 2, 1) := gd_J7_fill_53178_1.2.2.2.2.2.2.2.2.1
theorem dJ7_fill_53178_12 : decode cJ7_fill_53178 12 = .ok (.iload_n 1, 1) := gd_J7_fill_53178_1.2.2.2.2.2.2.2.2.2
theorem gd_J7_fill_53178_13 : decode cJ7_fill_53178 13 = .ok (.iastore, 1) ∧ decode cJ7_fill_53178 14 = .ok (.iinc 2 1, 3) ∧ decode cJ7_fill_53178 17 = .ok (.goto (-12), 3) ∧ decode cJ7_fill_53178 20 = .ok (.return_, 1) := by decide +kernel
theorem dJ7_fill_53178_13 : decode cJ7_fill_53178 13 = .ok (.iastore, 1) := gd_J7_fill_53178_13.1
theorem dJ7_fill_53178_14 : decode cJ7_fill_53178 14 = .ok (.iinc 2 1, 3) := gd_J7_fill_53178_13.2.1
theorem dJ7_fill_53178_17 : decode cJ7_fill_53178 17 = .ok (.goto (-12), 3) := gd_J7_fill_53178_13.2.2.1
theorem dJ7_fill_53178_20 : decode cJ7_fill_53178 20 = .ok (.return_, 1) := gd_J7_fill_53178_13.2.2.2
