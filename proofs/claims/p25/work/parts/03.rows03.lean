theorem gd_X12_init_379 : decode cX12_init 379 = .ok (.newarray .int, 2) ∧ decode cX12_init 381 = .ok (.putfield 146, 3) ∧ decode cX12_init 384 = .ok (.aload_n 0, 1) ∧ decode cX12_init 385 = .ok (.bipush 40, 2) ∧ decode cX12_init 387 = .ok (.newarray .int, 2) ∧ decode cX12_init 389 = .ok (.putfield 149, 3) ∧ decode cX12_init 392 = .ok (.return_, 1) ∧ decode cX12_in 0 = .ok (.iload_n 0, 1) ∧ decode cX12_in 1 = .ok (.iload_n 1, 1) ∧ decode cX12_in 2 = .ok (.if_icmp .lt 12, 3) := by decide +kernel
theorem dX12_init_379 : decode cX12_init 379 = .ok (.newarray .int, 2) := gd_X12_init_379.1
theorem dX12_init_381 : decode cX12_init 381 = .ok (.putfield 146, 3) := gd_X12_init_379.2.1
theorem dX12_init_384 : decode cX12_init 384 = .ok (.aload_n 0, 1) := gd_X12_init_379.2.2.1
theorem dX12_init_385 : decode cX12_init 385 = .ok (.bipush 40, 2) := gd_X12_init_379.2.2.2.1
theorem dX12_init_387 : decode cX12_init 387 = .ok (.newarray .int, 2) := gd_X12_init_379.2.2.2.2.1
theorem dX12_init_389 : decode cX12_init 389 = .ok (.putfield 149, 3) := gd_X12_init_379.2.2.2.2.2.1
theorem dX12_init_392 : decode cX12_init 392 = .ok (.return_, 1) := gd_X12_init_379.2.2.2.2.2.2.1
theorem dX12_in_0 : decode cX12_in 0 = .ok (.iload_n 0, 1) := gd_X12_init_379.2.2.2.2.2.2.2.1
theorem dX12_in_1 : decode cX12_in 1 = .ok (.iload_n 1, 1) := gd_X12_init_379.2.2.2.2.2.2.2.2.1
theorem dX12_in_2 : decode cX12_in 2 = .ok (.if_icmp .lt 12, 3) := gd_X12_init_379.2.2.2.2.2.2.2.2.2
theorem gd_X12_in_5 : decode cX12_in 5 = .ok (.iload_n 0, 1) ∧ decode cX12_in 6 = .ok (.iload_n 2, 1) ∧ decode cX12_in 7 = .ok (.if_icmp .gt 7, 3) ∧ decode cX12_in 10 = .ok (.iconst 1, 1) ∧ decode cX12_in 11 = .ok (.goto 4, 3) ∧ decode cX12_in 14 = .ok (.iconst 0, 1) ∧ decode cX12_in 15 = .ok (.ireturn, 1) ∧ decode cX12_feed 0 = .ok (.aload_n 0, 1) ∧ decode cX12_feed 1 = .ok (.getfield 152, 3) ∧ decode cX12_feed 4 = .ok (.bipush 20, 2) := by decide +kernel
theorem dX12_in_5 : decode cX12_in 5 = .ok (.iload_n 0, 1) := gd_X12_in_5.1
theorem dX12_in_6 : decode cX12_in 6 = .ok (.iload_n 2, 1) := gd_X12_in_5.2.1
theorem dX12_in_7 : decode cX12_in 7 = .ok (.if_icmp .gt 7, 3) := gd_X12_in_5.2.2.1
theorem dX12_in_10 : decode cX12_in 10 = .ok (.iconst 1, 1) := gd_X12_in_5.2.2.2.1
theorem dX12_in_11 : decode cX12_in 11 = .ok (.goto 4, 3) := gd_X12_in_5.2.2.2.2.1
theorem dX12_in_14 : decode cX12_in 14 = .ok (.iconst 0, 1) := gd_X12_in_5.2.2.2.2.2.1
theorem dX12_in_15 : decode cX12_in 15 = .ok (.ireturn, 1) := gd_X12_in_5.2.2.2.2.2.2.1
theorem dX12_feed_0 : decode cX12_feed 0 = .ok (.aload_n 0, 1) := gd_X12_in_5.2.2.2.2.2.2.2.1
theorem dX12_feed_1 : decode cX12_feed 1 = .ok (.getfield 152, 3) := gd_X12_in_5.2.2.2.2.2.2.2.2.1
theorem dX12_feed_4 : decode cX12_feed 4 = .ok (.bipush 20, 2) := gd_X12_in_5.2.2.2.2.2.2.2.2.2
theorem gd_X12_feed_6 : decode cX12_feed 6 = .ok (.iadd, 1) ∧ decode cX12_feed 7 = .ok (.sipush 2000, 3) ∧ decode cX12_feed 10 = .ok (.if_icmp .le 6, 3) ∧ decode cX12_feed 16 = .ok (.iconst 0, 1) ∧ decode cX12_feed 17 = .ok (.istore 6, 2) ∧ decode cX12_feed 19 = .ok (.iload 6, 2) ∧ decode cX12_feed 21 = .ok (.iconst 5, 1) ∧ decode cX12_feed 22 = .ok (.if_icmp .ge 93, 3) ∧ decode cX12_feed 25 = .ok (.iload 6, 2) ∧ decode cX12_feed 27 = .ok (.ifCond .ne 7, 3) := by decide +kernel
theorem dX12_feed_6 : decode cX12_feed 6 = .ok (.iadd, 1) := gd_X12_feed_6.1
theorem dX12_feed_7 : decode cX12_feed 7 = .ok (.sipush 2000, 3) := gd_X12_feed_6.2.1
theorem dX12_feed_10 : decode cX12_feed 10 = .ok (.if_icmp .le 6, 3) := gd_X12_feed_6.2.2.1
theorem dX12_feed_16 : decode cX12_feed 16 = .ok (.iconst 0, 1) := gd_X12_feed_6.2.2.2.1
theorem dX12_feed_17 : decode cX12_feed 17 = .ok (.istore 6, 2) := gd_X12_feed_6.2.2.2.2.1
theorem dX12_feed_19 : decode cX12_feed 19 = .ok (.iload 6, 2) := gd_X12_feed_6.2.2.2.2.2.1
theorem dX12_feed_21 : decode cX12_feed 21 = .ok (.iconst 5, 1) := gd_X12_feed_6.2.2.2.2.2.2.1
theorem dX12_feed_22 : decode cX12_feed 22 = .ok (.if_icmp .ge 93, 3) := gd_X12_feed_6.2.2.2.2.2.2.2.1
theorem dX12_feed_25 : decode cX12_feed 25 = .ok (.iload 6, 2) := gd_X12_feed_6.2.2.2.2.2.2.2.2.1
theorem dX12_feed_27 : decode cX12_feed 27 = .ok (.ifCond .ne 7, 3) := gd_X12_feed_6.2.2.2.2.2.2.2.2.2
theorem gd_X12_feed_30 : decode cX12_feed 30 = .ok (.iload_n 1, 1) ∧ decode cX12_feed 31 = .ok (.goto 36, 3) ∧ decode cX12_feed 34 = .ok (.iload 6, 2) ∧ decode cX12_feed 36 = .ok (.iconst 1, 1) ∧ decode cX12_feed 37 = .ok (.if_icmp .ne 7, 3) ∧ decode cX12_feed 40 = .ok (.iload_n 2, 1) ∧ decode cX12_feed 41 = .ok (.goto 26, 3) ∧ decode cX12_feed 44 = .ok (.iload 6, 2) ∧ decode cX12_feed 46 = .ok (.iconst 2, 1) ∧ decode cX12_feed 47 = .ok (.if_icmp .ne 7, 3) := by decide +kernel
theorem dX12_feed_30 : decode cX12_feed 30 = .ok (.iload_n 1, 1) := gd_X12_feed_30.1
theorem dX12_feed_31 : decode cX12_feed 31 = .ok (.goto 36, 3) := gd_X12_feed_30.2.1
theorem dX12_feed_34 : decode cX12_feed 34 = .ok (.iload 6, 2) := gd_X12_feed_30.2.2.1
theorem dX12_feed_36 : decode cX12_feed 36 = .ok (.iconst 1, 1) := gd_X12_feed_30.2.2.2.1
theorem dX12_feed_37 : decode cX12_feed 37 = .ok (.if_icmp .ne 7, 3) := gd_X12_feed_30.2.2.2.2.1
theorem dX12_feed_40 : decode cX12_feed 40 = .ok (.iload_n 2, 1) := gd_X12_feed_30.2.2.2.2.2.1
theorem dX12_feed_41 : decode cX12_feed 41 = .ok (.goto 26, 3) := gd_X12_feed_30.2.2.2.2.2.2.1
theorem dX12_feed_44 : decode cX12_feed 44 = .ok (.iload 6, 2) := gd_X12_feed_30.2.2.2.2.2.2.2.1
theorem dX12_feed_46 : decode cX12_feed 46 = .ok (.iconst 2, 1) := gd_X12_feed_30.2.2.2.2.2.2.2.2.1
theorem dX12_feed_47 : decode cX12_feed 47 = .ok (.if_icmp .ne 7, 3) := gd_X12_feed_30.2.2.2.2.2.2.2.2.2
theorem gd_X12_feed_50 : decode cX12_feed 50 = .ok (.iload_n 3, 1) ∧ decode cX12_feed 51 = .ok (.goto 16, 3) ∧ decode cX12_feed 54 = .ok (.iload 6, 2) ∧ decode cX12_feed 56 = .ok (.iconst 3, 1) ∧ decode cX12_feed 57 = .ok (.if_icmp .ne 8, 3) ∧ decode cX12_feed 60 = .ok (.iload 4, 2) ∧ decode cX12_feed 62 = .ok (.goto 5, 3) ∧ decode cX12_feed 65 = .ok (.iload 5, 2) ∧ decode cX12_feed 67 = .ok (.istore 7, 2) ∧ decode cX12_feed 69 = .ok (.bipush 24, 2) := by decide +kernel
theorem dX12_feed_50 : decode cX12_feed 50 = .ok (.iload_n 3, 1) := gd_X12_feed_50.1
theorem dX12_feed_51 : decode cX12_feed 51 = .ok (.goto 16, 3) := gd_X12_feed_50.2.1
theorem dX12_feed_54 : decode cX12_feed 54 = .ok (.iload 6, 2) := gd_X12_feed_50.2.2.1
theorem dX12_feed_56 : decode cX12_feed 56 = .ok (.iconst 3, 1) := gd_X12_feed_50.2.2.2.1
theorem dX12_feed_57 : decode cX12_feed 57 = .ok (.if_icmp .ne 8, 3) := gd_X12_feed_50.2.2.2.2.1
theorem dX12_feed_60 : decode cX12_feed 60 = .ok (.iload 4, 2) := gd_X12_feed_50.2.2.2.2.2.1
theorem dX12_feed_62 : decode cX12_feed 62 = .ok (.goto 5, 3) := gd_X12_feed_50.2.2.2.2.2.2.1
theorem dX12_feed_65 : decode cX12_feed 65 = .ok (.iload 5, 2) := gd_X12_feed_50.2.2.2.2.2.2.2.1
theorem dX12_feed_67 : decode cX12_feed 67 = .ok (.istore 7, 2) := gd_X12_feed_50.2.2.2.2.2.2.2.2.1
theorem dX12_feed_69 : decode cX12_feed 69 = .ok (.bipush 24, 2) := gd_X12_feed_50.2.2.2.2.2.2.2.2.2
theorem gd_X12_feed_71 : decode cX12_feed 71 = .ok (.istore 8, 2) ∧ decode cX12_feed 73 = .ok (.iload 8, 2) ∧ decode cX12_feed 75 = .ok (.ifCond .lt 34, 3) ∧ decode cX12_feed 78 = .ok (.aload_n 0, 1) ∧ decode cX12_feed 79 = .ok (.getfield 7, 3) ∧ decode cX12_feed 82 = .ok (.aload_n 0, 1) ∧ decode cX12_feed 83 = .ok (.getfield 152, 3) ∧ decode cX12_feed 86 = .ok (.iload 7, 2) ∧ decode cX12_feed 88 = .ok (.iload 8, 2) ∧ decode cX12_feed 90 = .ok (.ishr, 1) := by decide +kernel
theorem dX12_feed_71 : decode cX12_feed 71 = .ok (.istore 8, 2) := gd_X12_feed_71.1
theorem dX12_feed_73 : decode cX12_feed 73 = .ok (.iload 8, 2) := gd_X12_feed_71.2.1
theorem dX12_feed_75 : decode cX12_feed 75 = .ok (.ifCond .lt 34, 3) := gd_X12_feed_71.2.2.1
theorem dX12_feed_78 : decode cX12_feed 78 = .ok (.aload_n 0, 1) := gd_X12_feed_71.2.2.2.1
theorem dX12_feed_79 : decode cX12_feed 79 = .ok (.getfield 7, 3) := gd_X12_feed_71.2.2.2.2.1
theorem dX12_feed_82 : decode cX12_feed 82 = .ok (.aload_n 0, 1) := gd_X12_feed_71.2.2.2.2.2.1
theorem dX12_feed_83 : decode cX12_feed 83 = .ok (.getfield 152, 3) := gd_X12_feed_71.2.2.2.2.2.2.1
theorem dX12_feed_86 : decode cX12_feed 86 = .ok (.iload 7, 2) := gd_X12_feed_71.2.2.2.2.2.2.2.1
theorem dX12_feed_88 : decode cX12_feed 88 = .ok (.iload 8, 2) := gd_X12_feed_71.2.2.2.2.2.2.2.2.1
theorem dX12_feed_90 : decode cX12_feed 90 = .ok (.ishr, 1) := gd_X12_feed_71.2.2.2.2.2.2.2.2.2
theorem gd_X12_feed_91 : decode cX12_feed 91 = .ok (.i2b, 1) ∧ decode cX12_feed 92 = .ok (.bastore, 1) ∧ decode cX12_feed 93 = .ok (.aload_n 0, 1) ∧ decode cX12_feed 94 = .ok (.dup, 1) ∧ decode cX12_feed 95 = .ok (.getfield 152, 3) ∧ decode cX12_feed 98 = .ok (.iconst 1, 1) ∧ decode cX12_feed 99 = .ok (.iadd, 1) ∧ decode cX12_feed 100 = .ok (.putfield 152, 3) ∧ decode cX12_feed 103 = .ok (.iinc 8 (-8), 3) ∧ decode cX12_feed 106 = .ok (.goto (-33), 3) := by decide +kernel
theorem dX12_feed_91 : decode cX12_feed 91 = .ok (.i2b, 1) := gd_X12_feed_91.1
theorem dX12_feed_92 : decode cX12_feed 92 = .ok (.bastore, 1) := gd_X12_feed_91.2.1
theorem dX12_feed_93 : decode cX12_feed 93 = .ok (.aload_n 0, 1) := gd_X12_feed_91.2.2.1
theorem dX12_feed_94 : decode cX12_feed 94 = .ok (.dup, 1) := gd_X12_feed_91.2.2.2.1
theorem dX12_feed_95 : decode cX12_feed 95 = .ok (.getfield 152, 3) := gd_X12_feed_91.2.2.2.2.1
theorem dX12_feed_98 : decode cX12_feed 98 = .ok (.iconst 1, 1) := gd_X12_feed_91.2.2.2.2.2.1
theorem dX12_feed_99 : decode cX12_feed 99 = .ok (.iadd, 1) := gd_X12_feed_91.2.2.2.2.2.2.1
theorem dX12_feed_100 : decode cX12_feed 100 = .ok (.putfield 152, 3) := gd_X12_feed_91.2.2.2.2.2.2.2.1
theorem dX12_feed_103 : decode cX12_feed 103 = .ok (.iinc 8 (-8), 3) := gd_X12_feed_91.2.2.2.2.2.2.2.2.1
theorem dX12_feed_106 : decode cX12_feed 106 = .ok (.goto (-33), 3) := gd_X12_feed_91.2.2.2.2.2.2.2.2.2
theorem gd_X12_feed_109 : decode cX12_feed 109 = .ok (.iinc 6 1, 3) ∧ decode cX12_feed 112 = .ok (.goto (-93), 3) ∧ decode cX12_feed 115 = .ok (.aload_n 0, 1) ∧ decode cX12_feed 116 = .ok (.getfield 152, 3) ∧ decode cX12_feed 119 = .ok (.ireturn, 1) ∧ decode cX12_end 0 = .ok (.iload_n 1, 1) ∧ decode cX12_end 1 = .ok (.ifCond .lt 11, 3) ∧ decode cX12_end 4 = .ok (.iload_n 1, 1) ∧ decode cX12_end 5 = .ok (.aload_n 0, 1) ∧ decode cX12_end 6 = .ok (.getfield 152, 3) := by decide +kernel
theorem dX12_feed_109 : decode cX12_feed 109 = .ok (.iinc 6 1, 3) := gd_X12_feed_109.1
theorem dX12_feed_112 : decode cX12_feed 112 = .ok (.goto (-93), 3) := gd_X12_feed_109.2.1
theorem dX12_feed_115 : decode cX12_feed 115 = .ok (.aload_n 0, 1) := gd_X12_feed_109.2.2.1
theorem dX12_feed_116 : decode cX12_feed 116 = .ok (.getfield 152, 3) := gd_X12_feed_109.2.2.2.1
theorem dX12_feed_119 : decode cX12_feed 119 = .ok (.ireturn, 1) := gd_X12_feed_109.2.2.2.2.1
theorem dX12_end_0 : decode cX12_end 0 = .ok (.iload_n 1, 1) := gd_X12_feed_109.2.2.2.2.2.1
theorem dX12_end_1 : decode cX12_end 1 = .ok (.ifCond .lt 11, 3) := gd_X12_feed_109.2.2.2.2.2.2.1
theorem dX12_end_4 : decode cX12_end 4 = .ok (.iload_n 1, 1) := gd_X12_feed_109.2.2.2.2.2.2.2.1
theorem dX12_end_5 : decode cX12_end 5 = .ok (.aload_n 0, 1) := gd_X12_feed_109.2.2.2.2.2.2.2.2.1
theorem dX12_end_6 : decode cX12_end 6 = .ok (.getfield 152, 3) := gd_X12_feed_109.2.2.2.2.2.2.2.2.2
theorem gd_X12_end_9 : decode cX12_end 9 = .ok (.if_icmp .le 5, 3) ∧ decode cX12_end 12 = .ok (.iconst (-1), 1) ∧ decode cX12_end 13 = .ok (.ireturn, 1) ∧ decode cX12_end 14 = .ok (.aload_n 0, 1) ∧ decode cX12_end 15 = .ok (.iload_n 1, 1) ∧ decode cX12_end 16 = .ok (.putfield 152, 3) ∧ decode cX12_end 19 = .ok (.iload_n 1, 1) ∧ decode cX12_end 20 = .ok (.ireturn, 1) ∧ decode cX12_see 0 = .ok (.iload_n 1, 1) ∧ decode cX12_see 1 = .ok (.aload_n 0, 1) := by decide +kernel
theorem dX12_end_9 : decode cX12_end 9 = .ok (.if_icmp .le 5, 3) := gd_X12_end_9.1
theorem dX12_end_12 : decode cX12_end 12 = .ok (.iconst (-1), 1) := gd_X12_end_9.2.1
theorem dX12_end_13 : decode cX12_end 13 = .ok (.ireturn, 1) := gd_X12_end_9.2.2.1
theorem dX12_end_14 : decode cX12_end 14 = .ok (.aload_n 0, 1) := gd_X12_end_9.2.2.2.1
theorem dX12_end_15 : decode cX12_end 15 = .ok (.iload_n 1, 1) := gd_X12_end_9.2.2.2.2.1
theorem dX12_end_16 : decode cX12_end 16 = .ok (.putfield 152, 3) := gd_X12_end_9.2.2.2.2.2.1
theorem dX12_end_19 : decode cX12_end 19 = .ok (.iload_n 1, 1) := gd_X12_end_9.2.2.2.2.2.2.1
theorem dX12_end_20 : decode cX12_end 20 = .ok (.ireturn, 1) := gd_X12_end_9.2.2.2.2.2.2.2.1
theorem dX12_see_0 : decode cX12_see 0 = .ok (.iload_n 1, 1) := gd_X12_end_9.2.2.2.2.2.2.2.2.1
theorem dX12_see_1 : decode cX12_see 1 = .ok (.aload_n 0, 1) := gd_X12_end_9.2.2.2.2.2.2.2.2.2
theorem gd_X12_see_2 : decode cX12_see 2 = .ok (.getfield 155, 3) ∧ decode cX12_see 5 = .ok (.if_icmp .ge 16, 3) ∧ decode cX12_see 21 = .ok (.iconst (-1), 1) ∧ decode cX12_see 22 = .ok (.ireturn, 1) ∧ decode cX12_scan 0 = .ok (.aload_n 0, 1) ∧ decode cX12_scan 1 = .ok (.getfield 174, 3) ∧ decode cX12_scan 4 = .ok (.istore_n 1, 1) ∧ decode cX12_scan 5 = .ok (.aload_n 0, 1) ∧ decode cX12_scan 6 = .ok (.iload_n 1, 1) ∧ decode cX12_scan 7 = .ok (.invokevirtual 170, 3) := by decide +kernel
theorem dX12_see_2 : decode cX12_see 2 = .ok (.getfield 155, 3) := gd_X12_see_2.1
theorem dX12_see_5 : decode cX12_see 5 = .ok (.if_icmp .ge 16, 3) := gd_X12_see_2.2.1
theorem dX12_see_21 : decode cX12_see 21 = .ok (.iconst (-1), 1) := gd_X12_see_2.2.2.1
theorem dX12_see_22 : decode cX12_see 22 = .ok (.ireturn, 1) := gd_X12_see_2.2.2.2.1
theorem dX12_scan_0 : decode cX12_scan 0 = .ok (.aload_n 0, 1) := gd_X12_see_2.2.2.2.2.1
theorem dX12_scan_1 : decode cX12_scan 1 = .ok (.getfield 174, 3) := gd_X12_see_2.2.2.2.2.2.1
theorem dX12_scan_4 : decode cX12_scan 4 = .ok (.istore_n 1, 1) := gd_X12_see_2.2.2.2.2.2.2.1
theorem dX12_scan_5 : decode cX12_scan 5 = .ok (.aload_n 0, 1) := gd_X12_see_2.2.2.2.2.2.2.2.1
theorem dX12_scan_6 : decode cX12_scan 6 = .ok (.iload_n 1, 1) := gd_X12_see_2.2.2.2.2.2.2.2.2.1
theorem dX12_scan_7 : decode cX12_scan 7 = .ok (.invokevirtual 170, 3) := gd_X12_see_2.2.2.2.2.2.2.2.2.2
theorem gd_X12_scan_10 : decode cX12_scan 10 = .ok (.bipush 32, 2) ∧ decode cX12_scan 12 = .ok (.if_icmp .eq 13, 3) ∧ decode cX12_scan 15 = .ok (.aload_n 0, 1) ∧ decode cX12_scan 16 = .ok (.iload_n 1, 1) ∧ decode cX12_scan 17 = .ok (.invokevirtual 170, 3) ∧ decode cX12_scan 20 = .ok (.bipush 10, 2) ∧ decode cX12_scan 22 = .ok (.if_icmp .ne 9, 3) ∧ decode cX12_scan 31 = .ok (.aload_n 0, 1) ∧ decode cX12_scan 32 = .ok (.iload_n 1, 1) ∧ decode cX12_scan 33 = .ok (.putfield 177, 3) := by decide +kernel
theorem dX12_scan_10 : decode cX12_scan 10 = .ok (.bipush 32, 2) := gd_X12_scan_10.1
theorem dX12_scan_12 : decode cX12_scan 12 = .ok (.if_icmp .eq 13, 3) := gd_X12_scan_10.2.1
theorem dX12_scan_15 : decode cX12_scan 15 = .ok (.aload_n 0, 1) := gd_X12_scan_10.2.2.1
theorem dX12_scan_16 : decode cX12_scan 16 = .ok (.iload_n 1, 1) := gd_X12_scan_10.2.2.2.1
theorem dX12_scan_17 : decode cX12_scan 17 = .ok (.invokevirtual 170, 3) := gd_X12_scan_10.2.2.2.2.1
theorem dX12_scan_20 : decode cX12_scan 20 = .ok (.bipush 10, 2) := gd_X12_scan_10.2.2.2.2.2.1
theorem dX12_scan_22 : decode cX12_scan 22 = .ok (.if_icmp .ne 9, 3) := gd_X12_scan_10.2.2.2.2.2.2.1
theorem dX12_scan_31 : decode cX12_scan 31 = .ok (.aload_n 0, 1) := gd_X12_scan_10.2.2.2.2.2.2.2.1
theorem dX12_scan_32 : decode cX12_scan 32 = .ok (.iload_n 1, 1) := gd_X12_scan_10.2.2.2.2.2.2.2.2.1
theorem dX12_scan_33 : decode cX12_scan 33 = .ok (.putfield 177, 3) := gd_X12_scan_10.2.2.2.2.2.2.2.2.2
theorem gd_X12_scan_36 : decode cX12_scan 36 = .ok (.aload_n 0, 1) ∧ decode cX12_scan 37 = .ok (.iload_n 1, 1) ∧ decode cX12_scan 38 = .ok (.invokevirtual 170, 3) ∧ decode cX12_scan 41 = .ok (.istore_n 2, 1) ∧ decode cX12_scan 42 = .ok (.iload_n 1, 1) ∧ decode cX12_scan 43 = .ok (.iconst 1, 1) ∧ decode cX12_scan 44 = .ok (.iadd, 1) ∧ decode cX12_scan 45 = .ok (.istore_n 3, 1) ∧ decode cX12_scan 46 = .ok (.iload_n 2, 1) ∧ decode cX12_scan 47 = .ok (.iconst (-1), 1) := by decide +kernel
theorem dX12_scan_36 : decode cX12_scan 36 = .ok (.aload_n 0, 1) := gd_X12_scan_36.1
theorem dX12_scan_37 : decode cX12_scan 37 = .ok (.iload_n 1, 1) := gd_X12_scan_36.2.1
theorem dX12_scan_38 : decode cX12_scan 38 = .ok (.invokevirtual 170, 3) := gd_X12_scan_36.2.2.1
theorem dX12_scan_41 : decode cX12_scan 41 = .ok (.istore_n 2, 1) := gd_X12_scan_36.2.2.2.1
theorem dX12_scan_42 : decode cX12_scan 42 = .ok (.iload_n 1, 1) := gd_X12_scan_36.2.2.2.2.1
theorem dX12_scan_43 : decode cX12_scan 43 = .ok (.iconst 1, 1) := gd_X12_scan_36.2.2.2.2.2.1
theorem dX12_scan_44 : decode cX12_scan 44 = .ok (.iadd, 1) := gd_X12_scan_36.2.2.2.2.2.2.1
theorem dX12_scan_45 : decode cX12_scan 45 = .ok (.istore_n 3, 1) := gd_X12_scan_36.2.2.2.2.2.2.2.1
theorem dX12_scan_46 : decode cX12_scan 46 = .ok (.iload_n 2, 1) := gd_X12_scan_36.2.2.2.2.2.2.2.2.1
theorem dX12_scan_47 : decode cX12_scan 47 = .ok (.iconst (-1), 1) := gd_X12_scan_36.2.2.2.2.2.2.2.2.2
theorem gd_X12_scan_48 : decode cX12_scan 48 = .ok (.if_icmp .ne 13, 3) ∧ decode cX12_scan 51 = .ok (.aload_n 0, 1) ∧ decode cX12_scan 52 = .ok (.iconst 4, 1) ∧ decode cX12_scan 53 = .ok (.putfield 180, 3) ∧ decode cX12_scan 56 = .ok (.iload_n 1, 1) ∧ decode cX12_scan 57 = .ok (.istore_n 3, 1) ∧ decode cX12_scan 58 = .ok (.goto 132, 3) ∧ decode cX12_scan 190 = .ok (.aload_n 0, 1) ∧ decode cX12_scan 191 = .ok (.iload_n 3, 1) ∧ decode cX12_scan 192 = .ok (.putfield 174, 3) := by decide +kernel
theorem dX12_scan_48 : decode cX12_scan 48 = .ok (.if_icmp .ne 13, 3) := gd_X12_scan_48.1
theorem dX12_scan_51 : decode cX12_scan 51 = .ok (.aload_n 0, 1) := gd_X12_scan_48.2.1
theorem dX12_scan_52 : decode cX12_scan 52 = .ok (.iconst 4, 1) := gd_X12_scan_48.2.2.1
theorem dX12_scan_53 : decode cX12_scan 53 = .ok (.putfield 180, 3) := gd_X12_scan_48.2.2.2.1
theorem dX12_scan_56 : decode cX12_scan 56 = .ok (.iload_n 1, 1) := gd_X12_scan_48.2.2.2.2.1
theorem dX12_scan_57 : decode cX12_scan 57 = .ok (.istore_n 3, 1) := gd_X12_scan_48.2.2.2.2.2.1
theorem dX12_scan_58 : decode cX12_scan 58 = .ok (.goto 132, 3) := gd_X12_scan_48.2.2.2.2.2.2.1
theorem dX12_scan_190 : decode cX12_scan 190 = .ok (.aload_n 0, 1) := gd_X12_scan_48.2.2.2.2.2.2.2.1
theorem dX12_scan_191 : decode cX12_scan 191 = .ok (.iload_n 3, 1) := gd_X12_scan_48.2.2.2.2.2.2.2.2.1
theorem dX12_scan_192 : decode cX12_scan 192 = .ok (.putfield 174, 3) := gd_X12_scan_48.2.2.2.2.2.2.2.2.2
theorem gd_X12_scan_195 : decode cX12_scan 195 = .ok (.return_, 1) ∧ decode cX12_reform 0 = .ok (.aload_n 0, 1) ∧ decode cX12_reform 1 = .ok (.aload_n 0, 1) ∧ decode cX12_reform 2 = .ok (.getfield 152, 3) ∧ decode cX12_reform 5 = .ok (.putfield 155, 3) ∧ decode cX12_reform 8 = .ok (.aload_n 0, 1) ∧ decode cX12_reform 9 = .ok (.iconst 0, 1) ∧ decode cX12_reform 10 = .ok (.putfield 152, 3) ∧ decode cX12_reform 13 = .ok (.iload_n 1, 1) ∧ decode cX12_reform 14 = .ok (.aload_n 0, 1) := by decide +kernel
theorem dX12_scan_195 : decode cX12_scan 195 = .ok (.return_, 1) := gd_X12_scan_195.1
theorem dX12_reform_0 : decode cX12_reform 0 = .ok (.aload_n 0, 1) := gd_X12_scan_195.2.1
theorem dX12_reform_1 : decode cX12_reform 1 = .ok (.aload_n 0, 1) := gd_X12_scan_195.2.2.1
theorem dX12_reform_2 : decode cX12_reform 2 = .ok (.getfield 152, 3) := gd_X12_scan_195.2.2.2.1
theorem dX12_reform_5 : decode cX12_reform 5 = .ok (.putfield 155, 3) := gd_X12_scan_195.2.2.2.2.1
theorem dX12_reform_8 : decode cX12_reform 8 = .ok (.aload_n 0, 1) := gd_X12_scan_195.2.2.2.2.2.1
theorem dX12_reform_9 : decode cX12_reform 9 = .ok (.iconst 0, 1) := gd_X12_scan_195.2.2.2.2.2.2.1
theorem dX12_reform_10 : decode cX12_reform 10 = .ok (.putfield 152, 3) := gd_X12_scan_195.2.2.2.2.2.2.2.1
theorem dX12_reform_13 : decode cX12_reform 13 = .ok (.iload_n 1, 1) := gd_X12_scan_195.2.2.2.2.2.2.2.2.1
theorem dX12_reform_14 : decode cX12_reform 14 = .ok (.aload_n 0, 1) := gd_X12_scan_195.2.2.2.2.2.2.2.2.2
theorem gd_X12_reform_15 : decode cX12_reform 15 = .ok (.getfield 222, 3) ∧ decode cX12_reform 18 = .ok (.ifCond .ne 7, 3) ∧ decode cX12_reform 21 = .ok (.iconst 0, 1) ∧ decode cX12_reform 22 = .ok (.goto 16, 3) ∧ decode cX12_reform 38 = .ok (.ldc 225, 2) ∧ decode cX12_reform 40 = .ok (.invokestatic 226, 3) ∧ decode cX12_reform 43 = .ok (.ifCond .ne 6, 3) ∧ decode cX12_reform 46 = .ok (.bipush (-2), 2) ∧ decode cX12_reform 48 = .ok (.ireturn, 1) ∧ decode cX12_reform 49 = .ok (.aload_n 0, 1) := by decide +kernel
theorem dX12_reform_15 : decode cX12_reform 15 = .ok (.getfield 222, 3) := gd_X12_reform_15.1
theorem dX12_reform_18 : decode cX12_reform 18 = .ok (.ifCond .ne 7, 3) := gd_X12_reform_15.2.1
theorem dX12_reform_21 : decode cX12_reform 21 = .ok (.iconst 0, 1) := gd_X12_reform_15.2.2.1
theorem dX12_reform_22 : decode cX12_reform 22 = .ok (.goto 16, 3) := gd_X12_reform_15.2.2.2.1
theorem dX12_reform_38 : decode cX12_reform 38 = .ok (.ldc 225, 2) := gd_X12_reform_15.2.2.2.2.1
theorem dX12_reform_40 : decode cX12_reform 40 = .ok (.invokestatic 226, 3) := gd_X12_reform_15.2.2.2.2.2.1
theorem dX12_reform_43 : decode cX12_reform 43 = .ok (.ifCond .ne 6, 3) := gd_X12_reform_15.2.2.2.2.2.2.1
theorem dX12_reform_46 : decode cX12_reform 46 = .ok (.bipush (-2), 2) := gd_X12_reform_15.2.2.2.2.2.2.2.1
theorem dX12_reform_48 : decode cX12_reform 48 = .ok (.ireturn, 1) := gd_X12_reform_15.2.2.2.2.2.2.2.2.1
theorem dX12_reform_49 : decode cX12_reform 49 = .ok (.aload_n 0, 1) := gd_X12_reform_15.2.2.2.2.2.2.2.2.2
theorem gd_X12_reform_50 : decode cX12_reform 50 = .ok (.iconst 0, 1) ∧ decode cX12_reform 51 = .ok (.putfield 194, 3) ∧ decode cX12_reform 54 = .ok (.aload_n 0, 1) ∧ decode cX12_reform 55 = .ok (.iconst (-1), 1) ∧ decode cX12_reform 56 = .ok (.putfield 13, 3) ∧ decode cX12_reform 59 = .ok (.aload_n 0, 1) ∧ decode cX12_reform 60 = .ok (.getfield 21, 3) ∧ decode cX12_reform 63 = .ok (.bipush 6, 2) ∧ decode cX12_reform 65 = .ok (.iconst 0, 1) ∧ decode cX12_reform 66 = .ok (.iastore, 1) := by decide +kernel
theorem dX12_reform_50 : decode cX12_reform 50 = .ok (.iconst 0, 1) := gd_X12_reform_50.1
theorem dX12_reform_51 : decode cX12_reform 51 = .ok (.putfield 194, 3) := gd_X12_reform_50.2.1
theorem dX12_reform_54 : decode cX12_reform 54 = .ok (.aload_n 0, 1) := gd_X12_reform_50.2.2.1
theorem dX12_reform_55 : decode cX12_reform 55 = .ok (.iconst (-1), 1) := gd_X12_reform_50.2.2.2.1
theorem dX12_reform_56 : decode cX12_reform 56 = .ok (.putfield 13, 3) := gd_X12_reform_50.2.2.2.2.1
theorem dX12_reform_59 : decode cX12_reform 59 = .ok (.aload_n 0, 1) := gd_X12_reform_50.2.2.2.2.2.1
theorem dX12_reform_60 : decode cX12_reform 60 = .ok (.getfield 21, 3) := gd_X12_reform_50.2.2.2.2.2.2.1
theorem dX12_reform_63 : decode cX12_reform 63 = .ok (.bipush 6, 2) := gd_X12_reform_50.2.2.2.2.2.2.2.1
theorem dX12_reform_65 : decode cX12_reform 65 = .ok (.iconst 0, 1) := gd_X12_reform_50.2.2.2.2.2.2.2.2.1
theorem dX12_reform_66 : decode cX12_reform 66 = .ok (.iastore, 1) := gd_X12_reform_50.2.2.2.2.2.2.2.2.2
theorem gd_X12_reform_67 : decode cX12_reform 67 = .ok (.aload_n 0, 1) ∧ decode cX12_reform 68 = .ok (.getfield 24, 3) ∧ decode cX12_reform 71 = .ok (.bipush 6, 2) ∧ decode cX12_reform 73 = .ok (.iconst 0, 1) ∧ decode cX12_reform 74 = .ok (.iastore, 1) ∧ decode cX12_reform 75 = .ok (.aload_n 0, 1) ∧ decode cX12_reform 76 = .ok (.getfield 27, 3) ∧ decode cX12_reform 79 = .ok (.bipush 6, 2) ∧ decode cX12_reform 81 = .ok (.iconst 0, 1) ∧ decode cX12_reform 82 = .ok (.iastore, 1) := by decide +kernel
theorem dX12_reform_67 : decode cX12_reform 67 = .ok (.aload_n 0, 1) := gd_X12_reform_67.1
theorem dX12_reform_68 : decode cX12_reform 68 = .ok (.getfield 24, 3) := gd_X12_reform_67.2.1
theorem dX12_reform_71 : decode cX12_reform 71 = .ok (.bipush 6, 2) := gd_X12_reform_67.2.2.1
theorem dX12_reform_73 : decode cX12_reform 73 = .ok (.iconst 0, 1) := gd_X12_reform_67.2.2.2.1
theorem dX12_reform_74 : decode cX12_reform 74 = .ok (.iastore, 1) := gd_X12_reform_67.2.2.2.2.1
theorem dX12_reform_75 : decode cX12_reform 75 = .ok (.aload_n 0, 1) := gd_X12_reform_67.2.2.2.2.2.1
theorem dX12_reform_76 : decode cX12_reform 76 = .ok (.getfield 27, 3) := gd_X12_reform_67.2.2.2.2.2.2.1
theorem dX12_reform_79 : decode cX12_reform 79 = .ok (.bipush 6, 2) := gd_X12_reform_67.2.2.2.2.2.2.2.1
theorem dX12_reform_81 : decode cX12_reform 81 = .ok (.iconst 0, 1) := gd_X12_reform_67.2.2.2.2.2.2.2.2.1
theorem dX12_reform_82 : decode cX12_reform 82 = .ok (.iastore, 1) := gd_X12_reform_67.2.2.2.2.2.2.2.2.2
theorem gd_X12_reform_83 : decode cX12_reform 83 = .ok (.aload_n 0, 1) ∧ decode cX12_reform 84 = .ok (.iconst 0, 1) ∧ decode cX12_reform 85 = .ok (.putfield 174, 3) ∧ decode cX12_reform 88 = .ok (.aload_n 0, 1) ∧ decode cX12_reform 89 = .ok (.invokevirtual 200, 3) ∧ decode cX12_reform 92 = .ok (.aload_n 0, 1) ∧ decode cX12_reform 93 = .ok (.getfield 180, 3) ∧ decode cX12_reform 96 = .ok (.iconst 4, 1) ∧ decode cX12_reform 97 = .ok (.if_icmp .eq 12, 3) ∧ decode cX12_reform 109 = .ok (.aload_n 0, 1) := by decide +kernel
theorem dX12_reform_83 : decode cX12_reform 83 = .ok (.aload_n 0, 1) := gd_X12_reform_83.1
theorem dX12_reform_84 : decode cX12_reform 84 = .ok (.iconst 0, 1) := gd_X12_reform_83.2.1
theorem dX12_reform_85 : decode cX12_reform 85 = .ok (.putfield 174, 3) := gd_X12_reform_83.2.2.1
theorem dX12_reform_88 : decode cX12_reform 88 = .ok (.aload_n 0, 1) := gd_X12_reform_83.2.2.2.1
theorem dX12_reform_89 : decode cX12_reform 89 = .ok (.invokevirtual 200, 3) := gd_X12_reform_83.2.2.2.2.1
theorem dX12_reform_92 : decode cX12_reform 92 = .ok (.aload_n 0, 1) := gd_X12_reform_83.2.2.2.2.2.1
theorem dX12_reform_93 : decode cX12_reform 93 = .ok (.getfield 180, 3) := gd_X12_reform_83.2.2.2.2.2.2.1
theorem dX12_reform_96 : decode cX12_reform 96 = .ok (.iconst 4, 1) := gd_X12_reform_83.2.2.2.2.2.2.2.1
theorem dX12_reform_97 : decode cX12_reform 97 = .ok (.if_icmp .eq 12, 3) := gd_X12_reform_83.2.2.2.2.2.2.2.2.1
theorem dX12_reform_109 : decode cX12_reform 109 = .ok (.aload_n 0, 1) := gd_X12_reform_83.2.2.2.2.2.2.2.2.2
theorem gd_X12_reform_110 : decode cX12_reform 110 = .ok (.getfield 222, 3) ∧ decode cX12_reform 113 = .ok (.bipush 6, 2) ∧ decode cX12_reform 115 = .ok (.if_icmp .ne 6, 3) ∧ decode cX12_reform 121 = .ok (.aload_n 0, 1) ∧ decode cX12_reform 122 = .ok (.getfield 222, 3) ∧ decode cX12_reform 125 = .ok (.istore_n 2, 1) ∧ decode cX12_reform 126 = .ok (.aload_n 0, 1) ∧ decode cX12_reform 127 = .ok (.getfield 17, 3) ∧ decode cX12_reform 130 = .ok (.iload_n 2, 1) ∧ decode cX12_reform 131 = .ok (.iload_n 1, 1) := by decide +kernel
theorem dX12_reform_110 : decode cX12_reform 110 = .ok (.getfield 222, 3) := gd_X12_reform_110.1
theorem dX12_reform_113 : decode cX12_reform 113 = .ok (.bipush 6, 2) := gd_X12_reform_110.2.1
theorem dX12_reform_115 : decode cX12_reform 115 = .ok (.if_icmp .ne 6, 3) := gd_X12_reform_110.2.2.1
theorem dX12_reform_121 : decode cX12_reform 121 = .ok (.aload_n 0, 1) := gd_X12_reform_110.2.2.2.1
theorem dX12_reform_122 : decode cX12_reform 122 = .ok (.getfield 222, 3) := gd_X12_reform_110.2.2.2.2.1
theorem dX12_reform_125 : decode cX12_reform 125 = .ok (.istore_n 2, 1) := gd_X12_reform_110.2.2.2.2.2.1
theorem dX12_reform_126 : decode cX12_reform 126 = .ok (.aload_n 0, 1) := gd_X12_reform_110.2.2.2.2.2.2.1
theorem dX12_reform_127 : decode cX12_reform 127 = .ok (.getfield 17, 3) := gd_X12_reform_110.2.2.2.2.2.2.2.1
theorem dX12_reform_130 : decode cX12_reform 130 = .ok (.iload_n 2, 1) := gd_X12_reform_110.2.2.2.2.2.2.2.2.1
theorem dX12_reform_131 : decode cX12_reform 131 = .ok (.iload_n 1, 1) := gd_X12_reform_110.2.2.2.2.2.2.2.2.2
theorem gd_X12_reform_132 : decode cX12_reform 132 = .ok (.iastore, 1) ∧ decode cX12_reform 133 = .ok (.aload_n 0, 1) ∧ decode cX12_reform 134 = .ok (.getfield 21, 3) ∧ decode cX12_reform 137 = .ok (.iload_n 2, 1) ∧ decode cX12_reform 138 = .ok (.aload_n 0, 1) ∧ decode cX12_reform 139 = .ok (.getfield 21, 3) ∧ decode cX12_reform 142 = .ok (.bipush 6, 2) ∧ decode cX12_reform 144 = .ok (.iaload, 1) ∧ decode cX12_reform 145 = .ok (.iastore, 1) ∧ decode cX12_reform 146 = .ok (.aload_n 0, 1) := by decide +kernel
theorem dX12_reform_132 : decode cX12_reform 132 = .ok (.iastore, 1) := gd_X12_reform_132.1
theorem dX12_reform_133 : decode cX12_reform 133 = .ok (.aload_n 0, 1) := gd_X12_reform_132.2.1
theorem dX12_reform_134 : decode cX12_reform 134 = .ok (.getfield 21, 3) := gd_X12_reform_132.2.2.1
theorem dX12_reform_137 : decode cX12_reform 137 = .ok (.iload_n 2, 1) := gd_X12_reform_132.2.2.2.1
theorem dX12_reform_138 : decode cX12_reform 138 = .ok (.aload_n 0, 1) := gd_X12_reform_132.2.2.2.2.1
theorem dX12_reform_139 : decode cX12_reform 139 = .ok (.getfield 21, 3) := gd_X12_reform_132.2.2.2.2.2.1
theorem dX12_reform_142 : decode cX12_reform 142 = .ok (.bipush 6, 2) := gd_X12_reform_132.2.2.2.2.2.2.1
theorem dX12_reform_144 : decode cX12_reform 144 = .ok (.iaload, 1) := gd_X12_reform_132.2.2.2.2.2.2.2.1
theorem dX12_reform_145 : decode cX12_reform 145 = .ok (.iastore, 1) := gd_X12_reform_132.2.2.2.2.2.2.2.2.1
theorem dX12_reform_146 : decode cX12_reform 146 = .ok (.aload_n 0, 1) := gd_X12_reform_132.2.2.2.2.2.2.2.2.2
theorem gd_X12_reform_147 : decode cX12_reform 147 = .ok (.getfield 24, 3) ∧ decode cX12_reform 150 = .ok (.iload_n 2, 1) ∧ decode cX12_reform 151 = .ok (.aload_n 0, 1) ∧ decode cX12_reform 152 = .ok (.getfield 24, 3) ∧ decode cX12_reform 155 = .ok (.bipush 6, 2) ∧ decode cX12_reform 157 = .ok (.iaload, 1) ∧ decode cX12_reform 158 = .ok (.iastore, 1) ∧ decode cX12_reform 159 = .ok (.aload_n 0, 1) ∧ decode cX12_reform 160 = .ok (.getfield 27, 3) ∧ decode cX12_reform 163 = .ok (.iload_n 2, 1) := by decide +kernel
theorem dX12_reform_147 : decode cX12_reform 147 = .ok (.getfield 24, 3) := gd_X12_reform_147.1
theorem dX12_reform_150 : decode cX12_reform 150 = .ok (.iload_n 2, 1) := gd_X12_reform_147.2.1
theorem dX12_reform_151 : decode cX12_reform 151 = .ok (.aload_n 0, 1) := gd_X12_reform_147.2.2.1
theorem dX12_reform_152 : decode cX12_reform 152 = .ok (.getfield 24, 3) := gd_X12_reform_147.2.2.2.1
theorem dX12_reform_155 : decode cX12_reform 155 = .ok (.bipush 6, 2) := gd_X12_reform_147.2.2.2.2.1
theorem dX12_reform_157 : decode cX12_reform 157 = .ok (.iaload, 1) := gd_X12_reform_147.2.2.2.2.2.1
theorem dX12_reform_158 : decode cX12_reform 158 = .ok (.iastore, 1) := gd_X12_reform_147.2.2.2.2.2.2.1
theorem dX12_reform_159 : decode cX12_reform 159 = .ok (.aload_n 0, 1) := gd_X12_reform_147.2.2.2.2.2.2.2.1
theorem dX12_reform_160 : decode cX12_reform 160 = .ok (.getfield 27, 3) := gd_X12_reform_147.2.2.2.2.2.2.2.2.1
theorem dX12_reform_163 : decode cX12_reform 163 = .ok (.iload_n 2, 1) := gd_X12_reform_147.2.2.2.2.2.2.2.2.2
theorem gd_X12_reform_164 : decode cX12_reform 164 = .ok (.aload_n 0, 1) ∧ decode cX12_reform 165 = .ok (.getfield 27, 3) ∧ decode cX12_reform 168 = .ok (.bipush 6, 2) ∧ decode cX12_reform 170 = .ok (.iaload, 1) ∧ decode cX12_reform 171 = .ok (.iastore, 1) ∧ decode cX12_reform 172 = .ok (.iconst 0, 1) ∧ decode cX12_reform 173 = .ok (.istore_n 3, 1) ∧ decode cX12_reform 174 = .ok (.iload_n 3, 1) ∧ decode cX12_reform 175 = .ok (.iconst 4, 1) ∧ decode cX12_reform 176 = .ok (.aload_n 0, 1) := by decide +kernel
theorem dX12_reform_164 : decode cX12_reform 164 = .ok (.aload_n 0, 1) := gd_X12_reform_164.1
theorem dX12_reform_165 : decode cX12_reform 165 = .ok (.getfield 27, 3) := gd_X12_reform_164.2.1
theorem dX12_reform_168 : decode cX12_reform 168 = .ok (.bipush 6, 2) := gd_X12_reform_164.2.2.1
theorem dX12_reform_170 : decode cX12_reform 170 = .ok (.iaload, 1) := gd_X12_reform_164.2.2.2.1
theorem dX12_reform_171 : decode cX12_reform 171 = .ok (.iastore, 1) := gd_X12_reform_164.2.2.2.2.1
theorem dX12_reform_172 : decode cX12_reform 172 = .ok (.iconst 0, 1) := gd_X12_reform_164.2.2.2.2.2.1
theorem dX12_reform_173 : decode cX12_reform 173 = .ok (.istore_n 3, 1) := gd_X12_reform_164.2.2.2.2.2.2.1
theorem dX12_reform_174 : decode cX12_reform 174 = .ok (.iload_n 3, 1) := gd_X12_reform_164.2.2.2.2.2.2.2.1
theorem dX12_reform_175 : decode cX12_reform 175 = .ok (.iconst 4, 1) := gd_X12_reform_164.2.2.2.2.2.2.2.2.1
theorem dX12_reform_176 : decode cX12_reform 176 = .ok (.aload_n 0, 1) := gd_X12_reform_164.2.2.2.2.2.2.2.2.2
theorem gd_X12_reform_177 : decode cX12_reform 177 = .ok (.getfield 21, 3) ∧ decode cX12_reform 180 = .ok (.iload_n 2, 1) ∧ decode cX12_reform 181 = .ok (.iaload, 1) ∧ decode cX12_reform 182 = .ok (.imul, 1) ∧ decode cX12_reform 183 = .ok (.if_icmp .ge 32, 3) ∧ decode cX12_reform 215 = .ok (.iconst 0, 1) ∧ decode cX12_reform 216 = .ok (.istore_n 3, 1) ∧ decode cX12_reform 217 = .ok (.iload_n 3, 1) ∧ decode cX12_reform 218 = .ok (.aload_n 0, 1) ∧ decode cX12_reform 219 = .ok (.getfield 21, 3) := by decide +kernel
theorem dX12_reform_177 : decode cX12_reform 177 = .ok (.getfield 21, 3) := gd_X12_reform_177.1
theorem dX12_reform_180 : decode cX12_reform 180 = .ok (.iload_n 2, 1) := gd_X12_reform_177.2.1
theorem dX12_reform_181 : decode cX12_reform 181 = .ok (.iaload, 1) := gd_X12_reform_177.2.2.1
theorem dX12_reform_182 : decode cX12_reform 182 = .ok (.imul, 1) := gd_X12_reform_177.2.2.2.1
theorem dX12_reform_183 : decode cX12_reform 183 = .ok (.if_icmp .ge 32, 3) := gd_X12_reform_177.2.2.2.2.1
theorem dX12_reform_215 : decode cX12_reform 215 = .ok (.iconst 0, 1) := gd_X12_reform_177.2.2.2.2.2.1
theorem dX12_reform_216 : decode cX12_reform 216 = .ok (.istore_n 3, 1) := gd_X12_reform_177.2.2.2.2.2.2.1
theorem dX12_reform_217 : decode cX12_reform 217 = .ok (.iload_n 3, 1) := gd_X12_reform_177.2.2.2.2.2.2.2.1
theorem dX12_reform_218 : decode cX12_reform 218 = .ok (.aload_n 0, 1) := gd_X12_reform_177.2.2.2.2.2.2.2.2.1
theorem dX12_reform_219 : decode cX12_reform 219 = .ok (.getfield 21, 3) := gd_X12_reform_177.2.2.2.2.2.2.2.2.2
theorem gd_X12_reform_222 : decode cX12_reform 222 = .ok (.iload_n 2, 1) ∧ decode cX12_reform 223 = .ok (.iaload, 1) ∧ decode cX12_reform 224 = .ok (.if_icmp .ge 51, 3) ∧ decode cX12_reform 275 = .ok (.iconst 0, 1) ∧ decode cX12_reform 276 = .ok (.istore_n 3, 1) ∧ decode cX12_reform 277 = .ok (.iload_n 3, 1) ∧ decode cX12_reform 278 = .ok (.aload_n 0, 1) ∧ decode cX12_reform 279 = .ok (.getfield 24, 3) ∧ decode cX12_reform 282 = .ok (.iload_n 2, 1) ∧ decode cX12_reform 283 = .ok (.iaload, 1) := by decide +kernel
theorem dX12_reform_222 : decode cX12_reform 222 = .ok (.iload_n 2, 1) := gd_X12_reform_222.1
theorem dX12_reform_223 : decode cX12_reform 223 = .ok (.iaload, 1) := gd_X12_reform_222.2.1
theorem dX12_reform_224 : decode cX12_reform 224 = .ok (.if_icmp .ge 51, 3) := gd_X12_reform_222.2.2.1
theorem dX12_reform_275 : decode cX12_reform 275 = .ok (.iconst 0, 1) := gd_X12_reform_222.2.2.2.1
theorem dX12_reform_276 : decode cX12_reform 276 = .ok (.istore_n 3, 1) := gd_X12_reform_222.2.2.2.2.1
theorem dX12_reform_277 : decode cX12_reform 277 = .ok (.iload_n 3, 1) := gd_X12_reform_222.2.2.2.2.2.1
theorem dX12_reform_278 : decode cX12_reform 278 = .ok (.aload_n 0, 1) := gd_X12_reform_222.2.2.2.2.2.2.1
theorem dX12_reform_279 : decode cX12_reform 279 = .ok (.getfield 24, 3) := gd_X12_reform_222.2.2.2.2.2.2.2.1
theorem dX12_reform_282 : decode cX12_reform 282 = .ok (.iload_n 2, 1) := gd_X12_reform_222.2.2.2.2.2.2.2.2.1
theorem dX12_reform_283 : decode cX12_reform 283 = .ok (.iaload, 1) := gd_X12_reform_222.2.2.2.2.2.2.2.2.2
theorem gd_X12_reform_284 : decode cX12_reform 284 = .ok (.if_icmp .ge 31, 3) ∧ decode cX12_reform 315 = .ok (.iconst 0, 1) ∧ decode cX12_reform 316 = .ok (.istore_n 3, 1) ∧ decode cX12_reform 317 = .ok (.iload_n 3, 1) ∧ decode cX12_reform 318 = .ok (.iconst 2, 1) ∧ decode cX12_reform 319 = .ok (.aload_n 0, 1) ∧ decode cX12_reform 320 = .ok (.getfield 27, 3) ∧ decode cX12_reform 323 = .ok (.iload_n 2, 1) ∧ decode cX12_reform 324 = .ok (.iaload, 1) ∧ decode cX12_reform 325 = .ok (.imul, 1) := by decide +kernel
theorem dX12_reform_284 : decode cX12_reform 284 = .ok (.if_icmp .ge 31, 3) := gd_X12_reform_284.1
theorem dX12_reform_315 : decode cX12_reform 315 = .ok (.iconst 0, 1) := gd_X12_reform_284.2.1
theorem dX12_reform_316 : decode cX12_reform 316 = .ok (.istore_n 3, 1) := gd_X12_reform_284.2.2.1
theorem dX12_reform_317 : decode cX12_reform 317 = .ok (.iload_n 3, 1) := gd_X12_reform_284.2.2.2.1
theorem dX12_reform_318 : decode cX12_reform 318 = .ok (.iconst 2, 1) := gd_X12_reform_284.2.2.2.2.1
theorem dX12_reform_319 : decode cX12_reform 319 = .ok (.aload_n 0, 1) := gd_X12_reform_284.2.2.2.2.2.1
theorem dX12_reform_320 : decode cX12_reform 320 = .ok (.getfield 27, 3) := gd_X12_reform_284.2.2.2.2.2.2.1
theorem dX12_reform_323 : decode cX12_reform 323 = .ok (.iload_n 2, 1) := gd_X12_reform_284.2.2.2.2.2.2.2.1
theorem dX12_reform_324 : decode cX12_reform 324 = .ok (.iaload, 1) := gd_X12_reform_284.2.2.2.2.2.2.2.2.1
theorem dX12_reform_325 : decode cX12_reform 325 = .ok (.imul, 1) := gd_X12_reform_284.2.2.2.2.2.2.2.2.2
theorem gd_X12_reform_326 : decode cX12_reform 326 = .ok (.if_icmp .ge 31, 3) ∧ decode cX12_reform 357 = .ok (.aload_n 0, 1) ∧ decode cX12_reform 358 = .ok (.dup, 1) ∧ decode cX12_reform 359 = .ok (.getfield 222, 3) ∧ decode cX12_reform 362 = .ok (.iconst 1, 1) ∧ decode cX12_reform 363 = .ok (.iadd, 1) ∧ decode cX12_reform 364 = .ok (.putfield 222, 3) ∧ decode cX12_reform 367 = .ok (.aload_n 0, 1) ∧ decode cX12_reform 368 = .ok (.iconst 0, 1) ∧ decode cX12_reform 369 = .ok (.putfield 237, 3) := by decide +kernel
theorem dX12_reform_326 : decode cX12_reform 326 = .ok (.if_icmp .ge 31, 3) := gd_X12_reform_326.1
theorem dX12_reform_357 : decode cX12_reform 357 = .ok (.aload_n 0, 1) := gd_X12_reform_326.2.1
theorem dX12_reform_358 : decode cX12_reform 358 = .ok (.dup, 1) := gd_X12_reform_326.2.2.1
theorem dX12_reform_359 : decode cX12_reform 359 = .ok (.getfield 222, 3) := gd_X12_reform_326.2.2.2.1
theorem dX12_reform_362 : decode cX12_reform 362 = .ok (.iconst 1, 1) := gd_X12_reform_326.2.2.2.2.1
theorem dX12_reform_363 : decode cX12_reform 363 = .ok (.iadd, 1) := gd_X12_reform_326.2.2.2.2.2.1
theorem dX12_reform_364 : decode cX12_reform 364 = .ok (.putfield 222, 3) := gd_X12_reform_326.2.2.2.2.2.2.1
theorem dX12_reform_367 : decode cX12_reform 367 = .ok (.aload_n 0, 1) := gd_X12_reform_326.2.2.2.2.2.2.2.1
theorem dX12_reform_368 : decode cX12_reform 368 = .ok (.iconst 0, 1) := gd_X12_reform_326.2.2.2.2.2.2.2.2.1
theorem dX12_reform_369 : decode cX12_reform 369 = .ok (.putfield 237, 3) := gd_X12_reform_326.2.2.2.2.2.2.2.2.2
theorem gd_X12_reform_372 : decode cX12_reform 372 = .ok (.iload_n 2, 1) ∧ decode cX12_reform 373 = .ok (.ireturn, 1) ∧ decode cX12_fault 0 = .ok (.iload_n 1, 1) ∧ decode cX12_fault 1 = .ok (.ifCond .ne 10, 3) ∧ decode cX12_fault 4 = .ok (.aload_n 0, 1) ∧ decode cX12_fault 5 = .ok (.getfield 194, 3) ∧ decode cX12_fault 8 = .ok (.goto 16, 3) ∧ decode cX12_fault 11 = .ok (.iload_n 1, 1) ∧ decode cX12_fault 12 = .ok (.iconst 1, 1) ∧ decode cX12_fault 13 = .ok (.if_icmp .ne 10, 3) := by decide +kernel
theorem dX12_reform_372 : decode cX12_reform 372 = .ok (.iload_n 2, 1) := gd_X12_reform_372.1
theorem dX12_reform_373 : decode cX12_reform 373 = .ok (.ireturn, 1) := gd_X12_reform_372.2.1
theorem dX12_fault_0 : decode cX12_fault 0 = .ok (.iload_n 1, 1) := gd_X12_reform_372.2.2.1
theorem dX12_fault_1 : decode cX12_fault 1 = .ok (.ifCond .ne 10, 3) := gd_X12_reform_372.2.2.2.1
theorem dX12_fault_4 : decode cX12_fault 4 = .ok (.aload_n 0, 1) := gd_X12_reform_372.2.2.2.2.1
theorem dX12_fault_5 : decode cX12_fault 5 = .ok (.getfield 194, 3) := gd_X12_reform_372.2.2.2.2.2.1
theorem dX12_fault_8 : decode cX12_fault 8 = .ok (.goto 16, 3) := gd_X12_reform_372.2.2.2.2.2.2.1
theorem dX12_fault_11 : decode cX12_fault 11 = .ok (.iload_n 1, 1) := gd_X12_reform_372.2.2.2.2.2.2.2.1
theorem dX12_fault_12 : decode cX12_fault 12 = .ok (.iconst 1, 1) := gd_X12_reform_372.2.2.2.2.2.2.2.2.1
theorem dX12_fault_13 : decode cX12_fault 13 = .ok (.if_icmp .ne 10, 3) := gd_X12_reform_372.2.2.2.2.2.2.2.2.2
theorem gd_X12_fault_16 : decode cX12_fault 16 = .ok (.aload_n 0, 1) ∧ decode cX12_fault 17 = .ok (.getfield 13, 3) ∧ decode cX12_fault 20 = .ok (.goto 4, 3) ∧ decode cX12_fault 23 = .ok (.iconst (-1), 1) ∧ decode cX12_fault 24 = .ok (.ireturn, 1) ∧ decode cX12_about 0 = .ok (.iload_n 1, 1) ∧ decode cX12_about 1 = .ok (.iconst 0, 1) ∧ decode cX12_about 2 = .ok (.aload_n 0, 1) ∧ decode cX12_about 3 = .ok (.getfield 222, 3) ∧ decode cX12_about 6 = .ok (.iconst 1, 1) := by decide +kernel
theorem dX12_fault_16 : decode cX12_fault 16 = .ok (.aload_n 0, 1) := gd_X12_fault_16.1
theorem dX12_fault_17 : decode cX12_fault 17 = .ok (.getfield 13, 3) := gd_X12_fault_16.2.1
theorem dX12_fault_20 : decode cX12_fault 20 = .ok (.goto 4, 3) := gd_X12_fault_16.2.2.1
theorem dX12_fault_23 : decode cX12_fault 23 = .ok (.iconst (-1), 1) := gd_X12_fault_16.2.2.2.1
theorem dX12_fault_24 : decode cX12_fault 24 = .ok (.ireturn, 1) := gd_X12_fault_16.2.2.2.2.1
theorem dX12_about_0 : decode cX12_about 0 = .ok (.iload_n 1, 1) := gd_X12_fault_16.2.2.2.2.2.1
theorem dX12_about_1 : decode cX12_about 1 = .ok (.iconst 0, 1) := gd_X12_fault_16.2.2.2.2.2.2.1
theorem dX12_about_2 : decode cX12_about 2 = .ok (.aload_n 0, 1) := gd_X12_fault_16.2.2.2.2.2.2.2.1
theorem dX12_about_3 : decode cX12_about 3 = .ok (.getfield 222, 3) := gd_X12_fault_16.2.2.2.2.2.2.2.2.1
theorem dX12_about_6 : decode cX12_about 6 = .ok (.iconst 1, 1) := gd_X12_fault_16.2.2.2.2.2.2.2.2.2
theorem gd_X12_about_7 : decode cX12_about 7 = .ok (.isub, 1) ∧ decode cX12_about 8 = .ok (.invokestatic 226, 3) ∧ decode cX12_about 11 = .ok (.ifCond .ne 5, 3) ∧ decode cX12_about 14 = .ok (.iconst (-1), 1) ∧ decode cX12_about 15 = .ok (.ireturn, 1) ∧ decode cX12_stage 0 = .ok (.iload_n 1, 1) ∧ decode cX12_stage 1 = .ok (.iconst 0, 1) ∧ decode cX12_stage 2 = .ok (.ldc 225, 2) ∧ decode cX12_stage 4 = .ok (.invokestatic 226, 3) ∧ decode cX12_stage 7 = .ok (.ifCond .ne 6, 3) := by decide +kernel
theorem dX12_about_7 : decode cX12_about 7 = .ok (.isub, 1) := gd_X12_about_7.1
theorem dX12_about_8 : decode cX12_about 8 = .ok (.invokestatic 226, 3) := gd_X12_about_7.2.1
theorem dX12_about_11 : decode cX12_about 11 = .ok (.ifCond .ne 5, 3) := gd_X12_about_7.2.2.1
theorem dX12_about_14 : decode cX12_about 14 = .ok (.iconst (-1), 1) := gd_X12_about_7.2.2.2.1
theorem dX12_about_15 : decode cX12_about 15 = .ok (.ireturn, 1) := gd_X12_about_7.2.2.2.2.1
theorem dX12_stage_0 : decode cX12_stage 0 = .ok (.iload_n 1, 1) := gd_X12_about_7.2.2.2.2.2.1
theorem dX12_stage_1 : decode cX12_stage 1 = .ok (.iconst 0, 1) := gd_X12_about_7.2.2.2.2.2.2.1
theorem dX12_stage_2 : decode cX12_stage 2 = .ok (.ldc 225, 2) := gd_X12_about_7.2.2.2.2.2.2.2.1
theorem dX12_stage_4 : decode cX12_stage 4 = .ok (.invokestatic 226, 3) := gd_X12_about_7.2.2.2.2.2.2.2.2.1
theorem dX12_stage_7 : decode cX12_stage 7 = .ok (.ifCond .ne 6, 3) := gd_X12_about_7.2.2.2.2.2.2.2.2.2
theorem gd_X12_stage_10 : decode cX12_stage 10 = .ok (.bipush (-2), 2) ∧ decode cX12_stage 12 = .ok (.ireturn, 1) ∧ decode cX12_stage 13 = .ok (.iconst 0, 1) ∧ decode cX12_stage 14 = .ok (.istore_n 2, 1) ∧ decode cX12_stage 15 = .ok (.iconst 0, 1) ∧ decode cX12_stage 16 = .ok (.istore_n 3, 1) ∧ decode cX12_stage 17 = .ok (.iload_n 3, 1) ∧ decode cX12_stage 18 = .ok (.aload_n 0, 1) ∧ decode cX12_stage 19 = .ok (.getfield 222, 3) ∧ decode cX12_stage 22 = .ok (.if_icmp .ge 27, 3) := by decide +kernel
theorem dX12_stage_10 : decode cX12_stage 10 = .ok (.bipush (-2), 2) := gd_X12_stage_10.1
theorem dX12_stage_12 : decode cX12_stage 12 = .ok (.ireturn, 1) := gd_X12_stage_10.2.1
theorem dX12_stage_13 : decode cX12_stage 13 = .ok (.iconst 0, 1) := gd_X12_stage_10.2.2.1
theorem dX12_stage_14 : decode cX12_stage 14 = .ok (.istore_n 2, 1) := gd_X12_stage_10.2.2.2.1
theorem dX12_stage_15 : decode cX12_stage 15 = .ok (.iconst 0, 1) := gd_X12_stage_10.2.2.2.2.1
theorem dX12_stage_16 : decode cX12_stage 16 = .ok (.istore_n 3, 1) := gd_X12_stage_10.2.2.2.2.2.1
theorem dX12_stage_17 : decode cX12_stage 17 = .ok (.iload_n 3, 1) := gd_X12_stage_10.2.2.2.2.2.2.1
theorem dX12_stage_18 : decode cX12_stage 18 = .ok (.aload_n 0, 1) := gd_X12_stage_10.2.2.2.2.2.2.2.1
theorem dX12_stage_19 : decode cX12_stage 19 = .ok (.getfield 222, 3) := gd_X12_stage_10.2.2.2.2.2.2.2.2.1
theorem dX12_stage_22 : decode cX12_stage 22 = .ok (.if_icmp .ge 27, 3) := gd_X12_stage_10.2.2.2.2.2.2.2.2.2
theorem gd_X12_stage_49 : decode cX12_stage 49 = .ok (.iload_n 2, 1) ∧ decode cX12_stage 50 = .ok (.ireturn, 1) ∧ decode cX12_readWord 0 = .ok (.aload_n 0, 1) ∧ decode cX12_readWord 1 = .ok (.getfield 152, 3) ∧ decode cX12_readWord 4 = .ok (.istore_n 1, 1) ∧ decode cX12_readWord 5 = .ok (.aload_n 0, 1) ∧ decode cX12_readWord 6 = .ok (.iconst 0, 1) ∧ decode cX12_readWord 7 = .ok (.putfield 152, 3) ∧ decode cX12_readWord 10 = .ok (.iload_n 1, 1) ∧ decode cX12_readWord 11 = .ok (.iconst 1, 1) := by decide +kernel
theorem dX12_stage_49 : decode cX12_stage 49 = .ok (.iload_n 2, 1) := gd_X12_stage_49.1
theorem dX12_stage_50 : decode cX12_stage 50 = .ok (.ireturn, 1) := gd_X12_stage_49.2.1
theorem dX12_readWord_0 : decode cX12_readWord 0 = .ok (.aload_n 0, 1) := gd_X12_stage_49.2.2.1
theorem dX12_readWord_1 : decode cX12_readWord 1 = .ok (.getfield 152, 3) := gd_X12_stage_49.2.2.2.1
theorem dX12_readWord_4 : decode cX12_readWord 4 = .ok (.istore_n 1, 1) := gd_X12_stage_49.2.2.2.2.1
theorem dX12_readWord_5 : decode cX12_readWord 5 = .ok (.aload_n 0, 1) := gd_X12_stage_49.2.2.2.2.2.1
theorem dX12_readWord_6 : decode cX12_readWord 6 = .ok (.iconst 0, 1) := gd_X12_stage_49.2.2.2.2.2.2.1
theorem dX12_readWord_7 : decode cX12_readWord 7 = .ok (.putfield 152, 3) := gd_X12_stage_49.2.2.2.2.2.2.2.1
theorem dX12_readWord_10 : decode cX12_readWord 10 = .ok (.iload_n 1, 1) := gd_X12_stage_49.2.2.2.2.2.2.2.2.1
theorem dX12_readWord_11 : decode cX12_readWord 11 = .ok (.iconst 1, 1) := gd_X12_stage_49.2.2.2.2.2.2.2.2.2
theorem gd_X12_readWord_12 : decode cX12_readWord 12 = .ok (.bipush 24, 2) ∧ decode cX12_readWord 14 = .ok (.invokestatic 226, 3) ∧ decode cX12_readWord 17 = .ok (.ifCond .ne 5, 3) ∧ decode cX12_readWord 20 = .ok (.iconst 0, 1) ∧ decode cX12_readWord 21 = .ok (.ireturn, 1) ∧ decode cX12_isStage 0 = .ok (.iload_n 1, 1) ∧ decode cX12_isStage 1 = .ok (.iconst 0, 1) ∧ decode cX12_isStage 2 = .ok (.aload_n 0, 1) ∧ decode cX12_isStage 3 = .ok (.getfield 222, 3) ∧ decode cX12_isStage 6 = .ok (.invokestatic 226, 3) := by decide +kernel
theorem dX12_readWord_12 : decode cX12_readWord 12 = .ok (.bipush 24, 2) := gd_X12_readWord_12.1
theorem dX12_readWord_14 : decode cX12_readWord 14 = .ok (.invokestatic 226, 3) := gd_X12_readWord_12.2.1
theorem dX12_readWord_17 : decode cX12_readWord 17 = .ok (.ifCond .ne 5, 3) := gd_X12_readWord_12.2.2.1
theorem dX12_readWord_20 : decode cX12_readWord 20 = .ok (.iconst 0, 1) := gd_X12_readWord_12.2.2.2.1
theorem dX12_readWord_21 : decode cX12_readWord 21 = .ok (.ireturn, 1) := gd_X12_readWord_12.2.2.2.2.1
theorem dX12_isStage_0 : decode cX12_isStage 0 = .ok (.iload_n 1, 1) := gd_X12_readWord_12.2.2.2.2.2.1
theorem dX12_isStage_1 : decode cX12_isStage 1 = .ok (.iconst 0, 1) := gd_X12_readWord_12.2.2.2.2.2.2.1
theorem dX12_isStage_2 : decode cX12_isStage 2 = .ok (.aload_n 0, 1) := gd_X12_readWord_12.2.2.2.2.2.2.2.1
theorem dX12_isStage_3 : decode cX12_isStage 3 = .ok (.getfield 222, 3) := gd_X12_readWord_12.2.2.2.2.2.2.2.2.1
theorem dX12_isStage_6 : decode cX12_isStage 6 = .ok (.invokestatic 226, 3) := gd_X12_readWord_12.2.2.2.2.2.2.2.2.2
theorem gd_X12_isStage_9 : decode cX12_isStage 9 = .ok (.ireturn, 1) ∧ decode cX12_turn 0 = .ok (.aload_n 0, 1) ∧ decode cX12_turn 1 = .ok (.invokevirtual 297, 3) ∧ decode cX12_turn 4 = .ok (.ifCond .eq 24, 3) ∧ decode cX12_turn 28 = .ok (.bipush (-2), 2) ∧ decode cX12_turn 30 = .ok (.ireturn, 1) ∧ decode cX12_form 0 = .ok (.iload_n 1, 1) ∧ decode cX12_form 1 = .ok (.iconst 0, 1) ∧ decode cX12_form 2 = .ok (.aload_n 0, 1) ∧ decode cX12_form 3 = .ok (.getfield 306, 3) := by decide +kernel
theorem dX12_isStage_9 : decode cX12_isStage 9 = .ok (.ireturn, 1) := gd_X12_isStage_9.1
theorem dX12_turn_0 : decode cX12_turn 0 = .ok (.aload_n 0, 1) := gd_X12_isStage_9.2.1
theorem dX12_turn_1 : decode cX12_turn 1 = .ok (.invokevirtual 297, 3) := gd_X12_isStage_9.2.2.1
theorem dX12_turn_4 : decode cX12_turn 4 = .ok (.ifCond .eq 24, 3) := gd_X12_isStage_9.2.2.2.1
theorem dX12_turn_28 : decode cX12_turn 28 = .ok (.bipush (-2), 2) := gd_X12_isStage_9.2.2.2.2.1
theorem dX12_turn_30 : decode cX12_turn 30 = .ok (.ireturn, 1) := gd_X12_isStage_9.2.2.2.2.2.1
theorem dX12_form_0 : decode cX12_form 0 = .ok (.iload_n 1, 1) := gd_X12_isStage_9.2.2.2.2.2.2.1
theorem dX12_form_1 : decode cX12_form 1 = .ok (.iconst 0, 1) := gd_X12_isStage_9.2.2.2.2.2.2.2.1
theorem dX12_form_2 : decode cX12_form 2 = .ok (.aload_n 0, 1) := gd_X12_isStage_9.2.2.2.2.2.2.2.2.1
theorem dX12_form_3 : decode cX12_form 3 = .ok (.getfield 306, 3) := gd_X12_isStage_9.2.2.2.2.2.2.2.2.2
theorem gd_X12_form_6 : decode cX12_form 6 = .ok (.iconst 1, 1) ∧ decode cX12_form 7 = .ok (.isub, 1) ∧ decode cX12_form 8 = .ok (.invokestatic 226, 3) ∧ decode cX12_form 11 = .ok (.ifCond .eq 33, 3) ∧ decode cX12_form 44 = .ok (.iconst (-1), 1) ∧ decode cX12_form 45 = .ok (.ireturn, 1) ∧ decode cX12_partings 0 = .ok (.aload_n 0, 1) ∧ decode cX12_partings 1 = .ok (.invokevirtual 297, 3) ∧ decode cX12_partings 4 = .ok (.ifCond .eq 17, 3) ∧ decode cX12_partings 21 = .ok (.bipush (-2), 2) := by decide +kernel
theorem dX12_form_6 : decode cX12_form 6 = .ok (.iconst 1, 1) := gd_X12_form_6.1
theorem dX12_form_7 : decode cX12_form 7 = .ok (.isub, 1) := gd_X12_form_6.2.1
theorem dX12_form_8 : decode cX12_form 8 = .ok (.invokestatic 226, 3) := gd_X12_form_6.2.2.1
theorem dX12_form_11 : decode cX12_form 11 = .ok (.ifCond .eq 33, 3) := gd_X12_form_6.2.2.2.1
theorem dX12_form_44 : decode cX12_form 44 = .ok (.iconst (-1), 1) := gd_X12_form_6.2.2.2.2.1
theorem dX12_form_45 : decode cX12_form 45 = .ok (.ireturn, 1) := gd_X12_form_6.2.2.2.2.2.1
theorem dX12_partings_0 : decode cX12_partings 0 = .ok (.aload_n 0, 1) := gd_X12_form_6.2.2.2.2.2.2.1
theorem dX12_partings_1 : decode cX12_partings 1 = .ok (.invokevirtual 297, 3) := gd_X12_form_6.2.2.2.2.2.2.2.1
theorem dX12_partings_4 : decode cX12_partings 4 = .ok (.ifCond .eq 17, 3) := gd_X12_form_6.2.2.2.2.2.2.2.2.1
theorem dX12_partings_21 : decode cX12_partings 21 = .ok (.bipush (-2), 2) := gd_X12_form_6.2.2.2.2.2.2.2.2.2
theorem gd_X12_partings_23 : decode cX12_partings 23 = .ok (.ireturn, 1) ∧ decode cX12_parting 0 = .ok (.iload_n 1, 1) ∧ decode cX12_parting 1 = .ok (.iconst 0, 1) ∧ decode cX12_parting 2 = .ok (.aload_n 0, 1) ∧ decode cX12_parting 3 = .ok (.getfield 309, 3) ∧ decode cX12_parting 6 = .ok (.iconst 1, 1) ∧ decode cX12_parting 7 = .ok (.isub, 1) ∧ decode cX12_parting 8 = .ok (.invokestatic 226, 3) ∧ decode cX12_parting 11 = .ok (.ifCond .ne 5, 3) ∧ decode cX12_parting 14 = .ok (.iconst (-1), 1) := by decide +kernel
theorem dX12_partings_23 : decode cX12_partings 23 = .ok (.ireturn, 1) := gd_X12_partings_23.1
theorem dX12_parting_0 : decode cX12_parting 0 = .ok (.iload_n 1, 1) := gd_X12_partings_23.2.1
theorem dX12_parting_1 : decode cX12_parting 1 = .ok (.iconst 0, 1) := gd_X12_partings_23.2.2.1
theorem dX12_parting_2 : decode cX12_parting 2 = .ok (.aload_n 0, 1) := gd_X12_partings_23.2.2.2.1
theorem dX12_parting_3 : decode cX12_parting 3 = .ok (.getfield 309, 3) := gd_X12_partings_23.2.2.2.2.1
theorem dX12_parting_6 : decode cX12_parting 6 = .ok (.iconst 1, 1) := gd_X12_partings_23.2.2.2.2.2.1
theorem dX12_parting_7 : decode cX12_parting 7 = .ok (.isub, 1) := gd_X12_partings_23.2.2.2.2.2.2.1
theorem dX12_parting_8 : decode cX12_parting 8 = .ok (.invokestatic 226, 3) := gd_X12_partings_23.2.2.2.2.2.2.2.1
theorem dX12_parting_11 : decode cX12_parting 11 = .ok (.ifCond .ne 5, 3) := gd_X12_partings_23.2.2.2.2.2.2.2.2.1
theorem dX12_parting_14 : decode cX12_parting 14 = .ok (.iconst (-1), 1) := gd_X12_partings_23.2.2.2.2.2.2.2.2.2
theorem gd_X12_parting_15 : decode cX12_parting 15 = .ok (.ireturn, 1) ∧ decode cX12_learn 0 = .ok (.aload_n 0, 1) ∧ decode cX12_learn 1 = .ok (.invokevirtual 297, 3) ∧ decode cX12_learn 4 = .ok (.ifCond .ne 6, 3) ∧ decode cX12_learn 7 = .ok (.bipush (-2), 2) ∧ decode cX12_learn 9 = .ok (.ireturn, 1) ∧ decode cX12_word 0 = .ok (.iload_n 1, 1) ∧ decode cX12_word 1 = .ok (.iconst 0, 1) ∧ decode cX12_word 2 = .ok (.aload_n 0, 1) ∧ decode cX12_word 3 = .ok (.getfield 312, 3) := by decide +kernel
theorem dX12_parting_15 : decode cX12_parting 15 = .ok (.ireturn, 1) := gd_X12_parting_15.1
theorem dX12_learn_0 : decode cX12_learn 0 = .ok (.aload_n 0, 1) := gd_X12_parting_15.2.1
theorem dX12_learn_1 : decode cX12_learn 1 = .ok (.invokevirtual 297, 3) := gd_X12_parting_15.2.2.1
theorem dX12_learn_4 : decode cX12_learn 4 = .ok (.ifCond .ne 6, 3) := gd_X12_parting_15.2.2.2.1
theorem dX12_learn_7 : decode cX12_learn 7 = .ok (.bipush (-2), 2) := gd_X12_parting_15.2.2.2.2.1
theorem dX12_learn_9 : decode cX12_learn 9 = .ok (.ireturn, 1) := gd_X12_parting_15.2.2.2.2.2.1
theorem dX12_word_0 : decode cX12_word 0 = .ok (.iload_n 1, 1) := gd_X12_parting_15.2.2.2.2.2.2.1
theorem dX12_word_1 : decode cX12_word 1 = .ok (.iconst 0, 1) := gd_X12_parting_15.2.2.2.2.2.2.2.1
theorem dX12_word_2 : decode cX12_word 2 = .ok (.aload_n 0, 1) := gd_X12_parting_15.2.2.2.2.2.2.2.2.1
theorem dX12_word_3 : decode cX12_word 3 = .ok (.getfield 312, 3) := gd_X12_parting_15.2.2.2.2.2.2.2.2.2
theorem gd_X12_word_6 : decode cX12_word 6 = .ok (.iconst 1, 1) ∧ decode cX12_word 7 = .ok (.isub, 1) ∧ decode cX12_word 8 = .ok (.invokestatic 226, 3) ∧ decode cX12_word 11 = .ok (.ifCond .eq 33, 3) ∧ decode cX12_word 44 = .ok (.iconst (-1), 1) ∧ decode cX12_word 45 = .ok (.ireturn, 1) ∧ decode cX12_make 0 = .ok (.aload_n 0, 1) ∧ decode cX12_make 1 = .ok (.getfield 237, 3) ∧ decode cX12_make 4 = .ok (.ifCond .eq 4, 3) ∧ decode cX12_make 8 = .ok (.aload_n 0, 1) := by decide +kernel
theorem dX12_word_6 : decode cX12_word 6 = .ok (.iconst 1, 1) := gd_X12_word_6.1
theorem dX12_word_7 : decode cX12_word 7 = .ok (.isub, 1) := gd_X12_word_6.2.1
theorem dX12_word_8 : decode cX12_word 8 = .ok (.invokestatic 226, 3) := gd_X12_word_6.2.2.1
theorem dX12_word_11 : decode cX12_word 11 = .ok (.ifCond .eq 33, 3) := gd_X12_word_6.2.2.2.1
theorem dX12_word_44 : decode cX12_word 44 = .ok (.iconst (-1), 1) := gd_X12_word_6.2.2.2.2.1
theorem dX12_word_45 : decode cX12_word 45 = .ok (.ireturn, 1) := gd_X12_word_6.2.2.2.2.2.1
theorem dX12_make_0 : decode cX12_make 0 = .ok (.aload_n 0, 1) := gd_X12_word_6.2.2.2.2.2.2.1
theorem dX12_make_1 : decode cX12_make 1 = .ok (.getfield 237, 3) := gd_X12_word_6.2.2.2.2.2.2.2.1
theorem dX12_make_4 : decode cX12_make 4 = .ok (.ifCond .eq 4, 3) := gd_X12_word_6.2.2.2.2.2.2.2.2.1
theorem dX12_make_8 : decode cX12_make 8 = .ok (.aload_n 0, 1) := gd_X12_word_6.2.2.2.2.2.2.2.2.2
theorem gd_X12_make_9 : decode cX12_make 9 = .ok (.iconst 1, 1) ∧ decode cX12_make 10 = .ok (.putfield 237, 3) ∧ decode cX12_make 13 = .ok (.iconst 0, 1) ∧ decode cX12_make 14 = .ok (.istore_n 1, 1) ∧ decode cX12_make 15 = .ok (.iload_n 1, 1) ∧ decode cX12_make 16 = .ok (.aload_n 0, 1) ∧ decode cX12_make 17 = .ok (.getfield 312, 3) ∧ decode cX12_make 20 = .ok (.if_icmp .ge 155, 3) ∧ decode cX12_make 175 = .ok (.return_, 1) ∧ decode cX12_back 0 = .ok (.aload_n 0, 1) := by decide +kernel
theorem dX12_make_9 : decode cX12_make 9 = .ok (.iconst 1, 1) := gd_X12_make_9.1
theorem dX12_make_10 : decode cX12_make 10 = .ok (.putfield 237, 3) := gd_X12_make_9.2.1
theorem dX12_make_13 : decode cX12_make 13 = .ok (.iconst 0, 1) := gd_X12_make_9.2.2.1
theorem dX12_make_14 : decode cX12_make 14 = .ok (.istore_n 1, 1) := gd_X12_make_9.2.2.2.1
theorem dX12_make_15 : decode cX12_make 15 = .ok (.iload_n 1, 1) := gd_X12_make_9.2.2.2.2.1
theorem dX12_make_16 : decode cX12_make 16 = .ok (.aload_n 0, 1) := gd_X12_make_9.2.2.2.2.2.1
theorem dX12_make_17 : decode cX12_make 17 = .ok (.getfield 312, 3) := gd_X12_make_9.2.2.2.2.2.2.1
theorem dX12_make_20 : decode cX12_make 20 = .ok (.if_icmp .ge 155, 3) := gd_X12_make_9.2.2.2.2.2.2.2.1
theorem dX12_make_175 : decode cX12_make 175 = .ok (.return_, 1) := gd_X12_make_9.2.2.2.2.2.2.2.2.1
theorem dX12_back_0 : decode cX12_back 0 = .ok (.aload_n 0, 1) := gd_X12_make_9.2.2.2.2.2.2.2.2.2
theorem gd_X12_back_1 : decode cX12_back 1 = .ok (.invokevirtual 297, 3) ∧ decode cX12_back 4 = .ok (.ifCond .eq 11, 3) ∧ decode cX12_back 15 = .ok (.bipush (-2), 2) ∧ decode cX12_back 17 = .ok (.ireturn, 1) ∧ decode cX12_old 0 = .ok (.iload_n 1, 1) ∧ decode cX12_old 1 = .ok (.iconst 0, 1) ∧ decode cX12_old 2 = .ok (.aload_n 0, 1) ∧ decode cX12_old 3 = .ok (.getfield 318, 3) ∧ decode cX12_old 6 = .ok (.iconst 1, 1) ∧ decode cX12_old 7 = .ok (.isub, 1) := by decide +kernel
theorem dX12_back_1 : decode cX12_back 1 = .ok (.invokevirtual 297, 3) := gd_X12_back_1.1
theorem dX12_back_4 : decode cX12_back 4 = .ok (.ifCond .eq 11, 3) := gd_X12_back_1.2.1
theorem dX12_back_15 : decode cX12_back 15 = .ok (.bipush (-2), 2) := gd_X12_back_1.2.2.1
theorem dX12_back_17 : decode cX12_back 17 = .ok (.ireturn, 1) := gd_X12_back_1.2.2.2.1
theorem dX12_old_0 : decode cX12_old 0 = .ok (.iload_n 1, 1) := gd_X12_back_1.2.2.2.2.1
theorem dX12_old_1 : decode cX12_old 1 = .ok (.iconst 0, 1) := gd_X12_back_1.2.2.2.2.2.1
theorem dX12_old_2 : decode cX12_old 2 = .ok (.aload_n 0, 1) := gd_X12_back_1.2.2.2.2.2.2.1
theorem dX12_old_3 : decode cX12_old 3 = .ok (.getfield 318, 3) := gd_X12_back_1.2.2.2.2.2.2.2.1
theorem dX12_old_6 : decode cX12_old 6 = .ok (.iconst 1, 1) := gd_X12_back_1.2.2.2.2.2.2.2.2.1
theorem dX12_old_7 : decode cX12_old 7 = .ok (.isub, 1) := gd_X12_back_1.2.2.2.2.2.2.2.2.2
theorem gd_X12_old_8 : decode cX12_old 8 = .ok (.invokestatic 226, 3) ∧ decode cX12_old 11 = .ok (.ifCond .eq 12, 3) ∧ decode cX12_old 23 = .ok (.iconst (-1), 1) ∧ decode cX12_old 24 = .ok (.ireturn, 1) ∧ decode cX12_collisions 0 = .ok (.aload_n 0, 1) ∧ decode cX12_collisions 1 = .ok (.iload_n 1, 1) ∧ decode cX12_collisions 2 = .ok (.invokevirtual 300, 3) ∧ decode cX12_collisions 5 = .ok (.ifCond .ne 6, 3) ∧ decode cX12_collisions 8 = .ok (.bipush (-2), 2) ∧ decode cX12_collisions 10 = .ok (.ireturn, 1) := by decide +kernel
theorem dX12_old_8 : decode cX12_old 8 = .ok (.invokestatic 226, 3) := gd_X12_old_8.1
theorem dX12_old_11 : decode cX12_old 11 = .ok (.ifCond .eq 12, 3) := gd_X12_old_8.2.1
theorem dX12_old_23 : decode cX12_old 23 = .ok (.iconst (-1), 1) := gd_X12_old_8.2.2.1
theorem dX12_old_24 : decode cX12_old 24 = .ok (.ireturn, 1) := gd_X12_old_8.2.2.2.1
theorem dX12_collisions_0 : decode cX12_collisions 0 = .ok (.aload_n 0, 1) := gd_X12_old_8.2.2.2.2.1
theorem dX12_collisions_1 : decode cX12_collisions 1 = .ok (.iload_n 1, 1) := gd_X12_old_8.2.2.2.2.2.1
theorem dX12_collisions_2 : decode cX12_collisions 2 = .ok (.invokevirtual 300, 3) := gd_X12_old_8.2.2.2.2.2.2.1
theorem dX12_collisions_5 : decode cX12_collisions 5 = .ok (.ifCond .ne 6, 3) := gd_X12_old_8.2.2.2.2.2.2.2.1
theorem dX12_collisions_8 : decode cX12_collisions 8 = .ok (.bipush (-2), 2) := gd_X12_old_8.2.2.2.2.2.2.2.2.1
theorem dX12_collisions_10 : decode cX12_collisions 10 = .ok (.ireturn, 1) := gd_X12_old_8.2.2.2.2.2.2.2.2.2
theorem gd_X12_collisions_11 : decode cX12_collisions 11 = .ok (.aload_n 0, 1) ∧ decode cX12_collisions 12 = .ok (.invokevirtual 315, 3) ∧ decode cX12_collisions 15 = .ok (.aload_n 0, 1) ∧ decode cX12_collisions 16 = .ok (.iconst 0, 1) ∧ decode cX12_collisions 17 = .ok (.putfield 325, 3) ∧ decode cX12_collisions 20 = .ok (.iconst 0, 1) ∧ decode cX12_collisions 21 = .ok (.istore_n 2, 1) ∧ decode cX12_collisions 22 = .ok (.iconst 0, 1) ∧ decode cX12_collisions 23 = .ok (.istore_n 3, 1) ∧ decode cX12_collisions 24 = .ok (.iload_n 3, 1) := by decide +kernel
theorem dX12_collisions_11 : decode cX12_collisions 11 = .ok (.aload_n 0, 1) := gd_X12_collisions_11.1
theorem dX12_collisions_12 : decode cX12_collisions 12 = .ok (.invokevirtual 315, 3) := gd_X12_collisions_11.2.1
theorem dX12_collisions_15 : decode cX12_collisions 15 = .ok (.aload_n 0, 1) := gd_X12_collisions_11.2.2.1
theorem dX12_collisions_16 : decode cX12_collisions 16 = .ok (.iconst 0, 1) := gd_X12_collisions_11.2.2.2.1
theorem dX12_collisions_17 : decode cX12_collisions 17 = .ok (.putfield 325, 3) := gd_X12_collisions_11.2.2.2.2.1
theorem dX12_collisions_20 : decode cX12_collisions 20 = .ok (.iconst 0, 1) := gd_X12_collisions_11.2.2.2.2.2.1
theorem dX12_collisions_21 : decode cX12_collisions 21 = .ok (.istore_n 2, 1) := gd_X12_collisions_11.2.2.2.2.2.2.1
theorem dX12_collisions_22 : decode cX12_collisions 22 = .ok (.iconst 0, 1) := gd_X12_collisions_11.2.2.2.2.2.2.2.1
theorem dX12_collisions_23 : decode cX12_collisions 23 = .ok (.istore_n 3, 1) := gd_X12_collisions_11.2.2.2.2.2.2.2.2.1
theorem dX12_collisions_24 : decode cX12_collisions 24 = .ok (.iload_n 3, 1) := gd_X12_collisions_11.2.2.2.2.2.2.2.2.2
theorem gd_X12_collisions_25 : decode cX12_collisions 25 = .ok (.aload_n 0, 1) ∧ decode cX12_collisions 26 = .ok (.getfield 312, 3) ∧ decode cX12_collisions 29 = .ok (.if_icmp .ge 86, 3) ∧ decode cX12_collisions 115 = .ok (.iload_n 2, 1) ∧ decode cX12_collisions 116 = .ok (.ireturn, 1) ∧ decode cX12_collision 0 = .ok (.iload_n 1, 1) ∧ decode cX12_collision 1 = .ok (.iconst 0, 1) ∧ decode cX12_collision 2 = .ok (.aload_n 0, 1) ∧ decode cX12_collision 3 = .ok (.getfield 325, 3) ∧ decode cX12_collision 6 = .ok (.iconst 1, 1) := by decide +kernel
theorem dX12_collisions_25 : decode cX12_collisions 25 = .ok (.aload_n 0, 1) := gd_X12_collisions_25.1
theorem dX12_collisions_26 : decode cX12_collisions 26 = .ok (.getfield 312, 3) := gd_X12_collisions_25.2.1
theorem dX12_collisions_29 : decode cX12_collisions 29 = .ok (.if_icmp .ge 86, 3) := gd_X12_collisions_25.2.2.1
theorem dX12_collisions_115 : decode cX12_collisions 115 = .ok (.iload_n 2, 1) := gd_X12_collisions_25.2.2.2.1
theorem dX12_collisions_116 : decode cX12_collisions 116 = .ok (.ireturn, 1) := gd_X12_collisions_25.2.2.2.2.1
theorem dX12_collision_0 : decode cX12_collision 0 = .ok (.iload_n 1, 1) := gd_X12_collisions_25.2.2.2.2.2.1
theorem dX12_collision_1 : decode cX12_collision 1 = .ok (.iconst 0, 1) := gd_X12_collisions_25.2.2.2.2.2.2.1
theorem dX12_collision_2 : decode cX12_collision 2 = .ok (.aload_n 0, 1) := gd_X12_collisions_25.2.2.2.2.2.2.2.1
theorem dX12_collision_3 : decode cX12_collision 3 = .ok (.getfield 325, 3) := gd_X12_collisions_25.2.2.2.2.2.2.2.2.1
theorem dX12_collision_6 : decode cX12_collision 6 = .ok (.iconst 1, 1) := gd_X12_collisions_25.2.2.2.2.2.2.2.2.2
theorem gd_X12_collision_7 : decode cX12_collision 7 = .ok (.isub, 1) ∧ decode cX12_collision 8 = .ok (.invokestatic 226, 3) ∧ decode cX12_collision 11 = .ok (.ifCond .eq 12, 3) ∧ decode cX12_collision 23 = .ok (.iconst (-1), 1) ∧ decode cX12_collision 24 = .ok (.ireturn, 1) ∧ decode cX12_rhymes 0 = .ok (.aload_n 0, 1) ∧ decode cX12_rhymes 1 = .ok (.iload_n 1, 1) ∧ decode cX12_rhymes 2 = .ok (.invokevirtual 300, 3) ∧ decode cX12_rhymes 5 = .ok (.ifCond .ne 6, 3) ∧ decode cX12_rhymes 8 = .ok (.bipush (-2), 2) := by decide +kernel
theorem dX12_collision_7 : decode cX12_collision 7 = .ok (.isub, 1) := gd_X12_collision_7.1
theorem dX12_collision_8 : decode cX12_collision 8 = .ok (.invokestatic 226, 3) := gd_X12_collision_7.2.1
theorem dX12_collision_11 : decode cX12_collision 11 = .ok (.ifCond .eq 12, 3) := gd_X12_collision_7.2.2.1
theorem dX12_collision_23 : decode cX12_collision 23 = .ok (.iconst (-1), 1) := gd_X12_collision_7.2.2.2.1
theorem dX12_collision_24 : decode cX12_collision 24 = .ok (.ireturn, 1) := gd_X12_collision_7.2.2.2.2.1
theorem dX12_rhymes_0 : decode cX12_rhymes 0 = .ok (.aload_n 0, 1) := gd_X12_collision_7.2.2.2.2.2.1
theorem dX12_rhymes_1 : decode cX12_rhymes 1 = .ok (.iload_n 1, 1) := gd_X12_collision_7.2.2.2.2.2.2.1
theorem dX12_rhymes_2 : decode cX12_rhymes 2 = .ok (.invokevirtual 300, 3) := gd_X12_collision_7.2.2.2.2.2.2.2.1
theorem dX12_rhymes_5 : decode cX12_rhymes 5 = .ok (.ifCond .ne 6, 3) := gd_X12_collision_7.2.2.2.2.2.2.2.2.1
theorem dX12_rhymes_8 : decode cX12_rhymes 8 = .ok (.bipush (-2), 2) := gd_X12_collision_7.2.2.2.2.2.2.2.2.2
theorem gd_X12_rhymes_10 : decode cX12_rhymes 10 = .ok (.ireturn, 1) ∧ decode cX12_rhymes 11 = .ok (.aload_n 0, 1) ∧ decode cX12_rhymes 12 = .ok (.invokevirtual 315, 3) ∧ decode cX12_rhymes 15 = .ok (.iconst 0, 1) ∧ decode cX12_rhymes 16 = .ok (.istore_n 2, 1) ∧ decode cX12_rhymes 17 = .ok (.iconst 0, 1) ∧ decode cX12_rhymes 18 = .ok (.istore_n 3, 1) ∧ decode cX12_rhymes 19 = .ok (.iload_n 3, 1) ∧ decode cX12_rhymes 20 = .ok (.aload_n 0, 1) ∧ decode cX12_rhymes 21 = .ok (.getfield 312, 3) := by decide +kernel
theorem dX12_rhymes_10 : decode cX12_rhymes 10 = .ok (.ireturn, 1) := gd_X12_rhymes_10.1
theorem dX12_rhymes_11 : decode cX12_rhymes 11 = .ok (.aload_n 0, 1) := gd_X12_rhymes_10.2.1
theorem dX12_rhymes_12 : decode cX12_rhymes 12 = .ok (.invokevirtual 315, 3) := gd_X12_rhymes_10.2.2.1
theorem dX12_rhymes_15 : decode cX12_rhymes 15 = .ok (.iconst 0, 1) := gd_X12_rhymes_10.2.2.2.1
theorem dX12_rhymes_16 : decode cX12_rhymes 16 = .ok (.istore_n 2, 1) := gd_X12_rhymes_10.2.2.2.2.1
theorem dX12_rhymes_17 : decode cX12_rhymes 17 = .ok (.iconst 0, 1) := gd_X12_rhymes_10.2.2.2.2.2.1
theorem dX12_rhymes_18 : decode cX12_rhymes 18 = .ok (.istore_n 3, 1) := gd_X12_rhymes_10.2.2.2.2.2.2.1
theorem dX12_rhymes_19 : decode cX12_rhymes 19 = .ok (.iload_n 3, 1) := gd_X12_rhymes_10.2.2.2.2.2.2.2.1
theorem dX12_rhymes_20 : decode cX12_rhymes 20 = .ok (.aload_n 0, 1) := gd_X12_rhymes_10.2.2.2.2.2.2.2.2.1
theorem dX12_rhymes_21 : decode cX12_rhymes 21 = .ok (.getfield 312, 3) := gd_X12_rhymes_10.2.2.2.2.2.2.2.2.2
theorem gd_X12_rhymes_24 : decode cX12_rhymes 24 = .ok (.if_icmp .ge 84, 3) ∧ decode cX12_rhymes 108 = .ok (.iload_n 2, 1) ∧ decode cX12_rhymes 109 = .ok (.ireturn, 1) ∧ decode cX12_tell 0 = .ok (.aload_n 0, 1) ∧ decode cX12_tell 1 = .ok (.iload_n 1, 1) ∧ decode cX12_tell 2 = .ok (.invokevirtual 300, 3) ∧ decode cX12_tell 5 = .ok (.ifCond .eq 12, 3) ∧ decode cX12_tell 8 = .ok (.iload_n 2, 1) ∧ decode cX12_tell 9 = .ok (.iconst 0, 1) ∧ decode cX12_tell 10 = .ok (.iconst 2, 1) := by decide +kernel
theorem dX12_rhymes_24 : decode cX12_rhymes 24 = .ok (.if_icmp .ge 84, 3) := gd_X12_rhymes_24.1
theorem dX12_rhymes_108 : decode cX12_rhymes 108 = .ok (.iload_n 2, 1) := gd_X12_rhymes_24.2.1
theorem dX12_rhymes_109 : decode cX12_rhymes 109 = .ok (.ireturn, 1) := gd_X12_rhymes_24.2.2.1
theorem dX12_tell_0 : decode cX12_tell 0 = .ok (.aload_n 0, 1) := gd_X12_rhymes_24.2.2.2.1
theorem dX12_tell_1 : decode cX12_tell 1 = .ok (.iload_n 1, 1) := gd_X12_rhymes_24.2.2.2.2.1
theorem dX12_tell_2 : decode cX12_tell 2 = .ok (.invokevirtual 300, 3) := gd_X12_rhymes_24.2.2.2.2.2.1
theorem dX12_tell_5 : decode cX12_tell 5 = .ok (.ifCond .eq 12, 3) := gd_X12_rhymes_24.2.2.2.2.2.2.1
theorem dX12_tell_8 : decode cX12_tell 8 = .ok (.iload_n 2, 1) := gd_X12_rhymes_24.2.2.2.2.2.2.2.1
theorem dX12_tell_9 : decode cX12_tell 9 = .ok (.iconst 0, 1) := gd_X12_rhymes_24.2.2.2.2.2.2.2.2.1
theorem dX12_tell_10 : decode cX12_tell 10 = .ok (.iconst 2, 1) := gd_X12_rhymes_24.2.2.2.2.2.2.2.2.2
theorem gd_X12_tell_11 : decode cX12_tell 11 = .ok (.invokestatic 226, 3) ∧ decode cX12_tell 14 = .ok (.ifCond .ne 6, 3) ∧ decode cX12_tell 17 = .ok (.bipush (-2), 2) ∧ decode cX12_tell 19 = .ok (.ireturn, 1) ∧ decode cX12_tell 20 = .ok (.aload_n 0, 1) ∧ decode cX12_tell 21 = .ok (.invokevirtual 315, 3) ∧ decode cX12_tell 24 = .ok (.iconst 0, 1) ∧ decode cX12_tell 25 = .ok (.istore_n 3, 1) ∧ decode cX12_tell 26 = .ok (.iconst 0, 1) ∧ decode cX12_tell 27 = .ok (.istore 4, 2) := by decide +kernel
theorem dX12_tell_11 : decode cX12_tell 11 = .ok (.invokestatic 226, 3) := gd_X12_tell_11.1
theorem dX12_tell_14 : decode cX12_tell 14 = .ok (.ifCond .ne 6, 3) := gd_X12_tell_11.2.1
theorem dX12_tell_17 : decode cX12_tell 17 = .ok (.bipush (-2), 2) := gd_X12_tell_11.2.2.1
theorem dX12_tell_19 : decode cX12_tell 19 = .ok (.ireturn, 1) := gd_X12_tell_11.2.2.2.1
theorem dX12_tell_20 : decode cX12_tell 20 = .ok (.aload_n 0, 1) := gd_X12_tell_11.2.2.2.2.1
theorem dX12_tell_21 : decode cX12_tell 21 = .ok (.invokevirtual 315, 3) := gd_X12_tell_11.2.2.2.2.2.1
theorem dX12_tell_24 : decode cX12_tell 24 = .ok (.iconst 0, 1) := gd_X12_tell_11.2.2.2.2.2.2.1
theorem dX12_tell_25 : decode cX12_tell 25 = .ok (.istore_n 3, 1) := gd_X12_tell_11.2.2.2.2.2.2.2.1
theorem dX12_tell_26 : decode cX12_tell 26 = .ok (.iconst 0, 1) := gd_X12_tell_11.2.2.2.2.2.2.2.2.1
theorem dX12_tell_27 : decode cX12_tell 27 = .ok (.istore 4, 2) := gd_X12_tell_11.2.2.2.2.2.2.2.2.2
theorem gd_X12_tell_29 : decode cX12_tell 29 = .ok (.iload 4, 2) ∧ decode cX12_tell 31 = .ok (.aload_n 0, 1) ∧ decode cX12_tell 32 = .ok (.getfield 312, 3) ∧ decode cX12_tell 35 = .ok (.if_icmp .ge 111, 3) ∧ decode cX12_tell 146 = .ok (.iload_n 3, 1) ∧ decode cX12_tell 147 = .ok (.ireturn, 1) ∧ decode cX12_uses 0 = .ok (.iload_n 1, 1) ∧ decode cX12_uses 1 = .ok (.iconst 0, 1) ∧ decode cX12_uses 2 = .ok (.aload_n 0, 1) ∧ decode cX12_uses 3 = .ok (.getfield 222, 3) := by decide +kernel
theorem dX12_tell_29 : decode cX12_tell 29 = .ok (.iload 4, 2) := gd_X12_tell_29.1
theorem dX12_tell_31 : decode cX12_tell 31 = .ok (.aload_n 0, 1) := gd_X12_tell_29.2.1
theorem dX12_tell_32 : decode cX12_tell 32 = .ok (.getfield 312, 3) := gd_X12_tell_29.2.2.1
theorem dX12_tell_35 : decode cX12_tell 35 = .ok (.if_icmp .ge 111, 3) := gd_X12_tell_29.2.2.2.1
theorem dX12_tell_146 : decode cX12_tell 146 = .ok (.iload_n 3, 1) := gd_X12_tell_29.2.2.2.2.1
theorem dX12_tell_147 : decode cX12_tell 147 = .ok (.ireturn, 1) := gd_X12_tell_29.2.2.2.2.2.1
theorem dX12_uses_0 : decode cX12_uses 0 = .ok (.iload_n 1, 1) := gd_X12_tell_29.2.2.2.2.2.2.1
theorem dX12_uses_1 : decode cX12_uses 1 = .ok (.iconst 0, 1) := gd_X12_tell_29.2.2.2.2.2.2.2.1
theorem dX12_uses_2 : decode cX12_uses 2 = .ok (.aload_n 0, 1) := gd_X12_tell_29.2.2.2.2.2.2.2.2.1
theorem dX12_uses_3 : decode cX12_uses 3 = .ok (.getfield 222, 3) := gd_X12_tell_29.2.2.2.2.2.2.2.2.2
theorem gd_X12_uses_6 : decode cX12_uses 6 = .ok (.iconst 1, 1) ∧ decode cX12_uses 7 = .ok (.isub, 1) ∧ decode cX12_uses 8 = .ok (.invokestatic 226, 3) ∧ decode cX12_uses 11 = .ok (.ifCond .eq 19, 3) ∧ decode cX12_uses 30 = .ok (.bipush (-2), 2) ∧ decode cX12_uses 32 = .ok (.ireturn, 1) ∧ decode cX12_hasNought 0 = .ok (.iconst 0, 1) ∧ decode cX12_hasNought 1 = .ok (.istore_n 2, 1) ∧ decode cX12_hasNought 2 = .ok (.iload_n 2, 1) ∧ decode cX12_hasNought 3 = .ok (.iload_n 1, 1) := by decide +kernel
theorem dX12_uses_6 : decode cX12_uses 6 = .ok (.iconst 1, 1) := gd_X12_uses_6.1
theorem dX12_uses_7 : decode cX12_uses 7 = .ok (.isub, 1) := gd_X12_uses_6.2.1
theorem dX12_uses_8 : decode cX12_uses 8 = .ok (.invokestatic 226, 3) := gd_X12_uses_6.2.2.1
theorem dX12_uses_11 : decode cX12_uses 11 = .ok (.ifCond .eq 19, 3) := gd_X12_uses_6.2.2.2.1
theorem dX12_uses_30 : decode cX12_uses 30 = .ok (.bipush (-2), 2) := gd_X12_uses_6.2.2.2.2.1
theorem dX12_uses_32 : decode cX12_uses 32 = .ok (.ireturn, 1) := gd_X12_uses_6.2.2.2.2.2.1
theorem dX12_hasNought_0 : decode cX12_hasNought 0 = .ok (.iconst 0, 1) := gd_X12_uses_6.2.2.2.2.2.2.1
theorem dX12_hasNought_1 : decode cX12_hasNought 1 = .ok (.istore_n 2, 1) := gd_X12_uses_6.2.2.2.2.2.2.2.1
theorem dX12_hasNought_2 : decode cX12_hasNought 2 = .ok (.iload_n 2, 1) := gd_X12_uses_6.2.2.2.2.2.2.2.2.1
theorem dX12_hasNought_3 : decode cX12_hasNought 3 = .ok (.iload_n 1, 1) := gd_X12_uses_6.2.2.2.2.2.2.2.2.2
theorem gd_X12_hasNought_4 : decode cX12_hasNought 4 = .ok (.if_icmp .ge 20, 3) ∧ decode cX12_hasNought 24 = .ok (.iconst 0, 1) ∧ decode cX12_hasNought 25 = .ok (.ireturn, 1) ∧ decode cX12_write 0 = .ok (.aload_n 0, 1) ∧ decode cX12_write 1 = .ok (.getfield 152, 3) ∧ decode cX12_write 4 = .ok (.istore_n 3, 1) ∧ decode cX12_write 5 = .ok (.aload_n 0, 1) ∧ decode cX12_write 6 = .ok (.iconst 0, 1) ∧ decode cX12_write 7 = .ok (.putfield 152, 3) ∧ decode cX12_write 10 = .ok (.aload_n 0, 1) := by decide +kernel
theorem dX12_hasNought_4 : decode cX12_hasNought 4 = .ok (.if_icmp .ge 20, 3) := gd_X12_hasNought_4.1
theorem dX12_hasNought_24 : decode cX12_hasNought 24 = .ok (.iconst 0, 1) := gd_X12_hasNought_4.2.1
theorem dX12_hasNought_25 : decode cX12_hasNought 25 = .ok (.ireturn, 1) := gd_X12_hasNought_4.2.2.1
theorem dX12_write_0 : decode cX12_write 0 = .ok (.aload_n 0, 1) := gd_X12_hasNought_4.2.2.2.1
theorem dX12_write_1 : decode cX12_write 1 = .ok (.getfield 152, 3) := gd_X12_hasNought_4.2.2.2.2.1
theorem dX12_write_4 : decode cX12_write 4 = .ok (.istore_n 3, 1) := gd_X12_hasNought_4.2.2.2.2.2.1
theorem dX12_write_5 : decode cX12_write 5 = .ok (.aload_n 0, 1) := gd_X12_hasNought_4.2.2.2.2.2.2.1
theorem dX12_write_6 : decode cX12_write 6 = .ok (.iconst 0, 1) := gd_X12_hasNought_4.2.2.2.2.2.2.2.1
theorem dX12_write_7 : decode cX12_write 7 = .ok (.putfield 152, 3) := gd_X12_hasNought_4.2.2.2.2.2.2.2.2.1
theorem dX12_write_10 : decode cX12_write 10 = .ok (.aload_n 0, 1) := gd_X12_hasNought_4.2.2.2.2.2.2.2.2.2
theorem gd_X12_write_11 : decode cX12_write 11 = .ok (.iload_n 1, 1) ∧ decode cX12_write 12 = .ok (.invokevirtual 300, 3) ∧ decode cX12_write 15 = .ok (.ifCond .eq 16, 3) ∧ decode cX12_write 18 = .ok (.aload_n 0, 1) ∧ decode cX12_write 19 = .ok (.iload_n 2, 1) ∧ decode cX12_write 20 = .ok (.invokevirtual 300, 3) ∧ decode cX12_write 23 = .ok (.ifCond .eq 8, 3) ∧ decode cX12_write 26 = .ok (.iload_n 1, 1) ∧ decode cX12_write 27 = .ok (.iload_n 2, 1) ∧ decode cX12_write 28 = .ok (.if_icmp .le 6, 3) := by decide +kernel
theorem dX12_write_11 : decode cX12_write 11 = .ok (.iload_n 1, 1) := gd_X12_write_11.1
theorem dX12_write_12 : decode cX12_write 12 = .ok (.invokevirtual 300, 3) := gd_X12_write_11.2.1
theorem dX12_write_15 : decode cX12_write 15 = .ok (.ifCond .eq 16, 3) := gd_X12_write_11.2.2.1
theorem dX12_write_18 : decode cX12_write 18 = .ok (.aload_n 0, 1) := gd_X12_write_11.2.2.2.1
theorem dX12_write_19 : decode cX12_write 19 = .ok (.iload_n 2, 1) := gd_X12_write_11.2.2.2.2.1
theorem dX12_write_20 : decode cX12_write 20 = .ok (.invokevirtual 300, 3) := gd_X12_write_11.2.2.2.2.2.1
theorem dX12_write_23 : decode cX12_write 23 = .ok (.ifCond .eq 8, 3) := gd_X12_write_11.2.2.2.2.2.2.1
theorem dX12_write_26 : decode cX12_write 26 = .ok (.iload_n 1, 1) := gd_X12_write_11.2.2.2.2.2.2.2.1
theorem dX12_write_27 : decode cX12_write 27 = .ok (.iload_n 2, 1) := gd_X12_write_11.2.2.2.2.2.2.2.2.1
theorem dX12_write_28 : decode cX12_write 28 = .ok (.if_icmp .le 6, 3) := gd_X12_write_11.2.2.2.2.2.2.2.2.2
