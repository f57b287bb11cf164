theorem gd_X12_isSmall_0 : decode cX12_isSmall 0 = .ok (.iload_n 0, 1) ∧ decode cX12_isSmall 1 = .ok (.bipush 97, 2) ∧ decode cX12_isSmall 3 = .ok (.if_icmp .lt 13, 3) ∧ decode cX12_isSmall 6 = .ok (.iload_n 0, 1) ∧ decode cX12_isSmall 7 = .ok (.bipush 122, 2) ∧ decode cX12_isSmall 9 = .ok (.if_icmp .gt 7, 3) ∧ decode cX12_isSmall 12 = .ok (.iconst 1, 1) ∧ decode cX12_isSmall 13 = .ok (.goto 4, 3) ∧ decode cX12_isSmall 16 = .ok (.iconst 0, 1) ∧ decode cX12_isSmall 17 = .ok (.ireturn, 1) := by decide +kernel
theorem dX12_isSmall_0 : decode cX12_isSmall 0 = .ok (.iload_n 0, 1) := gd_X12_isSmall_0.1
theorem dX12_isSmall_1 : decode cX12_isSmall 1 = .ok (.bipush 97, 2) := gd_X12_isSmall_0.2.1
theorem dX12_isSmall_3 : decode cX12_isSmall 3 = .ok (.if_icmp .lt 13, 3) := gd_X12_isSmall_0.2.2.1
theorem dX12_isSmall_6 : decode cX12_isSmall 6 = .ok (.iload_n 0, 1) := gd_X12_isSmall_0.2.2.2.1
theorem dX12_isSmall_7 : decode cX12_isSmall 7 = .ok (.bipush 122, 2) := gd_X12_isSmall_0.2.2.2.2.1
theorem dX12_isSmall_9 : decode cX12_isSmall 9 = .ok (.if_icmp .gt 7, 3) := gd_X12_isSmall_0.2.2.2.2.2.1
theorem dX12_isSmall_12 : decode cX12_isSmall 12 = .ok (.iconst 1, 1) := gd_X12_isSmall_0.2.2.2.2.2.2.1
theorem dX12_isSmall_13 : decode cX12_isSmall 13 = .ok (.goto 4, 3) := gd_X12_isSmall_0.2.2.2.2.2.2.2.1
theorem dX12_isSmall_16 : decode cX12_isSmall 16 = .ok (.iconst 0, 1) := gd_X12_isSmall_0.2.2.2.2.2.2.2.2.1
theorem dX12_isSmall_17 : decode cX12_isSmall 17 = .ok (.ireturn, 1) := gd_X12_isSmall_0.2.2.2.2.2.2.2.2.2
theorem gd_X12_feed_13 : decode cX12_feed 13 = .ok (.bipush (-3), 2) ∧ decode cX12_feed 15 = .ok (.ireturn, 1) ∧ decode cX12_see 8 = .ok (.aload_n 0, 1) ∧ decode cX12_see 9 = .ok (.getfield 7, 3) ∧ decode cX12_see 12 = .ok (.iload_n 1, 1) ∧ decode cX12_see 13 = .ok (.baload, 1) ∧ decode cX12_see 14 = .ok (.sipush 255, 3) ∧ decode cX12_see 17 = .ok (.iand, 1) ∧ decode cX12_see 18 = .ok (.goto 4, 3) ∧ decode cX12_wrong 0 = .ok (.aload_n 0, 1) := by decide +kernel
theorem dX12_feed_13 : decode cX12_feed 13 = .ok (.bipush (-3), 2) := gd_X12_feed_13.1
theorem dX12_feed_15 : decode cX12_feed 15 = .ok (.ireturn, 1) := gd_X12_feed_13.2.1
theorem dX12_see_8 : decode cX12_see 8 = .ok (.aload_n 0, 1) := gd_X12_feed_13.2.2.1
theorem dX12_see_9 : decode cX12_see 9 = .ok (.getfield 7, 3) := gd_X12_feed_13.2.2.2.1
theorem dX12_see_12 : decode cX12_see 12 = .ok (.iload_n 1, 1) := gd_X12_feed_13.2.2.2.2.1
theorem dX12_see_13 : decode cX12_see 13 = .ok (.baload, 1) := gd_X12_feed_13.2.2.2.2.2.1
theorem dX12_see_14 : decode cX12_see 14 = .ok (.sipush 255, 3) := gd_X12_feed_13.2.2.2.2.2.2.1
theorem dX12_see_17 : decode cX12_see 17 = .ok (.iand, 1) := gd_X12_feed_13.2.2.2.2.2.2.2.1
theorem dX12_see_18 : decode cX12_see 18 = .ok (.goto 4, 3) := gd_X12_feed_13.2.2.2.2.2.2.2.2.1
theorem dX12_wrong_0 : decode cX12_wrong 0 = .ok (.aload_n 0, 1) := gd_X12_feed_13.2.2.2.2.2.2.2.2.2
theorem gd_X12_wrong_1 : decode cX12_wrong 1 = .ok (.iload_n 1, 1) ∧ decode cX12_wrong 2 = .ok (.putfield 194, 3) ∧ decode cX12_wrong 5 = .ok (.aload_n 0, 1) ∧ decode cX12_wrong 6 = .ok (.aload_n 0, 1) ∧ decode cX12_wrong 7 = .ok (.getfield 177, 3) ∧ decode cX12_wrong 10 = .ok (.putfield 13, 3) ∧ decode cX12_wrong 13 = .ok (.iconst 0, 1) ∧ decode cX12_wrong 14 = .ok (.ireturn, 1) ∧ decode cX12_take 0 = .ok (.aload_n 0, 1) ∧ decode cX12_take 1 = .ok (.getfield 180, 3) := by decide +kernel
theorem dX12_wrong_1 : decode cX12_wrong 1 = .ok (.iload_n 1, 1) := gd_X12_wrong_1.1
theorem dX12_wrong_2 : decode cX12_wrong 2 = .ok (.putfield 194, 3) := gd_X12_wrong_1.2.1
theorem dX12_wrong_5 : decode cX12_wrong 5 = .ok (.aload_n 0, 1) := gd_X12_wrong_1.2.2.1
theorem dX12_wrong_6 : decode cX12_wrong 6 = .ok (.aload_n 0, 1) := gd_X12_wrong_1.2.2.2.1
theorem dX12_wrong_7 : decode cX12_wrong 7 = .ok (.getfield 177, 3) := gd_X12_wrong_1.2.2.2.2.1
theorem dX12_wrong_10 : decode cX12_wrong 10 = .ok (.putfield 13, 3) := gd_X12_wrong_1.2.2.2.2.2.1
theorem dX12_wrong_13 : decode cX12_wrong 13 = .ok (.iconst 0, 1) := gd_X12_wrong_1.2.2.2.2.2.2.1
theorem dX12_wrong_14 : decode cX12_wrong 14 = .ok (.ireturn, 1) := gd_X12_wrong_1.2.2.2.2.2.2.2.1
theorem dX12_take_0 : decode cX12_take 0 = .ok (.aload_n 0, 1) := gd_X12_wrong_1.2.2.2.2.2.2.2.2.1
theorem dX12_take_1 : decode cX12_take 1 = .ok (.getfield 180, 3) := gd_X12_wrong_1.2.2.2.2.2.2.2.2.2
theorem gd_X12_take_4 : decode cX12_take 4 = .ok (.iconst 2, 1) ∧ decode cX12_take 5 = .ok (.if_icmp .eq 9, 3) ∧ decode cX12_take 8 = .ok (.aload_n 0, 1) ∧ decode cX12_take 9 = .ok (.iconst 1, 1) ∧ decode cX12_take 10 = .ok (.invokevirtual 197, 3) ∧ decode cX12_take 13 = .ok (.ireturn, 1) ∧ decode cX12_take 14 = .ok (.aload_n 0, 1) ∧ decode cX12_take 15 = .ok (.getfield 174, 3) ∧ decode cX12_take 18 = .ok (.aload_n 0, 1) ∧ decode cX12_take 19 = .ok (.getfield 177, 3) := by decide +kernel
theorem dX12_take_4 : decode cX12_take 4 = .ok (.iconst 2, 1) := gd_X12_take_4.1
theorem dX12_take_5 : decode cX12_take 5 = .ok (.if_icmp .eq 9, 3) := gd_X12_take_4.2.1
theorem dX12_take_8 : decode cX12_take 8 = .ok (.aload_n 0, 1) := gd_X12_take_4.2.2.1
theorem dX12_take_9 : decode cX12_take 9 = .ok (.iconst 1, 1) := gd_X12_take_4.2.2.2.1
theorem dX12_take_10 : decode cX12_take 10 = .ok (.invokevirtual 197, 3) := gd_X12_take_4.2.2.2.2.1
theorem dX12_take_13 : decode cX12_take 13 = .ok (.ireturn, 1) := gd_X12_take_4.2.2.2.2.2.1
theorem dX12_take_14 : decode cX12_take 14 = .ok (.aload_n 0, 1) := gd_X12_take_4.2.2.2.2.2.2.1
theorem dX12_take_15 : decode cX12_take 15 = .ok (.getfield 174, 3) := gd_X12_take_4.2.2.2.2.2.2.2.1
theorem dX12_take_18 : decode cX12_take 18 = .ok (.aload_n 0, 1) := gd_X12_take_4.2.2.2.2.2.2.2.2.1
theorem dX12_take_19 : decode cX12_take 19 = .ok (.getfield 177, 3) := gd_X12_take_4.2.2.2.2.2.2.2.2.2
theorem gd_X12_take_22 : decode cX12_take 22 = .ok (.isub, 1) ∧ decode cX12_take 23 = .ok (.iconst 2, 1) ∧ decode cX12_take 24 = .ok (.isub, 1) ∧ decode cX12_take 25 = .ok (.istore 5, 2) ∧ decode cX12_take 27 = .ok (.iload 4, 2) ∧ decode cX12_take 29 = .ok (.ifCond .eq 14, 3) ∧ decode cX12_take 32 = .ok (.iload 5, 2) ∧ decode cX12_take 34 = .ok (.ifCond .ne 9, 3) ∧ decode cX12_take 37 = .ok (.aload_n 0, 1) ∧ decode cX12_take 38 = .ok (.iconst 2, 1) := by decide +kernel
theorem dX12_take_22 : decode cX12_take 22 = .ok (.isub, 1) := gd_X12_take_22.1
theorem dX12_take_23 : decode cX12_take 23 = .ok (.iconst 2, 1) := gd_X12_take_22.2.1
theorem dX12_take_24 : decode cX12_take 24 = .ok (.isub, 1) := gd_X12_take_22.2.2.1
theorem dX12_take_25 : decode cX12_take 25 = .ok (.istore 5, 2) := gd_X12_take_22.2.2.2.1
theorem dX12_take_27 : decode cX12_take 27 = .ok (.iload 4, 2) := gd_X12_take_22.2.2.2.2.1
theorem dX12_take_29 : decode cX12_take 29 = .ok (.ifCond .eq 14, 3) := gd_X12_take_22.2.2.2.2.2.1
theorem dX12_take_32 : decode cX12_take 32 = .ok (.iload 5, 2) := gd_X12_take_22.2.2.2.2.2.2.1
theorem dX12_take_34 : decode cX12_take 34 = .ok (.ifCond .ne 9, 3) := gd_X12_take_22.2.2.2.2.2.2.2.1
theorem dX12_take_37 : decode cX12_take 37 = .ok (.aload_n 0, 1) := gd_X12_take_22.2.2.2.2.2.2.2.2.1
theorem dX12_take_38 : decode cX12_take 38 = .ok (.iconst 2, 1) := gd_X12_take_22.2.2.2.2.2.2.2.2.2
theorem gd_X12_take_39 : decode cX12_take 39 = .ok (.invokevirtual 197, 3) ∧ decode cX12_take 42 = .ok (.ireturn, 1) ∧ decode cX12_take 43 = .ok (.iconst 0, 1) ∧ decode cX12_take 44 = .ok (.istore 6, 2) ∧ decode cX12_take 46 = .ok (.iload 6, 2) ∧ decode cX12_take 48 = .ok (.iload 5, 2) ∧ decode cX12_take 50 = .ok (.if_icmp .ge 32, 3) ∧ decode cX12_take 53 = .ok (.aload_n 1, 1) ∧ decode cX12_take 54 = .ok (.bipush 16, 2) ∧ decode cX12_take 56 = .ok (.iload_n 3, 1) := by decide +kernel
theorem dX12_take_39 : decode cX12_take 39 = .ok (.invokevirtual 197, 3) := gd_X12_take_39.1
theorem dX12_take_42 : decode cX12_take 42 = .ok (.ireturn, 1) := gd_X12_take_39.2.1
theorem dX12_take_43 : decode cX12_take 43 = .ok (.iconst 0, 1) := gd_X12_take_39.2.2.1
theorem dX12_take_44 : decode cX12_take 44 = .ok (.istore 6, 2) := gd_X12_take_39.2.2.2.1
theorem dX12_take_46 : decode cX12_take 46 = .ok (.iload 6, 2) := gd_X12_take_39.2.2.2.2.1
theorem dX12_take_48 : decode cX12_take 48 = .ok (.iload 5, 2) := gd_X12_take_39.2.2.2.2.2.1
theorem dX12_take_50 : decode cX12_take 50 = .ok (.if_icmp .ge 32, 3) := gd_X12_take_39.2.2.2.2.2.2.1
theorem dX12_take_53 : decode cX12_take 53 = .ok (.aload_n 1, 1) := gd_X12_take_39.2.2.2.2.2.2.2.1
theorem dX12_take_54 : decode cX12_take 54 = .ok (.bipush 16, 2) := gd_X12_take_39.2.2.2.2.2.2.2.2.1
theorem dX12_take_56 : decode cX12_take 56 = .ok (.iload_n 3, 1) := gd_X12_take_39.2.2.2.2.2.2.2.2.2
theorem gd_X12_take_57 : decode cX12_take 57 = .ok (.imul, 1) ∧ decode cX12_take 58 = .ok (.iload 6, 2) ∧ decode cX12_take 60 = .ok (.iadd, 1) ∧ decode cX12_take 61 = .ok (.aload_n 0, 1) ∧ decode cX12_take 62 = .ok (.getfield 7, 3) ∧ decode cX12_take 65 = .ok (.aload_n 0, 1) ∧ decode cX12_take 66 = .ok (.getfield 177, 3) ∧ decode cX12_take 69 = .ok (.iconst 1, 1) ∧ decode cX12_take 70 = .ok (.iadd, 1) ∧ decode cX12_take 71 = .ok (.iload 6, 2) := by decide +kernel
theorem dX12_take_57 : decode cX12_take 57 = .ok (.imul, 1) := gd_X12_take_57.1
theorem dX12_take_58 : decode cX12_take 58 = .ok (.iload 6, 2) := gd_X12_take_57.2.1
theorem dX12_take_60 : decode cX12_take 60 = .ok (.iadd, 1) := gd_X12_take_57.2.2.1
theorem dX12_take_61 : decode cX12_take 61 = .ok (.aload_n 0, 1) := gd_X12_take_57.2.2.2.1
theorem dX12_take_62 : decode cX12_take 62 = .ok (.getfield 7, 3) := gd_X12_take_57.2.2.2.2.1
theorem dX12_take_65 : decode cX12_take 65 = .ok (.aload_n 0, 1) := gd_X12_take_57.2.2.2.2.2.1
theorem dX12_take_66 : decode cX12_take 66 = .ok (.getfield 177, 3) := gd_X12_take_57.2.2.2.2.2.2.1
theorem dX12_take_69 : decode cX12_take 69 = .ok (.iconst 1, 1) := gd_X12_take_57.2.2.2.2.2.2.2.1
theorem dX12_take_70 : decode cX12_take 70 = .ok (.iadd, 1) := gd_X12_take_57.2.2.2.2.2.2.2.2.1
theorem dX12_take_71 : decode cX12_take 71 = .ok (.iload 6, 2) := gd_X12_take_57.2.2.2.2.2.2.2.2.2
theorem gd_X12_take_73 : decode cX12_take 73 = .ok (.iadd, 1) ∧ decode cX12_take 74 = .ok (.baload, 1) ∧ decode cX12_take 75 = .ok (.bastore, 1) ∧ decode cX12_take 76 = .ok (.iinc 6 1, 3) ∧ decode cX12_take 79 = .ok (.goto (-33), 3) ∧ decode cX12_take 82 = .ok (.aload_n 2, 1) ∧ decode cX12_take 83 = .ok (.iload_n 3, 1) ∧ decode cX12_take 84 = .ok (.iload 5, 2) ∧ decode cX12_take 86 = .ok (.iastore, 1) ∧ decode cX12_take 87 = .ok (.iconst 1, 1) := by decide +kernel
theorem dX12_take_73 : decode cX12_take 73 = .ok (.iadd, 1) := gd_X12_take_73.1
theorem dX12_take_74 : decode cX12_take 74 = .ok (.baload, 1) := gd_X12_take_73.2.1
theorem dX12_take_75 : decode cX12_take 75 = .ok (.bastore, 1) := gd_X12_take_73.2.2.1
theorem dX12_take_76 : decode cX12_take 76 = .ok (.iinc 6 1, 3) := gd_X12_take_73.2.2.2.1
theorem dX12_take_79 : decode cX12_take 79 = .ok (.goto (-33), 3) := gd_X12_take_73.2.2.2.2.1
theorem dX12_take_82 : decode cX12_take 82 = .ok (.aload_n 2, 1) := gd_X12_take_73.2.2.2.2.2.1
theorem dX12_take_83 : decode cX12_take 83 = .ok (.iload_n 3, 1) := gd_X12_take_73.2.2.2.2.2.2.1
theorem dX12_take_84 : decode cX12_take 84 = .ok (.iload 5, 2) := gd_X12_take_73.2.2.2.2.2.2.2.1
theorem dX12_take_86 : decode cX12_take 86 = .ok (.iastore, 1) := gd_X12_take_73.2.2.2.2.2.2.2.2.1
theorem dX12_take_87 : decode cX12_take 87 = .ok (.iconst 1, 1) := gd_X12_take_73.2.2.2.2.2.2.2.2.2
theorem gd_X12_take_88 : decode cX12_take 88 = .ok (.ireturn, 1) ∧ decode cX12_about 16 = .ok (.iconst 0, 1) ∧ decode cX12_about 17 = .ok (.istore_n 3, 1) ∧ decode cX12_about 18 = .ok (.iconst 0, 1) ∧ decode cX12_about 19 = .ok (.istore 4, 2) ∧ decode cX12_about 21 = .ok (.iload 4, 2) ∧ decode cX12_about 23 = .ok (.aload_n 0, 1) ∧ decode cX12_about 24 = .ok (.getfield 27, 3) ∧ decode cX12_about 27 = .ok (.iload_n 1, 1) ∧ decode cX12_about 28 = .ok (.iaload, 1) := by decide +kernel
theorem dX12_take_88 : decode cX12_take 88 = .ok (.ireturn, 1) := gd_X12_take_88.1
theorem dX12_about_16 : decode cX12_about 16 = .ok (.iconst 0, 1) := gd_X12_take_88.2.1
theorem dX12_about_17 : decode cX12_about 17 = .ok (.istore_n 3, 1) := gd_X12_take_88.2.2.1
theorem dX12_about_18 : decode cX12_about 18 = .ok (.iconst 0, 1) := gd_X12_take_88.2.2.2.1
theorem dX12_about_19 : decode cX12_about 19 = .ok (.istore 4, 2) := gd_X12_take_88.2.2.2.2.1
theorem dX12_about_21 : decode cX12_about 21 = .ok (.iload 4, 2) := gd_X12_take_88.2.2.2.2.2.1
theorem dX12_about_23 : decode cX12_about 23 = .ok (.aload_n 0, 1) := gd_X12_take_88.2.2.2.2.2.2.1
theorem dX12_about_24 : decode cX12_about 24 = .ok (.getfield 27, 3) := gd_X12_take_88.2.2.2.2.2.2.2.1
theorem dX12_about_27 : decode cX12_about 27 = .ok (.iload_n 1, 1) := gd_X12_take_88.2.2.2.2.2.2.2.2.1
theorem dX12_about_28 : decode cX12_about 28 = .ok (.iaload, 1) := gd_X12_take_88.2.2.2.2.2.2.2.2.2
theorem gd_X12_about_29 : decode cX12_about 29 = .ok (.if_icmp .ge 37, 3) ∧ decode cX12_about 32 = .ok (.iload_n 3, 1) ∧ decode cX12_about 33 = .ok (.aload_n 0, 1) ∧ decode cX12_about 34 = .ok (.getfield 52, 3) ∧ decode cX12_about 37 = .ok (.iconst 2, 1) ∧ decode cX12_about 38 = .ok (.bipush 40, 2) ∧ decode cX12_about 40 = .ok (.iload_n 1, 1) ∧ decode cX12_about 41 = .ok (.imul, 1) ∧ decode cX12_about 42 = .ok (.iload 4, 2) ∧ decode cX12_about 44 = .ok (.iadd, 1) := by decide +kernel
theorem dX12_about_29 : decode cX12_about 29 = .ok (.if_icmp .ge 37, 3) := gd_X12_about_29.1
theorem dX12_about_32 : decode cX12_about 32 = .ok (.iload_n 3, 1) := gd_X12_about_29.2.1
theorem dX12_about_33 : decode cX12_about 33 = .ok (.aload_n 0, 1) := gd_X12_about_29.2.2.1
theorem dX12_about_34 : decode cX12_about 34 = .ok (.getfield 52, 3) := gd_X12_about_29.2.2.2.1
theorem dX12_about_37 : decode cX12_about 37 = .ok (.iconst 2, 1) := gd_X12_about_29.2.2.2.2.1
theorem dX12_about_38 : decode cX12_about 38 = .ok (.bipush 40, 2) := gd_X12_about_29.2.2.2.2.2.1
theorem dX12_about_40 : decode cX12_about 40 = .ok (.iload_n 1, 1) := gd_X12_about_29.2.2.2.2.2.2.1
theorem dX12_about_41 : decode cX12_about 41 = .ok (.imul, 1) := gd_X12_about_29.2.2.2.2.2.2.2.1
theorem dX12_about_42 : decode cX12_about 42 = .ok (.iload 4, 2) := gd_X12_about_29.2.2.2.2.2.2.2.2.1
theorem dX12_about_44 : decode cX12_about 44 = .ok (.iadd, 1) := gd_X12_about_29.2.2.2.2.2.2.2.2.2
theorem gd_X12_about_45 : decode cX12_about 45 = .ok (.imul, 1) ∧ decode cX12_about 46 = .ok (.iconst 1, 1) ∧ decode cX12_about 47 = .ok (.iadd, 1) ∧ decode cX12_about 48 = .ok (.iaload, 1) ∧ decode cX12_about 49 = .ok (.iconst (-1), 1) ∧ decode cX12_about 50 = .ok (.if_icmp .ne 7, 3) ∧ decode cX12_about 53 = .ok (.iconst 1, 1) ∧ decode cX12_about 54 = .ok (.goto 4, 3) ∧ decode cX12_about 57 = .ok (.iconst 0, 1) ∧ decode cX12_about 58 = .ok (.iadd, 1) := by decide +kernel
theorem dX12_about_45 : decode cX12_about 45 = .ok (.imul, 1) := gd_X12_about_45.1
theorem dX12_about_46 : decode cX12_about 46 = .ok (.iconst 1, 1) := gd_X12_about_45.2.1
theorem dX12_about_47 : decode cX12_about 47 = .ok (.iadd, 1) := gd_X12_about_45.2.2.1
theorem dX12_about_48 : decode cX12_about 48 = .ok (.iaload, 1) := gd_X12_about_45.2.2.2.1
theorem dX12_about_49 : decode cX12_about 49 = .ok (.iconst (-1), 1) := gd_X12_about_45.2.2.2.2.1
theorem dX12_about_50 : decode cX12_about 50 = .ok (.if_icmp .ne 7, 3) := gd_X12_about_45.2.2.2.2.2.1
theorem dX12_about_53 : decode cX12_about 53 = .ok (.iconst 1, 1) := gd_X12_about_45.2.2.2.2.2.2.1
theorem dX12_about_54 : decode cX12_about 54 = .ok (.goto 4, 3) := gd_X12_about_45.2.2.2.2.2.2.2.1
theorem dX12_about_57 : decode cX12_about 57 = .ok (.iconst 0, 1) := gd_X12_about_45.2.2.2.2.2.2.2.2.1
theorem dX12_about_58 : decode cX12_about 58 = .ok (.iadd, 1) := gd_X12_about_45.2.2.2.2.2.2.2.2.2
theorem gd_X12_about_59 : decode cX12_about 59 = .ok (.istore_n 3, 1) ∧ decode cX12_about 60 = .ok (.iinc 4 1, 3) ∧ decode cX12_about 63 = .ok (.goto (-42), 3) ∧ decode cX12_about 66 = .ok (.iload_n 2, 1) ∧ decode cX12_about 67 = .ok (.tableswitch 65 0 4 #[33, 40, 47, 54, 56], 33) ∧ decode cX12_about 100 = .ok (.aload_n 0, 1) ∧ decode cX12_about 101 = .ok (.getfield 17, 3) ∧ decode cX12_about 104 = .ok (.iload_n 1, 1) ∧ decode cX12_about 105 = .ok (.iaload, 1) ∧ decode cX12_about 106 = .ok (.ireturn, 1) := by decide +kernel
theorem dX12_about_59 : decode cX12_about 59 = .ok (.istore_n 3, 1) := gd_X12_about_59.1
theorem dX12_about_60 : decode cX12_about 60 = .ok (.iinc 4 1, 3) := gd_X12_about_59.2.1
theorem dX12_about_63 : decode cX12_about 63 = .ok (.goto (-42), 3) := gd_X12_about_59.2.2.1
theorem dX12_about_66 : decode cX12_about 66 = .ok (.iload_n 2, 1) := gd_X12_about_59.2.2.2.1
theorem dX12_about_67 : decode cX12_about 67 = .ok (.tableswitch 65 0 4 #[33, 40, 47, 54, 56], 33) := gd_X12_about_59.2.2.2.2.1
theorem dX12_about_100 : decode cX12_about 100 = .ok (.aload_n 0, 1) := gd_X12_about_59.2.2.2.2.2.1
theorem dX12_about_101 : decode cX12_about 101 = .ok (.getfield 17, 3) := gd_X12_about_59.2.2.2.2.2.2.1
theorem dX12_about_104 : decode cX12_about 104 = .ok (.iload_n 1, 1) := gd_X12_about_59.2.2.2.2.2.2.2.1
theorem dX12_about_105 : decode cX12_about 105 = .ok (.iaload, 1) := gd_X12_about_59.2.2.2.2.2.2.2.2.1
theorem dX12_about_106 : decode cX12_about 106 = .ok (.ireturn, 1) := gd_X12_about_59.2.2.2.2.2.2.2.2.2
theorem gd_X12_about_107 : decode cX12_about 107 = .ok (.aload_n 0, 1) ∧ decode cX12_about 108 = .ok (.getfield 21, 3) ∧ decode cX12_about 111 = .ok (.iload_n 1, 1) ∧ decode cX12_about 112 = .ok (.iaload, 1) ∧ decode cX12_about 113 = .ok (.ireturn, 1) ∧ decode cX12_about 114 = .ok (.aload_n 0, 1) ∧ decode cX12_about 115 = .ok (.getfield 24, 3) ∧ decode cX12_about 118 = .ok (.iload_n 1, 1) ∧ decode cX12_about 119 = .ok (.iaload, 1) ∧ decode cX12_about 120 = .ok (.ireturn, 1) := by decide +kernel
theorem dX12_about_107 : decode cX12_about 107 = .ok (.aload_n 0, 1) := gd_X12_about_107.1
theorem dX12_about_108 : decode cX12_about 108 = .ok (.getfield 21, 3) := gd_X12_about_107.2.1
theorem dX12_about_111 : decode cX12_about 111 = .ok (.iload_n 1, 1) := gd_X12_about_107.2.2.1
theorem dX12_about_112 : decode cX12_about 112 = .ok (.iaload, 1) := gd_X12_about_107.2.2.2.1
theorem dX12_about_113 : decode cX12_about 113 = .ok (.ireturn, 1) := gd_X12_about_107.2.2.2.2.1
theorem dX12_about_114 : decode cX12_about 114 = .ok (.aload_n 0, 1) := gd_X12_about_107.2.2.2.2.2.1
theorem dX12_about_115 : decode cX12_about 115 = .ok (.getfield 24, 3) := gd_X12_about_107.2.2.2.2.2.2.1
theorem dX12_about_118 : decode cX12_about 118 = .ok (.iload_n 1, 1) := gd_X12_about_107.2.2.2.2.2.2.2.1
theorem dX12_about_119 : decode cX12_about 119 = .ok (.iaload, 1) := gd_X12_about_107.2.2.2.2.2.2.2.2.1
theorem dX12_about_120 : decode cX12_about 120 = .ok (.ireturn, 1) := gd_X12_about_107.2.2.2.2.2.2.2.2.2
theorem gd_X12_about_121 : decode cX12_about 121 = .ok (.iload_n 3, 1) ∧ decode cX12_about 122 = .ok (.ireturn, 1) ∧ decode cX12_about 123 = .ok (.aload_n 0, 1) ∧ decode cX12_about 124 = .ok (.getfield 27, 3) ∧ decode cX12_about 127 = .ok (.iload_n 1, 1) ∧ decode cX12_about 128 = .ok (.iaload, 1) ∧ decode cX12_about 129 = .ok (.iload_n 3, 1) ∧ decode cX12_about 130 = .ok (.isub, 1) ∧ decode cX12_about 131 = .ok (.ireturn, 1) ∧ decode cX12_about 132 = .ok (.iconst (-1), 1) := by decide +kernel
theorem dX12_about_121 : decode cX12_about 121 = .ok (.iload_n 3, 1) := gd_X12_about_121.1
theorem dX12_about_122 : decode cX12_about 122 = .ok (.ireturn, 1) := gd_X12_about_121.2.1
theorem dX12_about_123 : decode cX12_about 123 = .ok (.aload_n 0, 1) := gd_X12_about_121.2.2.1
theorem dX12_about_124 : decode cX12_about 124 = .ok (.getfield 27, 3) := gd_X12_about_121.2.2.2.1
theorem dX12_about_127 : decode cX12_about 127 = .ok (.iload_n 1, 1) := gd_X12_about_121.2.2.2.2.1
theorem dX12_about_128 : decode cX12_about 128 = .ok (.iaload, 1) := gd_X12_about_121.2.2.2.2.2.1
theorem dX12_about_129 : decode cX12_about 129 = .ok (.iload_n 3, 1) := gd_X12_about_121.2.2.2.2.2.2.1
theorem dX12_about_130 : decode cX12_about 130 = .ok (.isub, 1) := gd_X12_about_121.2.2.2.2.2.2.2.1
theorem dX12_about_131 : decode cX12_about 131 = .ok (.ireturn, 1) := gd_X12_about_121.2.2.2.2.2.2.2.2.1
theorem dX12_about_132 : decode cX12_about 132 = .ok (.iconst (-1), 1) := gd_X12_about_121.2.2.2.2.2.2.2.2.2
theorem gd_X12_about_133 : decode cX12_about 133 = .ok (.ireturn, 1) ∧ decode cX12_isWordPart 0 = .ok (.bipush 40, 2) ∧ decode cX12_isWordPart 2 = .ok (.iload_n 1, 1) ∧ decode cX12_isWordPart 3 = .ok (.imul, 1) ∧ decode cX12_isWordPart 4 = .ok (.istore 4, 2) ∧ decode cX12_isWordPart 6 = .ok (.iload 4, 2) ∧ decode cX12_isWordPart 8 = .ok (.bipush 40, 2) ∧ decode cX12_isWordPart 10 = .ok (.iload_n 1, 1) ∧ decode cX12_isWordPart 11 = .ok (.imul, 1) ∧ decode cX12_isWordPart 12 = .ok (.aload_n 0, 1) := by decide +kernel
theorem dX12_about_133 : decode cX12_about 133 = .ok (.ireturn, 1) := gd_X12_about_133.1
theorem dX12_isWordPart_0 : decode cX12_isWordPart 0 = .ok (.bipush 40, 2) := gd_X12_about_133.2.1
theorem dX12_isWordPart_2 : decode cX12_isWordPart 2 = .ok (.iload_n 1, 1) := gd_X12_about_133.2.2.1
theorem dX12_isWordPart_3 : decode cX12_isWordPart 3 = .ok (.imul, 1) := gd_X12_about_133.2.2.2.1
theorem dX12_isWordPart_4 : decode cX12_isWordPart 4 = .ok (.istore 4, 2) := gd_X12_about_133.2.2.2.2.1
theorem dX12_isWordPart_6 : decode cX12_isWordPart 6 = .ok (.iload 4, 2) := gd_X12_about_133.2.2.2.2.2.1
theorem dX12_isWordPart_8 : decode cX12_isWordPart 8 = .ok (.bipush 40, 2) := gd_X12_about_133.2.2.2.2.2.2.1
theorem dX12_isWordPart_10 : decode cX12_isWordPart 10 = .ok (.iload_n 1, 1) := gd_X12_about_133.2.2.2.2.2.2.2.1
theorem dX12_isWordPart_11 : decode cX12_isWordPart 11 = .ok (.imul, 1) := gd_X12_about_133.2.2.2.2.2.2.2.2.1
theorem dX12_isWordPart_12 : decode cX12_isWordPart 12 = .ok (.aload_n 0, 1) := gd_X12_about_133.2.2.2.2.2.2.2.2.2
theorem gd_X12_isWordPart_13 : decode cX12_isWordPart 13 = .ok (.getfield 24, 3) ∧ decode cX12_isWordPart 16 = .ok (.iload_n 1, 1) ∧ decode cX12_isWordPart 17 = .ok (.iaload, 1) ∧ decode cX12_isWordPart 18 = .ok (.iadd, 1) ∧ decode cX12_isWordPart 19 = .ok (.if_icmp .ge 85, 3) ∧ decode cX12_isWordPart 22 = .ok (.aload_n 0, 1) ∧ decode cX12_isWordPart 23 = .ok (.getfield 46, 3) ∧ decode cX12_isWordPart 26 = .ok (.iload 4, 2) ∧ decode cX12_isWordPart 28 = .ok (.iaload, 1) ∧ decode cX12_isWordPart 29 = .ok (.iload_n 3, 1) := by decide +kernel
theorem dX12_isWordPart_13 : decode cX12_isWordPart 13 = .ok (.getfield 24, 3) := gd_X12_isWordPart_13.1
theorem dX12_isWordPart_16 : decode cX12_isWordPart 16 = .ok (.iload_n 1, 1) := gd_X12_isWordPart_13.2.1
theorem dX12_isWordPart_17 : decode cX12_isWordPart 17 = .ok (.iaload, 1) := gd_X12_isWordPart_13.2.2.1
theorem dX12_isWordPart_18 : decode cX12_isWordPart 18 = .ok (.iadd, 1) := gd_X12_isWordPart_13.2.2.2.1
theorem dX12_isWordPart_19 : decode cX12_isWordPart 19 = .ok (.if_icmp .ge 85, 3) := gd_X12_isWordPart_13.2.2.2.2.1
theorem dX12_isWordPart_22 : decode cX12_isWordPart 22 = .ok (.aload_n 0, 1) := gd_X12_isWordPart_13.2.2.2.2.2.1
theorem dX12_isWordPart_23 : decode cX12_isWordPart 23 = .ok (.getfield 46, 3) := gd_X12_isWordPart_13.2.2.2.2.2.2.1
theorem dX12_isWordPart_26 : decode cX12_isWordPart 26 = .ok (.iload 4, 2) := gd_X12_isWordPart_13.2.2.2.2.2.2.2.1
theorem dX12_isWordPart_28 : decode cX12_isWordPart 28 = .ok (.iaload, 1) := gd_X12_isWordPart_13.2.2.2.2.2.2.2.2.1
theorem dX12_isWordPart_29 : decode cX12_isWordPart 29 = .ok (.iload_n 3, 1) := gd_X12_isWordPart_13.2.2.2.2.2.2.2.2.2
theorem gd_X12_isWordPart_30 : decode cX12_isWordPart 30 = .ok (.if_icmp .eq 6, 3) ∧ decode cX12_isWordPart 33 = .ok (.goto 65, 3) ∧ decode cX12_isWordPart 36 = .ok (.iconst 1, 1) ∧ decode cX12_isWordPart 37 = .ok (.istore 5, 2) ∧ decode cX12_isWordPart 39 = .ok (.iconst 0, 1) ∧ decode cX12_isWordPart 40 = .ok (.istore 6, 2) ∧ decode cX12_isWordPart 42 = .ok (.iload 6, 2) ∧ decode cX12_isWordPart 44 = .ok (.iload_n 3, 1) ∧ decode cX12_isWordPart 45 = .ok (.if_icmp .ge 46, 3) ∧ decode cX12_isWordPart 48 = .ok (.iload 5, 2) := by decide +kernel
theorem dX12_isWordPart_30 : decode cX12_isWordPart 30 = .ok (.if_icmp .eq 6, 3) := gd_X12_isWordPart_30.1
theorem dX12_isWordPart_33 : decode cX12_isWordPart 33 = .ok (.goto 65, 3) := gd_X12_isWordPart_30.2.1
theorem dX12_isWordPart_36 : decode cX12_isWordPart 36 = .ok (.iconst 1, 1) := gd_X12_isWordPart_30.2.2.1
theorem dX12_isWordPart_37 : decode cX12_isWordPart 37 = .ok (.istore 5, 2) := gd_X12_isWordPart_30.2.2.2.1
theorem dX12_isWordPart_39 : decode cX12_isWordPart 39 = .ok (.iconst 0, 1) := gd_X12_isWordPart_30.2.2.2.2.1
theorem dX12_isWordPart_40 : decode cX12_isWordPart 40 = .ok (.istore 6, 2) := gd_X12_isWordPart_30.2.2.2.2.2.1
theorem dX12_isWordPart_42 : decode cX12_isWordPart 42 = .ok (.iload 6, 2) := gd_X12_isWordPart_30.2.2.2.2.2.2.1
theorem dX12_isWordPart_44 : decode cX12_isWordPart 44 = .ok (.iload_n 3, 1) := gd_X12_isWordPart_30.2.2.2.2.2.2.2.1
theorem dX12_isWordPart_45 : decode cX12_isWordPart 45 = .ok (.if_icmp .ge 46, 3) := gd_X12_isWordPart_30.2.2.2.2.2.2.2.2.1
theorem dX12_isWordPart_48 : decode cX12_isWordPart 48 = .ok (.iload 5, 2) := gd_X12_isWordPart_30.2.2.2.2.2.2.2.2.2
theorem gd_X12_isWordPart_50 : decode cX12_isWordPart 50 = .ok (.ifCond .eq 41, 3) ∧ decode cX12_isWordPart 53 = .ok (.aload_n 0, 1) ∧ decode cX12_isWordPart 54 = .ok (.getfield 43, 3) ∧ decode cX12_isWordPart 57 = .ok (.bipush 16, 2) ∧ decode cX12_isWordPart 59 = .ok (.iload 4, 2) ∧ decode cX12_isWordPart 61 = .ok (.imul, 1) ∧ decode cX12_isWordPart 62 = .ok (.iload 6, 2) ∧ decode cX12_isWordPart 64 = .ok (.iadd, 1) ∧ decode cX12_isWordPart 65 = .ok (.baload, 1) ∧ decode cX12_isWordPart 66 = .ok (.aload_n 0, 1) := by decide +kernel
theorem dX12_isWordPart_50 : decode cX12_isWordPart 50 = .ok (.ifCond .eq 41, 3) := gd_X12_isWordPart_50.1
theorem dX12_isWordPart_53 : decode cX12_isWordPart 53 = .ok (.aload_n 0, 1) := gd_X12_isWordPart_50.2.1
theorem dX12_isWordPart_54 : decode cX12_isWordPart 54 = .ok (.getfield 43, 3) := gd_X12_isWordPart_50.2.2.1
theorem dX12_isWordPart_57 : decode cX12_isWordPart 57 = .ok (.bipush 16, 2) := gd_X12_isWordPart_50.2.2.2.1
theorem dX12_isWordPart_59 : decode cX12_isWordPart 59 = .ok (.iload 4, 2) := gd_X12_isWordPart_50.2.2.2.2.1
theorem dX12_isWordPart_61 : decode cX12_isWordPart 61 = .ok (.imul, 1) := gd_X12_isWordPart_50.2.2.2.2.2.1
theorem dX12_isWordPart_62 : decode cX12_isWordPart 62 = .ok (.iload 6, 2) := gd_X12_isWordPart_50.2.2.2.2.2.2.1
theorem dX12_isWordPart_64 : decode cX12_isWordPart 64 = .ok (.iadd, 1) := gd_X12_isWordPart_50.2.2.2.2.2.2.2.1
theorem dX12_isWordPart_65 : decode cX12_isWordPart 65 = .ok (.baload, 1) := gd_X12_isWordPart_50.2.2.2.2.2.2.2.2.1
theorem dX12_isWordPart_66 : decode cX12_isWordPart 66 = .ok (.aload_n 0, 1) := gd_X12_isWordPart_50.2.2.2.2.2.2.2.2.2
theorem gd_X12_isWordPart_67 : decode cX12_isWordPart 67 = .ok (.getfield 55, 3) ∧ decode cX12_isWordPart 70 = .ok (.iload_n 2, 1) ∧ decode cX12_isWordPart 71 = .ok (.iload 6, 2) ∧ decode cX12_isWordPart 73 = .ok (.iadd, 1) ∧ decode cX12_isWordPart 74 = .ok (.baload, 1) ∧ decode cX12_isWordPart 75 = .ok (.if_icmp .ne 7, 3) ∧ decode cX12_isWordPart 78 = .ok (.iconst 1, 1) ∧ decode cX12_isWordPart 79 = .ok (.goto 4, 3) ∧ decode cX12_isWordPart 82 = .ok (.iconst 0, 1) ∧ decode cX12_isWordPart 83 = .ok (.istore 5, 2) := by decide +kernel
theorem dX12_isWordPart_67 : decode cX12_isWordPart 67 = .ok (.getfield 55, 3) := gd_X12_isWordPart_67.1
theorem dX12_isWordPart_70 : decode cX12_isWordPart 70 = .ok (.iload_n 2, 1) := gd_X12_isWordPart_67.2.1
theorem dX12_isWordPart_71 : decode cX12_isWordPart 71 = .ok (.iload 6, 2) := gd_X12_isWordPart_67.2.2.1
theorem dX12_isWordPart_73 : decode cX12_isWordPart 73 = .ok (.iadd, 1) := gd_X12_isWordPart_67.2.2.2.1
theorem dX12_isWordPart_74 : decode cX12_isWordPart 74 = .ok (.baload, 1) := gd_X12_isWordPart_67.2.2.2.2.1
theorem dX12_isWordPart_75 : decode cX12_isWordPart 75 = .ok (.if_icmp .ne 7, 3) := gd_X12_isWordPart_67.2.2.2.2.2.1
theorem dX12_isWordPart_78 : decode cX12_isWordPart 78 = .ok (.iconst 1, 1) := gd_X12_isWordPart_67.2.2.2.2.2.2.1
theorem dX12_isWordPart_79 : decode cX12_isWordPart 79 = .ok (.goto 4, 3) := gd_X12_isWordPart_67.2.2.2.2.2.2.2.1
theorem dX12_isWordPart_82 : decode cX12_isWordPart 82 = .ok (.iconst 0, 1) := gd_X12_isWordPart_67.2.2.2.2.2.2.2.2.1
theorem dX12_isWordPart_83 : decode cX12_isWordPart 83 = .ok (.istore 5, 2) := gd_X12_isWordPart_67.2.2.2.2.2.2.2.2.2
theorem gd_X12_isWordPart_85 : decode cX12_isWordPart 85 = .ok (.iinc 6 1, 3) ∧ decode cX12_isWordPart 88 = .ok (.goto (-46), 3) ∧ decode cX12_isWordPart 91 = .ok (.iload 5, 2) ∧ decode cX12_isWordPart 93 = .ok (.ifCond .eq 5, 3) ∧ decode cX12_isWordPart 96 = .ok (.iconst 1, 1) ∧ decode cX12_isWordPart 97 = .ok (.ireturn, 1) ∧ decode cX12_isWordPart 98 = .ok (.iinc 4 1, 3) ∧ decode cX12_isWordPart 101 = .ok (.goto (-95), 3) ∧ decode cX12_isWordPart 104 = .ok (.iconst 0, 1) ∧ decode cX12_isWordPart 105 = .ok (.ireturn, 1) := by decide +kernel
theorem dX12_isWordPart_85 : decode cX12_isWordPart 85 = .ok (.iinc 6 1, 3) := gd_X12_isWordPart_85.1
theorem dX12_isWordPart_88 : decode cX12_isWordPart 88 = .ok (.goto (-46), 3) := gd_X12_isWordPart_85.2.1
theorem dX12_isWordPart_91 : decode cX12_isWordPart 91 = .ok (.iload 5, 2) := gd_X12_isWordPart_85.2.2.1
theorem dX12_isWordPart_93 : decode cX12_isWordPart 93 = .ok (.ifCond .eq 5, 3) := gd_X12_isWordPart_85.2.2.2.1
theorem dX12_isWordPart_96 : decode cX12_isWordPart 96 = .ok (.iconst 1, 1) := gd_X12_isWordPart_85.2.2.2.2.1
theorem dX12_isWordPart_97 : decode cX12_isWordPart 97 = .ok (.ireturn, 1) := gd_X12_isWordPart_85.2.2.2.2.2.1
theorem dX12_isWordPart_98 : decode cX12_isWordPart 98 = .ok (.iinc 4 1, 3) := gd_X12_isWordPart_85.2.2.2.2.2.2.1
theorem dX12_isWordPart_101 : decode cX12_isWordPart 101 = .ok (.goto (-95), 3) := gd_X12_isWordPart_85.2.2.2.2.2.2.2.1
theorem dX12_isWordPart_104 : decode cX12_isWordPart 104 = .ok (.iconst 0, 1) := gd_X12_isWordPart_85.2.2.2.2.2.2.2.2.1
theorem dX12_isWordPart_105 : decode cX12_isWordPart 105 = .ok (.ireturn, 1) := gd_X12_isWordPart_85.2.2.2.2.2.2.2.2.2
theorem gd_X12_stands_0 : decode cX12_stands 0 = .ok (.iload_n 3, 1) ∧ decode cX12_stands 1 = .ok (.ifCond .lt 16, 3) ∧ decode cX12_stands 4 = .ok (.iload_n 3, 1) ∧ decode cX12_stands 5 = .ok (.aload_n 0, 1) ∧ decode cX12_stands 6 = .ok (.getfield 33, 3) ∧ decode cX12_stands 9 = .ok (.iload_n 1, 1) ∧ decode cX12_stands 10 = .ok (.iaload, 1) ∧ decode cX12_stands 11 = .ok (.iadd, 1) ∧ decode cX12_stands 12 = .ok (.iload 4, 2) ∧ decode cX12_stands 14 = .ok (.if_icmp .le 5, 3) := by decide +kernel
theorem dX12_stands_0 : decode cX12_stands 0 = .ok (.iload_n 3, 1) := gd_X12_stands_0.1
theorem dX12_stands_1 : decode cX12_stands 1 = .ok (.ifCond .lt 16, 3) := gd_X12_stands_0.2.1
theorem dX12_stands_4 : decode cX12_stands 4 = .ok (.iload_n 3, 1) := gd_X12_stands_0.2.2.1
theorem dX12_stands_5 : decode cX12_stands 5 = .ok (.aload_n 0, 1) := gd_X12_stands_0.2.2.2.1
theorem dX12_stands_6 : decode cX12_stands 6 = .ok (.getfield 33, 3) := gd_X12_stands_0.2.2.2.2.1
theorem dX12_stands_9 : decode cX12_stands 9 = .ok (.iload_n 1, 1) := gd_X12_stands_0.2.2.2.2.2.1
theorem dX12_stands_10 : decode cX12_stands 10 = .ok (.iaload, 1) := gd_X12_stands_0.2.2.2.2.2.2.1
theorem dX12_stands_11 : decode cX12_stands 11 = .ok (.iadd, 1) := gd_X12_stands_0.2.2.2.2.2.2.2.1
theorem dX12_stands_12 : decode cX12_stands 12 = .ok (.iload 4, 2) := gd_X12_stands_0.2.2.2.2.2.2.2.2.1
theorem dX12_stands_14 : decode cX12_stands 14 = .ok (.if_icmp .le 5, 3) := gd_X12_stands_0.2.2.2.2.2.2.2.2.2
theorem gd_X12_stands_17 : decode cX12_stands 17 = .ok (.iconst 0, 1) ∧ decode cX12_stands 18 = .ok (.ireturn, 1) ∧ decode cX12_stands 19 = .ok (.iconst 0, 1) ∧ decode cX12_stands 20 = .ok (.istore 5, 2) ∧ decode cX12_stands 22 = .ok (.iload 5, 2) ∧ decode cX12_stands 24 = .ok (.aload_n 0, 1) ∧ decode cX12_stands 25 = .ok (.getfield 33, 3) ∧ decode cX12_stands 28 = .ok (.iload_n 1, 1) ∧ decode cX12_stands 29 = .ok (.iaload, 1) ∧ decode cX12_stands 30 = .ok (.if_icmp .ge 32, 3) := by decide +kernel
theorem dX12_stands_17 : decode cX12_stands 17 = .ok (.iconst 0, 1) := gd_X12_stands_17.1
theorem dX12_stands_18 : decode cX12_stands 18 = .ok (.ireturn, 1) := gd_X12_stands_17.2.1
theorem dX12_stands_19 : decode cX12_stands 19 = .ok (.iconst 0, 1) := gd_X12_stands_17.2.2.1
theorem dX12_stands_20 : decode cX12_stands 20 = .ok (.istore 5, 2) := gd_X12_stands_17.2.2.2.1
theorem dX12_stands_22 : decode cX12_stands 22 = .ok (.iload 5, 2) := gd_X12_stands_17.2.2.2.2.1
theorem dX12_stands_24 : decode cX12_stands 24 = .ok (.aload_n 0, 1) := gd_X12_stands_17.2.2.2.2.2.1
theorem dX12_stands_25 : decode cX12_stands 25 = .ok (.getfield 33, 3) := gd_X12_stands_17.2.2.2.2.2.2.1
theorem dX12_stands_28 : decode cX12_stands 28 = .ok (.iload_n 1, 1) := gd_X12_stands_17.2.2.2.2.2.2.2.1
theorem dX12_stands_29 : decode cX12_stands 29 = .ok (.iaload, 1) := gd_X12_stands_17.2.2.2.2.2.2.2.2.1
theorem dX12_stands_30 : decode cX12_stands 30 = .ok (.if_icmp .ge 32, 3) := gd_X12_stands_17.2.2.2.2.2.2.2.2.2
theorem gd_X12_stands_33 : decode cX12_stands 33 = .ok (.aload_n 2, 1) ∧ decode cX12_stands 34 = .ok (.iload_n 3, 1) ∧ decode cX12_stands 35 = .ok (.iload 5, 2) ∧ decode cX12_stands 37 = .ok (.iadd, 1) ∧ decode cX12_stands 38 = .ok (.baload, 1) ∧ decode cX12_stands 39 = .ok (.aload_n 0, 1) ∧ decode cX12_stands 40 = .ok (.getfield 30, 3) ∧ decode cX12_stands 43 = .ok (.bipush 16, 2) ∧ decode cX12_stands 45 = .ok (.iload_n 1, 1) ∧ decode cX12_stands 46 = .ok (.imul, 1) := by decide +kernel
theorem dX12_stands_33 : decode cX12_stands 33 = .ok (.aload_n 2, 1) := gd_X12_stands_33.1
theorem dX12_stands_34 : decode cX12_stands 34 = .ok (.iload_n 3, 1) := gd_X12_stands_33.2.1
theorem dX12_stands_35 : decode cX12_stands 35 = .ok (.iload 5, 2) := gd_X12_stands_33.2.2.1
theorem dX12_stands_37 : decode cX12_stands 37 = .ok (.iadd, 1) := gd_X12_stands_33.2.2.2.1
theorem dX12_stands_38 : decode cX12_stands 38 = .ok (.baload, 1) := gd_X12_stands_33.2.2.2.2.1
theorem dX12_stands_39 : decode cX12_stands 39 = .ok (.aload_n 0, 1) := gd_X12_stands_33.2.2.2.2.2.1
theorem dX12_stands_40 : decode cX12_stands 40 = .ok (.getfield 30, 3) := gd_X12_stands_33.2.2.2.2.2.2.1
theorem dX12_stands_43 : decode cX12_stands 43 = .ok (.bipush 16, 2) := gd_X12_stands_33.2.2.2.2.2.2.2.1
theorem dX12_stands_45 : decode cX12_stands 45 = .ok (.iload_n 1, 1) := gd_X12_stands_33.2.2.2.2.2.2.2.2.1
theorem dX12_stands_46 : decode cX12_stands 46 = .ok (.imul, 1) := gd_X12_stands_33.2.2.2.2.2.2.2.2.2
theorem gd_X12_stands_47 : decode cX12_stands 47 = .ok (.iload 5, 2) ∧ decode cX12_stands 49 = .ok (.iadd, 1) ∧ decode cX12_stands 50 = .ok (.baload, 1) ∧ decode cX12_stands 51 = .ok (.if_icmp .eq 5, 3) ∧ decode cX12_stands 54 = .ok (.iconst 0, 1) ∧ decode cX12_stands 55 = .ok (.ireturn, 1) ∧ decode cX12_stands 56 = .ok (.iinc 5 1, 3) ∧ decode cX12_stands 59 = .ok (.goto (-37), 3) ∧ decode cX12_stands 62 = .ok (.iconst 1, 1) ∧ decode cX12_stands 63 = .ok (.ireturn, 1) := by decide +kernel
theorem dX12_stands_47 : decode cX12_stands 47 = .ok (.iload 5, 2) := gd_X12_stands_47.1
theorem dX12_stands_49 : decode cX12_stands 49 = .ok (.iadd, 1) := gd_X12_stands_47.2.1
theorem dX12_stands_50 : decode cX12_stands 50 = .ok (.baload, 1) := gd_X12_stands_47.2.2.1
theorem dX12_stands_51 : decode cX12_stands 51 = .ok (.if_icmp .eq 5, 3) := gd_X12_stands_47.2.2.2.1
theorem dX12_stands_54 : decode cX12_stands 54 = .ok (.iconst 0, 1) := gd_X12_stands_47.2.2.2.2.1
theorem dX12_stands_55 : decode cX12_stands 55 = .ok (.ireturn, 1) := gd_X12_stands_47.2.2.2.2.2.1
theorem dX12_stands_56 : decode cX12_stands 56 = .ok (.iinc 5 1, 3) := gd_X12_stands_47.2.2.2.2.2.2.1
theorem dX12_stands_59 : decode cX12_stands 59 = .ok (.goto (-37), 3) := gd_X12_stands_47.2.2.2.2.2.2.2.1
theorem dX12_stands_62 : decode cX12_stands 62 = .ok (.iconst 1, 1) := gd_X12_stands_47.2.2.2.2.2.2.2.2.1
theorem dX12_stands_63 : decode cX12_stands 63 = .ok (.ireturn, 1) := gd_X12_stands_47.2.2.2.2.2.2.2.2.2
theorem gd_X12_sameBytes_0 : decode cX12_sameBytes 0 = .ok (.iload_n 2, 1) ∧ decode cX12_sameBytes 1 = .ok (.iload 5, 2) ∧ decode cX12_sameBytes 3 = .ok (.if_icmp .eq 5, 3) ∧ decode cX12_sameBytes 6 = .ok (.iconst 0, 1) ∧ decode cX12_sameBytes 7 = .ok (.ireturn, 1) ∧ decode cX12_sameBytes 8 = .ok (.iconst 0, 1) ∧ decode cX12_sameBytes 9 = .ok (.istore 6, 2) ∧ decode cX12_sameBytes 11 = .ok (.iload 6, 2) ∧ decode cX12_sameBytes 13 = .ok (.iload_n 2, 1) ∧ decode cX12_sameBytes 14 = .ok (.if_icmp .ge 27, 3) := by decide +kernel
theorem dX12_sameBytes_0 : decode cX12_sameBytes 0 = .ok (.iload_n 2, 1) := gd_X12_sameBytes_0.1
theorem dX12_sameBytes_1 : decode cX12_sameBytes 1 = .ok (.iload 5, 2) := gd_X12_sameBytes_0.2.1
theorem dX12_sameBytes_3 : decode cX12_sameBytes 3 = .ok (.if_icmp .eq 5, 3) := gd_X12_sameBytes_0.2.2.1
theorem dX12_sameBytes_6 : decode cX12_sameBytes 6 = .ok (.iconst 0, 1) := gd_X12_sameBytes_0.2.2.2.1
theorem dX12_sameBytes_7 : decode cX12_sameBytes 7 = .ok (.ireturn, 1) := gd_X12_sameBytes_0.2.2.2.2.1
theorem dX12_sameBytes_8 : decode cX12_sameBytes 8 = .ok (.iconst 0, 1) := gd_X12_sameBytes_0.2.2.2.2.2.1
theorem dX12_sameBytes_9 : decode cX12_sameBytes 9 = .ok (.istore 6, 2) := gd_X12_sameBytes_0.2.2.2.2.2.2.1
theorem dX12_sameBytes_11 : decode cX12_sameBytes 11 = .ok (.iload 6, 2) := gd_X12_sameBytes_0.2.2.2.2.2.2.2.1
theorem dX12_sameBytes_13 : decode cX12_sameBytes 13 = .ok (.iload_n 2, 1) := gd_X12_sameBytes_0.2.2.2.2.2.2.2.2.1
theorem dX12_sameBytes_14 : decode cX12_sameBytes 14 = .ok (.if_icmp .ge 27, 3) := gd_X12_sameBytes_0.2.2.2.2.2.2.2.2.2
theorem gd_X12_sameBytes_17 : decode cX12_sameBytes 17 = .ok (.aload_n 0, 1) ∧ decode cX12_sameBytes 18 = .ok (.iload_n 1, 1) ∧ decode cX12_sameBytes 19 = .ok (.iload 6, 2) ∧ decode cX12_sameBytes 21 = .ok (.iadd, 1) ∧ decode cX12_sameBytes 22 = .ok (.baload, 1) ∧ decode cX12_sameBytes 23 = .ok (.aload_n 3, 1) ∧ decode cX12_sameBytes 24 = .ok (.iload 4, 2) ∧ decode cX12_sameBytes 26 = .ok (.iload 6, 2) ∧ decode cX12_sameBytes 28 = .ok (.iadd, 1) ∧ decode cX12_sameBytes 29 = .ok (.baload, 1) := by decide +kernel
theorem dX12_sameBytes_17 : decode cX12_sameBytes 17 = .ok (.aload_n 0, 1) := gd_X12_sameBytes_17.1
theorem dX12_sameBytes_18 : decode cX12_sameBytes 18 = .ok (.iload_n 1, 1) := gd_X12_sameBytes_17.2.1
theorem dX12_sameBytes_19 : decode cX12_sameBytes 19 = .ok (.iload 6, 2) := gd_X12_sameBytes_17.2.2.1
theorem dX12_sameBytes_21 : decode cX12_sameBytes 21 = .ok (.iadd, 1) := gd_X12_sameBytes_17.2.2.2.1
theorem dX12_sameBytes_22 : decode cX12_sameBytes 22 = .ok (.baload, 1) := gd_X12_sameBytes_17.2.2.2.2.1
theorem dX12_sameBytes_23 : decode cX12_sameBytes 23 = .ok (.aload_n 3, 1) := gd_X12_sameBytes_17.2.2.2.2.2.1
theorem dX12_sameBytes_24 : decode cX12_sameBytes 24 = .ok (.iload 4, 2) := gd_X12_sameBytes_17.2.2.2.2.2.2.1
theorem dX12_sameBytes_26 : decode cX12_sameBytes 26 = .ok (.iload 6, 2) := gd_X12_sameBytes_17.2.2.2.2.2.2.2.1
theorem dX12_sameBytes_28 : decode cX12_sameBytes 28 = .ok (.iadd, 1) := gd_X12_sameBytes_17.2.2.2.2.2.2.2.2.1
theorem dX12_sameBytes_29 : decode cX12_sameBytes 29 = .ok (.baload, 1) := gd_X12_sameBytes_17.2.2.2.2.2.2.2.2.2
theorem gd_X12_sameBytes_30 : decode cX12_sameBytes 30 = .ok (.if_icmp .eq 5, 3) ∧ decode cX12_sameBytes 33 = .ok (.iconst 0, 1) ∧ decode cX12_sameBytes 34 = .ok (.ireturn, 1) ∧ decode cX12_sameBytes 35 = .ok (.iinc 6 1, 3) ∧ decode cX12_sameBytes 38 = .ok (.goto (-27), 3) ∧ decode cX12_sameBytes 41 = .ok (.iconst 1, 1) ∧ decode cX12_sameBytes 42 = .ok (.ireturn, 1) ∧ decode cX12_takeWord 0 = .ok (.iconst 0, 1) ∧ decode cX12_takeWord 1 = .ok (.istore 4, 2) ∧ decode cX12_takeWord 3 = .ok (.iload 4, 2) := by decide +kernel
theorem dX12_sameBytes_30 : decode cX12_sameBytes 30 = .ok (.if_icmp .eq 5, 3) := gd_X12_sameBytes_30.1
theorem dX12_sameBytes_33 : decode cX12_sameBytes 33 = .ok (.iconst 0, 1) := gd_X12_sameBytes_30.2.1
theorem dX12_sameBytes_34 : decode cX12_sameBytes 34 = .ok (.ireturn, 1) := gd_X12_sameBytes_30.2.2.1
theorem dX12_sameBytes_35 : decode cX12_sameBytes 35 = .ok (.iinc 6 1, 3) := gd_X12_sameBytes_30.2.2.2.1
theorem dX12_sameBytes_38 : decode cX12_sameBytes 38 = .ok (.goto (-27), 3) := gd_X12_sameBytes_30.2.2.2.2.1
theorem dX12_sameBytes_41 : decode cX12_sameBytes 41 = .ok (.iconst 1, 1) := gd_X12_sameBytes_30.2.2.2.2.2.1
theorem dX12_sameBytes_42 : decode cX12_sameBytes 42 = .ok (.ireturn, 1) := gd_X12_sameBytes_30.2.2.2.2.2.2.1
theorem dX12_takeWord_0 : decode cX12_takeWord 0 = .ok (.iconst 0, 1) := gd_X12_sameBytes_30.2.2.2.2.2.2.2.1
theorem dX12_takeWord_1 : decode cX12_takeWord 1 = .ok (.istore 4, 2) := gd_X12_sameBytes_30.2.2.2.2.2.2.2.2.1
theorem dX12_takeWord_3 : decode cX12_takeWord 3 = .ok (.iload 4, 2) := gd_X12_sameBytes_30.2.2.2.2.2.2.2.2.2
theorem gd_X12_takeWord_5 : decode cX12_takeWord 5 = .ok (.iload_n 3, 1) ∧ decode cX12_takeWord 6 = .ok (.if_icmp .ge 22, 3) ∧ decode cX12_takeWord 9 = .ok (.aload_n 0, 1) ∧ decode cX12_takeWord 10 = .ok (.getfield 55, 3) ∧ decode cX12_takeWord 13 = .ok (.iload 4, 2) ∧ decode cX12_takeWord 15 = .ok (.aload_n 1, 1) ∧ decode cX12_takeWord 16 = .ok (.iload_n 2, 1) ∧ decode cX12_takeWord 17 = .ok (.iload 4, 2) ∧ decode cX12_takeWord 19 = .ok (.iadd, 1) ∧ decode cX12_takeWord 20 = .ok (.baload, 1) := by decide +kernel
theorem dX12_takeWord_5 : decode cX12_takeWord 5 = .ok (.iload_n 3, 1) := gd_X12_takeWord_5.1
theorem dX12_takeWord_6 : decode cX12_takeWord 6 = .ok (.if_icmp .ge 22, 3) := gd_X12_takeWord_5.2.1
theorem dX12_takeWord_9 : decode cX12_takeWord 9 = .ok (.aload_n 0, 1) := gd_X12_takeWord_5.2.2.1
theorem dX12_takeWord_10 : decode cX12_takeWord 10 = .ok (.getfield 55, 3) := gd_X12_takeWord_5.2.2.2.1
theorem dX12_takeWord_13 : decode cX12_takeWord 13 = .ok (.iload 4, 2) := gd_X12_takeWord_5.2.2.2.2.1
theorem dX12_takeWord_15 : decode cX12_takeWord 15 = .ok (.aload_n 1, 1) := gd_X12_takeWord_5.2.2.2.2.2.1
theorem dX12_takeWord_16 : decode cX12_takeWord 16 = .ok (.iload_n 2, 1) := gd_X12_takeWord_5.2.2.2.2.2.2.1
theorem dX12_takeWord_17 : decode cX12_takeWord 17 = .ok (.iload 4, 2) := gd_X12_takeWord_5.2.2.2.2.2.2.2.1
theorem dX12_takeWord_19 : decode cX12_takeWord 19 = .ok (.iadd, 1) := gd_X12_takeWord_5.2.2.2.2.2.2.2.2.1
theorem dX12_takeWord_20 : decode cX12_takeWord 20 = .ok (.baload, 1) := gd_X12_takeWord_5.2.2.2.2.2.2.2.2.2
theorem gd_X12_takeWord_21 : decode cX12_takeWord 21 = .ok (.bastore, 1) ∧ decode cX12_takeWord 22 = .ok (.iinc 4 1, 3) ∧ decode cX12_takeWord 25 = .ok (.goto (-22), 3) ∧ decode cX12_takeWord 28 = .ok (.aload_n 0, 1) ∧ decode cX12_takeWord 29 = .ok (.iload_n 3, 1) ∧ decode cX12_takeWord 30 = .ok (.putfield 244, 3) ∧ decode cX12_takeWord 33 = .ok (.return_, 1) ∧ decode cX12_readWord 22 = .ok (.iconst 0, 1) ∧ decode cX12_readWord 23 = .ok (.istore_n 2, 1) ∧ decode cX12_readWord 24 = .ok (.iload_n 2, 1) := by decide +kernel
theorem dX12_takeWord_21 : decode cX12_takeWord 21 = .ok (.bastore, 1) := gd_X12_takeWord_21.1
theorem dX12_takeWord_22 : decode cX12_takeWord 22 = .ok (.iinc 4 1, 3) := gd_X12_takeWord_21.2.1
theorem dX12_takeWord_25 : decode cX12_takeWord 25 = .ok (.goto (-22), 3) := gd_X12_takeWord_21.2.2.1
theorem dX12_takeWord_28 : decode cX12_takeWord 28 = .ok (.aload_n 0, 1) := gd_X12_takeWord_21.2.2.2.1
theorem dX12_takeWord_29 : decode cX12_takeWord 29 = .ok (.iload_n 3, 1) := gd_X12_takeWord_21.2.2.2.2.1
theorem dX12_takeWord_30 : decode cX12_takeWord 30 = .ok (.putfield 244, 3) := gd_X12_takeWord_21.2.2.2.2.2.1
theorem dX12_takeWord_33 : decode cX12_takeWord 33 = .ok (.return_, 1) := gd_X12_takeWord_21.2.2.2.2.2.2.1
theorem dX12_readWord_22 : decode cX12_readWord 22 = .ok (.iconst 0, 1) := gd_X12_takeWord_21.2.2.2.2.2.2.2.1
theorem dX12_readWord_23 : decode cX12_readWord 23 = .ok (.istore_n 2, 1) := gd_X12_takeWord_21.2.2.2.2.2.2.2.2.1
theorem dX12_readWord_24 : decode cX12_readWord 24 = .ok (.iload_n 2, 1) := gd_X12_takeWord_21.2.2.2.2.2.2.2.2.2
theorem gd_X12_readWord_25 : decode cX12_readWord 25 = .ok (.iload_n 1, 1) ∧ decode cX12_readWord 26 = .ok (.if_icmp .ge 23, 3) ∧ decode cX12_readWord 29 = .ok (.aload_n 0, 1) ∧ decode cX12_readWord 30 = .ok (.getfield 7, 3) ∧ decode cX12_readWord 33 = .ok (.iload_n 2, 1) ∧ decode cX12_readWord 34 = .ok (.baload, 1) ∧ decode cX12_readWord 35 = .ok (.invokestatic 183, 3) ∧ decode cX12_readWord 38 = .ok (.ifCond .ne 5, 3) ∧ decode cX12_readWord 41 = .ok (.iconst 0, 1) ∧ decode cX12_readWord 42 = .ok (.ireturn, 1) := by decide +kernel
theorem dX12_readWord_25 : decode cX12_readWord 25 = .ok (.iload_n 1, 1) := gd_X12_readWord_25.1
theorem dX12_readWord_26 : decode cX12_readWord 26 = .ok (.if_icmp .ge 23, 3) := gd_X12_readWord_25.2.1
theorem dX12_readWord_29 : decode cX12_readWord 29 = .ok (.aload_n 0, 1) := gd_X12_readWord_25.2.2.1
theorem dX12_readWord_30 : decode cX12_readWord 30 = .ok (.getfield 7, 3) := gd_X12_readWord_25.2.2.2.1
theorem dX12_readWord_33 : decode cX12_readWord 33 = .ok (.iload_n 2, 1) := gd_X12_readWord_25.2.2.2.2.1
theorem dX12_readWord_34 : decode cX12_readWord 34 = .ok (.baload, 1) := gd_X12_readWord_25.2.2.2.2.2.1
theorem dX12_readWord_35 : decode cX12_readWord 35 = .ok (.invokestatic 183, 3) := gd_X12_readWord_25.2.2.2.2.2.2.1
theorem dX12_readWord_38 : decode cX12_readWord 38 = .ok (.ifCond .ne 5, 3) := gd_X12_readWord_25.2.2.2.2.2.2.2.1
theorem dX12_readWord_41 : decode cX12_readWord 41 = .ok (.iconst 0, 1) := gd_X12_readWord_25.2.2.2.2.2.2.2.2.1
theorem dX12_readWord_42 : decode cX12_readWord 42 = .ok (.ireturn, 1) := gd_X12_readWord_25.2.2.2.2.2.2.2.2.2
theorem gd_X12_readWord_43 : decode cX12_readWord 43 = .ok (.iinc 2 1, 3) ∧ decode cX12_readWord 46 = .ok (.goto (-22), 3) ∧ decode cX12_readWord 49 = .ok (.aload_n 0, 1) ∧ decode cX12_readWord 50 = .ok (.aload_n 0, 1) ∧ decode cX12_readWord 51 = .ok (.getfield 7, 3) ∧ decode cX12_readWord 54 = .ok (.iconst 0, 1) ∧ decode cX12_readWord 55 = .ok (.iload_n 1, 1) ∧ decode cX12_readWord 56 = .ok (.invokevirtual 290, 3) ∧ decode cX12_readWord 59 = .ok (.iconst 1, 1) ∧ decode cX12_readWord 60 = .ok (.ireturn, 1) := by decide +kernel
theorem dX12_readWord_43 : decode cX12_readWord 43 = .ok (.iinc 2 1, 3) := gd_X12_readWord_43.1
theorem dX12_readWord_46 : decode cX12_readWord 46 = .ok (.goto (-22), 3) := gd_X12_readWord_43.2.1
theorem dX12_readWord_49 : decode cX12_readWord 49 = .ok (.aload_n 0, 1) := gd_X12_readWord_43.2.2.1
theorem dX12_readWord_50 : decode cX12_readWord 50 = .ok (.aload_n 0, 1) := gd_X12_readWord_43.2.2.2.1
theorem dX12_readWord_51 : decode cX12_readWord 51 = .ok (.getfield 7, 3) := gd_X12_readWord_43.2.2.2.2.1
theorem dX12_readWord_54 : decode cX12_readWord 54 = .ok (.iconst 0, 1) := gd_X12_readWord_43.2.2.2.2.2.1
theorem dX12_readWord_55 : decode cX12_readWord 55 = .ok (.iload_n 1, 1) := gd_X12_readWord_43.2.2.2.2.2.2.1
theorem dX12_readWord_56 : decode cX12_readWord 56 = .ok (.invokevirtual 290, 3) := gd_X12_readWord_43.2.2.2.2.2.2.2.1
theorem dX12_readWord_59 : decode cX12_readWord 59 = .ok (.iconst 1, 1) := gd_X12_readWord_43.2.2.2.2.2.2.2.2.1
theorem dX12_readWord_60 : decode cX12_readWord 60 = .ok (.ireturn, 1) := gd_X12_readWord_43.2.2.2.2.2.2.2.2.2
theorem gd_X12_isLetter_0 : decode cX12_isLetter 0 = .ok (.iload_n 0, 1) ∧ decode cX12_isLetter 1 = .ok (.invokestatic 183, 3) ∧ decode cX12_isLetter 4 = .ok (.ifCond .ne 15, 3) ∧ decode cX12_isLetter 7 = .ok (.iload_n 0, 1) ∧ decode cX12_isLetter 8 = .ok (.bipush 65, 2) ∧ decode cX12_isLetter 10 = .ok (.if_icmp .lt 13, 3) ∧ decode cX12_isLetter 13 = .ok (.iload_n 0, 1) ∧ decode cX12_isLetter 14 = .ok (.bipush 90, 2) ∧ decode cX12_isLetter 16 = .ok (.if_icmp .gt 7, 3) ∧ decode cX12_isLetter 19 = .ok (.iconst 1, 1) := by decide +kernel
theorem dX12_isLetter_0 : decode cX12_isLetter 0 = .ok (.iload_n 0, 1) := gd_X12_isLetter_0.1
theorem dX12_isLetter_1 : decode cX12_isLetter 1 = .ok (.invokestatic 183, 3) := gd_X12_isLetter_0.2.1
theorem dX12_isLetter_4 : decode cX12_isLetter 4 = .ok (.ifCond .ne 15, 3) := gd_X12_isLetter_0.2.2.1
theorem dX12_isLetter_7 : decode cX12_isLetter 7 = .ok (.iload_n 0, 1) := gd_X12_isLetter_0.2.2.2.1
theorem dX12_isLetter_8 : decode cX12_isLetter 8 = .ok (.bipush 65, 2) := gd_X12_isLetter_0.2.2.2.2.1
theorem dX12_isLetter_10 : decode cX12_isLetter 10 = .ok (.if_icmp .lt 13, 3) := gd_X12_isLetter_0.2.2.2.2.2.1
theorem dX12_isLetter_13 : decode cX12_isLetter 13 = .ok (.iload_n 0, 1) := gd_X12_isLetter_0.2.2.2.2.2.2.1
theorem dX12_isLetter_14 : decode cX12_isLetter 14 = .ok (.bipush 90, 2) := gd_X12_isLetter_0.2.2.2.2.2.2.2.1
theorem dX12_isLetter_16 : decode cX12_isLetter 16 = .ok (.if_icmp .gt 7, 3) := gd_X12_isLetter_0.2.2.2.2.2.2.2.2.1
theorem dX12_isLetter_19 : decode cX12_isLetter 19 = .ok (.iconst 1, 1) := gd_X12_isLetter_0.2.2.2.2.2.2.2.2.2
theorem gd_X12_isLetter_20 : decode cX12_isLetter 20 = .ok (.goto 4, 3) ∧ decode cX12_isLetter 23 = .ok (.iconst 0, 1) ∧ decode cX12_isLetter 24 = .ok (.ireturn, 1) ∧ decode cX12_hasNought 7 = .ok (.aload_n 0, 1) ∧ decode cX12_hasNought 8 = .ok (.getfield 7, 3) ∧ decode cX12_hasNought 11 = .ok (.iload_n 2, 1) ∧ decode cX12_hasNought 12 = .ok (.baload, 1) ∧ decode cX12_hasNought 13 = .ok (.ifCond .ne 5, 3) ∧ decode cX12_hasNought 16 = .ok (.iconst 1, 1) ∧ decode cX12_hasNought 17 = .ok (.ireturn, 1) := by decide +kernel
theorem dX12_isLetter_20 : decode cX12_isLetter 20 = .ok (.goto 4, 3) := gd_X12_isLetter_20.1
theorem dX12_isLetter_23 : decode cX12_isLetter 23 = .ok (.iconst 0, 1) := gd_X12_isLetter_20.2.1
theorem dX12_isLetter_24 : decode cX12_isLetter 24 = .ok (.ireturn, 1) := gd_X12_isLetter_20.2.2.1
theorem dX12_hasNought_7 : decode cX12_hasNought 7 = .ok (.aload_n 0, 1) := gd_X12_isLetter_20.2.2.2.1
theorem dX12_hasNought_8 : decode cX12_hasNought 8 = .ok (.getfield 7, 3) := gd_X12_isLetter_20.2.2.2.2.1
theorem dX12_hasNought_11 : decode cX12_hasNought 11 = .ok (.iload_n 2, 1) := gd_X12_isLetter_20.2.2.2.2.2.1
theorem dX12_hasNought_12 : decode cX12_hasNought 12 = .ok (.baload, 1) := gd_X12_isLetter_20.2.2.2.2.2.2.1
theorem dX12_hasNought_13 : decode cX12_hasNought 13 = .ok (.ifCond .ne 5, 3) := gd_X12_isLetter_20.2.2.2.2.2.2.2.1
theorem dX12_hasNought_16 : decode cX12_hasNought 16 = .ok (.iconst 1, 1) := gd_X12_isLetter_20.2.2.2.2.2.2.2.2.1
theorem dX12_hasNought_17 : decode cX12_hasNought 17 = .ok (.ireturn, 1) := gd_X12_isLetter_20.2.2.2.2.2.2.2.2.2
theorem gd_X12_hasNought_18 : decode cX12_hasNought 18 = .ok (.iinc 2 1, 3) ∧ decode cX12_hasNought 21 = .ok (.goto (-19), 3) := by decide +kernel
theorem dX12_hasNought_18 : decode cX12_hasNought 18 = .ok (.iinc 2 1, 3) := gd_X12_hasNought_18.1
theorem dX12_hasNought_21 : decode cX12_hasNought 21 = .ok (.goto (-19), 3) := gd_X12_hasNought_18.2
set_option maxHeartbeats 4000000 in
set_option maxRecDepth 100000 in
theorem bm_in {p : Program} {l : Launch} {e : Env} {s : State} {m : MethodId} {args : Array Value} {below : List Frame} {meth : Method} {c : Code} {Q : State → Prop} {A : Nat → Prop} {dC : Nat → ClassId} {dI : Nat → Nat → Nat} {h0 : Nat} {kB kI kZ : ClassId} {q : Nat → Nat} {g : Nat → Int32} {F : Nat → Nat → Int32} {H : Heap} {locs : List Loc} {ls : Array Slot} (p0 : Int32) (p1 : Int32) (p2 : Int32) (r : Int32) (hr : f_in p0 p1 p2 = some r) (hx : p.tables.exec = Jvm.exec) (hb : c.code = cX12_in) (hml : c.maxLocals = 3) (hown : s.vm.findClass RX12 = some m.cls) (hts : ∀ w ∈ vmX12_in, w.before args s = true) (hA : ∀ q : Nat, s.heap.size ≤ q → A q) (hK : va_K (dC, dI) vwCl (mT kB kI kZ) s) (hP : va_P (dC, dI) vwCl (mW h0 kB kI kZ q g F) H) (hD : va_D A (mW h0 kB kI kZ q g F)) (hS : va_S A s.heap H locs) (hl : lv_has ls 3 [(0, .int p0), (1, .int p1), (2, .int p2)])
    (K : ∀ (pc : Nat) (ls : Array Slot) (rz : Int32) (H : Heap) (locs : List Loc), some rz = some r → is01 rz → decode cX12_in pc = .ok (.ireturn, 1) → va_P (dC, dI) vwCl (mW h0 kB kI kZ q g F) H → va_D A (mW h0 kB kI kZ q g F) → va_S A s.heap H locs → W p l e ({ frames := 2, cells := 0, slots := 0, locals := 60 } : Room) s m args below meth c H locs 0 0 Q (F0 m pc ls [.int rz])) : W p l e ({ frames := 2, cells := 0, slots := 0, locals := 60 } : Room) s m args below meth c H locs 0 0 Q (F0 m 0 ls []) := by
  unfold f_in at hr
  refine lv_iload_n hx hb dX12_in_0 rfl (lv_at hl 0 rfl) ?_
  refine lv_iload_n hx hb dX12_in_1 rfl (lv_at hl 1 rfl) ?_
  replace hr := jnS hr
  obtain ⟨j15, hj15, hr⟩ := hr
  have Jj15 : ∀ (t15_0 : Int32) (H : Heap) (locs : List Loc) (ls : Array Slot), j15 t15_0 = some r → va_P (dC, dI) vwCl (mW h0 kB kI kZ q g F) H → va_D A (mW h0 kB kI kZ q g F) → va_S A s.heap H locs → lv_has ls 3 [] → W p l e ({ frames := 2, cells := 0, slots := 0, locals := 60 } : Room) s m args below meth c H locs 0 0 Q (F0 m 15 ls [.int t15_0]) := by
    intro t15_0 H locs ls hr hP hD hS hl
    rw [hj15] at hr
    replace hr := iteS hr
    obtain ⟨hz15, hr⟩ := hr
    exact K 15 ls _ H _ hr hz15 dX12_in_15 hP hD hS
  replace hr := jnS hr
  obtain ⟨j14, hj14, hr⟩ := hr
  have Jj14 : ∀ (H : Heap) (locs : List Loc) (ls : Array Slot), j14 () = some r → va_P (dC, dI) vwCl (mW h0 kB kI kZ q g F) H → va_D A (mW h0 kB kI kZ q g F) → va_S A s.heap H locs → lv_has ls 3 [] → W p l e ({ frames := 2, cells := 0, slots := 0, locals := 60 } : Room) s m args below meth c H locs 0 0 Q (F0 m 14 ls []) := by
    intro H locs ls hr hP hD hS hl
    rw [hj14] at hr
    refine lv_iconst (v := 0) hx hb dX12_in_14 (by decide +kernel) ?_
    exact Jj15 0 H _ ls hr hP hD hS (lv_sub hl [] rfl)
  refine lv_icmp_lt (tgt := 14) hx hb dX12_in_2 (by decide) (fun c2 => ?_) (fun c2 => ?_)
  · replace hr := iteT c2 hr
    exact Jj14 H _ ls hr hP hD hS (lv_sub hl [] rfl)
  · replace hr := iteF c2 hr
    refine lv_iload_n hx hb dX12_in_5 rfl (lv_at hl 0 rfl) ?_
    refine lv_iload_n hx hb dX12_in_6 rfl (lv_at hl 2 rfl) ?_
    refine lv_icmp_gt (tgt := 14) hx hb dX12_in_7 (by decide) (fun c7 => ?_) (fun c7 => ?_)
    · replace hr := iteT c7 hr
      exact Jj14 H _ ls hr hP hD hS (lv_sub hl [] rfl)
    · replace hr := iteF c7 hr
      refine lv_iconst (v := 1) hx hb dX12_in_10 (by decide +kernel) ?_
      refine lv_goto (tgt := 15) hx hb dX12_in_11 (by decide) ?_
      exact Jj15 1 H _ ls hr hP hD hS (lv_sub hl [] rfl)
set_option maxHeartbeats 4000000 in
set_option maxRecDepth 100000 in
theorem m_in (l : Launch) (dC : Nat → ClassId) (dI : Nat → Nat → Nat) (sz : Nat) (h0 : Nat) (kB kI kZ : ClassId) (q : Nat → Nat) (g : Nat → Int32) (F : Nat → Nat → Int32) (p0 : Int32) (p1 : Int32) (p2 : Int32) (r : Int32) (hr : f_in p0 p1 p2 = some r) : Met l yX12_in vmX12_in ({ frames := 2, cells := 0, slots := 0, locals := 60 } : Room) (va_Pc [.int p0, .int p1, .int p2] (fun U => U.heap.size = sz ∧ va_P (dC, dI) vwCl (mW h0 kB kI kZ q g F) U.heap ∧ va_K (dC, dI) vwCl (mT kB kI kZ) U ∧ va_D (fun _ => True) (mW h0 kB kI kZ q g F))) (va_Qi (fun (rz : Int32) (_ : Unit) => rz = r) (fun _ t => va_P (dC, dI) vwCl (mW h0 kB kI kZ q g F) t.heap ∧ va_K (dC, dI) vwCl (mT kB kI kZ) t ∧ va_D (va_A (mW h0 kB kI kZ q g F) sz) (mW h0 kB kI kZ q g F)) (va_A (mW h0 kB kI kZ q g F) sz)) 0 0 (va_A (mW h0 kB kI kZ q g F) sz) := by
  refine Met.ofW (cc := cX12_in) (maxL := 3) (ret := (some .boolean)) (by decide) rfl ?_
  intro p e s m args below meth c s₁ B hml hv
  obtain ⟨rfl, hsz, hP, hK, hD0⟩ := hv
  have hx := B.exec
  have hb := B.bytes
  have hrt := B.returns
  have hts := atoms_spec (ws := vmX12_in) B.pre
  have hown : s.vm.findClass RX12 = some m.cls := findClass_of_methodNamed B.named
  subst hsz
  have hD := hD0.self (sz := s.heap.size)
  generalize hAe : va_A (mW h0 kB kI kZ q g F) s.heap.size = A at hD ⊢
  have hA : ∀ q : Nat, s.heap.size ≤ q → A q := fun q h => by rw [← hAe]; exact Or.inr h
  have hS : va_S A s.heap s.heap [] := va_S.rf
  have hl := lv_entry ([.int p0, .int p1, .int p2]) (n := 3) (Nat.le_of_ble_eq_true rfl)
  rw [lg_entry_eq]
  generalize (lg_sl ([.int p0, .int p1, .int p2]) ++ List.replicate (3 - (lg_sl ([.int p0, .int p1, .int p2])).length) Slot.unset).toArray = ls at hl ⊢
  exact bm_in p0 p1 p2 r hr hx hb hml hown hts hA hK hP hD hS hl (fun pc ls rz H locs he hz hd hP hD hS => by cases he; exact W.zret (v := r) hx hb hrt (z_nb hz) (fun t ht hW => ⟨⟨r, (), rfl, rfl, by rw [ht]; exact hP, va_K.moved hW.alike hK, hD⟩, hS.F ht⟩) hS.2.2 hd)
set_option maxHeartbeats 4000000 in
set_option maxRecDepth 100000 in
theorem bm_isSmall {p : Program} {l : Launch} {e : Env} {s : State} {m : MethodId} {args : Array Value} {below : List Frame} {meth : Method} {c : Code} {Q : State → Prop} {A : Nat → Prop} {dC : Nat → ClassId} {dI : Nat → Nat → Nat} {h0 : Nat} {kB kI kZ : ClassId} {q : Nat → Nat} {g : Nat → Int32} {F : Nat → Nat → Int32} {H : Heap} {locs : List Loc} {ls : Array Slot} (p0 : Int32) (r : Int32) (hr : f_isSmall p0 = some r) (hx : p.tables.exec = Jvm.exec) (hb : c.code = cX12_isSmall) (hml : c.maxLocals = 1) (hown : s.vm.findClass RX12 = some m.cls) (hts : ∀ w ∈ vmX12_isSmall, w.before args s = true) (hA : ∀ q : Nat, s.heap.size ≤ q → A q) (hK : va_K (dC, dI) vwCl (mT kB kI kZ) s) (hP : va_P (dC, dI) vwCl (mW h0 kB kI kZ q g F) H) (hD : va_D A (mW h0 kB kI kZ q g F)) (hS : va_S A s.heap H locs) (hl : lv_has ls 1 [(0, .int p0)])
    (K : ∀ (pc : Nat) (ls : Array Slot) (rz : Int32) (H : Heap) (locs : List Loc), some rz = some r → is01 rz → decode cX12_isSmall pc = .ok (.ireturn, 1) → va_P (dC, dI) vwCl (mW h0 kB kI kZ q g F) H → va_D A (mW h0 kB kI kZ q g F) → va_S A s.heap H locs → W p l e ({ frames := 2, cells := 0, slots := 0, locals := 60 } : Room) s m args below meth c H locs 0 0 Q (F0 m pc ls [.int rz])) : W p l e ({ frames := 2, cells := 0, slots := 0, locals := 60 } : Room) s m args below meth c H locs 0 0 Q (F0 m 0 ls []) := by
  unfold f_isSmall at hr
  refine lv_iload_n hx hb dX12_isSmall_0 rfl (lv_at hl 0 rfl) ?_
  refine lv_bipush (v := 97) hx hb dX12_isSmall_1 (by decide +kernel) ?_
  replace hr := jnS hr
  obtain ⟨j17, hj17, hr⟩ := hr
  have Jj17 : ∀ (t17_0 : Int32) (H : Heap) (locs : List Loc) (ls : Array Slot), j17 t17_0 = some r → va_P (dC, dI) vwCl (mW h0 kB kI kZ q g F) H → va_D A (mW h0 kB kI kZ q g F) → va_S A s.heap H locs → lv_has ls 1 [] → W p l e ({ frames := 2, cells := 0, slots := 0, locals := 60 } : Room) s m args below meth c H locs 0 0 Q (F0 m 17 ls [.int t17_0]) := by
    intro t17_0 H locs ls hr hP hD hS hl
    rw [hj17] at hr
    replace hr := iteS hr
    obtain ⟨hz17, hr⟩ := hr
    exact K 17 ls _ H _ hr hz17 dX12_isSmall_17 hP hD hS
  replace hr := jnS hr
  obtain ⟨j16, hj16, hr⟩ := hr
  have Jj16 : ∀ (H : Heap) (locs : List Loc) (ls : Array Slot), j16 () = some r → va_P (dC, dI) vwCl (mW h0 kB kI kZ q g F) H → va_D A (mW h0 kB kI kZ q g F) → va_S A s.heap H locs → lv_has ls 1 [] → W p l e ({ frames := 2, cells := 0, slots := 0, locals := 60 } : Room) s m args below meth c H locs 0 0 Q (F0 m 16 ls []) := by
    intro H locs ls hr hP hD hS hl
    rw [hj16] at hr
    refine lv_iconst (v := 0) hx hb dX12_isSmall_16 (by decide +kernel) ?_
    exact Jj17 0 H _ ls hr hP hD hS (lv_sub hl [] rfl)
  refine lv_icmp_lt (tgt := 16) hx hb dX12_isSmall_3 (by decide) (fun c3 => ?_) (fun c3 => ?_)
  · replace hr := iteT c3 hr
    exact Jj16 H _ ls hr hP hD hS (lv_sub hl [] rfl)
  · replace hr := iteF c3 hr
    refine lv_iload_n hx hb dX12_isSmall_6 rfl (lv_at hl 0 rfl) ?_
    refine lv_bipush (v := 122) hx hb dX12_isSmall_7 (by decide +kernel) ?_
    refine lv_icmp_gt (tgt := 16) hx hb dX12_isSmall_9 (by decide) (fun c9 => ?_) (fun c9 => ?_)
    · replace hr := iteT c9 hr
      exact Jj16 H _ ls hr hP hD hS (lv_sub hl [] rfl)
    · replace hr := iteF c9 hr
      refine lv_iconst (v := 1) hx hb dX12_isSmall_12 (by decide +kernel) ?_
      refine lv_goto (tgt := 17) hx hb dX12_isSmall_13 (by decide) ?_
      exact Jj17 1 H _ ls hr hP hD hS (lv_sub hl [] rfl)
set_option maxHeartbeats 4000000 in
set_option maxRecDepth 100000 in
theorem m_isSmall (l : Launch) (dC : Nat → ClassId) (dI : Nat → Nat → Nat) (sz : Nat) (h0 : Nat) (kB kI kZ : ClassId) (q : Nat → Nat) (g : Nat → Int32) (F : Nat → Nat → Int32) (p0 : Int32) (r : Int32) (hr : f_isSmall p0 = some r) : Met l yX12_isSmall vmX12_isSmall ({ frames := 2, cells := 0, slots := 0, locals := 60 } : Room) (va_Pc [.int p0] (fun U => U.heap.size = sz ∧ va_P (dC, dI) vwCl (mW h0 kB kI kZ q g F) U.heap ∧ va_K (dC, dI) vwCl (mT kB kI kZ) U ∧ va_D (fun _ => True) (mW h0 kB kI kZ q g F))) (va_Qi (fun (rz : Int32) (_ : Unit) => rz = r) (fun _ t => va_P (dC, dI) vwCl (mW h0 kB kI kZ q g F) t.heap ∧ va_K (dC, dI) vwCl (mT kB kI kZ) t ∧ va_D (va_A (mW h0 kB kI kZ q g F) sz) (mW h0 kB kI kZ q g F)) (va_A (mW h0 kB kI kZ q g F) sz)) 0 0 (va_A (mW h0 kB kI kZ q g F) sz) := by
  refine Met.ofW (cc := cX12_isSmall) (maxL := 1) (ret := (some .boolean)) (by decide) rfl ?_
  intro p e s m args below meth c s₁ B hml hv
  obtain ⟨rfl, hsz, hP, hK, hD0⟩ := hv
  have hx := B.exec
  have hb := B.bytes
  have hrt := B.returns
  have hts := atoms_spec (ws := vmX12_isSmall) B.pre
  have hown : s.vm.findClass RX12 = some m.cls := findClass_of_methodNamed B.named
  subst hsz
  have hD := hD0.self (sz := s.heap.size)
  generalize hAe : va_A (mW h0 kB kI kZ q g F) s.heap.size = A at hD ⊢
  have hA : ∀ q : Nat, s.heap.size ≤ q → A q := fun q h => by rw [← hAe]; exact Or.inr h
  have hS : va_S A s.heap s.heap [] := va_S.rf
  have hl := lv_entry ([.int p0]) (n := 1) (Nat.le_of_ble_eq_true rfl)
  rw [lg_entry_eq]
  generalize (lg_sl ([.int p0]) ++ List.replicate (1 - (lg_sl ([.int p0])).length) Slot.unset).toArray = ls at hl ⊢
  exact bm_isSmall p0 r hr hx hb hml hown hts hA hK hP hD hS hl (fun pc ls rz H locs he hz hd hP hD hS => by cases he; exact W.zret (v := r) hx hb hrt (z_nb hz) (fun t ht hW => ⟨⟨r, (), rfl, rfl, by rw [ht]; exact hP, va_K.moved hW.alike hK, hD⟩, hS.F ht⟩) hS.2.2 hd)
set_option maxHeartbeats 4000000 in
set_option maxRecDepth 100000 in
theorem bm_isLetter {p : Program} {l : Launch} {e : Env} {s : State} {m : MethodId} {args : Array Value} {below : List Frame} {meth : Method} {c : Code} {Q : State → Prop} {A : Nat → Prop} {dC : Nat → ClassId} {dI : Nat → Nat → Nat} {h0 : Nat} {kB kI kZ : ClassId} {q : Nat → Nat} {g : Nat → Int32} {F : Nat → Nat → Int32} {H : Heap} {locs : List Loc} {ls : Array Slot} (p0 : Int32) (r : Int32) (hr : f_isLetter p0 = some r) (hx : p.tables.exec = Jvm.exec) (hb : c.code = cX12_isLetter) (hml : c.maxLocals = 1) (hown : s.vm.findClass RX12 = some m.cls) (hts : ∀ w ∈ vmX12_isLetter, w.before args s = true) (hA : ∀ q : Nat, s.heap.size ≤ q → A q) (hK : va_K (dC, dI) vwCl (mT kB kI kZ) s) (hP : va_P (dC, dI) vwCl (mW h0 kB kI kZ q g F) H) (hD : va_D A (mW h0 kB kI kZ q g F)) (hS : va_S A s.heap H locs) (hl : lv_has ls 1 [(0, .int p0)])
    (K : ∀ (pc : Nat) (ls : Array Slot) (rz : Int32) (H : Heap) (locs : List Loc), some rz = some r → is01 rz → decode cX12_isLetter pc = .ok (.ireturn, 1) → va_P (dC, dI) vwCl (mW h0 kB kI kZ q g F) H → va_D A (mW h0 kB kI kZ q g F) → va_S A s.heap H locs → W p l e ({ frames := 3, cells := 0, slots := 0, locals := 80 } : Room) s m args below meth c H locs 0 0 Q (F0 m pc ls [.int rz])) : W p l e ({ frames := 3, cells := 0, slots := 0, locals := 80 } : Room) s m args below meth c H locs 0 0 Q (F0 m 0 ls []) := by
  unfold f_isLetter at hr
  refine lv_iload_n hx hb dX12_isLetter_0 rfl (lv_at hl 0 rfl) ?_
  replace hr := b1S hr
  obtain ⟨r1z, hc1, hr⟩ := hr
  have hFc := fr_all hD hS hA
  refine va_calli (va_runS (As := [.int p0]) (rest := []) ⟨hx, hb, hml, hown, hts⟩ (m_isSmall l dC dI H.size h0 kB kI kZ q g F p0 r1z hc1) (va_cwS 1 hts gw_X12_isSmall_183 rfl rfl rfl (by decide +kernel) ⟨Nat.le_of_ble_eq_true rfl, Nat.le_of_ble_eq_true rfl⟩) ⟨fun a U g mk q => by obtain ⟨q0, q1, qP, qK, qD⟩ := q; exact ⟨q0, q1, qP, va_K.moved (u := U) (U := U.calling g mk a) (Vm.Alike.refl U.vm) qK, qD⟩, fun U hU hW => ⟨rfl, by rw [hU], by rw [hU]; exact hP, va_K.moved hW.alike hK, hD.weaken (fun _ _ _ _ => trivial)⟩⟩ rfl rfl hl.1 rfl (lv_room (Nat.le_of_ble_eq_true rfl)) dX12_isLetter_1 ⟨Nat.le_of_ble_eq_true rfl, Nat.le_of_ble_eq_true rfl⟩) hS (fun q _ h => hFc q h) hFc (fun r1 u t H1 locs ht hvm hw hB hz1 hk1 hS => ?_)
  replace hw : r1 = r1z := hw
  subst hw
  obtain ⟨hP1, hK1, hD1⟩ := hB
  rw [ht] at hP1
  obtain ⟨hP, hD⟩ := jn_all (w1 := (mW h0 kB kI kZ q g F)) hFc hP1 hD1
  clear hFc hP1 hK1 hD1 hk1 hz1 ht hvm
  generalize H1 = H at hP hS ⊢
  have hP : va_P (dC, dI) vwCl (mW h0 kB kI kZ q g F) H := hP
  have hD : va_D A (mW h0 kB kI kZ q g F) := hD
  replace hr := jnS hr
  obtain ⟨j24, hj24, hr⟩ := hr
  have Jj24 : ∀ (t24_0 : Int32) (H : Heap) (locs : List Loc) (ls : Array Slot), j24 t24_0 = some r → va_P (dC, dI) vwCl (mW h0 kB kI kZ q g F) H → va_D A (mW h0 kB kI kZ q g F) → va_S A s.heap H locs → lv_has ls 1 [] → W p l e ({ frames := 3, cells := 0, slots := 0, locals := 80 } : Room) s m args below meth c H locs 0 0 Q (F0 m 24 ls [.int t24_0]) := by
    intro t24_0 H locs ls hr hP hD hS hl
    rw [hj24] at hr
    replace hr := iteS hr
    obtain ⟨hz24, hr⟩ := hr
    exact K 24 ls _ H _ hr hz24 dX12_isLetter_24 hP hD hS
  replace hr := jnS hr
  obtain ⟨j19, hj19, hr⟩ := hr
  have Jj19 : ∀ (H : Heap) (locs : List Loc) (ls : Array Slot), j19 () = some r → va_P (dC, dI) vwCl (mW h0 kB kI kZ q g F) H → va_D A (mW h0 kB kI kZ q g F) → va_S A s.heap H locs → lv_has ls 1 [] → W p l e ({ frames := 3, cells := 0, slots := 0, locals := 80 } : Room) s m args below meth c H locs 0 0 Q (F0 m 19 ls []) := by
    intro H locs ls hr hP hD hS hl
    rw [hj19] at hr
    refine lv_iconst (v := 1) hx hb dX12_isLetter_19 (by decide +kernel) ?_
    refine lv_goto (tgt := 24) hx hb dX12_isLetter_20 (by decide) ?_
    exact Jj24 1 H _ ls hr hP hD hS (lv_sub hl [] rfl)
  refine lv_if_ne (tgt := 19) hx hb dX12_isLetter_4 (by decide) (fun c4 => ?_) (fun c4 => ?_)
  · replace hr := iteF c4 hr
    exact Jj19 H _ ls hr hP hD hS (lv_sub hl [] rfl)
  · replace hr := iteT c4 hr
    refine lv_iload_n hx hb dX12_isLetter_7 rfl (lv_at hl 0 rfl) ?_
    refine lv_bipush (v := 65) hx hb dX12_isLetter_8 (by decide +kernel) ?_
    replace hr := jnS hr
    obtain ⟨j23, hj23, hr⟩ := hr
    have Jj23 : ∀ (H : Heap) (locs : List Loc) (ls : Array Slot), j23 () = some r → va_P (dC, dI) vwCl (mW h0 kB kI kZ q g F) H → va_D A (mW h0 kB kI kZ q g F) → va_S A s.heap H locs → lv_has ls 1 [] → W p l e ({ frames := 3, cells := 0, slots := 0, locals := 80 } : Room) s m args below meth c H locs 0 0 Q (F0 m 23 ls []) := by
      intro H locs ls hr hP hD hS hl
      rw [hj23] at hr
      refine lv_iconst (v := 0) hx hb dX12_isLetter_23 (by decide +kernel) ?_
      exact Jj24 0 H _ ls hr hP hD hS (lv_sub hl [] rfl)
    refine lv_icmp_lt (tgt := 23) hx hb dX12_isLetter_10 (by decide) (fun c10 => ?_) (fun c10 => ?_)
    · replace hr := iteT c10 hr
      exact Jj23 H _ ls hr hP hD hS (lv_sub hl [] rfl)
    · replace hr := iteF c10 hr
      refine lv_iload_n hx hb dX12_isLetter_13 rfl (lv_at hl 0 rfl) ?_
      refine lv_bipush (v := 90) hx hb dX12_isLetter_14 (by decide +kernel) ?_
      refine lv_icmp_gt (tgt := 23) hx hb dX12_isLetter_16 (by decide) (fun c16 => ?_) (fun c16 => ?_)
      · replace hr := iteT c16 hr
        exact Jj23 H _ ls hr hP hD hS (lv_sub hl [] rfl)
      · replace hr := iteF c16 hr
        exact Jj19 H _ ls hr hP hD hS (lv_sub hl [] rfl)
set_option maxHeartbeats 4000000 in
set_option maxRecDepth 100000 in
theorem m_isLetter (l : Launch) (dC : Nat → ClassId) (dI : Nat → Nat → Nat) (sz : Nat) (h0 : Nat) (kB kI kZ : ClassId) (q : Nat → Nat) (g : Nat → Int32) (F : Nat → Nat → Int32) (p0 : Int32) (r : Int32) (hr : f_isLetter p0 = some r) : Met l yX12_isLetter vmX12_isLetter ({ frames := 3, cells := 0, slots := 0, locals := 80 } : Room) (va_Pc [.int p0] (fun U => U.heap.size = sz ∧ va_P (dC, dI) vwCl (mW h0 kB kI kZ q g F) U.heap ∧ va_K (dC, dI) vwCl (mT kB kI kZ) U ∧ va_D (fun _ => True) (mW h0 kB kI kZ q g F))) (va_Qi (fun (rz : Int32) (_ : Unit) => rz = r) (fun _ t => va_P (dC, dI) vwCl (mW h0 kB kI kZ q g F) t.heap ∧ va_K (dC, dI) vwCl (mT kB kI kZ) t ∧ va_D (va_A (mW h0 kB kI kZ q g F) sz) (mW h0 kB kI kZ q g F)) (va_A (mW h0 kB kI kZ q g F) sz)) 0 0 (va_A (mW h0 kB kI kZ q g F) sz) := by
  refine Met.ofW (cc := cX12_isLetter) (maxL := 1) (ret := (some .boolean)) (by decide) rfl ?_
  intro p e s m args below meth c s₁ B hml hv
  obtain ⟨rfl, hsz, hP, hK, hD0⟩ := hv
  have hx := B.exec
  have hb := B.bytes
  have hrt := B.returns
  have hts := atoms_spec (ws := vmX12_isLetter) B.pre
  have hown : s.vm.findClass RX12 = some m.cls := findClass_of_methodNamed B.named
  subst hsz
  have hD := hD0.self (sz := s.heap.size)
  generalize hAe : va_A (mW h0 kB kI kZ q g F) s.heap.size = A at hD ⊢
  have hA : ∀ q : Nat, s.heap.size ≤ q → A q := fun q h => by rw [← hAe]; exact Or.inr h
  have hS : va_S A s.heap s.heap [] := va_S.rf
  have hl := lv_entry ([.int p0]) (n := 1) (Nat.le_of_ble_eq_true rfl)
  rw [lg_entry_eq]
  generalize (lg_sl ([.int p0]) ++ List.replicate (1 - (lg_sl ([.int p0])).length) Slot.unset).toArray = ls at hl ⊢
  exact bm_isLetter p0 r hr hx hb hml hown hts hA hK hP hD hS hl (fun pc ls rz H locs he hz hd hP hD hS => by cases he; exact W.zret (v := r) hx hb hrt (z_nb hz) (fun t ht hW => ⟨⟨r, (), rfl, rfl, by rw [ht]; exact hP, va_K.moved hW.alike hK, hD⟩, hS.F ht⟩) hS.2.2 hd)
set_option maxHeartbeats 4000000 in
set_option maxRecDepth 100000 in
theorem bm_see {p : Program} {l : Launch} {e : Env} {s : State} {m : MethodId} {args : Array Value} {below : List Frame} {meth : Method} {c : Code} {Q : State → Prop} {A : Nat → Prop} {dC : Nat → ClassId} {dI : Nat → Nat → Nat} {h0 : Nat} {kB kI kZ : ClassId} {q : Nat → Nat} {g : Nat → Int32} {F : Nat → Nat → Int32} {H : Heap} {locs : List Loc} {ls : Array Slot} (p0 : Int32) (r : Int32) (hr : f_see g F p0 = some r) (hx : p.tables.exec = Jvm.exec) (hb : c.code = cX12_see) (hml : c.maxLocals = 2) (hown : s.vm.findClass RX12 = some m.cls) (hts : ∀ w ∈ vmX12_see, w.before args s = true) (hA : ∀ q : Nat, s.heap.size ≤ q → A q) (hK : va_K (dC, dI) vwCl (mT kB kI kZ) s) (hP : va_P (dC, dI) vwCl (mW h0 kB kI kZ q g F) H) (hD : va_D A (mW h0 kB kI kZ q g F)) (hS : va_S A s.heap H locs) (hl : lv_has ls 2 [(0, .ref h0), (1, .int p0)])
    (K : ∀ (pc : Nat) (ls : Array Slot) (rz : Int32) (H : Heap) (locs : List Loc), some rz = some r → decode cX12_see pc = .ok (.ireturn, 1) → va_P (dC, dI) vwCl (mW h0 kB kI kZ q g F) H → va_D A (mW h0 kB kI kZ q g F) → va_S A s.heap H locs → W p l e ({ frames := 2, cells := 0, slots := 0, locals := 60 } : Room) s m args below meth c H locs 0 0 Q (F0 m pc ls [.int rz])) : W p l e ({ frames := 2, cells := 0, slots := 0, locals := 60 } : Room) s m args below meth c H locs 0 0 Q (F0 m 0 ls []) := by
  unfold f_see at hr
  refine lv_iload_n hx hb dX12_see_0 rfl (lv_at hl 1 rfl) ?_
  refine lv_aload_n hx hb dX12_see_1 rfl (lv_at hl 0 rfl) ?_
  refine va_get (D := (dC, dI)) (ci := 12) (v := .int (g 2)) (C := RX12) (T := TX12) (N := 71) hx hb hts inX12 hown hK hP 0 rfl rfl 2 (by decide) (hts (.fieldLink RX12 155 "SpellTurnerModel" "size" "I") im_33) (fun _ h9 => h9) rfl dX12_see_2 ?_
  replace hr := jnS hr
  obtain ⟨j22, hj22, hr⟩ := hr
  have Jj22 : ∀ (t22_0 : Int32) (H : Heap) (locs : List Loc) (ls : Array Slot), j22 t22_0 = some r → va_P (dC, dI) vwCl (mW h0 kB kI kZ q g F) H → va_D A (mW h0 kB kI kZ q g F) → va_S A s.heap H locs → lv_has ls 2 [] → W p l e ({ frames := 2, cells := 0, slots := 0, locals := 60 } : Room) s m args below meth c H locs 0 0 Q (F0 m 22 ls [.int t22_0]) := by
    intro t22_0 H locs ls hr hP hD hS hl
    rw [hj22] at hr
    exact K 22 ls _ H _ hr dX12_see_22 hP hD hS
  refine lv_icmp_ge (tgt := 21) hx hb dX12_see_5 (by decide) (fun c5 => ?_) (fun c5 => ?_)
  · replace hr := iteT c5 hr
    refine lv_iconst (v := (-1)) hx hb dX12_see_21 (by decide +kernel) ?_
    exact Jj22 (-1) H _ ls hr hP hD hS (lv_sub hl [] rfl)
  · replace hr := iteF c5 hr
    refine lv_aload_n hx hb dX12_see_8 rfl (lv_at hl 0 rfl) ?_
    refine va_get (D := (dC, dI)) (ci := 12) (v := .ref (q 0)) (C := RX12) (T := TX12) (N := 71) hx hb hts inX12 hown hK hP 0 rfl rfl 0 (by decide) (hts (.fieldLink RX12 7 "SpellTurnerModel" "tape" "[B") im_34) (fun _ h9 => h9) rfl dX12_see_9 ?_
    refine lv_iload_n hx hb dX12_see_12 rfl (lv_at hl 1 rfl) ?_
    replace hr := iteS hr
    obtain ⟨hi13, hr⟩ := hr
    refine va_bald (f := (F 0)) hx hb hK hP 1 0 rfl rfl (inbV hi13) dX12_see_13 ?_
    refine lv_sipush (v := 255) hx hb dX12_see_14 (by decide +kernel) ?_
    refine lv_iand hx hb dX12_see_17 ?_
    refine lv_goto (tgt := 22) hx hb dX12_see_18 (by decide) ?_
    exact Jj22 (((F 0) (Int32.toNatClampNeg p0)) &&& 255) H _ ls hr hP hD hS (lv_sub hl [] rfl)
set_option maxHeartbeats 4000000 in
set_option maxRecDepth 100000 in
theorem m_see (l : Launch) (dC : Nat → ClassId) (dI : Nat → Nat → Nat) (sz : Nat) (h0 : Nat) (kB kI kZ : ClassId) (q : Nat → Nat) (g : Nat → Int32) (F : Nat → Nat → Int32) (p0 : Int32) (r : Int32) (hr : f_see g F p0 = some r) : Met l yX12_see vmX12_see ({ frames := 2, cells := 0, slots := 0, locals := 60 } : Room) (va_Pc [.ref h0, .int p0] (fun U => U.heap.size = sz ∧ va_P (dC, dI) vwCl (mW h0 kB kI kZ q g F) U.heap ∧ va_K (dC, dI) vwCl (mT kB kI kZ) U ∧ va_D (fun _ => True) (mW h0 kB kI kZ q g F))) (va_Qi (fun (rz : Int32) (_ : Unit) => rz = r) (fun _ t => va_P (dC, dI) vwCl (mW h0 kB kI kZ q g F) t.heap ∧ va_K (dC, dI) vwCl (mT kB kI kZ) t ∧ va_D (va_A (mW h0 kB kI kZ q g F) sz) (mW h0 kB kI kZ q g F)) (va_A (mW h0 kB kI kZ q g F) sz)) 0 0 (va_A (mW h0 kB kI kZ q g F) sz) := by
  refine Met.ofW (cc := cX12_see) (maxL := 2) (ret := (some .int)) (by decide) rfl ?_
  intro p e s m args below meth c s₁ B hml hv
  obtain ⟨rfl, hsz, hP, hK, hD0⟩ := hv
  have hx := B.exec
  have hb := B.bytes
  have hrt := B.returns
  have hts := atoms_spec (ws := vmX12_see) B.pre
  have hown : s.vm.findClass RX12 = some m.cls := findClass_of_methodNamed B.named
  subst hsz
  have hD := hD0.self (sz := s.heap.size)
  generalize hAe : va_A (mW h0 kB kI kZ q g F) s.heap.size = A at hD ⊢
  have hA : ∀ q : Nat, s.heap.size ≤ q → A q := fun q h => by rw [← hAe]; exact Or.inr h
  have hS : va_S A s.heap s.heap [] := va_S.rf
  have hl := lv_entry ([.ref h0, .int p0]) (n := 2) (Nat.le_of_ble_eq_true rfl)
  rw [lg_entry_eq]
  generalize (lg_sl ([.ref h0, .int p0]) ++ List.replicate (2 - (lg_sl ([.ref h0, .int p0])).length) Slot.unset).toArray = ls at hl ⊢
  exact bm_see p0 r hr hx hb hml hown hts hA hK hP hD hS hl (fun pc ls rz H locs he hd hP hD hS => by cases he; exact W.iret (v := r) hx hb hrt (fun t ht hW => ⟨⟨r, (), rfl, rfl, by rw [ht]; exact hP, va_K.moved hW.alike hK, hD⟩, hS.F ht⟩) hS.2.2 hd)
set_option maxHeartbeats 4000000 in
set_option maxRecDepth 100000 in
theorem bm_wrong {p : Program} {l : Launch} {e : Env} {s : State} {m : MethodId} {args : Array Value} {below : List Frame} {meth : Method} {c : Code} {Q : State → Prop} {A : Nat → Prop} {dC : Nat → ClassId} {dI : Nat → Nat → Nat} {h0 : Nat} {kB kI kZ : ClassId} {q : Nat → Nat} {g : Nat → Int32} {F : Nat → Nat → Int32} {H : Heap} {locs : List Loc} {ls : Array Slot} (p0 : Int32) (r : Int32) (c_g7 : Int32) (c_g8 : Int32) (hr : f_wrong g F p0 = some (r, c_g7, c_g8)) (hx : p.tables.exec = Jvm.exec) (hb : c.code = cX12_wrong) (hml : c.maxLocals = 2) (hown : s.vm.findClass RX12 = some m.cls) (hts : ∀ w ∈ vmX12_wrong, w.before args s = true) (hA : ∀ q : Nat, s.heap.size ≤ q → A q) (hK : va_K (dC, dI) vwCl (mT kB kI kZ) s) (hP : va_P (dC, dI) vwCl (mW h0 kB kI kZ q g F) H) (hD : va_D A (mW h0 kB kI kZ q g F)) (hS : va_S A s.heap H locs) (hl : lv_has ls 2 [(0, .ref h0), (1, .int p0)])
    (K : ∀ (pc : Nat) (ls : Array Slot) (rz : Int32) (c_g7z : Int32) (c_g8z : Int32) (H : Heap) (locs : List Loc), some (rz, c_g7z, c_g8z) = some (r, c_g7, c_g8) → is01 rz → decode cX12_wrong pc = .ok (.ireturn, 1) → va_P (dC, dI) vwCl (mW h0 kB kI kZ q (upd (upd g 7 c_g7z) 8 c_g8z) F) H → va_D A (mW h0 kB kI kZ q (upd (upd g 7 c_g7z) 8 c_g8z) F) → va_S A s.heap H locs → W p l e ({ frames := 2, cells := 0, slots := 0, locals := 60 } : Room) s m args below meth c H locs 0 0 Q (F0 m pc ls [.int rz])) : W p l e ({ frames := 2, cells := 0, slots := 0, locals := 60 } : Room) s m args below meth c H locs 0 0 Q (F0 m 0 ls []) := by
  unfold f_wrong at hr
  refine lv_aload_n hx hb dX12_wrong_0 rfl (lv_at hl 0 rfl) ?_
  refine lv_iload_n hx hb dX12_wrong_1 rfl (lv_at hl 1 rfl) ?_
  refine va_put (D := (dC, dI)) (ci := 12) (v := .int p0) (ty := .int) (C := RX12) (T := TX12) (N := 71) hx hb hts inX12 tyX12 tyX12_ok nmX12 hown hK hP hD hS 0 rfl rfl 7 (by decide) (hts (.fieldLink RX12 194 "SpellTurnerModel" "faultKind" "I") im_36) (fun _ h9 => h9) rfl (by decide +kernel) rfl rfl (Nat.le_of_ble_eq_true rfl) dX12_wrong_2 (fun H locs hP hD hS => ?_)
  have hP : va_P (dC, dI) vwCl (mW h0 kB kI kZ q (upd g 7 p0) F) H := by first | exact sP_g7 hP rfl | exact sP_g7 hP upd_same | exact hP
  have hD : va_D A (mW h0 kB kI kZ q (upd g 7 p0) F) := by first | exact sD_g7 hD rfl | exact sD_g7 hD upd_same | exact hD
  refine lv_aload_n hx hb dX12_wrong_5 rfl (lv_at hl 0 rfl) ?_
  refine lv_aload_n hx hb dX12_wrong_6 rfl (lv_at hl 0 rfl) ?_
  refine va_get (D := (dC, dI)) (ci := 12) (v := .int (g 5)) (C := RX12) (T := TX12) (N := 71) hx hb hts inX12 hown hK hP 0 rfl rfl 5 (by decide) (hts (.fieldLink RX12 177 "SpellTurnerModel" "at" "I") im_37) (fun _ h9 => h9) rfl dX12_wrong_7 ?_
  refine va_put (D := (dC, dI)) (ci := 12) (v := .int (g 5)) (ty := .int) (C := RX12) (T := TX12) (N := 71) hx hb hts inX12 tyX12 tyX12_ok nmX12 hown hK hP hD hS 0 rfl rfl 8 (by decide) (hts (.fieldLink RX12 13 "SpellTurnerModel" "faultPlace" "I") im_38) (fun _ h9 => h9) rfl (by decide +kernel) rfl rfl (Nat.le_of_ble_eq_true rfl) dX12_wrong_10 (fun H locs hP hD hS => ?_)
  have hP : va_P (dC, dI) vwCl (mW h0 kB kI kZ q (upd (upd g 7 p0) 8 (g 5)) F) H := by first | exact sP_g8 hP rfl | exact sP_g8 hP upd_same | exact hP
  have hD : va_D A (mW h0 kB kI kZ q (upd (upd g 7 p0) 8 (g 5)) F) := by first | exact sD_g8 hD rfl | exact sD_g8 hD upd_same | exact hD
  refine lv_iconst (v := 0) hx hb dX12_wrong_13 (by decide +kernel) ?_
  first | exact K 14 ls _ _ _ H _ hr (by decide) dX12_wrong_14 (sP_eq (mW_cg (by repeat (first | with_reducible rfl | with_reducible refine upd_cg ?_ | refine Eq.trans ?_ (upd_id rfl))) (by repeat (first | with_reducible rfl | with_reducible refine upF_cg ?_ | refine Eq.trans ?_ (upF_id rfl)))) hP) (sD_eq (mW_cg (by repeat (first | with_reducible rfl | with_reducible refine upd_cg ?_ | refine Eq.trans ?_ (upd_id rfl))) (by repeat (first | with_reducible rfl | with_reducible refine upF_cg ?_ | refine Eq.trans ?_ (upF_id rfl)))) hD) hS | exact K 14 ls _ _ _ H _ hr (by decide) dX12_wrong_14 hP hD hS
set_option maxHeartbeats 4000000 in
set_option maxRecDepth 100000 in
theorem m_wrong (l : Launch) (dC : Nat → ClassId) (dI : Nat → Nat → Nat) (sz : Nat) (h0 : Nat) (kB kI kZ : ClassId) (q : Nat → Nat) (g : Nat → Int32) (F : Nat → Nat → Int32) (p0 : Int32) (r : Int32) (c_g7 : Int32) (c_g8 : Int32) (hr : f_wrong g F p0 = some (r, c_g7, c_g8)) : Met l yX12_wrong vmX12_wrong ({ frames := 2, cells := 0, slots := 0, locals := 60 } : Room) (va_Pc [.ref h0, .int p0] (fun U => U.heap.size = sz ∧ va_P (dC, dI) vwCl (mW h0 kB kI kZ q g F) U.heap ∧ va_K (dC, dI) vwCl (mT kB kI kZ) U ∧ va_D (fun _ => True) (mW h0 kB kI kZ q g F))) (va_Qi (fun (rz : Int32) (_ : Unit) => rz = r) (fun _ t => va_P (dC, dI) vwCl (mW h0 kB kI kZ q (upd (upd g 7 c_g7) 8 c_g8) F) t.heap ∧ va_K (dC, dI) vwCl (mT kB kI kZ) t ∧ va_D (va_A (mW h0 kB kI kZ q g F) sz) (mW h0 kB kI kZ q (upd (upd g 7 c_g7) 8 c_g8) F)) (va_A (mW h0 kB kI kZ q g F) sz)) 0 0 (va_A (mW h0 kB kI kZ q g F) sz) := by
  refine Met.ofW (cc := cX12_wrong) (maxL := 2) (ret := (some .boolean)) (by decide) rfl ?_
  intro p e s m args below meth c s₁ B hml hv
  obtain ⟨rfl, hsz, hP, hK, hD0⟩ := hv
  have hx := B.exec
  have hb := B.bytes
  have hrt := B.returns
  have hts := atoms_spec (ws := vmX12_wrong) B.pre
  have hown : s.vm.findClass RX12 = some m.cls := findClass_of_methodNamed B.named
  subst hsz
  have hD := hD0.self (sz := s.heap.size)
  generalize hAe : va_A (mW h0 kB kI kZ q g F) s.heap.size = A at hD ⊢
  have hA : ∀ q : Nat, s.heap.size ≤ q → A q := fun q h => by rw [← hAe]; exact Or.inr h
  have hS : va_S A s.heap s.heap [] := va_S.rf
  have hl := lv_entry ([.ref h0, .int p0]) (n := 2) (Nat.le_of_ble_eq_true rfl)
  rw [lg_entry_eq]
  generalize (lg_sl ([.ref h0, .int p0]) ++ List.replicate (2 - (lg_sl ([.ref h0, .int p0])).length) Slot.unset).toArray = ls at hl ⊢
  exact bm_wrong p0 r c_g7 c_g8 hr hx hb hml hown hts hA hK hP hD hS hl (fun pc ls rz c_g7z c_g8z H locs he hz hd hP hD hS => by cases he; exact W.zret (v := r) hx hb hrt (z_nb hz) (fun t ht hW => ⟨⟨r, (), rfl, rfl, by rw [ht]; exact hP, va_K.moved hW.alike hK, hD⟩, hS.F ht⟩) hS.2.2 hd)
set_option maxHeartbeats 4000000 in
set_option maxRecDepth 100000 in
theorem bm_isStage {p : Program} {l : Launch} {e : Env} {s : State} {m : MethodId} {args : Array Value} {below : List Frame} {meth : Method} {c : Code} {Q : State → Prop} {A : Nat → Prop} {dC : Nat → ClassId} {dI : Nat → Nat → Nat} {h0 : Nat} {kB kI kZ : ClassId} {q : Nat → Nat} {g : Nat → Int32} {F : Nat → Nat → Int32} {H : Heap} {locs : List Loc} {ls : Array Slot} (p0 : Int32) (r : Int32) (hr : f_isStage g F p0 = some r) (hx : p.tables.exec = Jvm.exec) (hb : c.code = cX12_isStage) (hml : c.maxLocals = 2) (hown : s.vm.findClass RX12 = some m.cls) (hts : ∀ w ∈ vmX12_isStage, w.before args s = true) (hA : ∀ q : Nat, s.heap.size ≤ q → A q) (hK : va_K (dC, dI) vwCl (mT kB kI kZ) s) (hP : va_P (dC, dI) vwCl (mW h0 kB kI kZ q g F) H) (hD : va_D A (mW h0 kB kI kZ q g F)) (hS : va_S A s.heap H locs) (hl : lv_has ls 2 [(0, .ref h0), (1, .int p0)])
    (K : ∀ (pc : Nat) (ls : Array Slot) (rz : Int32) (H : Heap) (locs : List Loc), some rz = some r → is01 rz → decode cX12_isStage pc = .ok (.ireturn, 1) → va_P (dC, dI) vwCl (mW h0 kB kI kZ q g F) H → va_D A (mW h0 kB kI kZ q g F) → va_S A s.heap H locs → W p l e ({ frames := 3, cells := 0, slots := 0, locals := 82 } : Room) s m args below meth c H locs 0 0 Q (F0 m pc ls [.int rz])) : W p l e ({ frames := 3, cells := 0, slots := 0, locals := 82 } : Room) s m args below meth c H locs 0 0 Q (F0 m 0 ls []) := by
  unfold f_isStage at hr
  refine lv_iload_n hx hb dX12_isStage_0 rfl (lv_at hl 1 rfl) ?_
  refine lv_iconst (v := 0) hx hb dX12_isStage_1 (by decide +kernel) ?_
  refine lv_aload_n hx hb dX12_isStage_2 rfl (lv_at hl 0 rfl) ?_
  refine va_get (D := (dC, dI)) (ci := 12) (v := .int (g 9)) (C := RX12) (T := TX12) (N := 71) hx hb hts inX12 hown hK hP 0 rfl rfl 9 (by decide) (hts (.fieldLink RX12 222 "SpellTurnerModel" "reforms" "I") im_40) (fun _ h9 => h9) rfl dX12_isStage_3 ?_
  replace hr := b1S hr
  obtain ⟨r6z, hc6, hr⟩ := hr
  have hFc := fr_all hD hS hA
  refine va_calli (va_runS (As := [.int p0, .int 0, .int (g 9)]) (rest := []) ⟨hx, hb, hml, hown, hts⟩ (m_in l dC dI H.size h0 kB kI kZ q g F p0 0 (g 9) r6z hc6) (va_cwS 3 hts gw_X12_in_226 rfl rfl rfl (by decide +kernel) ⟨Nat.le_of_ble_eq_true rfl, Nat.le_of_ble_eq_true rfl⟩) ⟨fun a U g mk q => by obtain ⟨q0, q1, qP, qK, qD⟩ := q; exact ⟨q0, q1, qP, va_K.moved (u := U) (U := U.calling g mk a) (Vm.Alike.refl U.vm) qK, qD⟩, fun U hU hW => ⟨rfl, by rw [hU], by rw [hU]; exact hP, va_K.moved hW.alike hK, hD.weaken (fun _ _ _ _ => trivial)⟩⟩ rfl rfl hl.1 rfl (lv_room (Nat.le_of_ble_eq_true rfl)) dX12_isStage_6 ⟨Nat.le_of_ble_eq_true rfl, Nat.le_of_ble_eq_true rfl⟩) hS (fun q _ h => hFc q h) hFc (fun r6 u t H1 locs ht hvm hw hB hz1 hk1 hS => ?_)
  replace hw : r6 = r6z := hw
  subst hw
  obtain ⟨hP1, hK1, hD1⟩ := hB
  rw [ht] at hP1
  obtain ⟨hP, hD⟩ := jn_all (w1 := (mW h0 kB kI kZ q g F)) hFc hP1 hD1
  clear hFc hP1 hK1 hD1 hk1 hz1 ht hvm
  generalize H1 = H at hP hS ⊢
  have hP : va_P (dC, dI) vwCl (mW h0 kB kI kZ q g F) H := hP
  have hD : va_D A (mW h0 kB kI kZ q g F) := hD
  replace hr := iteS hr
  obtain ⟨hz9, hr⟩ := hr
  exact K 9 ls _ H _ hr hz9 dX12_isStage_9 hP hD hS
set_option maxHeartbeats 4000000 in
set_option maxRecDepth 100000 in
theorem m_isStage (l : Launch) (dC : Nat → ClassId) (dI : Nat → Nat → Nat) (sz : Nat) (h0 : Nat) (kB kI kZ : ClassId) (q : Nat → Nat) (g : Nat → Int32) (F : Nat → Nat → Int32) (p0 : Int32) (r : Int32) (hr : f_isStage g F p0 = some r) : Met l yX12_isStage vmX12_isStage ({ frames := 3, cells := 0, slots := 0, locals := 82 } : Room) (va_Pc [.ref h0, .int p0] (fun U => U.heap.size = sz ∧ va_P (dC, dI) vwCl (mW h0 kB kI kZ q g F) U.heap ∧ va_K (dC, dI) vwCl (mT kB kI kZ) U ∧ va_D (fun _ => True) (mW h0 kB kI kZ q g F))) (va_Qi (fun (rz : Int32) (_ : Unit) => rz = r) (fun _ t => va_P (dC, dI) vwCl (mW h0 kB kI kZ q g F) t.heap ∧ va_K (dC, dI) vwCl (mT kB kI kZ) t ∧ va_D (va_A (mW h0 kB kI kZ q g F) sz) (mW h0 kB kI kZ q g F)) (va_A (mW h0 kB kI kZ q g F) sz)) 0 0 (va_A (mW h0 kB kI kZ q g F) sz) := by
  refine Met.ofW (cc := cX12_isStage) (maxL := 2) (ret := (some .boolean)) (by decide) rfl ?_
  intro p e s m args below meth c s₁ B hml hv
  obtain ⟨rfl, hsz, hP, hK, hD0⟩ := hv
  have hx := B.exec
  have hb := B.bytes
  have hrt := B.returns
  have hts := atoms_spec (ws := vmX12_isStage) B.pre
  have hown : s.vm.findClass RX12 = some m.cls := findClass_of_methodNamed B.named
  subst hsz
  have hD := hD0.self (sz := s.heap.size)
  generalize hAe : va_A (mW h0 kB kI kZ q g F) s.heap.size = A at hD ⊢
  have hA : ∀ q : Nat, s.heap.size ≤ q → A q := fun q h => by rw [← hAe]; exact Or.inr h
  have hS : va_S A s.heap s.heap [] := va_S.rf
  have hl := lv_entry ([.ref h0, .int p0]) (n := 2) (Nat.le_of_ble_eq_true rfl)
  rw [lg_entry_eq]
  generalize (lg_sl ([.ref h0, .int p0]) ++ List.replicate (2 - (lg_sl ([.ref h0, .int p0])).length) Slot.unset).toArray = ls at hl ⊢
  exact bm_isStage p0 r hr hx hb hml hown hts hA hK hP hD hS hl (fun pc ls rz H locs he hz hd hP hD hS => by cases he; exact W.zret (v := r) hx hb hrt (z_nb hz) (fun t ht hW => ⟨⟨r, (), rfl, rfl, by rw [ht]; exact hP, va_K.moved hW.alike hK, hD⟩, hS.F ht⟩) hS.2.2 hd)
set_option maxHeartbeats 4000000 in
set_option maxRecDepth 100000 in
theorem bm_hasNought {p : Program} {l : Launch} {e : Env} {s : State} {m : MethodId} {args : Array Value} {below : List Frame} {meth : Method} {c : Code} {Q : State → Prop} {A : Nat → Prop} {dC : Nat → ClassId} {dI : Nat → Nat → Nat} {h0 : Nat} {kB kI kZ : ClassId} {q : Nat → Nat} {g : Nat → Int32} {F : Nat → Nat → Int32} {H : Heap} {locs : List Loc} {ls : Array Slot} (p0 : Int32) (r : Int32) (hr : f_hasNought g F p0 = some r) (hx : p.tables.exec = Jvm.exec) (hb : c.code = cX12_hasNought) (hml : c.maxLocals = 3) (hown : s.vm.findClass RX12 = some m.cls) (hts : ∀ w ∈ vmX12_hasNought, w.before args s = true) (hA : ∀ q : Nat, s.heap.size ≤ q → A q) (hK : va_K (dC, dI) vwCl (mT kB kI kZ) s) (hP : va_P (dC, dI) vwCl (mW h0 kB kI kZ q g F) H) (hD : va_D A (mW h0 kB kI kZ q g F)) (hS : va_S A s.heap H locs) (hl : lv_has ls 3 [(0, .ref h0), (1, .int p0)])
    (K : ∀ (pc : Nat) (ls : Array Slot) (rz : Int32) (H : Heap) (locs : List Loc), some rz = some r → is01 rz → decode cX12_hasNought pc = .ok (.ireturn, 1) → va_P (dC, dI) vwCl (mW h0 kB kI kZ q g F) H → va_D A (mW h0 kB kI kZ q g F) → va_S A s.heap H locs → W p l e ({ frames := 2, cells := 0, slots := 0, locals := 60 } : Room) s m args below meth c H locs 0 0 Q (F0 m pc ls [.int rz])) : W p l e ({ frames := 2, cells := 0, slots := 0, locals := 60 } : Room) s m args below meth c H locs 0 0 Q (F0 m 0 ls []) := by
  unfold f_hasNought at hr
  refine lv_iconst (v := 0) hx hb dX12_hasNought_0 (by decide +kernel) ?_
  refine lv_istore_n (lv' := [(2, .int 0), (0, .ref h0), (1, .int p0)]) hx hb dX12_hasNought_1 rfl hl (by decide) rfl (fun ls hl => ?_)
  have lp2 : ∀ (n2 : Nat) (y2_2 : Int32) (H : Heap) (locs : List Loc) (ls : Array Slot), L_hasNought_2 F p0 n2 y2_2 = some r → va_P (dC, dI) vwCl (mW h0 kB kI kZ q g F) H → va_D A (mW h0 kB kI kZ q g F) → va_S A s.heap H locs → lv_has ls 3 [(0, .ref h0), (1, .int p0), (2, .int y2_2)] → W p l e ({ frames := 2, cells := 0, slots := 0, locals := 60 } : Room) s m args below meth c H locs 0 0 Q (F0 m 2 ls []) := by
    intro n2
    induction n2 with
    | zero => intro y2_2 H locs ls hr; exact nomatch (show none = some r from hr)
    | succ n2 ih2 =>
      intro y2_2 H locs ls hr hP hD hS hl
      replace hr : B_hasNought_2 F p0 (L_hasNought_2 F p0 n2) y2_2 = some r := hr
      unfold B_hasNought_2 at hr
      refine lv_iload_n hx hb dX12_hasNought_2 rfl (lv_at hl 2 rfl) ?_
      refine lv_iload_n hx hb dX12_hasNought_3 rfl (lv_at hl 1 rfl) ?_
      refine lv_icmp_ge (tgt := 24) hx hb dX12_hasNought_4 (by decide) (fun c4 => ?_) (fun c4 => ?_)
      · replace hr := iteT c4 hr
        refine lv_iconst (v := 0) hx hb dX12_hasNought_24 (by decide +kernel) ?_
        exact K 25 ls _ H _ hr (by decide) dX12_hasNought_25 hP hD hS
      · replace hr := iteF c4 hr
        refine lv_aload_n hx hb dX12_hasNought_7 rfl (lv_at hl 0 rfl) ?_
        refine va_get (D := (dC, dI)) (ci := 12) (v := .ref (q 0)) (C := RX12) (T := TX12) (N := 71) hx hb hts inX12 hown hK hP 0 rfl rfl 0 (by decide) (hts (.fieldLink RX12 7 "SpellTurnerModel" "tape" "[B") im_34) (fun _ h9 => h9) rfl dX12_hasNought_8 ?_
        refine lv_iload_n hx hb dX12_hasNought_11 rfl (lv_at hl 2 rfl) ?_
        replace hr := iteS hr
        obtain ⟨hi12, hr⟩ := hr
        refine va_bald (f := (F 0)) hx hb hK hP 1 0 rfl rfl (inbV hi12) dX12_hasNought_12 ?_
        refine lv_if_ne (tgt := 18) hx hb dX12_hasNought_13 (by decide) (fun c13 => ?_) (fun c13 => ?_)
        · replace hr := iteF c13 hr
          refine lv_iinc (v := (y2_2 + 1)) (lv' := [(2, .int (y2_2 + 1)), (0, .ref h0), (1, .int p0)]) hx hb dX12_hasNought_18 hl (k := 2) rfl rfl (by decide) rfl (fun ls hl => ?_)
          refine lv_goto (tgt := 2) hx hb dX12_hasNought_21 (by decide) ?_
          exact ih2 (y2_2 + 1) H _ ls hr hP hD hS (lv_sub hl [1, 2, 0] rfl)
        · replace hr := iteT c13 hr
          refine lv_iconst (v := 1) hx hb dX12_hasNought_16 (by decide +kernel) ?_
          exact K 17 ls _ H _ hr (by decide) dX12_hasNought_17 hP hD hS
  exact lp2 NN 0 H _ ls hr hP hD hS (lv_sub hl [1, 2, 0] rfl)
set_option maxHeartbeats 4000000 in
set_option maxRecDepth 100000 in
theorem m_hasNought (l : Launch) (dC : Nat → ClassId) (dI : Nat → Nat → Nat) (sz : Nat) (h0 : Nat) (kB kI kZ : ClassId) (q : Nat → Nat) (g : Nat → Int32) (F : Nat → Nat → Int32) (p0 : Int32) (r : Int32) (hr : f_hasNought g F p0 = some r) : Met l yX12_hasNought vmX12_hasNought ({ frames := 2, cells := 0, slots := 0, locals := 60 } : Room) (va_Pc [.ref h0, .int p0] (fun U => U.heap.size = sz ∧ va_P (dC, dI) vwCl (mW h0 kB kI kZ q g F) U.heap ∧ va_K (dC, dI) vwCl (mT kB kI kZ) U ∧ va_D (fun _ => True) (mW h0 kB kI kZ q g F))) (va_Qi (fun (rz : Int32) (_ : Unit) => rz = r) (fun _ t => va_P (dC, dI) vwCl (mW h0 kB kI kZ q g F) t.heap ∧ va_K (dC, dI) vwCl (mT kB kI kZ) t ∧ va_D (va_A (mW h0 kB kI kZ q g F) sz) (mW h0 kB kI kZ q g F)) (va_A (mW h0 kB kI kZ q g F) sz)) 0 0 (va_A (mW h0 kB kI kZ q g F) sz) := by
  refine Met.ofW (cc := cX12_hasNought) (maxL := 3) (ret := (some .boolean)) (by decide) rfl ?_
  intro p e s m args below meth c s₁ B hml hv
  obtain ⟨rfl, hsz, hP, hK, hD0⟩ := hv
  have hx := B.exec
  have hb := B.bytes
  have hrt := B.returns
  have hts := atoms_spec (ws := vmX12_hasNought) B.pre
  have hown : s.vm.findClass RX12 = some m.cls := findClass_of_methodNamed B.named
  subst hsz
  have hD := hD0.self (sz := s.heap.size)
  generalize hAe : va_A (mW h0 kB kI kZ q g F) s.heap.size = A at hD ⊢
  have hA : ∀ q : Nat, s.heap.size ≤ q → A q := fun q h => by rw [← hAe]; exact Or.inr h
  have hS : va_S A s.heap s.heap [] := va_S.rf
  have hl := lv_entry ([.ref h0, .int p0]) (n := 3) (Nat.le_of_ble_eq_true rfl)
  rw [lg_entry_eq]
  generalize (lg_sl ([.ref h0, .int p0]) ++ List.replicate (3 - (lg_sl ([.ref h0, .int p0])).length) Slot.unset).toArray = ls at hl ⊢
  exact bm_hasNought p0 r hr hx hb hml hown hts hA hK hP hD hS hl (fun pc ls rz H locs he hz hd hP hD hS => by cases he; exact W.zret (v := r) hx hb hrt (z_nb hz) (fun t ht hW => ⟨⟨r, (), rfl, rfl, by rw [ht]; exact hP, va_K.moved hW.alike hK, hD⟩, hS.F ht⟩) hS.2.2 hd)
set_option maxHeartbeats 4000000 in
set_option maxRecDepth 100000 in
theorem bm_feed {p : Program} {l : Launch} {e : Env} {s : State} {m : MethodId} {args : Array Value} {below : List Frame} {meth : Method} {c : Code} {Q : State → Prop} {A : Nat → Prop} {dC : Nat → ClassId} {dI : Nat → Nat → Nat} {h0 : Nat} {kB kI kZ : ClassId} {q : Nat → Nat} {g : Nat → Int32} {F : Nat → Nat → Int32} {H : Heap} {locs : List Loc} {ls : Array Slot} (p0 : Int32) (p1 : Int32) (p2 : Int32) (p3 : Int32) (p4 : Int32) (r : Int32) (c_g1 : Int32) (c_F0 : (Nat → Int32)) (hr : f_feed g F p0 p1 p2 p3 p4 = some (r, c_g1, c_F0)) (hx : p.tables.exec = Jvm.exec) (hb : c.code = cX12_feed) (hml : c.maxLocals = 9) (hown : s.vm.findClass RX12 = some m.cls) (hts : ∀ w ∈ vmX12_feed, w.before args s = true) (hA : ∀ q : Nat, s.heap.size ≤ q → A q) (hK : va_K (dC, dI) vwCl (mT kB kI kZ) s) (hP : va_P (dC, dI) vwCl (mW h0 kB kI kZ q g F) H) (hD : va_D A (mW h0 kB kI kZ q g F)) (hS : va_S A s.heap H locs) (hl : lv_has ls 9 [(0, .ref h0), (1, .int p0), (2, .int p1), (3, .int p2), (4, .int p3), (5, .int p4)])
    (K : ∀ (pc : Nat) (ls : Array Slot) (rz : Int32) (c_g1z : Int32) (c_F0z : (Nat → Int32)) (H : Heap) (locs : List Loc), some (rz, c_g1z, c_F0z) = some (r, c_g1, c_F0) → decode cX12_feed pc = .ok (.ireturn, 1) → va_P (dC, dI) vwCl (mW h0 kB kI kZ q (upd g 1 c_g1z) (upF F 0 c_F0z)) H → va_D A (mW h0 kB kI kZ q (upd g 1 c_g1z) (upF F 0 c_F0z)) → va_S A s.heap H locs → W p l e ({ frames := 2, cells := 0, slots := 0, locals := 60 } : Room) s m args below meth c H locs 0 0 Q (F0 m pc ls [.int rz])) : W p l e ({ frames := 2, cells := 0, slots := 0, locals := 60 } : Room) s m args below meth c H locs 0 0 Q (F0 m 0 ls []) := by
  unfold f_feed at hr
  refine lv_aload_n hx hb dX12_feed_0 rfl (lv_at hl 0 rfl) ?_
  refine va_get (D := (dC, dI)) (ci := 12) (v := .int (g 1)) (C := RX12) (T := TX12) (N := 71) hx hb hts inX12 hown hK hP 0 rfl rfl 1 (by decide) (hts (.fieldLink RX12 152 "SpellTurnerModel" "taped" "I") im_45) (fun _ h9 => h9) rfl dX12_feed_1 ?_
  refine lv_bipush (v := 20) hx hb dX12_feed_4 (by decide +kernel) ?_
  refine lv_iadd hx hb dX12_feed_6 ?_
  refine lv_sipush (v := 2000) hx hb dX12_feed_7 (by decide +kernel) ?_
  refine lv_icmp_le (tgt := 16) hx hb dX12_feed_10 (by decide) (fun c10 => ?_) (fun c10 => ?_)
  · replace hr := iteT c10 hr
    refine lv_iconst (v := 0) hx hb dX12_feed_16 (by decide +kernel) ?_
    refine lv_istore (lv' := [(6, .int 0), (0, .ref h0), (1, .int p0), (2, .int p1), (3, .int p2), (4, .int p3), (5, .int p4)]) hx hb dX12_feed_17 hl (by decide) rfl (fun ls hl => ?_)
    have lp19 : ∀ (n19 : Nat) (y19_6 : Int32) (d19_g1 : Int32) (d19_F0 : (Nat → Int32)) (H : Heap) (locs : List Loc) (ls : Array Slot), L_feed_19 p0 p1 p2 p3 p4 n19 y19_6 d19_g1 d19_F0 = some (r, c_g1, c_F0) → va_P (dC, dI) vwCl (mW h0 kB kI kZ q (upd g 1 d19_g1) (upF F 0 d19_F0)) H → va_D A (mW h0 kB kI kZ q (upd g 1 d19_g1) (upF F 0 d19_F0)) → va_S A s.heap H locs → lv_has ls 9 [(0, .ref h0), (1, .int p0), (2, .int p1), (3, .int p2), (4, .int p3), (5, .int p4), (6, .int y19_6)] → W p l e ({ frames := 2, cells := 0, slots := 0, locals := 60 } : Room) s m args below meth c H locs 0 0 Q (F0 m 19 ls []) := by
      intro n19
      induction n19 with
      | zero => intro y19_6 d19_g1 d19_F0 H locs ls hr; exact nomatch (show none = some (r, c_g1, c_F0) from hr)
      | succ n19 ih19 =>
        intro y19_6 d19_g1 d19_F0 H locs ls hr hP hD hS hl
        replace hr : B_feed_19 p0 p1 p2 p3 p4 (L_feed_19 p0 p1 p2 p3 p4 n19) y19_6 d19_g1 d19_F0 = some (r, c_g1, c_F0) := hr
        unfold B_feed_19 at hr
        refine lv_iload hx hb dX12_feed_19 (lv_at hl 6 rfl) ?_
        refine lv_iconst (v := 5) hx hb dX12_feed_21 (by decide +kernel) ?_
        refine lv_icmp_ge (tgt := 115) hx hb dX12_feed_22 (by decide) (fun c22 => ?_) (fun c22 => ?_)
        · replace hr := iteT c22 hr
          refine lv_aload_n hx hb dX12_feed_115 rfl (lv_at hl 0 rfl) ?_
          refine va_get (D := (dC, dI)) (ci := 12) (v := .int d19_g1) (C := RX12) (T := TX12) (N := 71) hx hb hts inX12 hown hK hP 0 rfl rfl 1 (by decide) (hts (.fieldLink RX12 152 "SpellTurnerModel" "taped" "I") im_45) (fun _ h9 => h9) rfl dX12_feed_116 ?_
          first | exact K 119 ls _ _ _ H _ hr dX12_feed_119 (sP_eq (mW_cg (by repeat (first | with_reducible rfl | with_reducible refine upd_cg ?_ | refine Eq.trans ?_ (upd_id rfl))) (by repeat (first | with_reducible rfl | with_reducible refine upF_cg ?_ | refine Eq.trans ?_ (upF_id rfl)))) hP) (sD_eq (mW_cg (by repeat (first | with_reducible rfl | with_reducible refine upd_cg ?_ | refine Eq.trans ?_ (upd_id rfl))) (by repeat (first | with_reducible rfl | with_reducible refine upF_cg ?_ | refine Eq.trans ?_ (upF_id rfl)))) hD) hS | exact K 119 ls _ _ _ H _ hr dX12_feed_119 hP hD hS
        · replace hr := iteF c22 hr
          refine lv_iload hx hb dX12_feed_25 (lv_at hl 6 rfl) ?_
          replace hr := jnS hr
          obtain ⟨j67, hj67, hr⟩ := hr
          have Jj67 : ∀ (t67_0 : Int32) (H : Heap) (locs : List Loc) (ls : Array Slot), j67 t67_0 = some (r, c_g1, c_F0) → va_P (dC, dI) vwCl (mW h0 kB kI kZ q (upd g 1 d19_g1) (upF F 0 d19_F0)) H → va_D A (mW h0 kB kI kZ q (upd g 1 d19_g1) (upF F 0 d19_F0)) → va_S A s.heap H locs → lv_has ls 9 [(0, .ref h0), (1, .int p0), (2, .int p1), (3, .int p2), (4, .int p3), (5, .int p4), (6, .int y19_6)] → W p l e ({ frames := 2, cells := 0, slots := 0, locals := 60 } : Room) s m args below meth c H locs 0 0 Q (F0 m 67 ls [.int t67_0]) := by
            intro t67_0 H locs ls hr hP hD hS hl
            rw [hj67] at hr
            refine lv_istore (lv' := [(7, .int t67_0), (0, .ref h0), (1, .int p0), (2, .int p1), (3, .int p2), (4, .int p3), (5, .int p4), (6, .int y19_6)]) hx hb dX12_feed_67 hl (by decide) rfl (fun ls hl => ?_)
            refine lv_bipush (v := 24) hx hb dX12_feed_69 (by decide +kernel) ?_
            refine lv_istore (lv' := [(8, .int 24), (7, .int t67_0), (0, .ref h0), (1, .int p0), (2, .int p1), (3, .int p2), (4, .int p3), (5, .int p4), (6, .int y19_6)]) hx hb dX12_feed_71 hl (by decide) rfl (fun ls hl => ?_)
            replace hr := jnS hr
            obtain ⟨k109, hk109, hr⟩ := hr
            have Jk109 : ∀ (c109_g1 : Int32) (c109_F0 : (Nat → Int32)) (H : Heap) (locs : List Loc) (ls : Array Slot), k109 c109_g1 c109_F0 = some (r, c_g1, c_F0) → va_P (dC, dI) vwCl (mW h0 kB kI kZ q (upd g 1 c109_g1) (upF F 0 c109_F0)) H → va_D A (mW h0 kB kI kZ q (upd g 1 c109_g1) (upF F 0 c109_F0)) → va_S A s.heap H locs → lv_has ls 9 [(0, .ref h0), (1, .int p0), (2, .int p1), (3, .int p2), (4, .int p3), (5, .int p4), (6, .int y19_6)] → W p l e ({ frames := 2, cells := 0, slots := 0, locals := 60 } : Room) s m args below meth c H locs 0 0 Q (F0 m 109 ls []) := by
              intro c109_g1 c109_F0 H locs ls hr hP hD hS hl
              rw [hk109] at hr
              refine lv_iinc (v := (y19_6 + 1)) (lv' := [(6, .int (y19_6 + 1)), (0, .ref h0), (1, .int p0), (2, .int p1), (3, .int p2), (4, .int p3), (5, .int p4)]) hx hb dX12_feed_109 hl (k := 6) rfl rfl (by decide) rfl (fun ls hl => ?_)
              refine lv_goto (tgt := 19) hx hb dX12_feed_112 (by decide) ?_
              exact ih19 (y19_6 + 1) c109_g1 c109_F0 H _ ls hr hP hD hS (lv_sub hl [1, 2, 3, 4, 5, 6, 0] rfl)
            have lp73 : ∀ (n73 : Nat) (y73_8 : Int32) (d73_g1 : Int32) (d73_F0 : (Nat → Int32)) (H : Heap) (locs : List Loc) (ls : Array Slot), L_feed_73 t67_0 k109 n73 y73_8 d73_g1 d73_F0 = some (r, c_g1, c_F0) → va_P (dC, dI) vwCl (mW h0 kB kI kZ q (upd g 1 d73_g1) (upF F 0 d73_F0)) H → va_D A (mW h0 kB kI kZ q (upd g 1 d73_g1) (upF F 0 d73_F0)) → va_S A s.heap H locs → lv_has ls 9 [(0, .ref h0), (1, .int p0), (2, .int p1), (3, .int p2), (4, .int p3), (5, .int p4), (6, .int y19_6), (7, .int t67_0), (8, .int y73_8)] → W p l e ({ frames := 2, cells := 0, slots := 0, locals := 60 } : Room) s m args below meth c H locs 0 0 Q (F0 m 73 ls []) := by
              intro n73
              induction n73 with
              | zero => intro y73_8 d73_g1 d73_F0 H locs ls hr; exact nomatch (show none = some (r, c_g1, c_F0) from hr)
              | succ n73 ih73 =>
                intro y73_8 d73_g1 d73_F0 H locs ls hr hP hD hS hl
                replace hr : B_feed_73 t67_0 k109 (L_feed_73 t67_0 k109 n73) y73_8 d73_g1 d73_F0 = some (r, c_g1, c_F0) := hr
                unfold B_feed_73 at hr
                refine lv_iload hx hb dX12_feed_73 (lv_at hl 8 rfl) ?_
                refine lv_if_lt (tgt := 109) hx hb dX12_feed_75 (by decide) (fun c75 => ?_) (fun c75 => ?_)
                · replace hr := iteT c75 hr
                  exact Jk109 d73_g1 d73_F0 H _ ls hr hP hD hS (lv_sub hl [0, 1, 2, 3, 4, 5, 6] rfl)
                · replace hr := iteF c75 hr
                  refine lv_aload_n hx hb dX12_feed_78 rfl (lv_at hl 0 rfl) ?_
                  refine va_get (D := (dC, dI)) (ci := 12) (v := .ref (q 0)) (C := RX12) (T := TX12) (N := 71) hx hb hts inX12 hown hK hP 0 rfl rfl 0 (by decide) (hts (.fieldLink RX12 7 "SpellTurnerModel" "tape" "[B") im_34) (fun _ h9 => h9) rfl dX12_feed_79 ?_
                  refine lv_aload_n hx hb dX12_feed_82 rfl (lv_at hl 0 rfl) ?_
                  refine va_get (D := (dC, dI)) (ci := 12) (v := .int d73_g1) (C := RX12) (T := TX12) (N := 71) hx hb hts inX12 hown hK hP 0 rfl rfl 1 (by decide) (hts (.fieldLink RX12 152 "SpellTurnerModel" "taped" "I") im_45) (fun _ h9 => h9) rfl dX12_feed_83 ?_
                  refine lv_iload hx hb dX12_feed_86 (lv_at hl 7 rfl) ?_
                  refine lv_iload hx hb dX12_feed_88 (lv_at hl 8 rfl) ?_
                  refine lv_ishr hx hb dX12_feed_90 ?_
                  refine lv_i2b (v := (Int8.toInt32 (Int32.toInt8 (t67_0 >>> (y73_8 &&& 31))))) hx hb dX12_feed_91 rfl ?_
                  replace hr := iteS hr
                  obtain ⟨hi92, hr⟩ := hr
                  refine va_bast (f := d73_F0) hx hb hK hP hD hS 1 0 rfl rfl (inbV hi92) dX12_feed_92 (fun H locs hP hD hS => ?_)
                  obtain ⟨w92, ew92, hP, hD⟩ : ∃ w92 : Nat → Int32, w92 = (upd d73_F0 (Int32.toNatClampNeg d73_g1) (vp_nar .byte (Int8.toInt32 (Int32.toInt8 (t67_0 >>> (y73_8 &&& 31)))))) ∧ va_P (dC, dI) vwCl (mW h0 kB kI kZ q (upd g 1 d73_g1) (upF F 0 w92)) H ∧ va_D A (mW h0 kB kI kZ q (upd g 1 d73_g1) (upF F 0 w92)) := ⟨(upd d73_F0 (Int32.toNatClampNeg d73_g1) (vp_nar .byte (Int8.toInt32 (Int32.toInt8 (t67_0 >>> (y73_8 &&& 31)))))), rfl, by first | exact sP_F0 hP upF_same | exact sP_F0 hP rfl | exact hP, by first | exact sD_F0 hD upF_same | exact sD_F0 hD rfl | exact hD⟩
                  replace hr := vlS hr w92 ew92
                  clear ew92
                  refine lv_aload_n hx hb dX12_feed_93 rfl (lv_at hl 0 rfl) ?_
                  refine lv_dup hx hb dX12_feed_94 rfl ?_
                  refine va_get (D := (dC, dI)) (ci := 12) (v := .int d73_g1) (C := RX12) (T := TX12) (N := 71) hx hb hts inX12 hown hK hP 0 rfl rfl 1 (by decide) (hts (.fieldLink RX12 152 "SpellTurnerModel" "taped" "I") im_45) (fun _ h9 => h9) rfl dX12_feed_95 ?_
                  refine lv_iconst (v := 1) hx hb dX12_feed_98 (by decide +kernel) ?_
                  refine lv_iadd hx hb dX12_feed_99 ?_
                  refine lv_topi (fun x100 ex100 => ?_)
                  replace hr := vlS hr x100 ex100
                  clear ex100
                  refine va_put (D := (dC, dI)) (ci := 12) (v := .int x100) (ty := .int) (C := RX12) (T := TX12) (N := 71) hx hb hts inX12 tyX12 tyX12_ok nmX12 hown hK hP hD hS 0 rfl rfl 1 (by decide) (hts (.fieldLink RX12 152 "SpellTurnerModel" "taped" "I") im_45) (fun _ h9 => h9) rfl (by decide +kernel) rfl rfl (Nat.le_of_ble_eq_true rfl) dX12_feed_100 (fun H locs hP hD hS => ?_)
                  have hP : va_P (dC, dI) vwCl (mW h0 kB kI kZ q (upd g 1 x100) (upF F 0 w92)) H := by first | exact sP_g1 hP upd_same | exact sP_g1 hP rfl | exact hP
                  have hD : va_D A (mW h0 kB kI kZ q (upd g 1 x100) (upF F 0 w92)) := by first | exact sD_g1 hD upd_same | exact sD_g1 hD rfl | exact hD
                  refine lv_iinc (v := (y73_8 + (-8))) (lv' := [(8, .int (y73_8 + (-8))), (0, .ref h0), (1, .int p0), (2, .int p1), (3, .int p2), (4, .int p3), (5, .int p4), (6, .int y19_6), (7, .int t67_0)]) hx hb dX12_feed_103 hl (k := 8) rfl rfl (by decide) rfl (fun ls hl => ?_)
                  refine lv_goto (tgt := 73) hx hb dX12_feed_106 (by decide) ?_
                  exact ih73 (y73_8 + (-8)) x100 w92 H _ ls hr hP hD hS (lv_sub hl [1, 2, 3, 4, 5, 6, 7, 8, 0] rfl)
            exact lp73 NN 24 d19_g1 d19_F0 H _ ls hr hP hD hS (lv_sub hl [2, 3, 4, 5, 6, 7, 8, 1, 0] rfl)
          refine lv_if_ne (tgt := 34) hx hb dX12_feed_27 (by decide) (fun c27 => ?_) (fun c27 => ?_)
          · replace hr := iteF c27 hr
            refine lv_iload hx hb dX12_feed_34 (lv_at hl 6 rfl) ?_
            refine lv_iconst (v := 1) hx hb dX12_feed_36 (by decide +kernel) ?_
            refine lv_icmp_ne (tgt := 44) hx hb dX12_feed_37 (by decide) (fun c37 => ?_) (fun c37 => ?_)
            · replace hr := iteF c37 hr
              refine lv_iload hx hb dX12_feed_44 (lv_at hl 6 rfl) ?_
              refine lv_iconst (v := 2) hx hb dX12_feed_46 (by decide +kernel) ?_
              refine lv_icmp_ne (tgt := 54) hx hb dX12_feed_47 (by decide) (fun c47 => ?_) (fun c47 => ?_)
              · replace hr := iteF c47 hr
                refine lv_iload hx hb dX12_feed_54 (lv_at hl 6 rfl) ?_
                refine lv_iconst (v := 3) hx hb dX12_feed_56 (by decide +kernel) ?_
                refine lv_icmp_ne (tgt := 65) hx hb dX12_feed_57 (by decide) (fun c57 => ?_) (fun c57 => ?_)
                · replace hr := iteF c57 hr
                  refine lv_iload hx hb dX12_feed_65 (lv_at hl 5 rfl) ?_
                  exact Jj67 p4 H _ ls hr hP hD hS (lv_sub hl [0, 1, 2, 3, 4, 5, 6] rfl)
                · replace hr := iteT c57 hr
                  refine lv_iload hx hb dX12_feed_60 (lv_at hl 4 rfl) ?_
                  refine lv_goto (tgt := 67) hx hb dX12_feed_62 (by decide) ?_
                  exact Jj67 p3 H _ ls hr hP hD hS (lv_sub hl [0, 1, 2, 3, 4, 5, 6] rfl)
              · replace hr := iteT c47 hr
                refine lv_iload_n hx hb dX12_feed_50 rfl (lv_at hl 3 rfl) ?_
                refine lv_goto (tgt := 67) hx hb dX12_feed_51 (by decide) ?_
                exact Jj67 p2 H _ ls hr hP hD hS (lv_sub hl [0, 1, 2, 3, 4, 5, 6] rfl)
            · replace hr := iteT c37 hr
              refine lv_iload_n hx hb dX12_feed_40 rfl (lv_at hl 2 rfl) ?_
              refine lv_goto (tgt := 67) hx hb dX12_feed_41 (by decide) ?_
              exact Jj67 p1 H _ ls hr hP hD hS (lv_sub hl [0, 1, 2, 3, 4, 5, 6] rfl)
          · replace hr := iteT c27 hr
            refine lv_iload_n hx hb dX12_feed_30 rfl (lv_at hl 1 rfl) ?_
            refine lv_goto (tgt := 67) hx hb dX12_feed_31 (by decide) ?_
            exact Jj67 p0 H _ ls hr hP hD hS (lv_sub hl [0, 1, 2, 3, 4, 5, 6] rfl)
    first | exact lp19 NN 0 (g 1) (F 0) H _ ls hr (sP_eq (mW_cg (by repeat (first | with_reducible rfl | with_reducible refine upd_cg ?_ | refine Eq.trans ?_ (upd_id rfl))) (by repeat (first | with_reducible rfl | with_reducible refine upF_cg ?_ | refine Eq.trans ?_ (upF_id rfl)))) hP) (sD_eq (mW_cg (by repeat (first | with_reducible rfl | with_reducible refine upd_cg ?_ | refine Eq.trans ?_ (upd_id rfl))) (by repeat (first | with_reducible rfl | with_reducible refine upF_cg ?_ | refine Eq.trans ?_ (upF_id rfl)))) hD) hS (lv_sub hl [1, 2, 3, 4, 5, 6, 0] rfl) | exact lp19 NN 0 (g 1) (F 0) H _ ls hr hP hD hS (lv_sub hl [1, 2, 3, 4, 5, 6, 0] rfl)
  · replace hr := iteF c10 hr
    refine lv_bipush (v := (-3)) hx hb dX12_feed_13 (by decide +kernel) ?_
    first | exact K 15 ls _ _ _ H _ hr dX12_feed_15 (sP_eq (mW_cg (by repeat (first | with_reducible rfl | with_reducible refine upd_cg ?_ | refine Eq.trans ?_ (upd_id rfl))) (by repeat (first | with_reducible rfl | with_reducible refine upF_cg ?_ | refine Eq.trans ?_ (upF_id rfl)))) hP) (sD_eq (mW_cg (by repeat (first | with_reducible rfl | with_reducible refine upd_cg ?_ | refine Eq.trans ?_ (upd_id rfl))) (by repeat (first | with_reducible rfl | with_reducible refine upF_cg ?_ | refine Eq.trans ?_ (upF_id rfl)))) hD) hS | exact K 15 ls _ _ _ H _ hr dX12_feed_15 hP hD hS
set_option maxHeartbeats 4000000 in
set_option maxRecDepth 100000 in
theorem m_feed (l : Launch) (dC : Nat → ClassId) (dI : Nat → Nat → Nat) (sz : Nat) (h0 : Nat) (kB kI kZ : ClassId) (q : Nat → Nat) (g : Nat → Int32) (F : Nat → Nat → Int32) (p0 : Int32) (p1 : Int32) (p2 : Int32) (p3 : Int32) (p4 : Int32) (r : Int32) (c_g1 : Int32) (c_F0 : (Nat → Int32)) (hr : f_feed g F p0 p1 p2 p3 p4 = some (r, c_g1, c_F0)) : Met l yX12_feed vmX12_feed ({ frames := 2, cells := 0, slots := 0, locals := 60 } : Room) (va_Pc [.ref h0, .int p0, .int p1, .int p2, .int p3, .int p4] (fun U => U.heap.size = sz ∧ va_P (dC, dI) vwCl (mW h0 kB kI kZ q g F) U.heap ∧ va_K (dC, dI) vwCl (mT kB kI kZ) U ∧ va_D (fun _ => True) (mW h0 kB kI kZ q g F))) (va_Qi (fun (rz : Int32) (_ : Unit) => rz = r) (fun _ t => va_P (dC, dI) vwCl (mW h0 kB kI kZ q (upd g 1 c_g1) (upF F 0 c_F0)) t.heap ∧ va_K (dC, dI) vwCl (mT kB kI kZ) t ∧ va_D (va_A (mW h0 kB kI kZ q g F) sz) (mW h0 kB kI kZ q (upd g 1 c_g1) (upF F 0 c_F0))) (va_A (mW h0 kB kI kZ q g F) sz)) 0 0 (va_A (mW h0 kB kI kZ q g F) sz) := by
  refine Met.ofW (cc := cX12_feed) (maxL := 9) (ret := (some .int)) (by decide) rfl ?_
  intro p e s m args below meth c s₁ B hml hv
  obtain ⟨rfl, hsz, hP, hK, hD0⟩ := hv
  have hx := B.exec
  have hb := B.bytes
  have hrt := B.returns
  have hts := atoms_spec (ws := vmX12_feed) B.pre
  have hown : s.vm.findClass RX12 = some m.cls := findClass_of_methodNamed B.named
  subst hsz
  have hD := hD0.self (sz := s.heap.size)
  generalize hAe : va_A (mW h0 kB kI kZ q g F) s.heap.size = A at hD ⊢
  have hA : ∀ q : Nat, s.heap.size ≤ q → A q := fun q h => by rw [← hAe]; exact Or.inr h
  have hS : va_S A s.heap s.heap [] := va_S.rf
  have hl := lv_entry ([.ref h0, .int p0, .int p1, .int p2, .int p3, .int p4]) (n := 9) (Nat.le_of_ble_eq_true rfl)
  rw [lg_entry_eq]
  generalize (lg_sl ([.ref h0, .int p0, .int p1, .int p2, .int p3, .int p4]) ++ List.replicate (9 - (lg_sl ([.ref h0, .int p0, .int p1, .int p2, .int p3, .int p4])).length) Slot.unset).toArray = ls at hl ⊢
  exact bm_feed p0 p1 p2 p3 p4 r c_g1 c_F0 hr hx hb hml hown hts hA hK hP hD hS hl (fun pc ls rz c_g1z c_F0z H locs he hd hP hD hS => by cases he; exact W.iret (v := r) hx hb hrt (fun t ht hW => ⟨⟨r, (), rfl, rfl, by rw [ht]; exact hP, va_K.moved hW.alike hK, hD⟩, hS.F ht⟩) hS.2.2 hd)
set_option maxHeartbeats 4000000 in
set_option maxRecDepth 100000 in
theorem bm_end {p : Program} {l : Launch} {e : Env} {s : State} {m : MethodId} {args : Array Value} {below : List Frame} {meth : Method} {c : Code} {Q : State → Prop} {A : Nat → Prop} {dC : Nat → ClassId} {dI : Nat → Nat → Nat} {h0 : Nat} {kB kI kZ : ClassId} {q : Nat → Nat} {g : Nat → Int32} {F : Nat → Nat → Int32} {H : Heap} {locs : List Loc} {ls : Array Slot} (p0 : Int32) (r : Int32) (c_g1 : Int32) (hr : f_end g F p0 = some (r, c_g1)) (hx : p.tables.exec = Jvm.exec) (hb : c.code = cX12_end) (hml : c.maxLocals = 2) (hown : s.vm.findClass RX12 = some m.cls) (hts : ∀ w ∈ vmX12_end, w.before args s = true) (hA : ∀ q : Nat, s.heap.size ≤ q → A q) (hK : va_K (dC, dI) vwCl (mT kB kI kZ) s) (hP : va_P (dC, dI) vwCl (mW h0 kB kI kZ q g F) H) (hD : va_D A (mW h0 kB kI kZ q g F)) (hS : va_S A s.heap H locs) (hl : lv_has ls 2 [(0, .ref h0), (1, .int p0)])
    (K : ∀ (pc : Nat) (ls : Array Slot) (rz : Int32) (c_g1z : Int32) (H : Heap) (locs : List Loc), some (rz, c_g1z) = some (r, c_g1) → decode cX12_end pc = .ok (.ireturn, 1) → va_P (dC, dI) vwCl (mW h0 kB kI kZ q (upd g 1 c_g1z) F) H → va_D A (mW h0 kB kI kZ q (upd g 1 c_g1z) F) → va_S A s.heap H locs → W p l e ({ frames := 2, cells := 0, slots := 0, locals := 60 } : Room) s m args below meth c H locs 0 0 Q (F0 m pc ls [.int rz])) : W p l e ({ frames := 2, cells := 0, slots := 0, locals := 60 } : Room) s m args below meth c H locs 0 0 Q (F0 m 0 ls []) := by
  unfold f_end at hr
  refine lv_iload_n hx hb dX12_end_0 rfl (lv_at hl 1 rfl) ?_
  replace hr := jnS hr
  obtain ⟨j12, hj12, hr⟩ := hr
  have Jj12 : ∀ (H : Heap) (locs : List Loc) (ls : Array Slot), j12 () = some (r, c_g1) → va_P (dC, dI) vwCl (mW h0 kB kI kZ q g F) H → va_D A (mW h0 kB kI kZ q g F) → va_S A s.heap H locs → lv_has ls 2 [] → W p l e ({ frames := 2, cells := 0, slots := 0, locals := 60 } : Room) s m args below meth c H locs 0 0 Q (F0 m 12 ls []) := by
    intro H locs ls hr hP hD hS hl
    rw [hj12] at hr
    refine lv_iconst (v := (-1)) hx hb dX12_end_12 (by decide +kernel) ?_
    first | exact K 13 ls _ _ H _ hr dX12_end_13 (sP_eq (mW_cg (by repeat (first | with_reducible rfl | with_reducible refine upd_cg ?_ | refine Eq.trans ?_ (upd_id rfl))) (by repeat (first | with_reducible rfl | with_reducible refine upF_cg ?_ | refine Eq.trans ?_ (upF_id rfl)))) hP) (sD_eq (mW_cg (by repeat (first | with_reducible rfl | with_reducible refine upd_cg ?_ | refine Eq.trans ?_ (upd_id rfl))) (by repeat (first | with_reducible rfl | with_reducible refine upF_cg ?_ | refine Eq.trans ?_ (upF_id rfl)))) hD) hS | exact K 13 ls _ _ H _ hr dX12_end_13 hP hD hS
  refine lv_if_lt (tgt := 12) hx hb dX12_end_1 (by decide) (fun c1 => ?_) (fun c1 => ?_)
  · replace hr := iteT c1 hr
    exact Jj12 H _ ls hr hP hD hS (lv_sub hl [] rfl)
  · replace hr := iteF c1 hr
    refine lv_iload_n hx hb dX12_end_4 rfl (lv_at hl 1 rfl) ?_
    refine lv_aload_n hx hb dX12_end_5 rfl (lv_at hl 0 rfl) ?_
    refine va_get (D := (dC, dI)) (ci := 12) (v := .int (g 1)) (C := RX12) (T := TX12) (N := 71) hx hb hts inX12 hown hK hP 0 rfl rfl 1 (by decide) (hts (.fieldLink RX12 152 "SpellTurnerModel" "taped" "I") im_45) (fun _ h9 => h9) rfl dX12_end_6 ?_
    refine lv_icmp_le (tgt := 14) hx hb dX12_end_9 (by decide) (fun c9 => ?_) (fun c9 => ?_)
    · replace hr := iteT c9 hr
      refine lv_aload_n hx hb dX12_end_14 rfl (lv_at hl 0 rfl) ?_
      refine lv_iload_n hx hb dX12_end_15 rfl (lv_at hl 1 rfl) ?_
      refine va_put (D := (dC, dI)) (ci := 12) (v := .int p0) (ty := .int) (C := RX12) (T := TX12) (N := 71) hx hb hts inX12 tyX12 tyX12_ok nmX12 hown hK hP hD hS 0 rfl rfl 1 (by decide) (hts (.fieldLink RX12 152 "SpellTurnerModel" "taped" "I") im_45) (fun _ h9 => h9) rfl (by decide +kernel) rfl rfl (Nat.le_of_ble_eq_true rfl) dX12_end_16 (fun H locs hP hD hS => ?_)
      have hP : va_P (dC, dI) vwCl (mW h0 kB kI kZ q (upd g 1 p0) F) H := by first | exact sP_g1 hP rfl | exact sP_g1 hP upd_same | exact hP
      have hD : va_D A (mW h0 kB kI kZ q (upd g 1 p0) F) := by first | exact sD_g1 hD rfl | exact sD_g1 hD upd_same | exact hD
      refine lv_iload_n hx hb dX12_end_19 rfl (lv_at hl 1 rfl) ?_
      first | exact K 20 ls _ _ H _ hr dX12_end_20 (sP_eq (mW_cg (by repeat (first | with_reducible rfl | with_reducible refine upd_cg ?_ | refine Eq.trans ?_ (upd_id rfl))) (by repeat (first | with_reducible rfl | with_reducible refine upF_cg ?_ | refine Eq.trans ?_ (upF_id rfl)))) hP) (sD_eq (mW_cg (by repeat (first | with_reducible rfl | with_reducible refine upd_cg ?_ | refine Eq.trans ?_ (upd_id rfl))) (by repeat (first | with_reducible rfl | with_reducible refine upF_cg ?_ | refine Eq.trans ?_ (upF_id rfl)))) hD) hS | exact K 20 ls _ _ H _ hr dX12_end_20 hP hD hS
    · replace hr := iteF c9 hr
      exact Jj12 H _ ls hr hP hD hS (lv_sub hl [] rfl)
set_option maxHeartbeats 4000000 in
set_option maxRecDepth 100000 in
theorem m_end (l : Launch) (dC : Nat → ClassId) (dI : Nat → Nat → Nat) (sz : Nat) (h0 : Nat) (kB kI kZ : ClassId) (q : Nat → Nat) (g : Nat → Int32) (F : Nat → Nat → Int32) (p0 : Int32) (r : Int32) (c_g1 : Int32) (hr : f_end g F p0 = some (r, c_g1)) : Met l yX12_end vmX12_end ({ frames := 2, cells := 0, slots := 0, locals := 60 } : Room) (va_Pc [.ref h0, .int p0] (fun U => U.heap.size = sz ∧ va_P (dC, dI) vwCl (mW h0 kB kI kZ q g F) U.heap ∧ va_K (dC, dI) vwCl (mT kB kI kZ) U ∧ va_D (fun _ => True) (mW h0 kB kI kZ q g F))) (va_Qi (fun (rz : Int32) (_ : Unit) => rz = r) (fun _ t => va_P (dC, dI) vwCl (mW h0 kB kI kZ q (upd g 1 c_g1) F) t.heap ∧ va_K (dC, dI) vwCl (mT kB kI kZ) t ∧ va_D (va_A (mW h0 kB kI kZ q g F) sz) (mW h0 kB kI kZ q (upd g 1 c_g1) F)) (va_A (mW h0 kB kI kZ q g F) sz)) 0 0 (va_A (mW h0 kB kI kZ q g F) sz) := by
  refine Met.ofW (cc := cX12_end) (maxL := 2) (ret := (some .int)) (by decide) rfl ?_
  intro p e s m args below meth c s₁ B hml hv
  obtain ⟨rfl, hsz, hP, hK, hD0⟩ := hv
  have hx := B.exec
  have hb := B.bytes
  have hrt := B.returns
  have hts := atoms_spec (ws := vmX12_end) B.pre
  have hown : s.vm.findClass RX12 = some m.cls := findClass_of_methodNamed B.named
  subst hsz
  have hD := hD0.self (sz := s.heap.size)
  generalize hAe : va_A (mW h0 kB kI kZ q g F) s.heap.size = A at hD ⊢
  have hA : ∀ q : Nat, s.heap.size ≤ q → A q := fun q h => by rw [← hAe]; exact Or.inr h
  have hS : va_S A s.heap s.heap [] := va_S.rf
  have hl := lv_entry ([.ref h0, .int p0]) (n := 2) (Nat.le_of_ble_eq_true rfl)
  rw [lg_entry_eq]
  generalize (lg_sl ([.ref h0, .int p0]) ++ List.replicate (2 - (lg_sl ([.ref h0, .int p0])).length) Slot.unset).toArray = ls at hl ⊢
  exact bm_end p0 r c_g1 hr hx hb hml hown hts hA hK hP hD hS hl (fun pc ls rz c_g1z H locs he hd hP hD hS => by cases he; exact W.iret (v := r) hx hb hrt (fun t ht hW => ⟨⟨r, (), rfl, rfl, by rw [ht]; exact hP, va_K.moved hW.alike hK, hD⟩, hS.F ht⟩) hS.2.2 hd)
set_option maxHeartbeats 4000000 in
set_option maxRecDepth 100000 in
theorem bm_sameBytes_32_32 {p : Program} {l : Launch} {e : Env} {s : State} {m : MethodId} {args : Array Value} {below : List Frame} {meth : Method} {c : Code} {Q : State → Prop} {A : Nat → Prop} {dC : Nat → ClassId} {dI : Nat → Nat → Nat} {h0 : Nat} {kB kI kZ : ClassId} {q : Nat → Nat} {g : Nat → Int32} {F : Nat → Nat → Int32} {H : Heap} {locs : List Loc} {ls : Array Slot} (p1 : Int32) (p2 : Int32) (p4 : Int32) (p5 : Int32) (r : Int32) (hr : f_sameBytes (F 32) 720 p1 p2 (F 32) 720 p4 p5 = some r) (hx : p.tables.exec = Jvm.exec) (hb : c.code = cX12_sameBytes) (hml : c.maxLocals = 7) (hown : s.vm.findClass RX12 = some m.cls) (hts : ∀ w ∈ vmX12_sameBytes, w.before args s = true) (hA : ∀ q : Nat, s.heap.size ≤ q → A q) (hK : va_K (dC, dI) vwCl (mT kB kI kZ) s) (hP : va_P (dC, dI) vwCl (mW h0 kB kI kZ q g F) H) (hD : va_D A (mW h0 kB kI kZ q g F)) (hS : va_S A s.heap H locs) (hl : lv_has ls 7 [(0, .ref (q 32)), (1, .int p1), (2, .int p2), (3, .ref (q 32)), (4, .int p4), (5, .int p5)])
    (K : ∀ (pc : Nat) (ls : Array Slot) (rz : Int32) (H : Heap) (locs : List Loc), some rz = some r → is01 rz → decode cX12_sameBytes pc = .ok (.ireturn, 1) → va_P (dC, dI) vwCl (mW h0 kB kI kZ q g F) H → va_D A (mW h0 kB kI kZ q g F) → va_S A s.heap H locs → W p l e ({ frames := 2, cells := 0, slots := 0, locals := 60 } : Room) s m args below meth c H locs 0 0 Q (F0 m pc ls [.int rz])) : W p l e ({ frames := 2, cells := 0, slots := 0, locals := 60 } : Room) s m args below meth c H locs 0 0 Q (F0 m 0 ls []) := by
  unfold f_sameBytes at hr
  refine lv_iload_n hx hb dX12_sameBytes_0 rfl (lv_at hl 2 rfl) ?_
  refine lv_iload hx hb dX12_sameBytes_1 (lv_at hl 5 rfl) ?_
  refine lv_icmp_eq (tgt := 8) hx hb dX12_sameBytes_3 (by decide) (fun c3 => ?_) (fun c3 => ?_)
  · replace hr := iteT c3 hr
    refine lv_iconst (v := 0) hx hb dX12_sameBytes_8 (by decide +kernel) ?_
    refine lv_istore (lv' := [(6, .int 0), (0, .ref (q 32)), (1, .int p1), (2, .int p2), (3, .ref (q 32)), (4, .int p4), (5, .int p5)]) hx hb dX12_sameBytes_9 hl (by decide) rfl (fun ls hl => ?_)
    have lp11 : ∀ (n11 : Nat) (y11_6 : Int32) (H : Heap) (locs : List Loc) (ls : Array Slot), L_sameBytes_11 (F 32) 720 p1 p2 (F 32) 720 p4 n11 y11_6 = some r → va_P (dC, dI) vwCl (mW h0 kB kI kZ q g F) H → va_D A (mW h0 kB kI kZ q g F) → va_S A s.heap H locs → lv_has ls 7 [(0, .ref (q 32)), (1, .int p1), (2, .int p2), (3, .ref (q 32)), (4, .int p4), (6, .int y11_6)] → W p l e ({ frames := 2, cells := 0, slots := 0, locals := 60 } : Room) s m args below meth c H locs 0 0 Q (F0 m 11 ls []) := by
      intro n11
      induction n11 with
      | zero => intro y11_6 H locs ls hr; exact nomatch (show none = some r from hr)
      | succ n11 ih11 =>
        intro y11_6 H locs ls hr hP hD hS hl
        replace hr : B_sameBytes_11 (F 32) 720 p1 p2 (F 32) 720 p4 (L_sameBytes_11 (F 32) 720 p1 p2 (F 32) 720 p4 n11) y11_6 = some r := hr
        unfold B_sameBytes_11 at hr
        refine lv_iload hx hb dX12_sameBytes_11 (lv_at hl 5 rfl) ?_
        refine lv_iload_n hx hb dX12_sameBytes_13 rfl (lv_at hl 2 rfl) ?_
        refine lv_icmp_ge (tgt := 41) hx hb dX12_sameBytes_14 (by decide) (fun c14 => ?_) (fun c14 => ?_)
        · replace hr := iteT c14 hr
          refine lv_iconst (v := 1) hx hb dX12_sameBytes_41 (by decide +kernel) ?_
          exact K 42 ls _ H _ hr (by decide) dX12_sameBytes_42 hP hD hS
        · replace hr := iteF c14 hr
          refine lv_aload_n hx hb dX12_sameBytes_17 rfl (lv_at hl 0 rfl) ?_
          refine lv_iload_n hx hb dX12_sameBytes_18 rfl (lv_at hl 1 rfl) ?_
          refine lv_iload hx hb dX12_sameBytes_19 (lv_at hl 5 rfl) ?_
          refine lv_iadd hx hb dX12_sameBytes_21 ?_
          replace hr := iteS hr
          obtain ⟨hi22, hr⟩ := hr
          refine va_bald (f := (F 32)) hx hb hK hP 21 0 rfl rfl (inbV hi22) dX12_sameBytes_22 ?_
          refine lv_aload_n hx hb dX12_sameBytes_23 rfl (lv_at hl 3 rfl) ?_
          refine lv_iload hx hb dX12_sameBytes_24 (lv_at hl 4 rfl) ?_
          refine lv_iload hx hb dX12_sameBytes_26 (lv_at hl 5 rfl) ?_
          refine lv_iadd hx hb dX12_sameBytes_28 ?_
          replace hr := iteS hr
          obtain ⟨hi29, hr⟩ := hr
          refine va_bald (f := (F 32)) hx hb hK hP 21 0 rfl rfl (inbV hi29) dX12_sameBytes_29 ?_
          refine lv_icmp_eq (tgt := 35) hx hb dX12_sameBytes_30 (by decide) (fun c30 => ?_) (fun c30 => ?_)
          · replace hr := iteT c30 hr
            refine lv_iinc (v := (y11_6 + 1)) (lv' := [(6, .int (y11_6 + 1)), (0, .ref (q 32)), (1, .int p1), (2, .int p2), (3, .ref (q 32)), (4, .int p4)]) hx hb dX12_sameBytes_35 hl (k := 5) rfl rfl (by decide) rfl (fun ls hl => ?_)
            refine lv_goto (tgt := 11) hx hb dX12_sameBytes_38 (by decide) ?_
            exact ih11 (y11_6 + 1) H _ ls hr hP hD hS (lv_sub hl [1, 2, 3, 4, 5, 0] rfl)
          · replace hr := iteF c30 hr
            refine lv_iconst (v := 0) hx hb dX12_sameBytes_33 (by decide +kernel) ?_
            exact K 34 ls _ H _ hr (by decide) dX12_sameBytes_34 hP hD hS
    exact lp11 NN 0 H _ ls hr hP hD hS (lv_sub hl [1, 2, 3, 4, 5, 0] rfl)
  · replace hr := iteF c3 hr
    refine lv_iconst (v := 0) hx hb dX12_sameBytes_6 (by decide +kernel) ?_
    exact K 7 ls _ H _ hr (by decide) dX12_sameBytes_7 hP hD hS
set_option maxHeartbeats 4000000 in
set_option maxRecDepth 100000 in
theorem m_sameBytes_32_32 (l : Launch) (dC : Nat → ClassId) (dI : Nat → Nat → Nat) (sz : Nat) (h0 : Nat) (kB kI kZ : ClassId) (q : Nat → Nat) (g : Nat → Int32) (F : Nat → Nat → Int32) (p1 : Int32) (p2 : Int32) (p4 : Int32) (p5 : Int32) (r : Int32) (hr : f_sameBytes (F 32) 720 p1 p2 (F 32) 720 p4 p5 = some r) : Met l yX12_sameBytes vmX12_sameBytes ({ frames := 2, cells := 0, slots := 0, locals := 60 } : Room) (va_Pc [.ref (q 32), .int p1, .int p2, .ref (q 32), .int p4, .int p5] (fun U => U.heap.size = sz ∧ va_P (dC, dI) vwCl (mW h0 kB kI kZ q g F) U.heap ∧ va_K (dC, dI) vwCl (mT kB kI kZ) U ∧ va_D (fun _ => True) (mW h0 kB kI kZ q g F))) (va_Qi (fun (rz : Int32) (_ : Unit) => rz = r) (fun _ t => va_P (dC, dI) vwCl (mW h0 kB kI kZ q g F) t.heap ∧ va_K (dC, dI) vwCl (mT kB kI kZ) t ∧ va_D (va_A (mW h0 kB kI kZ q g F) sz) (mW h0 kB kI kZ q g F)) (va_A (mW h0 kB kI kZ q g F) sz)) 0 0 (va_A (mW h0 kB kI kZ q g F) sz) := by
  refine Met.ofW (cc := cX12_sameBytes) (maxL := 7) (ret := (some .boolean)) (by decide) rfl ?_
  intro p e s m args below meth c s₁ B hml hv
  obtain ⟨rfl, hsz, hP, hK, hD0⟩ := hv
  have hx := B.exec
  have hb := B.bytes
  have hrt := B.returns
  have hts := atoms_spec (ws := vmX12_sameBytes) B.pre
  have hown : s.vm.findClass RX12 = some m.cls := findClass_of_methodNamed B.named
  subst hsz
  have hD := hD0.self (sz := s.heap.size)
  generalize hAe : va_A (mW h0 kB kI kZ q g F) s.heap.size = A at hD ⊢
  have hA : ∀ q : Nat, s.heap.size ≤ q → A q := fun q h => by rw [← hAe]; exact Or.inr h
  have hS : va_S A s.heap s.heap [] := va_S.rf
  have hl := lv_entry ([.ref (q 32), .int p1, .int p2, .ref (q 32), .int p4, .int p5]) (n := 7) (Nat.le_of_ble_eq_true rfl)
  rw [lg_entry_eq]
  generalize (lg_sl ([.ref (q 32), .int p1, .int p2, .ref (q 32), .int p4, .int p5]) ++ List.replicate (7 - (lg_sl ([.ref (q 32), .int p1, .int p2, .ref (q 32), .int p4, .int p5])).length) Slot.unset).toArray = ls at hl ⊢
  exact bm_sameBytes_32_32 p1 p2 p4 p5 r hr hx hb hml hown hts hA hK hP hD hS hl (fun pc ls rz H locs he hz hd hP hD hS => by cases he; exact W.zret (v := r) hx hb hrt (z_nb hz) (fun t ht hW => ⟨⟨r, (), rfl, rfl, by rw [ht]; exact hP, va_K.moved hW.alike hK, hD⟩, hS.F ht⟩) hS.2.2 hd)
set_option maxHeartbeats 4000000 in
set_option maxRecDepth 100000 in
theorem bm_takeWord_0 {p : Program} {l : Launch} {e : Env} {s : State} {m : MethodId} {args : Array Value} {below : List Frame} {meth : Method} {c : Code} {Q : State → Prop} {A : Nat → Prop} {dC : Nat → ClassId} {dI : Nat → Nat → Nat} {h0 : Nat} {kB kI kZ : ClassId} {q : Nat → Nat} {g : Nat → Int32} {F : Nat → Nat → Int32} {H : Heap} {locs : List Loc} {ls : Array Slot} (p1 : Int32) (p2 : Int32) (c_g23 : Int32) (c_F22 : (Nat → Int32)) (hr : f_takeWord g F (F 0) 2000 p1 p2 = some (c_g23, c_F22)) (hx : p.tables.exec = Jvm.exec) (hb : c.code = cX12_takeWord) (hml : c.maxLocals = 5) (hown : s.vm.findClass RX12 = some m.cls) (hts : ∀ w ∈ vmX12_takeWord, w.before args s = true) (hA : ∀ q : Nat, s.heap.size ≤ q → A q) (hK : va_K (dC, dI) vwCl (mT kB kI kZ) s) (hP : va_P (dC, dI) vwCl (mW h0 kB kI kZ q g F) H) (hD : va_D A (mW h0 kB kI kZ q g F)) (hS : va_S A s.heap H locs) (hl : lv_has ls 5 [(0, .ref h0), (1, .ref (q 0)), (2, .int p1), (3, .int p2)])
    (K : ∀ (pc : Nat) (ls : Array Slot) (c_g23z : Int32) (c_F22z : (Nat → Int32)) (H : Heap) (locs : List Loc), some (c_g23z, c_F22z) = some (c_g23, c_F22) → decode cX12_takeWord pc = .ok (.return_, 1) → va_P (dC, dI) vwCl (mW h0 kB kI kZ q (upd g 23 c_g23z) (upF F 22 c_F22z)) H → va_D A (mW h0 kB kI kZ q (upd g 23 c_g23z) (upF F 22 c_F22z)) → va_S A s.heap H locs → W p l e ({ frames := 2, cells := 0, slots := 0, locals := 60 } : Room) s m args below meth c H locs 0 0 Q (F0 m pc ls [])) : W p l e ({ frames := 2, cells := 0, slots := 0, locals := 60 } : Room) s m args below meth c H locs 0 0 Q (F0 m 0 ls []) := by
  unfold f_takeWord at hr
  refine lv_iconst (v := 0) hx hb dX12_takeWord_0 (by decide +kernel) ?_
  refine lv_istore (lv' := [(4, .int 0), (0, .ref h0), (1, .ref (q 0)), (2, .int p1), (3, .int p2)]) hx hb dX12_takeWord_1 hl (by decide) rfl (fun ls hl => ?_)
  have lp3 : ∀ (n3 : Nat) (y3_4 : Int32) (d3_F22 : (Nat → Int32)) (H : Heap) (locs : List Loc) (ls : Array Slot), L_takeWord_3 (F 0) 2000 p1 p2 n3 y3_4 d3_F22 = some (c_g23, c_F22) → va_P (dC, dI) vwCl (mW h0 kB kI kZ q g (upF F 22 d3_F22)) H → va_D A (mW h0 kB kI kZ q g (upF F 22 d3_F22)) → va_S A s.heap H locs → lv_has ls 5 [(0, .ref h0), (1, .ref (q 0)), (2, .int p1), (3, .int p2), (4, .int y3_4)] → W p l e ({ frames := 2, cells := 0, slots := 0, locals := 60 } : Room) s m args below meth c H locs 0 0 Q (F0 m 3 ls []) := by
    intro n3
    induction n3 with
    | zero => intro y3_4 d3_F22 H locs ls hr; exact nomatch (show none = some (c_g23, c_F22) from hr)
    | succ n3 ih3 =>
      intro y3_4 d3_F22 H locs ls hr hP hD hS hl
      replace hr : B_takeWord_3 (F 0) 2000 p1 p2 (L_takeWord_3 (F 0) 2000 p1 p2 n3) y3_4 d3_F22 = some (c_g23, c_F22) := hr
      unfold B_takeWord_3 at hr
      refine lv_iload hx hb dX12_takeWord_3 (lv_at hl 4 rfl) ?_
      refine lv_iload_n hx hb dX12_takeWord_5 rfl (lv_at hl 3 rfl) ?_
      refine lv_icmp_ge (tgt := 28) hx hb dX12_takeWord_6 (by decide) (fun c6 => ?_) (fun c6 => ?_)
      · replace hr := iteT c6 hr
        refine lv_aload_n hx hb dX12_takeWord_28 rfl (lv_at hl 0 rfl) ?_
        refine lv_iload_n hx hb dX12_takeWord_29 rfl (lv_at hl 3 rfl) ?_
        refine va_put (D := (dC, dI)) (ci := 12) (v := .int p2) (ty := .int) (C := RX12) (T := TX12) (N := 71) hx hb hts inX12 tyX12 tyX12_ok nmX12 hown hK hP hD hS 0 rfl rfl 23 (by decide) (hts (.fieldLink RX12 244 "SpellTurnerModel" "letters" "I") im_49) (fun _ h9 => h9) rfl (by decide +kernel) rfl rfl (Nat.le_of_ble_eq_true rfl) dX12_takeWord_30 (fun H locs hP hD hS => ?_)
        have hP : va_P (dC, dI) vwCl (mW h0 kB kI kZ q (upd g 23 p2) (upF F 22 d3_F22)) H := by first | exact sP_g23 hP rfl | exact sP_g23 hP upd_same | exact hP
        have hD : va_D A (mW h0 kB kI kZ q (upd g 23 p2) (upF F 22 d3_F22)) := by first | exact sD_g23 hD rfl | exact sD_g23 hD upd_same | exact hD
        first | exact K 33 ls _ _ H _ hr dX12_takeWord_33 (sP_eq (mW_cg (by repeat (first | with_reducible rfl | with_reducible refine upd_cg ?_ | refine Eq.trans ?_ (upd_id rfl))) (by repeat (first | with_reducible rfl | with_reducible refine upF_cg ?_ | refine Eq.trans ?_ (upF_id rfl)))) hP) (sD_eq (mW_cg (by repeat (first | with_reducible rfl | with_reducible refine upd_cg ?_ | refine Eq.trans ?_ (upd_id rfl))) (by repeat (first | with_reducible rfl | with_reducible refine upF_cg ?_ | refine Eq.trans ?_ (upF_id rfl)))) hD) hS | exact K 33 ls _ _ H _ hr dX12_takeWord_33 hP hD hS
      · replace hr := iteF c6 hr
        refine lv_aload_n hx hb dX12_takeWord_9 rfl (lv_at hl 0 rfl) ?_
        refine va_get (D := (dC, dI)) (ci := 12) (v := .ref (q 22)) (C := RX12) (T := TX12) (N := 71) hx hb hts inX12 hown hK hP 0 rfl rfl 22 (by decide) (hts (.fieldLink RX12 55 "SpellTurnerModel" "word" "[B") im_50) (fun _ h9 => h9) rfl dX12_takeWord_10 ?_
        refine lv_iload hx hb dX12_takeWord_13 (lv_at hl 4 rfl) ?_
        refine lv_aload_n hx hb dX12_takeWord_15 rfl (lv_at hl 1 rfl) ?_
        refine lv_iload_n hx hb dX12_takeWord_16 rfl (lv_at hl 2 rfl) ?_
        refine lv_iload hx hb dX12_takeWord_17 (lv_at hl 4 rfl) ?_
        refine lv_iadd hx hb dX12_takeWord_19 ?_
        replace hr := iteS hr
        obtain ⟨hi20, hr⟩ := hr
        refine va_bald (f := (F 0)) hx hb hK hP 1 0 rfl rfl (inbV hi20) dX12_takeWord_20 ?_
        replace hr := iteS hr
        obtain ⟨hi21, hr⟩ := hr
        refine va_bast (f := d3_F22) hx hb hK hP hD hS 14 0 rfl rfl (inbV hi21) dX12_takeWord_21 (fun H locs hP hD hS => ?_)
        obtain ⟨w21, ew21, hP, hD⟩ : ∃ w21 : Nat → Int32, w21 = (upd d3_F22 (Int32.toNatClampNeg y3_4) (vp_nar .byte ((F 0) (Int32.toNatClampNeg (p1 + y3_4))))) ∧ va_P (dC, dI) vwCl (mW h0 kB kI kZ q g (upF F 22 w21)) H ∧ va_D A (mW h0 kB kI kZ q g (upF F 22 w21)) := ⟨(upd d3_F22 (Int32.toNatClampNeg y3_4) (vp_nar .byte ((F 0) (Int32.toNatClampNeg (p1 + y3_4))))), rfl, by first | exact sP_F22 hP upF_same | exact sP_F22 hP rfl | exact hP, by first | exact sD_F22 hD upF_same | exact sD_F22 hD rfl | exact hD⟩
        replace hr := vlS hr w21 ew21
        clear ew21
        refine lv_iinc (v := (y3_4 + 1)) (lv' := [(4, .int (y3_4 + 1)), (0, .ref h0), (1, .ref (q 0)), (2, .int p1), (3, .int p2)]) hx hb dX12_takeWord_22 hl (k := 4) rfl rfl (by decide) rfl (fun ls hl => ?_)
        refine lv_goto (tgt := 3) hx hb dX12_takeWord_25 (by decide) ?_
        exact ih3 (y3_4 + 1) w21 H _ ls hr hP hD hS (lv_sub hl [1, 2, 3, 4, 0] rfl)
  first | exact lp3 NN 0 (F 22) H _ ls hr (sP_eq (mW_cg (by repeat (first | with_reducible rfl | with_reducible refine upd_cg ?_ | refine Eq.trans ?_ (upd_id rfl))) (by repeat (first | with_reducible rfl | with_reducible refine upF_cg ?_ | refine Eq.trans ?_ (upF_id rfl)))) hP) (sD_eq (mW_cg (by repeat (first | with_reducible rfl | with_reducible refine upd_cg ?_ | refine Eq.trans ?_ (upd_id rfl))) (by repeat (first | with_reducible rfl | with_reducible refine upF_cg ?_ | refine Eq.trans ?_ (upF_id rfl)))) hD) hS (lv_sub hl [1, 2, 3, 4, 0] rfl) | exact lp3 NN 0 (F 22) H _ ls hr hP hD hS (lv_sub hl [1, 2, 3, 4, 0] rfl)
set_option maxHeartbeats 4000000 in
set_option maxRecDepth 100000 in
theorem m_takeWord_0 (l : Launch) (dC : Nat → ClassId) (dI : Nat → Nat → Nat) (sz : Nat) (h0 : Nat) (kB kI kZ : ClassId) (q : Nat → Nat) (g : Nat → Int32) (F : Nat → Nat → Int32) (p1 : Int32) (p2 : Int32) (c_g23 : Int32) (c_F22 : (Nat → Int32)) (hr : f_takeWord g F (F 0) 2000 p1 p2 = some (c_g23, c_F22)) : Met l yX12_takeWord vmX12_takeWord ({ frames := 2, cells := 0, slots := 0, locals := 60 } : Room) (va_Pc [.ref h0, .ref (q 0), .int p1, .int p2] (fun U => U.heap.size = sz ∧ va_P (dC, dI) vwCl (mW h0 kB kI kZ q g F) U.heap ∧ va_K (dC, dI) vwCl (mT kB kI kZ) U ∧ va_D (fun _ => True) (mW h0 kB kI kZ q g F))) (va_Qv (fun _ : Unit => True) (fun _ t => va_P (dC, dI) vwCl (mW h0 kB kI kZ q (upd g 23 c_g23) (upF F 22 c_F22)) t.heap ∧ va_K (dC, dI) vwCl (mT kB kI kZ) t ∧ va_D (va_A (mW h0 kB kI kZ q g F) sz) (mW h0 kB kI kZ q (upd g 23 c_g23) (upF F 22 c_F22))) (va_A (mW h0 kB kI kZ q g F) sz)) 0 0 (va_A (mW h0 kB kI kZ q g F) sz) := by
  refine Met.ofW (cc := cX12_takeWord) (maxL := 5) (ret := none) (by decide) rfl ?_
  intro p e s m args below meth c s₁ B hml hv
  obtain ⟨rfl, hsz, hP, hK, hD0⟩ := hv
  have hx := B.exec
  have hb := B.bytes
  have hrt := B.returns
  have hts := atoms_spec (ws := vmX12_takeWord) B.pre
  have hown : s.vm.findClass RX12 = some m.cls := findClass_of_methodNamed B.named
  subst hsz
  have hD := hD0.self (sz := s.heap.size)
  generalize hAe : va_A (mW h0 kB kI kZ q g F) s.heap.size = A at hD ⊢
  have hA : ∀ q : Nat, s.heap.size ≤ q → A q := fun q h => by rw [← hAe]; exact Or.inr h
  have hS : va_S A s.heap s.heap [] := va_S.rf
  have hl := lv_entry ([.ref h0, .ref (q 0), .int p1, .int p2]) (n := 5) (Nat.le_of_ble_eq_true rfl)
  rw [lg_entry_eq]
  generalize (lg_sl ([.ref h0, .ref (q 0), .int p1, .int p2]) ++ List.replicate (5 - (lg_sl ([.ref h0, .ref (q 0), .int p1, .int p2])).length) Slot.unset).toArray = ls at hl ⊢
  exact bm_takeWord_0 p1 p2 c_g23 c_F22 hr hx hb hml hown hts hA hK hP hD hS hl (fun pc ls c_g23z c_F22z H locs he hd hP hD hS => by cases he; exact W.vret hx hb hrt (fun t ht hW => ⟨⟨(), rfl, trivial, by rw [ht]; exact hP, va_K.moved hW.alike hK, hD⟩, hS.F ht⟩) hS.2.2 hd)
set_option maxHeartbeats 4000000 in
set_option maxRecDepth 100000 in
theorem bm_readWord {p : Program} {l : Launch} {e : Env} {s : State} {m : MethodId} {args : Array Value} {below : List Frame} {meth : Method} {c : Code} {Q : State → Prop} {A : Nat → Prop} {dC : Nat → ClassId} {dI : Nat → Nat → Nat} {h0 : Nat} {kB kI kZ : ClassId} {q : Nat → Nat} {g : Nat → Int32} {F : Nat → Nat → Int32} {H : Heap} {locs : List Loc} {ls : Array Slot} (r : Int32) (c_g1 : Int32) (c_g23 : Int32) (c_F22 : (Nat → Int32)) (hr : f_readWord g F = some (r, c_g1, c_g23, c_F22)) (hx : p.tables.exec = Jvm.exec) (hb : c.code = cX12_readWord) (hml : c.maxLocals = 3) (hown : s.vm.findClass RX12 = some m.cls) (hts : ∀ w ∈ vmX12_readWord, w.before args s = true) (hA : ∀ q : Nat, s.heap.size ≤ q → A q) (hK : va_K (dC, dI) vwCl (mT kB kI kZ) s) (hP : va_P (dC, dI) vwCl (mW h0 kB kI kZ q g F) H) (hD : va_D A (mW h0 kB kI kZ q g F)) (hS : va_S A s.heap H locs) (hl : lv_has ls 3 [(0, .ref h0)])
    (K : ∀ (pc : Nat) (ls : Array Slot) (rz : Int32) (c_g1z : Int32) (c_g23z : Int32) (c_F22z : (Nat → Int32)) (H : Heap) (locs : List Loc), some (rz, c_g1z, c_g23z, c_F22z) = some (r, c_g1, c_g23, c_F22) → is01 rz → decode cX12_readWord pc = .ok (.ireturn, 1) → va_P (dC, dI) vwCl (mW h0 kB kI kZ q (upd (upd g 1 c_g1z) 23 c_g23z) (upF F 22 c_F22z)) H → va_D A (mW h0 kB kI kZ q (upd (upd g 1 c_g1z) 23 c_g23z) (upF F 22 c_F22z)) → va_S A s.heap H locs → W p l e ({ frames := 3, cells := 0, slots := 0, locals := 84 } : Room) s m args below meth c H locs 0 0 Q (F0 m pc ls [.int rz])) : W p l e ({ frames := 3, cells := 0, slots := 0, locals := 84 } : Room) s m args below meth c H locs 0 0 Q (F0 m 0 ls []) := by
  unfold f_readWord at hr
  refine lv_aload_n hx hb dX12_readWord_0 rfl (lv_at hl 0 rfl) ?_
  refine va_get (D := (dC, dI)) (ci := 12) (v := .int (g 1)) (C := RX12) (T := TX12) (N := 71) hx hb hts inX12 hown hK hP 0 rfl rfl 1 (by decide) (hts (.fieldLink RX12 152 "SpellTurnerModel" "taped" "I") im_45) (fun _ h9 => h9) rfl dX12_readWord_1 ?_
  refine lv_istore_n (lv' := [(1, .int (g 1)), (0, .ref h0)]) hx hb dX12_readWord_4 rfl hl (by decide) rfl (fun ls hl => ?_)
  refine lv_aload_n hx hb dX12_readWord_5 rfl (lv_at hl 1 rfl) ?_
  refine lv_iconst (v := 0) hx hb dX12_readWord_6 (by decide +kernel) ?_
  refine va_put (D := (dC, dI)) (ci := 12) (v := .int 0) (ty := .int) (C := RX12) (T := TX12) (N := 71) hx hb hts inX12 tyX12 tyX12_ok nmX12 hown hK hP hD hS 0 rfl rfl 1 (by decide) (hts (.fieldLink RX12 152 "SpellTurnerModel" "taped" "I") im_45) (fun _ h9 => h9) rfl (by decide +kernel) rfl rfl (Nat.le_of_ble_eq_true rfl) dX12_readWord_7 (fun H locs hP hD hS => ?_)
  have hP : va_P (dC, dI) vwCl (mW h0 kB kI kZ q (upd g 1 0) F) H := by first | exact sP_g1 hP rfl | exact sP_g1 hP upd_same | exact hP
  have hD : va_D A (mW h0 kB kI kZ q (upd g 1 0) F) := by first | exact sD_g1 hD rfl | exact sD_g1 hD upd_same | exact hD
  refine lv_iload_n hx hb dX12_readWord_10 rfl (lv_at hl 0 rfl) ?_
  refine lv_iconst (v := 1) hx hb dX12_readWord_11 (by decide +kernel) ?_
  refine lv_bipush (v := 24) hx hb dX12_readWord_12 (by decide +kernel) ?_
  replace hr := b1S hr
  obtain ⟨r14z, hc14, hr⟩ := hr
  have hFc := fr_all hD hS hA
  refine va_calli (va_runS (As := [.int (g 1), .int 1, .int 24]) (rest := []) ⟨hx, hb, hml, hown, hts⟩ (m_in l dC dI H.size h0 kB kI kZ q (upd g 1 0) F (g 1) 1 24 r14z hc14) (va_cwS 3 hts gw_X12_in_226 rfl rfl rfl (by decide +kernel) ⟨Nat.le_of_ble_eq_true rfl, Nat.le_of_ble_eq_true rfl⟩) ⟨fun a U g mk q => by obtain ⟨q0, q1, qP, qK, qD⟩ := q; exact ⟨q0, q1, qP, va_K.moved (u := U) (U := U.calling g mk a) (Vm.Alike.refl U.vm) qK, qD⟩, fun U hU hW => ⟨rfl, by rw [hU], by rw [hU]; exact hP, va_K.moved hW.alike hK, hD.weaken (fun _ _ _ _ => trivial)⟩⟩ rfl rfl hl.1 rfl (lv_room (Nat.le_of_ble_eq_true rfl)) dX12_readWord_14 ⟨Nat.le_of_ble_eq_true rfl, Nat.le_of_ble_eq_true rfl⟩) hS (fun q _ h => hFc q h) hFc (fun r14 u t H1 locs ht hvm hw hB hz1 hk1 hS => ?_)
  replace hw : r14 = r14z := hw
  subst hw
  obtain ⟨hP1, hK1, hD1⟩ := hB
  rw [ht] at hP1
  obtain ⟨hP, hD⟩ := jn_all (w1 := (mW h0 kB kI kZ q (upd g 1 0) F)) hFc hP1 hD1
  clear hFc hP1 hK1 hD1 hk1 hz1 ht hvm
  generalize H1 = H at hP hS ⊢
  have hP : va_P (dC, dI) vwCl (mW h0 kB kI kZ q (upd g 1 0) F) H := hP
  have hD : va_D A (mW h0 kB kI kZ q (upd g 1 0) F) := hD
  refine lv_if_ne (tgt := 22) hx hb dX12_readWord_17 (by decide) (fun c17 => ?_) (fun c17 => ?_)
  · replace hr := iteF c17 hr
    refine lv_iconst (v := 0) hx hb dX12_readWord_22 (by decide +kernel) ?_
    refine lv_istore_n (lv' := [(2, .int 0), (1, .int (g 1)), (0, .ref h0)]) hx hb dX12_readWord_23 rfl hl (by decide) rfl (fun ls hl => ?_)
    have lp24 : ∀ (n24 : Nat) (y24_2 : Int32) (H : Heap) (locs : List Loc) (ls : Array Slot), L_readWord_24 g F n24 y24_2 = some (r, c_g1, c_g23, c_F22) → va_P (dC, dI) vwCl (mW h0 kB kI kZ q (upd g 1 0) F) H → va_D A (mW h0 kB kI kZ q (upd g 1 0) F) → va_S A s.heap H locs → lv_has ls 3 [(0, .ref h0), (1, .int (g 1)), (2, .int y24_2)] → W p l e ({ frames := 3, cells := 0, slots := 0, locals := 84 } : Room) s m args below meth c H locs 0 0 Q (F0 m 24 ls []) := by
      intro n24
      induction n24 with
      | zero => intro y24_2 H locs ls hr; exact nomatch (show none = some (r, c_g1, c_g23, c_F22) from hr)
      | succ n24 ih24 =>
        intro y24_2 H locs ls hr hP hD hS hl
        replace hr : B_readWord_24 g F (L_readWord_24 g F n24) y24_2 = some (r, c_g1, c_g23, c_F22) := hr
        unfold B_readWord_24 at hr
        refine lv_iload_n hx hb dX12_readWord_24 rfl (lv_at hl 2 rfl) ?_
        refine lv_iload_n hx hb dX12_readWord_25 rfl (lv_at hl 1 rfl) ?_
        refine lv_icmp_ge (tgt := 49) hx hb dX12_readWord_26 (by decide) (fun c26 => ?_) (fun c26 => ?_)
        · replace hr := iteT c26 hr
          refine lv_aload_n hx hb dX12_readWord_49 rfl (lv_at hl 0 rfl) ?_
          refine lv_aload_n hx hb dX12_readWord_50 rfl (lv_at hl 0 rfl) ?_
          refine va_get (D := (dC, dI)) (ci := 12) (v := .ref (q 0)) (C := RX12) (T := TX12) (N := 71) hx hb hts inX12 hown hK hP 0 rfl rfl 0 (by decide) (hts (.fieldLink RX12 7 "SpellTurnerModel" "tape" "[B") im_34) (fun _ h9 => h9) rfl dX12_readWord_51 ?_
          refine lv_iconst (v := 0) hx hb dX12_readWord_54 (by decide +kernel) ?_
          refine lv_iload_n hx hb dX12_readWord_55 rfl (lv_at hl 1 rfl) ?_
          replace hr := b2S hr
          obtain ⟨c56_g23, c56_F22, hc56, hr⟩ := hr
          have hFc := fr_all hD hS hA
          refine va_callv (va_runV (As := [.ref (q 0), .int 0, .int (g 1)]) (rest := []) ⟨hx, hb, hml, hown, hts⟩ (m_takeWord_0 l dC dI H.size h0 kB kI kZ q (upd g 1 0) F 0 (g 1) c56_g23 c56_F22 hc56) (cwV 3 hts gw_X12_takeWord_290 rfl rfl rfl (by decide +kernel) ⟨Nat.le_of_ble_eq_true rfl, Nat.le_of_ble_eq_true rfl⟩) ⟨fun a U g mk q => by obtain ⟨q0, q1, qP, qK, qD⟩ := q; exact ⟨q0, q1, qP, va_K.moved (u := U) (U := U.calling g mk a) (Vm.Alike.refl U.vm) qK, qD⟩, va_recv hK hP (ci := 12) (q0 := 0) rfl rfl, fun U hU hW => ⟨rfl, by rw [hU], by rw [hU]; exact hP, va_K.moved hW.alike hK, hD.weaken (fun _ _ _ _ => trivial)⟩⟩ rfl rfl hl.1 rfl (lv_room (Nat.le_of_ble_eq_true rfl)) dX12_readWord_56 ⟨Nat.le_of_ble_eq_true rfl, Nat.le_of_ble_eq_true rfl⟩) hS (fun q _ h => hFc q h) hFc (fun u t H1 locs ht hvm hw hB hz1 hk1 hS => ?_)
          obtain ⟨hP1, hK1, hD1⟩ := hB
          rw [ht] at hP1
          obtain ⟨hP, hD⟩ := jn_all (w1 := (mW h0 kB kI kZ q (upd (upd g 1 0) 23 c56_g23) (upF F 22 c56_F22))) hFc hP1 hD1
          clear hFc hP1 hK1 hD1 hk1 hz1 ht hvm
          generalize H1 = H at hP hS ⊢
          have hP : va_P (dC, dI) vwCl (mW h0 kB kI kZ q (upd (upd g 1 0) 23 c56_g23) (upF F 22 c56_F22)) H := hP
          have hD : va_D A (mW h0 kB kI kZ q (upd (upd g 1 0) 23 c56_g23) (upF F 22 c56_F22)) := hD
          refine lv_iconst (v := 1) hx hb dX12_readWord_59 (by decide +kernel) ?_
          first | exact K 60 ls _ _ _ _ H _ hr (by decide) dX12_readWord_60 (sP_eq (mW_cg (by repeat (first | with_reducible rfl | with_reducible refine upd_cg ?_ | refine Eq.trans ?_ (upd_id rfl))) (by repeat (first | with_reducible rfl | with_reducible refine upF_cg ?_ | refine Eq.trans ?_ (upF_id rfl)))) hP) (sD_eq (mW_cg (by repeat (first | with_reducible rfl | with_reducible refine upd_cg ?_ | refine Eq.trans ?_ (upd_id rfl))) (by repeat (first | with_reducible rfl | with_reducible refine upF_cg ?_ | refine Eq.trans ?_ (upF_id rfl)))) hD) hS | exact K 60 ls _ _ _ _ H _ hr (by decide) dX12_readWord_60 hP hD hS
        · replace hr := iteF c26 hr
          refine lv_aload_n hx hb dX12_readWord_29 rfl (lv_at hl 0 rfl) ?_
          refine va_get (D := (dC, dI)) (ci := 12) (v := .ref (q 0)) (C := RX12) (T := TX12) (N := 71) hx hb hts inX12 hown hK hP 0 rfl rfl 0 (by decide) (hts (.fieldLink RX12 7 "SpellTurnerModel" "tape" "[B") im_34) (fun _ h9 => h9) rfl dX12_readWord_30 ?_
          refine lv_iload_n hx hb dX12_readWord_33 rfl (lv_at hl 2 rfl) ?_
          replace hr := iteS hr
          obtain ⟨hi34, hr⟩ := hr
          refine va_bald (f := (F 0)) hx hb hK hP 1 0 rfl rfl (inbV hi34) dX12_readWord_34 ?_
          replace hr := b1S hr
          obtain ⟨r35z, hc35, hr⟩ := hr
          have hFc := fr_all hD hS hA
          refine va_calli (va_runS (As := [.int ((F 0) (Int32.toNatClampNeg y24_2))]) (rest := []) ⟨hx, hb, hml, hown, hts⟩ (m_isSmall l dC dI H.size h0 kB kI kZ q (upd g 1 0) F ((F 0) (Int32.toNatClampNeg y24_2)) r35z hc35) (va_cwS 1 hts gw_X12_isSmall_183 rfl rfl rfl (by decide +kernel) ⟨Nat.le_of_ble_eq_true rfl, Nat.le_of_ble_eq_true rfl⟩) ⟨fun a U g mk q => by obtain ⟨q0, q1, qP, qK, qD⟩ := q; exact ⟨q0, q1, qP, va_K.moved (u := U) (U := U.calling g mk a) (Vm.Alike.refl U.vm) qK, qD⟩, fun U hU hW => ⟨rfl, by rw [hU], by rw [hU]; exact hP, va_K.moved hW.alike hK, hD.weaken (fun _ _ _ _ => trivial)⟩⟩ rfl rfl hl.1 rfl (lv_room (Nat.le_of_ble_eq_true rfl)) dX12_readWord_35 ⟨Nat.le_of_ble_eq_true rfl, Nat.le_of_ble_eq_true rfl⟩) hS (fun q _ h => hFc q h) hFc (fun r35 u t H1 locs ht hvm hw hB hz1 hk1 hS => ?_)
          replace hw : r35 = r35z := hw
          subst hw
          obtain ⟨hP1, hK1, hD1⟩ := hB
          rw [ht] at hP1
          obtain ⟨hP, hD⟩ := jn_all (w1 := (mW h0 kB kI kZ q (upd g 1 0) F)) hFc hP1 hD1
          clear hFc hP1 hK1 hD1 hk1 hz1 ht hvm
          generalize H1 = H at hP hS ⊢
          have hP : va_P (dC, dI) vwCl (mW h0 kB kI kZ q (upd g 1 0) F) H := hP
          have hD : va_D A (mW h0 kB kI kZ q (upd g 1 0) F) := hD
          refine lv_if_ne (tgt := 43) hx hb dX12_readWord_38 (by decide) (fun c38 => ?_) (fun c38 => ?_)
          · replace hr := iteF c38 hr
            refine lv_iinc (v := (y24_2 + 1)) (lv' := [(2, .int (y24_2 + 1)), (0, .ref h0), (1, .int (g 1))]) hx hb dX12_readWord_43 hl (k := 2) rfl rfl (by decide) rfl (fun ls hl => ?_)
            refine lv_goto (tgt := 24) hx hb dX12_readWord_46 (by decide) ?_
            exact ih24 (y24_2 + 1) H _ ls hr hP hD hS (lv_sub hl [1, 2, 0] rfl)
          · replace hr := iteT c38 hr
            refine lv_iconst (v := 0) hx hb dX12_readWord_41 (by decide +kernel) ?_
            first | exact K 42 ls _ _ _ _ H _ hr (by decide) dX12_readWord_42 (sP_eq (mW_cg (by repeat (first | with_reducible rfl | with_reducible refine upd_cg ?_ | refine Eq.trans ?_ (upd_id rfl))) (by repeat (first | with_reducible rfl | with_reducible refine upF_cg ?_ | refine Eq.trans ?_ (upF_id rfl)))) hP) (sD_eq (mW_cg (by repeat (first | with_reducible rfl | with_reducible refine upd_cg ?_ | refine Eq.trans ?_ (upd_id rfl))) (by repeat (first | with_reducible rfl | with_reducible refine upF_cg ?_ | refine Eq.trans ?_ (upF_id rfl)))) hD) hS | exact K 42 ls _ _ _ _ H _ hr (by decide) dX12_readWord_42 hP hD hS
    exact lp24 NN 0 H _ ls hr hP hD hS (lv_sub hl [2, 1, 0] rfl)
  · replace hr := iteT c17 hr
    refine lv_iconst (v := 0) hx hb dX12_readWord_20 (by decide +kernel) ?_
    first | exact K 21 ls _ _ _ _ H _ hr (by decide) dX12_readWord_21 (sP_eq (mW_cg (by repeat (first | with_reducible rfl | with_reducible refine upd_cg ?_ | refine Eq.trans ?_ (upd_id rfl))) (by repeat (first | with_reducible rfl | with_reducible refine upF_cg ?_ | refine Eq.trans ?_ (upF_id rfl)))) hP) (sD_eq (mW_cg (by repeat (first | with_reducible rfl | with_reducible refine upd_cg ?_ | refine Eq.trans ?_ (upd_id rfl))) (by repeat (first | with_reducible rfl | with_reducible refine upF_cg ?_ | refine Eq.trans ?_ (upF_id rfl)))) hD) hS | exact K 21 ls _ _ _ _ H _ hr (by decide) dX12_readWord_21 hP hD hS
set_option maxHeartbeats 4000000 in
set_option maxRecDepth 100000 in
theorem m_readWord (l : Launch) (dC : Nat → ClassId) (dI : Nat → Nat → Nat) (sz : Nat) (h0 : Nat) (kB kI kZ : ClassId) (q : Nat → Nat) (g : Nat → Int32) (F : Nat → Nat → Int32) (r : Int32) (c_g1 : Int32) (c_g23 : Int32) (c_F22 : (Nat → Int32)) (hr : f_readWord g F = some (r, c_g1, c_g23, c_F22)) : Met l yX12_readWord vmX12_readWord ({ frames := 3, cells := 0, slots := 0, locals := 84 } : Room) (va_Pc [.ref h0] (fun U => U.heap.size = sz ∧ va_P (dC, dI) vwCl (mW h0 kB kI kZ q g F) U.heap ∧ va_K (dC, dI) vwCl (mT kB kI kZ) U ∧ va_D (fun _ => True) (mW h0 kB kI kZ q g F))) (va_Qi (fun (rz : Int32) (_ : Unit) => rz = r) (fun _ t => va_P (dC, dI) vwCl (mW h0 kB kI kZ q (upd (upd g 1 c_g1) 23 c_g23) (upF F 22 c_F22)) t.heap ∧ va_K (dC, dI) vwCl (mT kB kI kZ) t ∧ va_D (va_A (mW h0 kB kI kZ q g F) sz) (mW h0 kB kI kZ q (upd (upd g 1 c_g1) 23 c_g23) (upF F 22 c_F22))) (va_A (mW h0 kB kI kZ q g F) sz)) 0 0 (va_A (mW h0 kB kI kZ q g F) sz) := by
  refine Met.ofW (cc := cX12_readWord) (maxL := 3) (ret := (some .boolean)) (by decide) rfl ?_
  intro p e s m args below meth c s₁ B hml hv
  obtain ⟨rfl, hsz, hP, hK, hD0⟩ := hv
  have hx := B.exec
  have hb := B.bytes
  have hrt := B.returns
  have hts := atoms_spec (ws := vmX12_readWord) B.pre
  have hown : s.vm.findClass RX12 = some m.cls := findClass_of_methodNamed B.named
  subst hsz
  have hD := hD0.self (sz := s.heap.size)
  generalize hAe : va_A (mW h0 kB kI kZ q g F) s.heap.size = A at hD ⊢
  have hA : ∀ q : Nat, s.heap.size ≤ q → A q := fun q h => by rw [← hAe]; exact Or.inr h
  have hS : va_S A s.heap s.heap [] := va_S.rf
  have hl := lv_entry ([.ref h0]) (n := 3) (Nat.le_of_ble_eq_true rfl)
  rw [lg_entry_eq]
  generalize (lg_sl ([.ref h0]) ++ List.replicate (3 - (lg_sl ([.ref h0])).length) Slot.unset).toArray = ls at hl ⊢
  exact bm_readWord r c_g1 c_g23 c_F22 hr hx hb hml hown hts hA hK hP hD hS hl (fun pc ls rz c_g1z c_g23z c_F22z H locs he hz hd hP hD hS => by cases he; exact W.zret (v := r) hx hb hrt (z_nb hz) (fun t ht hW => ⟨⟨r, (), rfl, rfl, by rw [ht]; exact hP, va_K.moved hW.alike hK, hD⟩, hS.F ht⟩) hS.2.2 hd)
set_option maxHeartbeats 4000000 in
set_option maxRecDepth 100000 in
theorem bm_isWordPart {p : Program} {l : Launch} {e : Env} {s : State} {m : MethodId} {args : Array Value} {below : List Frame} {meth : Method} {c : Code} {Q : State → Prop} {A : Nat → Prop} {dC : Nat → ClassId} {dI : Nat → Nat → Nat} {h0 : Nat} {kB kI kZ : ClassId} {q : Nat → Nat} {g : Nat → Int32} {F : Nat → Nat → Int32} {H : Heap} {locs : List Loc} {ls : Array Slot} (p0 : Int32) (p1 : Int32) (p2 : Int32) (r : Int32) (hr : f_isWordPart g F p0 p1 p2 = some r) (hx : p.tables.exec = Jvm.exec) (hb : c.code = cX12_isWordPart) (hml : c.maxLocals = 7) (hown : s.vm.findClass RX12 = some m.cls) (hts : ∀ w ∈ vmX12_isWordPart, w.before args s = true) (hA : ∀ q : Nat, s.heap.size ≤ q → A q) (hK : va_K (dC, dI) vwCl (mT kB kI kZ) s) (hP : va_P (dC, dI) vwCl (mW h0 kB kI kZ q g F) H) (hD : va_D A (mW h0 kB kI kZ q g F)) (hS : va_S A s.heap H locs) (hl : lv_has ls 7 [(0, .ref h0), (1, .int p0), (2, .int p1), (3, .int p2)])
    (K : ∀ (pc : Nat) (ls : Array Slot) (rz : Int32) (H : Heap) (locs : List Loc), some rz = some r → is01 rz → decode cX12_isWordPart pc = .ok (.ireturn, 1) → va_P (dC, dI) vwCl (mW h0 kB kI kZ q g F) H → va_D A (mW h0 kB kI kZ q g F) → va_S A s.heap H locs → W p l e ({ frames := 2, cells := 0, slots := 0, locals := 60 } : Room) s m args below meth c H locs 0 0 Q (F0 m pc ls [.int rz])) : W p l e ({ frames := 2, cells := 0, slots := 0, locals := 60 } : Room) s m args below meth c H locs 0 0 Q (F0 m 0 ls []) := by
  unfold f_isWordPart at hr
  refine lv_bipush (v := 40) hx hb dX12_isWordPart_0 (by decide +kernel) ?_
  refine lv_iload_n hx hb dX12_isWordPart_2 rfl (lv_at hl 1 rfl) ?_
  refine lv_imul hx hb dX12_isWordPart_3 ?_
  refine lv_topi (fun x4 ex4 => ?_)
  replace hr := vlS hr x4 ex4
  clear ex4
  refine lv_istore (lv' := [(4, .int x4), (0, .ref h0), (1, .int p0), (2, .int p1), (3, .int p2)]) hx hb dX12_isWordPart_4 hl (by decide) rfl (fun ls hl => ?_)
  have lp6 : ∀ (n6 : Nat) (y6_4 : Int32) (H : Heap) (locs : List Loc) (ls : Array Slot), L_isWordPart_6 F p0 p1 p2 n6 y6_4 = some r → va_P (dC, dI) vwCl (mW h0 kB kI kZ q g F) H → va_D A (mW h0 kB kI kZ q g F) → va_S A s.heap H locs → lv_has ls 7 [(0, .ref h0), (1, .int p0), (2, .int p1), (3, .int p2), (4, .int y6_4)] → W p l e ({ frames := 2, cells := 0, slots := 0, locals := 60 } : Room) s m args below meth c H locs 0 0 Q (F0 m 6 ls []) := by
    intro n6
    induction n6 with
    | zero => intro y6_4 H locs ls hr; exact nomatch (show none = some r from hr)
    | succ n6 ih6 =>
      intro y6_4 H locs ls hr hP hD hS hl
      replace hr : B_isWordPart_6 F p0 p1 p2 (L_isWordPart_6 F p0 p1 p2 n6) y6_4 = some r := hr
      unfold B_isWordPart_6 at hr
      refine lv_iload hx hb dX12_isWordPart_6 (lv_at hl 4 rfl) ?_
      refine lv_bipush (v := 40) hx hb dX12_isWordPart_8 (by decide +kernel) ?_
      refine lv_iload_n hx hb dX12_isWordPart_10 rfl (lv_at hl 1 rfl) ?_
      refine lv_imul hx hb dX12_isWordPart_11 ?_
      refine lv_aload_n hx hb dX12_isWordPart_12 rfl (lv_at hl 0 rfl) ?_
      refine va_get (D := (dC, dI)) (ci := 12) (v := .ref (q 12)) (C := RX12) (T := TX12) (N := 71) hx hb hts inX12 hown hK hP 0 rfl rfl 12 (by decide) (hts (.fieldLink RX12 24 "SpellTurnerModel" "parts" "[I") im_56) (fun _ h9 => h9) rfl dX12_isWordPart_13 ?_
      refine lv_iload_n hx hb dX12_isWordPart_16 rfl (lv_at hl 1 rfl) ?_
      replace hr := iteS hr
      obtain ⟨hi17, hr⟩ := hr
      refine va_iald (f := (F 12)) hx hb hK hP 4 1 rfl rfl (inbV hi17) dX12_isWordPart_17 ?_
      refine lv_iadd hx hb dX12_isWordPart_18 ?_
      refine lv_icmp_ge (tgt := 104) hx hb dX12_isWordPart_19 (by decide) (fun c19 => ?_) (fun c19 => ?_)
      · replace hr := iteT c19 hr
        refine lv_iconst (v := 0) hx hb dX12_isWordPart_104 (by decide +kernel) ?_
        exact K 105 ls _ H _ hr (by decide) dX12_isWordPart_105 hP hD hS
      · replace hr := iteF c19 hr
        refine lv_aload_n hx hb dX12_isWordPart_22 rfl (lv_at hl 0 rfl) ?_
        refine va_get (D := (dC, dI)) (ci := 12) (v := .ref (q 19)) (C := RX12) (T := TX12) (N := 71) hx hb hts inX12 hown hK hP 0 rfl rfl 19 (by decide) (hts (.fieldLink RX12 46 "SpellTurnerModel" "partSize" "[I") im_57) (fun _ h9 => h9) rfl dX12_isWordPart_23 ?_
        refine lv_iload hx hb dX12_isWordPart_26 (lv_at hl 4 rfl) ?_
        replace hr := iteS hr
        obtain ⟨hi28, hr⟩ := hr
        refine va_iald (f := (F 19)) hx hb hK hP 11 1 rfl rfl (inbV hi28) dX12_isWordPart_28 ?_
        refine lv_iload_n hx hb dX12_isWordPart_29 rfl (lv_at hl 3 rfl) ?_
        replace hr := jnS hr
        obtain ⟨j98, hj98, hr⟩ := hr
        have Jj98 : ∀ (H : Heap) (locs : List Loc) (ls : Array Slot), j98 () = some r → va_P (dC, dI) vwCl (mW h0 kB kI kZ q g F) H → va_D A (mW h0 kB kI kZ q g F) → va_S A s.heap H locs → lv_has ls 7 [(0, .ref h0), (1, .int p0), (2, .int p1), (3, .int p2), (4, .int y6_4)] → W p l e ({ frames := 2, cells := 0, slots := 0, locals := 60 } : Room) s m args below meth c H locs 0 0 Q (F0 m 98 ls []) := by
          intro H locs ls hr hP hD hS hl
          rw [hj98] at hr
          refine lv_iinc (v := (y6_4 + 1)) (lv' := [(4, .int (y6_4 + 1)), (0, .ref h0), (1, .int p0), (2, .int p1), (3, .int p2)]) hx hb dX12_isWordPart_98 hl (k := 4) rfl rfl (by decide) rfl (fun ls hl => ?_)
          refine lv_goto (tgt := 6) hx hb dX12_isWordPart_101 (by decide) ?_
          exact ih6 (y6_4 + 1) H _ ls hr hP hD hS (lv_sub hl [1, 2, 3, 4, 0] rfl)
        refine lv_icmp_eq (tgt := 36) hx hb dX12_isWordPart_30 (by decide) (fun c30 => ?_) (fun c30 => ?_)
        · replace hr := iteT c30 hr
          refine lv_iconst (v := 1) hx hb dX12_isWordPart_36 (by decide +kernel) ?_
          refine lv_istore (lv' := [(5, .int 1), (0, .ref h0), (1, .int p0), (2, .int p1), (3, .int p2), (4, .int y6_4)]) hx hb dX12_isWordPart_37 hl (by decide) rfl (fun ls hl => ?_)
          refine lv_iconst (v := 0) hx hb dX12_isWordPart_39 (by decide +kernel) ?_
          refine lv_istore (lv' := [(6, .int 0), (5, .int 1), (0, .ref h0), (1, .int p0), (2, .int p1), (3, .int p2), (4, .int y6_4)]) hx hb dX12_isWordPart_40 hl (by decide) rfl (fun ls hl => ?_)
          replace hr := jnS hr
          obtain ⟨k91, hk91, hr⟩ := hr
          have Jk91 : ∀ (x91_5 : Int32) (H : Heap) (locs : List Loc) (ls : Array Slot), k91 x91_5 = some r → va_P (dC, dI) vwCl (mW h0 kB kI kZ q g F) H → va_D A (mW h0 kB kI kZ q g F) → va_S A s.heap H locs → lv_has ls 7 [(0, .ref h0), (1, .int p0), (2, .int p1), (3, .int p2), (4, .int y6_4), (5, .int x91_5)] → W p l e ({ frames := 2, cells := 0, slots := 0, locals := 60 } : Room) s m args below meth c H locs 0 0 Q (F0 m 91 ls []) := by
            intro x91_5 H locs ls hr hP hD hS hl
            rw [hk91] at hr
            refine lv_iload hx hb dX12_isWordPart_91 (lv_at hl 5 rfl) ?_
            refine lv_if_eq (tgt := 98) hx hb dX12_isWordPart_93 (by decide) (fun c93 => ?_) (fun c93 => ?_)
            · replace hr := iteT c93 hr
              exact Jj98 H _ ls hr hP hD hS (lv_sub hl [0, 1, 2, 3, 4] rfl)
            · replace hr := iteF c93 hr
              refine lv_iconst (v := 1) hx hb dX12_isWordPart_96 (by decide +kernel) ?_
              exact K 97 ls _ H _ hr (by decide) dX12_isWordPart_97 hP hD hS
          have lp42 : ∀ (n42 : Nat) (y42_5 : Int32) (y42_6 : Int32) (H : Heap) (locs : List Loc) (ls : Array Slot), L_isWordPart_42 F p1 p2 y6_4 k91 n42 y42_5 y42_6 = some r → va_P (dC, dI) vwCl (mW h0 kB kI kZ q g F) H → va_D A (mW h0 kB kI kZ q g F) → va_S A s.heap H locs → lv_has ls 7 [(0, .ref h0), (1, .int p0), (2, .int p1), (3, .int p2), (4, .int y6_4), (5, .int y42_5), (6, .int y42_6)] → W p l e ({ frames := 2, cells := 0, slots := 0, locals := 60 } : Room) s m args below meth c H locs 0 0 Q (F0 m 42 ls []) := by
            intro n42
            induction n42 with
            | zero => intro y42_5 y42_6 H locs ls hr; exact nomatch (show none = some r from hr)
            | succ n42 ih42 =>
              intro y42_5 y42_6 H locs ls hr hP hD hS hl
              replace hr : B_isWordPart_42 F p1 p2 y6_4 k91 (L_isWordPart_42 F p1 p2 y6_4 k91 n42) y42_5 y42_6 = some r := hr
              unfold B_isWordPart_42 at hr
              refine lv_iload hx hb dX12_isWordPart_42 (lv_at hl 6 rfl) ?_
              refine lv_iload_n hx hb dX12_isWordPart_44 rfl (lv_at hl 3 rfl) ?_
              refine lv_icmp_ge (tgt := 91) hx hb dX12_isWordPart_45 (by decide) (fun c45 => ?_) (fun c45 => ?_)
              · replace hr := iteT c45 hr
                exact Jk91 y42_5 H _ ls hr hP hD hS (lv_sub hl [0, 1, 2, 3, 4, 5] rfl)
              · replace hr := iteF c45 hr
                refine lv_iload hx hb dX12_isWordPart_48 (lv_at hl 5 rfl) ?_
                refine lv_if_eq (tgt := 91) hx hb dX12_isWordPart_50 (by decide) (fun c50 => ?_) (fun c50 => ?_)
                · replace hr := iteT c50 hr
                  exact Jk91 y42_5 H _ ls hr hP hD hS (lv_sub hl [0, 1, 2, 3, 4, 5] rfl)
                · replace hr := iteF c50 hr
                  refine lv_aload_n hx hb dX12_isWordPart_53 rfl (lv_at hl 0 rfl) ?_
                  refine va_get (D := (dC, dI)) (ci := 12) (v := .ref (q 18)) (C := RX12) (T := TX12) (N := 71) hx hb hts inX12 hown hK hP 0 rfl rfl 18 (by decide) (hts (.fieldLink RX12 43 "SpellTurnerModel" "partText" "[B") im_58) (fun _ h9 => h9) rfl dX12_isWordPart_54 ?_
                  refine lv_bipush (v := 16) hx hb dX12_isWordPart_57 (by decide +kernel) ?_
                  refine lv_iload hx hb dX12_isWordPart_59 (lv_at hl 4 rfl) ?_
                  refine lv_imul hx hb dX12_isWordPart_61 ?_
                  refine lv_iload hx hb dX12_isWordPart_62 (lv_at hl 6 rfl) ?_
                  refine lv_iadd hx hb dX12_isWordPart_64 ?_
                  replace hr := iteS hr
                  obtain ⟨hi65, hr⟩ := hr
                  refine va_bald (f := (F 18)) hx hb hK hP 10 0 rfl rfl (inbV hi65) dX12_isWordPart_65 ?_
                  refine lv_aload_n hx hb dX12_isWordPart_66 rfl (lv_at hl 0 rfl) ?_
                  refine va_get (D := (dC, dI)) (ci := 12) (v := .ref (q 22)) (C := RX12) (T := TX12) (N := 71) hx hb hts inX12 hown hK hP 0 rfl rfl 22 (by decide) (hts (.fieldLink RX12 55 "SpellTurnerModel" "word" "[B") im_50) (fun _ h9 => h9) rfl dX12_isWordPart_67 ?_
                  refine lv_iload_n hx hb dX12_isWordPart_70 rfl (lv_at hl 2 rfl) ?_
                  refine lv_iload hx hb dX12_isWordPart_71 (lv_at hl 6 rfl) ?_
                  refine lv_iadd hx hb dX12_isWordPart_73 ?_
                  replace hr := iteS hr
                  obtain ⟨hi74, hr⟩ := hr
                  refine va_bald (f := (F 22)) hx hb hK hP 14 0 rfl rfl (inbV hi74) dX12_isWordPart_74 ?_
                  replace hr := jnS hr
                  obtain ⟨j83, hj83, hr⟩ := hr
                  have Jj83 : ∀ (t83_0 : Int32) (H : Heap) (locs : List Loc) (ls : Array Slot), j83 t83_0 = some r → va_P (dC, dI) vwCl (mW h0 kB kI kZ q g F) H → va_D A (mW h0 kB kI kZ q g F) → va_S A s.heap H locs → lv_has ls 7 [(0, .ref h0), (1, .int p0), (2, .int p1), (3, .int p2), (4, .int y6_4), (6, .int y42_6)] → W p l e ({ frames := 2, cells := 0, slots := 0, locals := 60 } : Room) s m args below meth c H locs 0 0 Q (F0 m 83 ls [.int t83_0]) := by
                    intro t83_0 H locs ls hr hP hD hS hl
                    rw [hj83] at hr
                    refine lv_istore (lv' := [(5, .int t83_0), (0, .ref h0), (1, .int p0), (2, .int p1), (3, .int p2), (4, .int y6_4), (6, .int y42_6)]) hx hb dX12_isWordPart_83 hl (by decide) rfl (fun ls hl => ?_)
                    refine lv_iinc (v := (y42_6 + 1)) (lv' := [(6, .int (y42_6 + 1)), (5, .int t83_0), (0, .ref h0), (1, .int p0), (2, .int p1), (3, .int p2), (4, .int y6_4)]) hx hb dX12_isWordPart_85 hl (k := 6) rfl rfl (by decide) rfl (fun ls hl => ?_)
                    refine lv_goto (tgt := 42) hx hb dX12_isWordPart_88 (by decide) ?_
                    exact ih42 t83_0 (y42_6 + 1) H _ ls hr hP hD hS (lv_sub hl [2, 3, 4, 5, 6, 1, 0] rfl)
                  refine lv_icmp_ne (tgt := 82) hx hb dX12_isWordPart_75 (by decide) (fun c75 => ?_) (fun c75 => ?_)
                  · replace hr := iteF c75 hr
                    refine lv_iconst (v := 0) hx hb dX12_isWordPart_82 (by decide +kernel) ?_
                    exact Jj83 0 H _ ls hr hP hD hS (lv_sub hl [0, 1, 2, 3, 4, 6] rfl)
                  · replace hr := iteT c75 hr
                    refine lv_iconst (v := 1) hx hb dX12_isWordPart_78 (by decide +kernel) ?_
                    refine lv_goto (tgt := 83) hx hb dX12_isWordPart_79 (by decide) ?_
                    exact Jj83 1 H _ ls hr hP hD hS (lv_sub hl [0, 1, 2, 3, 4, 6] rfl)
          exact lp42 NN 1 0 H _ ls hr hP hD hS (lv_sub hl [2, 3, 4, 5, 6, 1, 0] rfl)
        · replace hr := iteF c30 hr
          refine lv_goto (tgt := 98) hx hb dX12_isWordPart_33 (by decide) ?_
          exact Jj98 H _ ls hr hP hD hS (lv_sub hl [0, 1, 2, 3, 4] rfl)
  exact lp6 NN x4 H _ ls hr hP hD hS (lv_sub hl [1, 2, 3, 4, 0] rfl)
set_option maxHeartbeats 4000000 in
set_option maxRecDepth 100000 in
theorem m_isWordPart (l : Launch) (dC : Nat → ClassId) (dI : Nat → Nat → Nat) (sz : Nat) (h0 : Nat) (kB kI kZ : ClassId) (q : Nat → Nat) (g : Nat → Int32) (F : Nat → Nat → Int32) (p0 : Int32) (p1 : Int32) (p2 : Int32) (r : Int32) (hr : f_isWordPart g F p0 p1 p2 = some r) : Met l yX12_isWordPart vmX12_isWordPart ({ frames := 2, cells := 0, slots := 0, locals := 60 } : Room) (va_Pc [.ref h0, .int p0, .int p1, .int p2] (fun U => U.heap.size = sz ∧ va_P (dC, dI) vwCl (mW h0 kB kI kZ q g F) U.heap ∧ va_K (dC, dI) vwCl (mT kB kI kZ) U ∧ va_D (fun _ => True) (mW h0 kB kI kZ q g F))) (va_Qi (fun (rz : Int32) (_ : Unit) => rz = r) (fun _ t => va_P (dC, dI) vwCl (mW h0 kB kI kZ q g F) t.heap ∧ va_K (dC, dI) vwCl (mT kB kI kZ) t ∧ va_D (va_A (mW h0 kB kI kZ q g F) sz) (mW h0 kB kI kZ q g F)) (va_A (mW h0 kB kI kZ q g F) sz)) 0 0 (va_A (mW h0 kB kI kZ q g F) sz) := by
  refine Met.ofW (cc := cX12_isWordPart) (maxL := 7) (ret := (some .boolean)) (by decide) rfl ?_
  intro p e s m args below meth c s₁ B hml hv
  obtain ⟨rfl, hsz, hP, hK, hD0⟩ := hv
  have hx := B.exec
  have hb := B.bytes
  have hrt := B.returns
  have hts := atoms_spec (ws := vmX12_isWordPart) B.pre
  have hown : s.vm.findClass RX12 = some m.cls := findClass_of_methodNamed B.named
  subst hsz
  have hD := hD0.self (sz := s.heap.size)
  generalize hAe : va_A (mW h0 kB kI kZ q g F) s.heap.size = A at hD ⊢
  have hA : ∀ q : Nat, s.heap.size ≤ q → A q := fun q h => by rw [← hAe]; exact Or.inr h
  have hS : va_S A s.heap s.heap [] := va_S.rf
  have hl := lv_entry ([.ref h0, .int p0, .int p1, .int p2]) (n := 7) (Nat.le_of_ble_eq_true rfl)
  rw [lg_entry_eq]
  generalize (lg_sl ([.ref h0, .int p0, .int p1, .int p2]) ++ List.replicate (7 - (lg_sl ([.ref h0, .int p0, .int p1, .int p2])).length) Slot.unset).toArray = ls at hl ⊢
  exact bm_isWordPart p0 p1 p2 r hr hx hb hml hown hts hA hK hP hD hS hl (fun pc ls rz H locs he hz hd hP hD hS => by cases he; exact W.zret (v := r) hx hb hrt (z_nb hz) (fun t ht hW => ⟨⟨r, (), rfl, rfl, by rw [ht]; exact hP, va_K.moved hW.alike hK, hD⟩, hS.F ht⟩) hS.2.2 hd)
set_option maxHeartbeats 4000000 in
set_option maxRecDepth 100000 in
theorem bm_about {p : Program} {l : Launch} {e : Env} {s : State} {m : MethodId} {args : Array Value} {below : List Frame} {meth : Method} {c : Code} {Q : State → Prop} {A : Nat → Prop} {dC : Nat → ClassId} {dI : Nat → Nat → Nat} {h0 : Nat} {kB kI kZ : ClassId} {q : Nat → Nat} {g : Nat → Int32} {F : Nat → Nat → Int32} {H : Heap} {locs : List Loc} {ls : Array Slot} (p0 : Int32) (p1 : Int32) (r : Int32) (hr : f_about g F p0 p1 = some r) (hx : p.tables.exec = Jvm.exec) (hb : c.code = cX12_about) (hml : c.maxLocals = 5) (hown : s.vm.findClass RX12 = some m.cls) (hts : ∀ w ∈ vmX12_about, w.before args s = true) (hA : ∀ q : Nat, s.heap.size ≤ q → A q) (hK : va_K (dC, dI) vwCl (mT kB kI kZ) s) (hP : va_P (dC, dI) vwCl (mW h0 kB kI kZ q g F) H) (hD : va_D A (mW h0 kB kI kZ q g F)) (hS : va_S A s.heap H locs) (hl : lv_has ls 5 [(0, .ref h0), (1, .int p0), (2, .int p1)])
    (K : ∀ (pc : Nat) (ls : Array Slot) (rz : Int32) (H : Heap) (locs : List Loc), some rz = some r → decode cX12_about pc = .ok (.ireturn, 1) → va_P (dC, dI) vwCl (mW h0 kB kI kZ q g F) H → va_D A (mW h0 kB kI kZ q g F) → va_S A s.heap H locs → W p l e ({ frames := 3, cells := 0, slots := 0, locals := 82 } : Room) s m args below meth c H locs 0 0 Q (F0 m pc ls [.int rz])) : W p l e ({ frames := 3, cells := 0, slots := 0, locals := 82 } : Room) s m args below meth c H locs 0 0 Q (F0 m 0 ls []) := by
  unfold f_about at hr
  refine lv_iload_n hx hb dX12_about_0 rfl (lv_at hl 1 rfl) ?_
  refine lv_iconst (v := 0) hx hb dX12_about_1 (by decide +kernel) ?_
  refine lv_aload_n hx hb dX12_about_2 rfl (lv_at hl 0 rfl) ?_
  refine va_get (D := (dC, dI)) (ci := 12) (v := .int (g 9)) (C := RX12) (T := TX12) (N := 71) hx hb hts inX12 hown hK hP 0 rfl rfl 9 (by decide) (hts (.fieldLink RX12 222 "SpellTurnerModel" "reforms" "I") im_40) (fun _ h9 => h9) rfl dX12_about_3 ?_
  refine lv_iconst (v := 1) hx hb dX12_about_6 (by decide +kernel) ?_
  refine lv_isub hx hb dX12_about_7 ?_
  replace hr := b1S hr
  obtain ⟨r8z, hc8, hr⟩ := hr
  have hFc := fr_all hD hS hA
  refine va_calli (va_runS (As := [.int p0, .int 0, .int ((g 9) - 1)]) (rest := []) ⟨hx, hb, hml, hown, hts⟩ (m_in l dC dI H.size h0 kB kI kZ q g F p0 0 ((g 9) - 1) r8z hc8) (va_cwS 3 hts gw_X12_in_226 rfl rfl rfl (by decide +kernel) ⟨Nat.le_of_ble_eq_true rfl, Nat.le_of_ble_eq_true rfl⟩) ⟨fun a U g mk q => by obtain ⟨q0, q1, qP, qK, qD⟩ := q; exact ⟨q0, q1, qP, va_K.moved (u := U) (U := U.calling g mk a) (Vm.Alike.refl U.vm) qK, qD⟩, fun U hU hW => ⟨rfl, by rw [hU], by rw [hU]; exact hP, va_K.moved hW.alike hK, hD.weaken (fun _ _ _ _ => trivial)⟩⟩ rfl rfl hl.1 rfl (lv_room (Nat.le_of_ble_eq_true rfl)) dX12_about_8 ⟨Nat.le_of_ble_eq_true rfl, Nat.le_of_ble_eq_true rfl⟩) hS (fun q _ h => hFc q h) hFc (fun r8 u t H1 locs ht hvm hw hB hz1 hk1 hS => ?_)
  replace hw : r8 = r8z := hw
  subst hw
  obtain ⟨hP1, hK1, hD1⟩ := hB
  rw [ht] at hP1
  obtain ⟨hP, hD⟩ := jn_all (w1 := (mW h0 kB kI kZ q g F)) hFc hP1 hD1
  clear hFc hP1 hK1 hD1 hk1 hz1 ht hvm
  generalize H1 = H at hP hS ⊢
  have hP : va_P (dC, dI) vwCl (mW h0 kB kI kZ q g F) H := hP
  have hD : va_D A (mW h0 kB kI kZ q g F) := hD
  refine lv_if_ne (tgt := 16) hx hb dX12_about_11 (by decide) (fun c11 => ?_) (fun c11 => ?_)
  · replace hr := iteF c11 hr
    refine lv_iconst (v := 0) hx hb dX12_about_16 (by decide +kernel) ?_
    refine lv_istore_n (lv' := [(3, .int 0), (0, .ref h0), (1, .int p0), (2, .int p1)]) hx hb dX12_about_17 rfl hl (by decide) rfl (fun ls hl => ?_)
    refine lv_iconst (v := 0) hx hb dX12_about_18 (by decide +kernel) ?_
    refine lv_istore (lv' := [(4, .int 0), (3, .int 0), (0, .ref h0), (1, .int p0), (2, .int p1)]) hx hb dX12_about_19 hl (by decide) rfl (fun ls hl => ?_)
    replace hr := jnS hr
    obtain ⟨k66, hk66, hr⟩ := hr
    have Jk66 : ∀ (x66_3 : Int32) (H : Heap) (locs : List Loc) (ls : Array Slot), k66 x66_3 = some r → va_P (dC, dI) vwCl (mW h0 kB kI kZ q g F) H → va_D A (mW h0 kB kI kZ q g F) → va_S A s.heap H locs → lv_has ls 5 [(0, .ref h0), (1, .int p0), (2, .int p1), (3, .int x66_3)] → W p l e ({ frames := 3, cells := 0, slots := 0, locals := 82 } : Room) s m args below meth c H locs 0 0 Q (F0 m 66 ls []) := by
      intro x66_3 H locs ls hr hP hD hS hl
      rw [hk66] at hr
      refine lv_iload_n hx hb dX12_about_66 rfl (lv_at hl 2 rfl) ?_
      have zk0 : (0 : Int32).toInt = 0 := by decide +kernel
      have zk1 : (1 : Int32).toInt = 1 := by decide +kernel
      have zk2 : (2 : Int32).toInt = 2 := by decide +kernel
      have zk3 : (3 : Int32).toInt = 3 := by decide +kernel
      have zk4 : (4 : Int32).toInt = 4 := by decide +kernel
      rcases Classical.em (p1 = 0) with c67_0 | c67_0
      · replace hr := iteT c67_0 hr
        refine lv_tableIn (off := 33) (tgt := 100) hx hb dX12_about_67 (by rw [c67_0]; decide +kernel) (by rw [c67_0]; decide +kernel) (by rw [c67_0]; decide +kernel) (by decide) ?_
        refine lv_aload_n hx hb dX12_about_100 rfl (lv_at hl 0 rfl) ?_
        refine va_get (D := (dC, dI)) (ci := 12) (v := .ref (q 10)) (C := RX12) (T := TX12) (N := 71) hx hb hts inX12 hown hK hP 0 rfl rfl 10 (by decide) (hts (.fieldLink RX12 17 "SpellTurnerModel" "day" "[I") im_60) (fun _ h9 => h9) rfl dX12_about_101 ?_
        refine lv_iload_n hx hb dX12_about_104 rfl (lv_at hl 1 rfl) ?_
        replace hr := iteS hr
        obtain ⟨hi105, hr⟩ := hr
        refine va_iald (f := (F 10)) hx hb hK hP 2 1 rfl rfl (inbV hi105) dX12_about_105 ?_
        exact K 106 ls _ H _ hr dX12_about_106 hP hD hS
      · replace hr := iteF c67_0 hr
        rcases Classical.em (p1 = 1) with c67_1 | c67_1
        · replace hr := iteT c67_1 hr
          refine lv_tableIn (off := 40) (tgt := 107) hx hb dX12_about_67 (by rw [c67_1]; decide +kernel) (by rw [c67_1]; decide +kernel) (by rw [c67_1]; decide +kernel) (by decide) ?_
          refine lv_aload_n hx hb dX12_about_107 rfl (lv_at hl 0 rfl) ?_
          refine va_get (D := (dC, dI)) (ci := 12) (v := .ref (q 11)) (C := RX12) (T := TX12) (N := 71) hx hb hts inX12 hown hK hP 0 rfl rfl 11 (by decide) (hts (.fieldLink RX12 21 "SpellTurnerModel" "laws" "[I") im_61) (fun _ h9 => h9) rfl dX12_about_108 ?_
          refine lv_iload_n hx hb dX12_about_111 rfl (lv_at hl 1 rfl) ?_
          replace hr := iteS hr
          obtain ⟨hi112, hr⟩ := hr
          refine va_iald (f := (F 11)) hx hb hK hP 3 1 rfl rfl (inbV hi112) dX12_about_112 ?_
          exact K 113 ls _ H _ hr dX12_about_113 hP hD hS
        · replace hr := iteF c67_1 hr
          rcases Classical.em (p1 = 2) with c67_2 | c67_2
          · replace hr := iteT c67_2 hr
            refine lv_tableIn (off := 47) (tgt := 114) hx hb dX12_about_67 (by rw [c67_2]; decide +kernel) (by rw [c67_2]; decide +kernel) (by rw [c67_2]; decide +kernel) (by decide) ?_
            refine lv_aload_n hx hb dX12_about_114 rfl (lv_at hl 0 rfl) ?_
            refine va_get (D := (dC, dI)) (ci := 12) (v := .ref (q 12)) (C := RX12) (T := TX12) (N := 71) hx hb hts inX12 hown hK hP 0 rfl rfl 12 (by decide) (hts (.fieldLink RX12 24 "SpellTurnerModel" "parts" "[I") im_56) (fun _ h9 => h9) rfl dX12_about_115 ?_
            refine lv_iload_n hx hb dX12_about_118 rfl (lv_at hl 1 rfl) ?_
            replace hr := iteS hr
            obtain ⟨hi119, hr⟩ := hr
            refine va_iald (f := (F 12)) hx hb hK hP 4 1 rfl rfl (inbV hi119) dX12_about_119 ?_
            exact K 120 ls _ H _ hr dX12_about_120 hP hD hS
          · replace hr := iteF c67_2 hr
            rcases Classical.em (p1 = 3) with c67_3 | c67_3
            · replace hr := iteT c67_3 hr
              refine lv_tableIn (off := 54) (tgt := 121) hx hb dX12_about_67 (by rw [c67_3]; decide +kernel) (by rw [c67_3]; decide +kernel) (by rw [c67_3]; decide +kernel) (by decide) ?_
              refine lv_iload_n hx hb dX12_about_121 rfl (lv_at hl 3 rfl) ?_
              exact K 122 ls _ H _ hr dX12_about_122 hP hD hS
            · replace hr := iteF c67_3 hr
              rcases Classical.em (p1 = 4) with c67_4 | c67_4
              · replace hr := iteT c67_4 hr
                refine lv_tableIn (off := 56) (tgt := 123) hx hb dX12_about_67 (by rw [c67_4]; decide +kernel) (by rw [c67_4]; decide +kernel) (by rw [c67_4]; decide +kernel) (by decide) ?_
                refine lv_aload_n hx hb dX12_about_123 rfl (lv_at hl 0 rfl) ?_
                refine va_get (D := (dC, dI)) (ci := 12) (v := .ref (q 13)) (C := RX12) (T := TX12) (N := 71) hx hb hts inX12 hown hK hP 0 rfl rfl 13 (by decide) (hts (.fieldLink RX12 27 "SpellTurnerModel" "listed" "[I") im_62) (fun _ h9 => h9) rfl dX12_about_124 ?_
                refine lv_iload_n hx hb dX12_about_127 rfl (lv_at hl 1 rfl) ?_
                replace hr := iteS hr
                obtain ⟨hi128, hr⟩ := hr
                refine va_iald (f := (F 13)) hx hb hK hP 5 1 rfl rfl (inbV hi128) dX12_about_128 ?_
                refine lv_iload_n hx hb dX12_about_129 rfl (lv_at hl 3 rfl) ?_
                refine lv_isub hx hb dX12_about_130 ?_
                exact K 131 ls _ H _ hr dX12_about_131 hP hD hS
              · replace hr := iteF c67_4 hr
                have q67_0 := z_ne c67_0
                have q67_1 := z_ne c67_1
                have q67_2 := z_ne c67_2
                have q67_3 := z_ne c67_3
                have q67_4 := z_ne c67_4
                refine lv_tableOut (tgt := 132) hx hb dX12_about_67 (by omega) (by decide) ?_
                refine lv_iconst (v := (-1)) hx hb dX12_about_132 (by decide +kernel) ?_
                exact K 133 ls _ H _ hr dX12_about_133 hP hD hS
    have lp21 : ∀ (n21 : Nat) (y21_3 : Int32) (y21_4 : Int32) (H : Heap) (locs : List Loc) (ls : Array Slot), L_about_21 F p0 k66 n21 y21_3 y21_4 = some r → va_P (dC, dI) vwCl (mW h0 kB kI kZ q g F) H → va_D A (mW h0 kB kI kZ q g F) → va_S A s.heap H locs → lv_has ls 5 [(0, .ref h0), (1, .int p0), (2, .int p1), (3, .int y21_3), (4, .int y21_4)] → W p l e ({ frames := 3, cells := 0, slots := 0, locals := 82 } : Room) s m args below meth c H locs 0 0 Q (F0 m 21 ls []) := by
      intro n21
      induction n21 with
      | zero => intro y21_3 y21_4 H locs ls hr; exact nomatch (show none = some r from hr)
      | succ n21 ih21 =>
        intro y21_3 y21_4 H locs ls hr hP hD hS hl
        replace hr : B_about_21 F p0 k66 (L_about_21 F p0 k66 n21) y21_3 y21_4 = some r := hr
        unfold B_about_21 at hr
        refine lv_iload hx hb dX12_about_21 (lv_at hl 4 rfl) ?_
        refine lv_aload_n hx hb dX12_about_23 rfl (lv_at hl 0 rfl) ?_
        refine va_get (D := (dC, dI)) (ci := 12) (v := .ref (q 13)) (C := RX12) (T := TX12) (N := 71) hx hb hts inX12 hown hK hP 0 rfl rfl 13 (by decide) (hts (.fieldLink RX12 27 "SpellTurnerModel" "listed" "[I") im_62) (fun _ h9 => h9) rfl dX12_about_24 ?_
        refine lv_iload_n hx hb dX12_about_27 rfl (lv_at hl 1 rfl) ?_
        replace hr := iteS hr
        obtain ⟨hi28, hr⟩ := hr
        refine va_iald (f := (F 13)) hx hb hK hP 5 1 rfl rfl (inbV hi28) dX12_about_28 ?_
        refine lv_icmp_ge (tgt := 66) hx hb dX12_about_29 (by decide) (fun c29 => ?_) (fun c29 => ?_)
        · replace hr := iteT c29 hr
          exact Jk66 y21_3 H _ ls hr hP hD hS (lv_sub hl [0, 1, 2, 3] rfl)
        · replace hr := iteF c29 hr
          refine lv_iload_n hx hb dX12_about_32 rfl (lv_at hl 3 rfl) ?_
          refine lv_aload_n hx hb dX12_about_33 rfl (lv_at hl 0 rfl) ?_
          refine va_get (D := (dC, dI)) (ci := 12) (v := .ref (q 21)) (C := RX12) (T := TX12) (N := 71) hx hb hts inX12 hown hK hP 0 rfl rfl 21 (by decide) (hts (.fieldLink RX12 52 "SpellTurnerModel" "listSize" "[I") im_63) (fun _ h9 => h9) rfl dX12_about_34 ?_
          refine lv_iconst (v := 2) hx hb dX12_about_37 (by decide +kernel) ?_
          refine lv_bipush (v := 40) hx hb dX12_about_38 (by decide +kernel) ?_
          refine lv_iload_n hx hb dX12_about_40 rfl (lv_at hl 1 rfl) ?_
          refine lv_imul hx hb dX12_about_41 ?_
          refine lv_iload hx hb dX12_about_42 (lv_at hl 4 rfl) ?_
          refine lv_iadd hx hb dX12_about_44 ?_
          refine lv_imul hx hb dX12_about_45 ?_
          refine lv_iconst (v := 1) hx hb dX12_about_46 (by decide +kernel) ?_
          refine lv_iadd hx hb dX12_about_47 ?_
          replace hr := iteS hr
          obtain ⟨hi48, hr⟩ := hr
          refine va_iald (f := (F 21)) hx hb hK hP 13 1 rfl rfl (inbV hi48) dX12_about_48 ?_
          refine lv_iconst (v := (-1)) hx hb dX12_about_49 (by decide +kernel) ?_
          replace hr := jnS hr
          obtain ⟨j58, hj58, hr⟩ := hr
          have Jj58 : ∀ (t58_0 : Int32) (H : Heap) (locs : List Loc) (ls : Array Slot), j58 t58_0 = some r → va_P (dC, dI) vwCl (mW h0 kB kI kZ q g F) H → va_D A (mW h0 kB kI kZ q g F) → va_S A s.heap H locs → lv_has ls 5 [(0, .ref h0), (1, .int p0), (2, .int p1), (4, .int y21_4)] → W p l e ({ frames := 3, cells := 0, slots := 0, locals := 82 } : Room) s m args below meth c H locs 0 0 Q (F0 m 58 ls [.int t58_0, .int y21_3]) := by
            intro t58_0 H locs ls hr hP hD hS hl
            rw [hj58] at hr
            refine lv_iadd hx hb dX12_about_58 ?_
            refine lv_topi (fun x59 ex59 => ?_)
            replace hr := vlS hr x59 ex59
            clear ex59
            refine lv_istore_n (lv' := [(3, .int x59), (0, .ref h0), (1, .int p0), (2, .int p1), (4, .int y21_4)]) hx hb dX12_about_59 rfl hl (by decide) rfl (fun ls hl => ?_)
            refine lv_iinc (v := (y21_4 + 1)) (lv' := [(4, .int (y21_4 + 1)), (3, .int x59), (0, .ref h0), (1, .int p0), (2, .int p1)]) hx hb dX12_about_60 hl (k := 4) rfl rfl (by decide) rfl (fun ls hl => ?_)
            refine lv_goto (tgt := 21) hx hb dX12_about_63 (by decide) ?_
            exact ih21 x59 (y21_4 + 1) H _ ls hr hP hD hS (lv_sub hl [2, 3, 4, 1, 0] rfl)
          refine lv_icmp_ne (tgt := 57) hx hb dX12_about_50 (by decide) (fun c50 => ?_) (fun c50 => ?_)
          · replace hr := iteF c50 hr
            refine lv_iconst (v := 0) hx hb dX12_about_57 (by decide +kernel) ?_
            exact Jj58 0 H _ ls hr hP hD hS (lv_sub hl [0, 1, 2, 4] rfl)
          · replace hr := iteT c50 hr
            refine lv_iconst (v := 1) hx hb dX12_about_53 (by decide +kernel) ?_
            refine lv_goto (tgt := 58) hx hb dX12_about_54 (by decide) ?_
            exact Jj58 1 H _ ls hr hP hD hS (lv_sub hl [0, 1, 2, 4] rfl)
    exact lp21 NN 0 0 H _ ls hr hP hD hS (lv_sub hl [2, 3, 4, 1, 0] rfl)
  · replace hr := iteT c11 hr
    refine lv_iconst (v := (-1)) hx hb dX12_about_14 (by decide +kernel) ?_
    exact K 15 ls _ H _ hr dX12_about_15 hP hD hS
set_option maxHeartbeats 4000000 in
set_option maxRecDepth 100000 in
theorem m_about (l : Launch) (dC : Nat → ClassId) (dI : Nat → Nat → Nat) (sz : Nat) (h0 : Nat) (kB kI kZ : ClassId) (q : Nat → Nat) (g : Nat → Int32) (F : Nat → Nat → Int32) (p0 : Int32) (p1 : Int32) (r : Int32) (hr : f_about g F p0 p1 = some r) : Met l yX12_about vmX12_about ({ frames := 3, cells := 0, slots := 0, locals := 82 } : Room) (va_Pc [.ref h0, .int p0, .int p1] (fun U => U.heap.size = sz ∧ va_P (dC, dI) vwCl (mW h0 kB kI kZ q g F) U.heap ∧ va_K (dC, dI) vwCl (mT kB kI kZ) U ∧ va_D (fun _ => True) (mW h0 kB kI kZ q g F))) (va_Qi (fun (rz : Int32) (_ : Unit) => rz = r) (fun _ t => va_P (dC, dI) vwCl (mW h0 kB kI kZ q g F) t.heap ∧ va_K (dC, dI) vwCl (mT kB kI kZ) t ∧ va_D (va_A (mW h0 kB kI kZ q g F) sz) (mW h0 kB kI kZ q g F)) (va_A (mW h0 kB kI kZ q g F) sz)) 0 0 (va_A (mW h0 kB kI kZ q g F) sz) := by
  refine Met.ofW (cc := cX12_about) (maxL := 5) (ret := (some .int)) (by decide) rfl ?_
  intro p e s m args below meth c s₁ B hml hv
  obtain ⟨rfl, hsz, hP, hK, hD0⟩ := hv
  have hx := B.exec
  have hb := B.bytes
  have hrt := B.returns
  have hts := atoms_spec (ws := vmX12_about) B.pre
  have hown : s.vm.findClass RX12 = some m.cls := findClass_of_methodNamed B.named
  subst hsz
  have hD := hD0.self (sz := s.heap.size)
  generalize hAe : va_A (mW h0 kB kI kZ q g F) s.heap.size = A at hD ⊢
  have hA : ∀ q : Nat, s.heap.size ≤ q → A q := fun q h => by rw [← hAe]; exact Or.inr h
  have hS : va_S A s.heap s.heap [] := va_S.rf
  have hl := lv_entry ([.ref h0, .int p0, .int p1]) (n := 5) (Nat.le_of_ble_eq_true rfl)
  rw [lg_entry_eq]
  generalize (lg_sl ([.ref h0, .int p0, .int p1]) ++ List.replicate (5 - (lg_sl ([.ref h0, .int p0, .int p1])).length) Slot.unset).toArray = ls at hl ⊢
  exact bm_about p0 p1 r hr hx hb hml hown hts hA hK hP hD hS hl (fun pc ls rz H locs he hd hP hD hS => by cases he; exact W.iret (v := r) hx hb hrt (fun t ht hW => ⟨⟨r, (), rfl, rfl, by rw [ht]; exact hP, va_K.moved hW.alike hK, hD⟩, hS.F ht⟩) hS.2.2 hd)
set_option maxHeartbeats 4000000 in
set_option maxRecDepth 100000 in
theorem bm_take_14_15 {p : Program} {l : Launch} {e : Env} {s : State} {m : MethodId} {args : Array Value} {below : List Frame} {meth : Method} {c : Code} {Q : State → Prop} {A : Nat → Prop} {dC : Nat → ClassId} {dI : Nat → Nat → Nat} {h0 : Nat} {kB kI kZ : ClassId} {q : Nat → Nat} {g : Nat → Int32} {F : Nat → Nat → Int32} {H : Heap} {locs : List Loc} {ls : Array Slot} (p2 : Int32) (p3 : Int32) (r : Int32) (c_g7 : Int32) (c_g8 : Int32) (c_A0 : (Nat → Int32)) (c_A1 : (Nat → Int32)) (hr : f_take g F (F 14) 17920 (F 15) 1120 p2 p3 = some (r, c_g7, c_g8, c_A0, c_A1)) (hx : p.tables.exec = Jvm.exec) (hb : c.code = cX12_take) (hml : c.maxLocals = 7) (hown : s.vm.findClass RX12 = some m.cls) (hts : ∀ w ∈ vmX12_take, w.before args s = true) (hA : ∀ q : Nat, s.heap.size ≤ q → A q) (hK : va_K (dC, dI) vwCl (mT kB kI kZ) s) (hP : va_P (dC, dI) vwCl (mW h0 kB kI kZ q g F) H) (hD : va_D A (mW h0 kB kI kZ q g F)) (hS : va_S A s.heap H locs) (hl : lv_has ls 7 [(0, .ref h0), (1, .ref (q 14)), (2, .ref (q 15)), (3, .int p2), (4, .int p3)])
    (K : ∀ (pc : Nat) (ls : Array Slot) (rz : Int32) (c_g7z : Int32) (c_g8z : Int32) (c_A0z : (Nat → Int32)) (c_A1z : (Nat → Int32)) (H : Heap) (locs : List Loc), some (rz, c_g7z, c_g8z, c_A0z, c_A1z) = some (r, c_g7, c_g8, c_A0, c_A1) → is01 rz → decode cX12_take pc = .ok (.ireturn, 1) → va_P (dC, dI) vwCl (mW h0 kB kI kZ q (upd (upd g 7 c_g7z) 8 c_g8z) (upF (upF F 14 c_A0z) 15 c_A1z)) H → va_D A (mW h0 kB kI kZ q (upd (upd g 7 c_g7z) 8 c_g8z) (upF (upF F 14 c_A0z) 15 c_A1z)) → va_S A s.heap H locs → W p l e ({ frames := 3, cells := 0, slots := 0, locals := 81 } : Room) s m args below meth c H locs 0 0 Q (F0 m pc ls [.int rz])) : W p l e ({ frames := 3, cells := 0, slots := 0, locals := 81 } : Room) s m args below meth c H locs 0 0 Q (F0 m 0 ls []) := by
  unfold f_take at hr
  refine lv_aload_n hx hb dX12_take_0 rfl (lv_at hl 0 rfl) ?_
  refine va_get (D := (dC, dI)) (ci := 12) (v := .int (g 3)) (C := RX12) (T := TX12) (N := 71) hx hb hts inX12 hown hK hP 0 rfl rfl 3 (by decide) (hts (.fieldLink RX12 180 "SpellTurnerModel" "sort" "I") im_65) (fun _ h9 => h9) rfl dX12_take_1 ?_
  refine lv_iconst (v := 2) hx hb dX12_take_4 (by decide +kernel) ?_
  refine lv_icmp_eq (tgt := 14) hx hb dX12_take_5 (by decide) (fun c5 => ?_) (fun c5 => ?_)
  · replace hr := iteT c5 hr
    refine lv_aload_n hx hb dX12_take_14 rfl (lv_at hl 0 rfl) ?_
    refine va_get (D := (dC, dI)) (ci := 12) (v := .int (g 6)) (C := RX12) (T := TX12) (N := 71) hx hb hts inX12 hown hK hP 0 rfl rfl 6 (by decide) (hts (.fieldLink RX12 174 "SpellTurnerModel" "end" "I") im_66) (fun _ h9 => h9) rfl dX12_take_15 ?_
    refine lv_aload_n hx hb dX12_take_18 rfl (lv_at hl 0 rfl) ?_
    refine va_get (D := (dC, dI)) (ci := 12) (v := .int (g 5)) (C := RX12) (T := TX12) (N := 71) hx hb hts inX12 hown hK hP 0 rfl rfl 5 (by decide) (hts (.fieldLink RX12 177 "SpellTurnerModel" "at" "I") im_37) (fun _ h9 => h9) rfl dX12_take_19 ?_
    refine lv_isub hx hb dX12_take_22 ?_
    refine lv_iconst (v := 2) hx hb dX12_take_23 (by decide +kernel) ?_
    refine lv_isub hx hb dX12_take_24 ?_
    refine lv_topi (fun x25 ex25 => ?_)
    replace hr := vlS hr x25 ex25
    clear ex25
    refine lv_istore (lv' := [(5, .int x25), (0, .ref h0), (1, .ref (q 14)), (2, .ref (q 15)), (3, .int p2), (4, .int p3)]) hx hb dX12_take_25 hl (by decide) rfl (fun ls hl => ?_)
    refine lv_iload hx hb dX12_take_27 (lv_at hl 5 rfl) ?_
    replace hr := jnS hr
    obtain ⟨j43, hj43, hr⟩ := hr
    have Jj43 : ∀ (H : Heap) (locs : List Loc) (ls : Array Slot), j43 () = some (r, c_g7, c_g8, c_A0, c_A1) → va_P (dC, dI) vwCl (mW h0 kB kI kZ q g F) H → va_D A (mW h0 kB kI kZ q g F) → va_S A s.heap H locs → lv_has ls 7 [(0, .ref h0), (1, .ref (q 14)), (2, .ref (q 15)), (3, .int p2), (5, .int x25)] → W p l e ({ frames := 3, cells := 0, slots := 0, locals := 81 } : Room) s m args below meth c H locs 0 0 Q (F0 m 43 ls []) := by
      intro H locs ls hr hP hD hS hl
      rw [hj43] at hr
      refine lv_iconst (v := 0) hx hb dX12_take_43 (by decide +kernel) ?_
      refine lv_istore (lv' := [(6, .int 0), (0, .ref h0), (1, .ref (q 14)), (2, .ref (q 15)), (3, .int p2), (5, .int x25)]) hx hb dX12_take_44 hl (by decide) rfl (fun ls hl => ?_)
      have lp46 : ∀ (n46 : Nat) (y46_6 : Int32) (d46_A0 : (Nat → Int32)) (H : Heap) (locs : List Loc) (ls : Array Slot), L_take_46 g F 17920 (F 15) 1120 p2 x25 n46 y46_6 d46_A0 = some (r, c_g7, c_g8, c_A0, c_A1) → va_P (dC, dI) vwCl (mW h0 kB kI kZ q g (upF F 14 d46_A0)) H → va_D A (mW h0 kB kI kZ q g (upF F 14 d46_A0)) → va_S A s.heap H locs → lv_has ls 7 [(0, .ref h0), (1, .ref (q 14)), (2, .ref (q 15)), (3, .int p2), (5, .int x25), (6, .int y46_6)] → W p l e ({ frames := 3, cells := 0, slots := 0, locals := 81 } : Room) s m args below meth c H locs 0 0 Q (F0 m 46 ls []) := by
        intro n46
        induction n46 with
        | zero => intro y46_6 d46_A0 H locs ls hr; exact nomatch (show none = some (r, c_g7, c_g8, c_A0, c_A1) from hr)
        | succ n46 ih46 =>
          intro y46_6 d46_A0 H locs ls hr hP hD hS hl
          replace hr : B_take_46 g F 17920 (F 15) 1120 p2 x25 (L_take_46 g F 17920 (F 15) 1120 p2 x25 n46) y46_6 d46_A0 = some (r, c_g7, c_g8, c_A0, c_A1) := hr
          unfold B_take_46 at hr
          refine lv_iload hx hb dX12_take_46 (lv_at hl 5 rfl) ?_
          refine lv_iload hx hb dX12_take_48 (lv_at hl 4 rfl) ?_
          refine lv_icmp_ge (tgt := 82) hx hb dX12_take_50 (by decide) (fun c50 => ?_) (fun c50 => ?_)
          · replace hr := iteT c50 hr
            refine lv_aload_n hx hb dX12_take_82 rfl (lv_at hl 2 rfl) ?_
            refine lv_iload_n hx hb dX12_take_83 rfl (lv_at hl 3 rfl) ?_
            refine lv_iload hx hb dX12_take_84 (lv_at hl 4 rfl) ?_
            replace hr := iteS hr
            obtain ⟨hi86, hr⟩ := hr
            refine va_iast (f := (F 15)) hx hb hK hP hD hS 7 1 rfl rfl (inbV hi86) dX12_take_86 (fun H locs hP hD hS => ?_)
            obtain ⟨w86, ew86, hP, hD⟩ : ∃ w86 : Nat → Int32, w86 = (upd (F 15) (Int32.toNatClampNeg p2) x25) ∧ va_P (dC, dI) vwCl (mW h0 kB kI kZ q g (upF (upF F 14 d46_A0) 15 w86)) H ∧ va_D A (mW h0 kB kI kZ q g (upF (upF F 14 d46_A0) 15 w86)) := ⟨(upd (F 15) (Int32.toNatClampNeg p2) x25), rfl, by first | exact sP_F15 hP rfl | exact sP_F15 hP upF_same | exact hP, by first | exact sD_F15 hD rfl | exact sD_F15 hD upF_same | exact hD⟩
            replace hr := vlS hr w86 ew86
            clear ew86
            refine lv_iconst (v := 1) hx hb dX12_take_87 (by decide +kernel) ?_
            first | exact K 88 ls _ _ _ _ _ H _ hr (by decide) dX12_take_88 (sP_eq (mW_cg (by repeat (first | with_reducible rfl | with_reducible refine upd_cg ?_ | refine Eq.trans ?_ (upd_id rfl))) (by repeat (first | with_reducible rfl | with_reducible refine upF_cg ?_ | refine Eq.trans ?_ (upF_id rfl)))) hP) (sD_eq (mW_cg (by repeat (first | with_reducible rfl | with_reducible refine upd_cg ?_ | refine Eq.trans ?_ (upd_id rfl))) (by repeat (first | with_reducible rfl | with_reducible refine upF_cg ?_ | refine Eq.trans ?_ (upF_id rfl)))) hD) hS | exact K 88 ls _ _ _ _ _ H _ hr (by decide) dX12_take_88 hP hD hS
          · replace hr := iteF c50 hr
            refine lv_aload_n hx hb dX12_take_53 rfl (lv_at hl 1 rfl) ?_
            refine lv_bipush (v := 16) hx hb dX12_take_54 (by decide +kernel) ?_
            refine lv_iload_n hx hb dX12_take_56 rfl (lv_at hl 3 rfl) ?_
            refine lv_imul hx hb dX12_take_57 ?_
            refine lv_iload hx hb dX12_take_58 (lv_at hl 5 rfl) ?_
            refine lv_iadd hx hb dX12_take_60 ?_
            refine lv_aload_n hx hb dX12_take_61 rfl (lv_at hl 0 rfl) ?_
            refine va_get (D := (dC, dI)) (ci := 12) (v := .ref (q 0)) (C := RX12) (T := TX12) (N := 71) hx hb hts inX12 hown hK hP 0 rfl rfl 0 (by decide) (hts (.fieldLink RX12 7 "SpellTurnerModel" "tape" "[B") im_34) (fun _ h9 => h9) rfl dX12_take_62 ?_
            refine lv_aload_n hx hb dX12_take_65 rfl (lv_at hl 0 rfl) ?_
            refine va_get (D := (dC, dI)) (ci := 12) (v := .int (g 5)) (C := RX12) (T := TX12) (N := 71) hx hb hts inX12 hown hK hP 0 rfl rfl 5 (by decide) (hts (.fieldLink RX12 177 "SpellTurnerModel" "at" "I") im_37) (fun _ h9 => h9) rfl dX12_take_66 ?_
            refine lv_iconst (v := 1) hx hb dX12_take_69 (by decide +kernel) ?_
            refine lv_iadd hx hb dX12_take_70 ?_
            refine lv_iload hx hb dX12_take_71 (lv_at hl 5 rfl) ?_
            refine lv_iadd hx hb dX12_take_73 ?_
            replace hr := iteS hr
            obtain ⟨hi74, hr⟩ := hr
            refine va_bald (f := (F 0)) hx hb hK hP 1 0 rfl rfl (inbV hi74) dX12_take_74 ?_
            replace hr := iteS hr
            obtain ⟨hi75, hr⟩ := hr
            refine va_bast (f := d46_A0) hx hb hK hP hD hS 6 0 rfl rfl (inbV hi75) dX12_take_75 (fun H locs hP hD hS => ?_)
            obtain ⟨w75, ew75, hP, hD⟩ : ∃ w75 : Nat → Int32, w75 = (upd d46_A0 (Int32.toNatClampNeg ((16 * p2) + y46_6)) (vp_nar .byte ((F 0) (Int32.toNatClampNeg (((g 5) + 1) + y46_6))))) ∧ va_P (dC, dI) vwCl (mW h0 kB kI kZ q g (upF F 14 w75)) H ∧ va_D A (mW h0 kB kI kZ q g (upF F 14 w75)) := ⟨(upd d46_A0 (Int32.toNatClampNeg ((16 * p2) + y46_6)) (vp_nar .byte ((F 0) (Int32.toNatClampNeg (((g 5) + 1) + y46_6))))), rfl, by first | exact sP_F14 hP upF_same | exact sP_F14 hP rfl | exact hP, by first | exact sD_F14 hD upF_same | exact sD_F14 hD rfl | exact hD⟩
            replace hr := vlS hr w75 ew75
            clear ew75
            refine lv_iinc (v := (y46_6 + 1)) (lv' := [(6, .int (y46_6 + 1)), (0, .ref h0), (1, .ref (q 14)), (2, .ref (q 15)), (3, .int p2), (5, .int x25)]) hx hb dX12_take_76 hl (k := 5) rfl rfl (by decide) rfl (fun ls hl => ?_)
            refine lv_goto (tgt := 46) hx hb dX12_take_79 (by decide) ?_
            exact ih46 (y46_6 + 1) w75 H _ ls hr hP hD hS (lv_sub hl [1, 2, 3, 4, 5, 0] rfl)
      first | exact lp46 NN 0 (F 14) H _ ls hr (sP_eq (mW_cg (by repeat (first | with_reducible rfl | with_reducible refine upd_cg ?_ | refine Eq.trans ?_ (upd_id rfl))) (by repeat (first | with_reducible rfl | with_reducible refine upF_cg ?_ | refine Eq.trans ?_ (upF_id rfl)))) hP) (sD_eq (mW_cg (by repeat (first | with_reducible rfl | with_reducible refine upd_cg ?_ | refine Eq.trans ?_ (upd_id rfl))) (by repeat (first | with_reducible rfl | with_reducible refine upF_cg ?_ | refine Eq.trans ?_ (upF_id rfl)))) hD) hS (lv_sub hl [1, 2, 3, 4, 5, 0] rfl) | exact lp46 NN 0 (F 14) H _ ls hr hP hD hS (lv_sub hl [1, 2, 3, 4, 5, 0] rfl)
    refine lv_if_eq (tgt := 43) hx hb dX12_take_29 (by decide) (fun c29 => ?_) (fun c29 => ?_)
    · replace hr := iteT c29 hr
      exact Jj43 H _ ls hr hP hD hS (lv_sub hl [1, 2, 3, 4, 0] rfl)
    · replace hr := iteF c29 hr
      refine lv_iload hx hb dX12_take_32 (lv_at hl 0 rfl) ?_
      refine lv_if_ne (tgt := 43) hx hb dX12_take_34 (by decide) (fun c34 => ?_) (fun c34 => ?_)
      · replace hr := iteF c34 hr
        exact Jj43 H _ ls hr hP hD hS (lv_sub hl [1, 2, 3, 4, 0] rfl)
      · replace hr := iteT c34 hr
        refine lv_aload_n hx hb dX12_take_37 rfl (lv_at hl 1 rfl) ?_
        refine lv_iconst (v := 2) hx hb dX12_take_38 (by decide +kernel) ?_
        replace hr := b3S hr
        obtain ⟨r39z, c39_g7, c39_g8, hc39, hr⟩ := hr
        have hFc := fr_all hD hS hA
        refine va_calli (va_runV (As := [.int 2]) (rest := []) ⟨hx, hb, hml, hown, hts⟩ (m_wrong l dC dI H.size h0 kB kI kZ q g F 2 r39z c39_g7 c39_g8 hc39) (cwV 1 hts gw_X12_wrong_197 rfl rfl rfl (by decide +kernel) ⟨Nat.le_of_ble_eq_true rfl, Nat.le_of_ble_eq_true rfl⟩) ⟨fun a U g mk q => by obtain ⟨q0, q1, qP, qK, qD⟩ := q; exact ⟨q0, q1, qP, va_K.moved (u := U) (U := U.calling g mk a) (Vm.Alike.refl U.vm) qK, qD⟩, va_recv hK hP (ci := 12) (q0 := 0) rfl rfl, fun U hU hW => ⟨rfl, by rw [hU], by rw [hU]; exact hP, va_K.moved hW.alike hK, hD.weaken (fun _ _ _ _ => trivial)⟩⟩ rfl rfl hl.1 rfl (lv_room (Nat.le_of_ble_eq_true rfl)) dX12_take_39 ⟨Nat.le_of_ble_eq_true rfl, Nat.le_of_ble_eq_true rfl⟩) hS (fun q _ h => hFc q h) hFc (fun r39 u t H1 locs ht hvm hw hB hz1 hk1 hS => ?_)
        replace hw : r39 = r39z := hw
        subst hw
        obtain ⟨hP1, hK1, hD1⟩ := hB
        rw [ht] at hP1
        obtain ⟨hP, hD⟩ := jn_all (w1 := (mW h0 kB kI kZ q (upd (upd g 7 c39_g7) 8 c39_g8) F)) hFc hP1 hD1
        clear hFc hP1 hK1 hD1 hk1 hz1 ht hvm
        generalize H1 = H at hP hS ⊢
        have hP : va_P (dC, dI) vwCl (mW h0 kB kI kZ q (upd (upd g 7 c39_g7) 8 c39_g8) F) H := hP
        have hD : va_D A (mW h0 kB kI kZ q (upd (upd g 7 c39_g7) 8 c39_g8) F) := hD
        replace hr := iteS hr
        obtain ⟨hz42, hr⟩ := hr
        first | exact K 42 ls _ _ _ _ _ H _ hr hz42 dX12_take_42 (sP_eq (mW_cg (by repeat (first | with_reducible rfl | with_reducible refine upd_cg ?_ | refine Eq.trans ?_ (upd_id rfl))) (by repeat (first | with_reducible rfl | with_reducible refine upF_cg ?_ | refine Eq.trans ?_ (upF_id rfl)))) hP) (sD_eq (mW_cg (by repeat (first | with_reducible rfl | with_reducible refine upd_cg ?_ | refine Eq.trans ?_ (upd_id rfl))) (by repeat (first | with_reducible rfl | with_reducible refine upF_cg ?_ | refine Eq.trans ?_ (upF_id rfl)))) hD) hS | exact K 42 ls _ _ _ _ _ H _ hr hz42 dX12_take_42 hP hD hS
  · replace hr := iteF c5 hr
    refine lv_aload_n hx hb dX12_take_8 rfl (lv_at hl 0 rfl) ?_
    refine lv_iconst (v := 1) hx hb dX12_take_9 (by decide +kernel) ?_
    replace hr := b3S hr
    obtain ⟨r10z, c10_g7, c10_g8, hc10, hr⟩ := hr
    have hFc := fr_all hD hS hA
    refine va_calli (va_runV (As := [.int 1]) (rest := []) ⟨hx, hb, hml, hown, hts⟩ (m_wrong l dC dI H.size h0 kB kI kZ q g F 1 r10z c10_g7 c10_g8 hc10) (cwV 1 hts gw_X12_wrong_197 rfl rfl rfl (by decide +kernel) ⟨Nat.le_of_ble_eq_true rfl, Nat.le_of_ble_eq_true rfl⟩) ⟨fun a U g mk q => by obtain ⟨q0, q1, qP, qK, qD⟩ := q; exact ⟨q0, q1, qP, va_K.moved (u := U) (U := U.calling g mk a) (Vm.Alike.refl U.vm) qK, qD⟩, va_recv hK hP (ci := 12) (q0 := 0) rfl rfl, fun U hU hW => ⟨rfl, by rw [hU], by rw [hU]; exact hP, va_K.moved hW.alike hK, hD.weaken (fun _ _ _ _ => trivial)⟩⟩ rfl rfl hl.1 rfl (lv_room (Nat.le_of_ble_eq_true rfl)) dX12_take_10 ⟨Nat.le_of_ble_eq_true rfl, Nat.le_of_ble_eq_true rfl⟩) hS (fun q _ h => hFc q h) hFc (fun r10 u t H1 locs ht hvm hw hB hz1 hk1 hS => ?_)
    replace hw : r10 = r10z := hw
    subst hw
    obtain ⟨hP1, hK1, hD1⟩ := hB
    rw [ht] at hP1
    obtain ⟨hP, hD⟩ := jn_all (w1 := (mW h0 kB kI kZ q (upd (upd g 7 c10_g7) 8 c10_g8) F)) hFc hP1 hD1
    clear hFc hP1 hK1 hD1 hk1 hz1 ht hvm
    generalize H1 = H at hP hS ⊢
    have hP : va_P (dC, dI) vwCl (mW h0 kB kI kZ q (upd (upd g 7 c10_g7) 8 c10_g8) F) H := hP
    have hD : va_D A (mW h0 kB kI kZ q (upd (upd g 7 c10_g7) 8 c10_g8) F) := hD
    replace hr := iteS hr
    obtain ⟨hz13, hr⟩ := hr
    first | exact K 13 ls _ _ _ _ _ H _ hr hz13 dX12_take_13 (sP_eq (mW_cg (by repeat (first | with_reducible rfl | with_reducible refine upd_cg ?_ | refine Eq.trans ?_ (upd_id rfl))) (by repeat (first | with_reducible rfl | with_reducible refine upF_cg ?_ | refine Eq.trans ?_ (upF_id rfl)))) hP) (sD_eq (mW_cg (by repeat (first | with_reducible rfl | with_reducible refine upd_cg ?_ | refine Eq.trans ?_ (upd_id rfl))) (by repeat (first | with_reducible rfl | with_reducible refine upF_cg ?_ | refine Eq.trans ?_ (upF_id rfl)))) hD) hS | exact K 13 ls _ _ _ _ _ H _ hr hz13 dX12_take_13 hP hD hS
set_option maxHeartbeats 4000000 in
set_option maxRecDepth 100000 in
theorem m_take_14_15 (l : Launch) (dC : Nat → ClassId) (dI : Nat → Nat → Nat) (sz : Nat) (h0 : Nat) (kB kI kZ : ClassId) (q : Nat → Nat) (g : Nat → Int32) (F : Nat → Nat → Int32) (p2 : Int32) (p3 : Int32) (r : Int32) (c_g7 : Int32) (c_g8 : Int32) (c_A0 : (Nat → Int32)) (c_A1 : (Nat → Int32)) (hr : f_take g F (F 14) 17920 (F 15) 1120 p2 p3 = some (r, c_g7, c_g8, c_A0, c_A1)) : Met l yX12_take vmX12_take ({ frames := 3, cells := 0, slots := 0, locals := 81 } : Room) (va_Pc [.ref h0, .ref (q 14), .ref (q 15), .int p2, .int p3] (fun U => U.heap.size = sz ∧ va_P (dC, dI) vwCl (mW h0 kB kI kZ q g F) U.heap ∧ va_K (dC, dI) vwCl (mT kB kI kZ) U ∧ va_D (fun _ => True) (mW h0 kB kI kZ q g F))) (va_Qi (fun (rz : Int32) (_ : Unit) => rz = r) (fun _ t => va_P (dC, dI) vwCl (mW h0 kB kI kZ q (upd (upd g 7 c_g7) 8 c_g8) (upF (upF F 14 c_A0) 15 c_A1)) t.heap ∧ va_K (dC, dI) vwCl (mT kB kI kZ) t ∧ va_D (va_A (mW h0 kB kI kZ q g F) sz) (mW h0 kB kI kZ q (upd (upd g 7 c_g7) 8 c_g8) (upF (upF F 14 c_A0) 15 c_A1))) (va_A (mW h0 kB kI kZ q g F) sz)) 0 0 (va_A (mW h0 kB kI kZ q g F) sz) := by
  refine Met.ofW (cc := cX12_take) (maxL := 7) (ret := (some .boolean)) (by decide) rfl ?_
  intro p e s m args below meth c s₁ B hml hv
  obtain ⟨rfl, hsz, hP, hK, hD0⟩ := hv
  have hx := B.exec
  have hb := B.bytes
  have hrt := B.returns
  have hts := atoms_spec (ws := vmX12_take) B.pre
  have hown : s.vm.findClass RX12 = some m.cls := findClass_of_methodNamed B.named
  subst hsz
  have hD := hD0.self (sz := s.heap.size)
  generalize hAe : va_A (mW h0 kB kI kZ q g F) s.heap.size = A at hD ⊢
  have hA : ∀ q : Nat, s.heap.size ≤ q → A q := fun q h => by rw [← hAe]; exact Or.inr h
  have hS : va_S A s.heap s.heap [] := va_S.rf
  have hl := lv_entry ([.ref h0, .ref (q 14), .ref (q 15), .int p2, .int p3]) (n := 7) (Nat.le_of_ble_eq_true rfl)
  rw [lg_entry_eq]
  generalize (lg_sl ([.ref h0, .ref (q 14), .ref (q 15), .int p2, .int p3]) ++ List.replicate (7 - (lg_sl ([.ref h0, .ref (q 14), .ref (q 15), .int p2, .int p3])).length) Slot.unset).toArray = ls at hl ⊢
  exact bm_take_14_15 p2 p3 r c_g7 c_g8 c_A0 c_A1 hr hx hb hml hown hts hA hK hP hD hS hl (fun pc ls rz c_g7z c_g8z c_A0z c_A1z H locs he hz hd hP hD hS => by cases he; exact W.zret (v := r) hx hb hrt (z_nb hz) (fun t ht hW => ⟨⟨r, (), rfl, rfl, by rw [ht]; exact hP, va_K.moved hW.alike hK, hD⟩, hS.F ht⟩) hS.2.2 hd)
set_option maxHeartbeats 4000000 in
set_option maxRecDepth 100000 in
theorem bm_stands_29 {p : Program} {l : Launch} {e : Env} {s : State} {m : MethodId} {args : Array Value} {below : List Frame} {meth : Method} {c : Code} {Q : State → Prop} {A : Nat → Prop} {dC : Nat → ClassId} {dI : Nat → Nat → Nat} {h0 : Nat} {kB kI kZ : ClassId} {q : Nat → Nat} {g : Nat → Int32} {F : Nat → Nat → Int32} {H : Heap} {locs : List Loc} {ls : Array Slot} (p0 : Int32) (p2 : Int32) (p3 : Int32) (r : Int32) (hr : f_stands g F p0 (F 29) 400 p2 p3 = some r) (hx : p.tables.exec = Jvm.exec) (hb : c.code = cX12_stands) (hml : c.maxLocals = 6) (hown : s.vm.findClass RX12 = some m.cls) (hts : ∀ w ∈ vmX12_stands, w.before args s = true) (hA : ∀ q : Nat, s.heap.size ≤ q → A q) (hK : va_K (dC, dI) vwCl (mT kB kI kZ) s) (hP : va_P (dC, dI) vwCl (mW h0 kB kI kZ q g F) H) (hD : va_D A (mW h0 kB kI kZ q g F)) (hS : va_S A s.heap H locs) (hl : lv_has ls 6 [(0, .ref h0), (1, .int p0), (2, .ref (q 29)), (3, .int p2), (4, .int p3)])
    (K : ∀ (pc : Nat) (ls : Array Slot) (rz : Int32) (H : Heap) (locs : List Loc), some rz = some r → is01 rz → decode cX12_stands pc = .ok (.ireturn, 1) → va_P (dC, dI) vwCl (mW h0 kB kI kZ q g F) H → va_D A (mW h0 kB kI kZ q g F) → va_S A s.heap H locs → W p l e ({ frames := 2, cells := 0, slots := 0, locals := 60 } : Room) s m args below meth c H locs 0 0 Q (F0 m pc ls [.int rz])) : W p l e ({ frames := 2, cells := 0, slots := 0, locals := 60 } : Room) s m args below meth c H locs 0 0 Q (F0 m 0 ls []) := by
  unfold f_stands at hr
  refine lv_iload_n hx hb dX12_stands_0 rfl (lv_at hl 3 rfl) ?_
  replace hr := jnS hr
  obtain ⟨j17, hj17, hr⟩ := hr
  have Jj17 : ∀ (H : Heap) (locs : List Loc) (ls : Array Slot), j17 () = some r → va_P (dC, dI) vwCl (mW h0 kB kI kZ q g F) H → va_D A (mW h0 kB kI kZ q g F) → va_S A s.heap H locs → lv_has ls 6 [] → W p l e ({ frames := 2, cells := 0, slots := 0, locals := 60 } : Room) s m args below meth c H locs 0 0 Q (F0 m 17 ls []) := by
    intro H locs ls hr hP hD hS hl
    rw [hj17] at hr
    refine lv_iconst (v := 0) hx hb dX12_stands_17 (by decide +kernel) ?_
    exact K 18 ls _ H _ hr (by decide) dX12_stands_18 hP hD hS
  refine lv_if_lt (tgt := 17) hx hb dX12_stands_1 (by decide) (fun c1 => ?_) (fun c1 => ?_)
  · replace hr := iteT c1 hr
    exact Jj17 H _ ls hr hP hD hS (lv_sub hl [] rfl)
  · replace hr := iteF c1 hr
    refine lv_iload_n hx hb dX12_stands_4 rfl (lv_at hl 3 rfl) ?_
    refine lv_aload_n hx hb dX12_stands_5 rfl (lv_at hl 0 rfl) ?_
    refine va_get (D := (dC, dI)) (ci := 12) (v := .ref (q 15)) (C := RX12) (T := TX12) (N := 71) hx hb hts inX12 hown hK hP 0 rfl rfl 15 (by decide) (hts (.fieldLink RX12 33 "SpellTurnerModel" "lawSize" "[I") im_71) (fun _ h9 => h9) rfl dX12_stands_6 ?_
    refine lv_iload_n hx hb dX12_stands_9 rfl (lv_at hl 1 rfl) ?_
    replace hr := iteS hr
    obtain ⟨hi10, hr⟩ := hr
    refine va_iald (f := (F 15)) hx hb hK hP 7 1 rfl rfl (inbV hi10) dX12_stands_10 ?_
    refine lv_iadd hx hb dX12_stands_11 ?_
    refine lv_iload hx hb dX12_stands_12 (lv_at hl 4 rfl) ?_
    refine lv_icmp_le (tgt := 19) hx hb dX12_stands_14 (by decide) (fun c14 => ?_) (fun c14 => ?_)
    · replace hr := iteT c14 hr
      refine lv_iconst (v := 0) hx hb dX12_stands_19 (by decide +kernel) ?_
      refine lv_istore (lv' := [(5, .int 0), (0, .ref h0), (1, .int p0), (2, .ref (q 29)), (3, .int p2), (4, .int p3)]) hx hb dX12_stands_20 hl (by decide) rfl (fun ls hl => ?_)
      have lp22 : ∀ (n22 : Nat) (y22_5 : Int32) (H : Heap) (locs : List Loc) (ls : Array Slot), L_stands_22 F p0 (F 29) 400 p2 n22 y22_5 = some r → va_P (dC, dI) vwCl (mW h0 kB kI kZ q g F) H → va_D A (mW h0 kB kI kZ q g F) → va_S A s.heap H locs → lv_has ls 6 [(0, .ref h0), (1, .int p0), (2, .ref (q 29)), (3, .int p2), (5, .int y22_5)] → W p l e ({ frames := 2, cells := 0, slots := 0, locals := 60 } : Room) s m args below meth c H locs 0 0 Q (F0 m 22 ls []) := by
        intro n22
        induction n22 with
        | zero => intro y22_5 H locs ls hr; exact nomatch (show none = some r from hr)
        | succ n22 ih22 =>
          intro y22_5 H locs ls hr hP hD hS hl
          replace hr : B_stands_22 F p0 (F 29) 400 p2 (L_stands_22 F p0 (F 29) 400 p2 n22) y22_5 = some r := hr
          unfold B_stands_22 at hr
          refine lv_iload hx hb dX12_stands_22 (lv_at hl 4 rfl) ?_
          refine lv_aload_n hx hb dX12_stands_24 rfl (lv_at hl 0 rfl) ?_
          refine va_get (D := (dC, dI)) (ci := 12) (v := .ref (q 15)) (C := RX12) (T := TX12) (N := 71) hx hb hts inX12 hown hK hP 0 rfl rfl 15 (by decide) (hts (.fieldLink RX12 33 "SpellTurnerModel" "lawSize" "[I") im_71) (fun _ h9 => h9) rfl dX12_stands_25 ?_
          refine lv_iload_n hx hb dX12_stands_28 rfl (lv_at hl 1 rfl) ?_
          replace hr := iteS hr
          obtain ⟨hi29, hr⟩ := hr
          refine va_iald (f := (F 15)) hx hb hK hP 7 1 rfl rfl (inbV hi29) dX12_stands_29 ?_
          refine lv_icmp_ge (tgt := 62) hx hb dX12_stands_30 (by decide) (fun c30 => ?_) (fun c30 => ?_)
          · replace hr := iteT c30 hr
            refine lv_iconst (v := 1) hx hb dX12_stands_62 (by decide +kernel) ?_
            exact K 63 ls _ H _ hr (by decide) dX12_stands_63 hP hD hS
          · replace hr := iteF c30 hr
            refine lv_aload_n hx hb dX12_stands_33 rfl (lv_at hl 2 rfl) ?_
            refine lv_iload_n hx hb dX12_stands_34 rfl (lv_at hl 3 rfl) ?_
            refine lv_iload hx hb dX12_stands_35 (lv_at hl 4 rfl) ?_
            refine lv_iadd hx hb dX12_stands_37 ?_
            replace hr := iteS hr
            obtain ⟨hi38, hr⟩ := hr
            refine va_bald (f := (F 29)) hx hb hK hP 19 0 rfl rfl (inbV hi38) dX12_stands_38 ?_
            refine lv_aload_n hx hb dX12_stands_39 rfl (lv_at hl 0 rfl) ?_
            refine va_get (D := (dC, dI)) (ci := 12) (v := .ref (q 14)) (C := RX12) (T := TX12) (N := 71) hx hb hts inX12 hown hK hP 0 rfl rfl 14 (by decide) (hts (.fieldLink RX12 30 "SpellTurnerModel" "lawText" "[B") im_72) (fun _ h9 => h9) rfl dX12_stands_40 ?_
            refine lv_bipush (v := 16) hx hb dX12_stands_43 (by decide +kernel) ?_
            refine lv_iload_n hx hb dX12_stands_45 rfl (lv_at hl 1 rfl) ?_
            refine lv_imul hx hb dX12_stands_46 ?_
            refine lv_iload hx hb dX12_stands_47 (lv_at hl 4 rfl) ?_
            refine lv_iadd hx hb dX12_stands_49 ?_
            replace hr := iteS hr
            obtain ⟨hi50, hr⟩ := hr
            refine va_bald (f := (F 14)) hx hb hK hP 6 0 rfl rfl (inbV hi50) dX12_stands_50 ?_
            refine lv_icmp_eq (tgt := 56) hx hb dX12_stands_51 (by decide) (fun c51 => ?_) (fun c51 => ?_)
            · replace hr := iteT c51 hr
              refine lv_iinc (v := (y22_5 + 1)) (lv' := [(5, .int (y22_5 + 1)), (0, .ref h0), (1, .int p0), (2, .ref (q 29)), (3, .int p2)]) hx hb dX12_stands_56 hl (k := 4) rfl rfl (by decide) rfl (fun ls hl => ?_)
              refine lv_goto (tgt := 22) hx hb dX12_stands_59 (by decide) ?_
              exact ih22 (y22_5 + 1) H _ ls hr hP hD hS (lv_sub hl [1, 2, 3, 4, 0] rfl)
            · replace hr := iteF c51 hr
              refine lv_iconst (v := 0) hx hb dX12_stands_54 (by decide +kernel) ?_
              exact K 55 ls _ H _ hr (by decide) dX12_stands_55 hP hD hS
      exact lp22 NN 0 H _ ls hr hP hD hS (lv_sub hl [1, 2, 3, 4, 0] rfl)
    · replace hr := iteF c14 hr
      exact Jj17 H _ ls hr hP hD hS (lv_sub hl [] rfl)
set_option maxHeartbeats 4000000 in
set_option maxRecDepth 100000 in
theorem m_stands_29 (l : Launch) (dC : Nat → ClassId) (dI : Nat → Nat → Nat) (sz : Nat) (h0 : Nat) (kB kI kZ : ClassId) (q : Nat → Nat) (g : Nat → Int32) (F : Nat → Nat → Int32) (p0 : Int32) (p2 : Int32) (p3 : Int32) (r : Int32) (hr : f_stands g F p0 (F 29) 400 p2 p3 = some r) : Met l yX12_stands vmX12_stands ({ frames := 2, cells := 0, slots := 0, locals := 60 } : Room) (va_Pc [.ref h0, .int p0, .ref (q 29), .int p2, .int p3] (fun U => U.heap.size = sz ∧ va_P (dC, dI) vwCl (mW h0 kB kI kZ q g F) U.heap ∧ va_K (dC, dI) vwCl (mT kB kI kZ) U ∧ va_D (fun _ => True) (mW h0 kB kI kZ q g F))) (va_Qi (fun (rz : Int32) (_ : Unit) => rz = r) (fun _ t => va_P (dC, dI) vwCl (mW h0 kB kI kZ q g F) t.heap ∧ va_K (dC, dI) vwCl (mT kB kI kZ) t ∧ va_D (va_A (mW h0 kB kI kZ q g F) sz) (mW h0 kB kI kZ q g F)) (va_A (mW h0 kB kI kZ q g F) sz)) 0 0 (va_A (mW h0 kB kI kZ q g F) sz) := by
  refine Met.ofW (cc := cX12_stands) (maxL := 6) (ret := (some .boolean)) (by decide) rfl ?_
  intro p e s m args below meth c s₁ B hml hv
  obtain ⟨rfl, hsz, hP, hK, hD0⟩ := hv
  have hx := B.exec
  have hb := B.bytes
  have hrt := B.returns
  have hts := atoms_spec (ws := vmX12_stands) B.pre
  have hown : s.vm.findClass RX12 = some m.cls := findClass_of_methodNamed B.named
  subst hsz
  have hD := hD0.self (sz := s.heap.size)
  generalize hAe : va_A (mW h0 kB kI kZ q g F) s.heap.size = A at hD ⊢
  have hA : ∀ q : Nat, s.heap.size ≤ q → A q := fun q h => by rw [← hAe]; exact Or.inr h
  have hS : va_S A s.heap s.heap [] := va_S.rf
  have hl := lv_entry ([.ref h0, .int p0, .ref (q 29), .int p2, .int p3]) (n := 6) (Nat.le_of_ble_eq_true rfl)
  rw [lg_entry_eq]
  generalize (lg_sl ([.ref h0, .int p0, .ref (q 29), .int p2, .int p3]) ++ List.replicate (6 - (lg_sl ([.ref h0, .int p0, .ref (q 29), .int p2, .int p3])).length) Slot.unset).toArray = ls at hl ⊢
  exact bm_stands_29 p0 p2 p3 r hr hx hb hml hown hts hA hK hP hD hS hl (fun pc ls rz H locs he hz hd hP hD hS => by cases he; exact W.zret (v := r) hx hb hrt (z_nb hz) (fun t ht hW => ⟨⟨r, (), rfl, rfl, by rw [ht]; exact hP, va_K.moved hW.alike hK, hD⟩, hS.F ht⟩) hS.2.2 hd)
