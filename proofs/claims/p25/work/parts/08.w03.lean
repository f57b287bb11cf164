theorem gd_X3_find_0 : decode cX3_find 0 = .ok (.aload_n 0, 1) ∧ decode cX3_find 1 = .ok (.iconst 0, 1) ∧ decode cX3_find 2 = .ok (.putfield 9, 3) ∧ decode cX3_find 5 = .ok (.aload_n 0, 1) ∧ decode cX3_find 6 = .ok (.aload_n 1, 1) ∧ decode cX3_find 7 = .ok (.putfield 38, 3) ∧ decode cX3_find 10 = .ok (.aload_n 0, 1) ∧ decode cX3_find 11 = .ok (.getfield 38, 3) ∧ decode cX3_find 14 = .ok (.getfield 42, 3) ∧ decode cX3_find 17 = .ok (.ifCond .eq 16, 3) := by decide +kernel
theorem dX3_find_0 : decode cX3_find 0 = .ok (.aload_n 0, 1) := gd_X3_find_0.1
theorem dX3_find_1 : decode cX3_find 1 = .ok (.iconst 0, 1) := gd_X3_find_0.2.1
theorem dX3_find_2 : decode cX3_find 2 = .ok (.putfield 9, 3) := gd_X3_find_0.2.2.1
theorem dX3_find_5 : decode cX3_find 5 = .ok (.aload_n 0, 1) := gd_X3_find_0.2.2.2.1
theorem dX3_find_6 : decode cX3_find 6 = .ok (.aload_n 1, 1) := gd_X3_find_0.2.2.2.2.1
theorem dX3_find_7 : decode cX3_find 7 = .ok (.putfield 38, 3) := gd_X3_find_0.2.2.2.2.2.1
theorem dX3_find_10 : decode cX3_find 10 = .ok (.aload_n 0, 1) := gd_X3_find_0.2.2.2.2.2.2.1
theorem dX3_find_11 : decode cX3_find 11 = .ok (.getfield 38, 3) := gd_X3_find_0.2.2.2.2.2.2.2.1
theorem dX3_find_14 : decode cX3_find 14 = .ok (.getfield 42, 3) := gd_X3_find_0.2.2.2.2.2.2.2.2.1
theorem dX3_find_17 : decode cX3_find 17 = .ok (.ifCond .eq 16, 3) := gd_X3_find_0.2.2.2.2.2.2.2.2.2
theorem gd_X3_find_20 : decode cX3_find 20 = .ok (.iload 4, 2) ∧ decode cX3_find 22 = .ok (.iconst 1, 1) ∧ decode cX3_find 23 = .ok (.if_icmp .lt 10, 3) ∧ decode cX3_find 26 = .ok (.iload 4, 2) ∧ decode cX3_find 28 = .ok (.bipush 24, 2) ∧ decode cX3_find 30 = .ok (.if_icmp .le 4, 3) ∧ decode cX3_find 33 = .ok (.return_, 1) ∧ decode cX3_find 34 = .ok (.aload_n 0, 1) ∧ decode cX3_find 35 = .ok (.getfield 26, 3) ∧ decode cX3_find 38 = .ok (.iload 4, 2) := by decide +kernel
theorem dX3_find_20 : decode cX3_find 20 = .ok (.iload 4, 2) := gd_X3_find_20.1
theorem dX3_find_22 : decode cX3_find 22 = .ok (.iconst 1, 1) := gd_X3_find_20.2.1
theorem dX3_find_23 : decode cX3_find 23 = .ok (.if_icmp .lt 10, 3) := gd_X3_find_20.2.2.1
theorem dX3_find_26 : decode cX3_find 26 = .ok (.iload 4, 2) := gd_X3_find_20.2.2.2.1
theorem dX3_find_28 : decode cX3_find 28 = .ok (.bipush 24, 2) := gd_X3_find_20.2.2.2.2.1
theorem dX3_find_30 : decode cX3_find 30 = .ok (.if_icmp .le 4, 3) := gd_X3_find_20.2.2.2.2.2.1
theorem dX3_find_33 : decode cX3_find 33 = .ok (.return_, 1) := gd_X3_find_20.2.2.2.2.2.2.1
theorem dX3_find_34 : decode cX3_find 34 = .ok (.aload_n 0, 1) := gd_X3_find_20.2.2.2.2.2.2.2.1
theorem dX3_find_35 : decode cX3_find 35 = .ok (.getfield 26, 3) := gd_X3_find_20.2.2.2.2.2.2.2.2.1
theorem dX3_find_38 : decode cX3_find 38 = .ok (.iload 4, 2) := gd_X3_find_20.2.2.2.2.2.2.2.2.2
theorem gd_X3_find_40 : decode cX3_find 40 = .ok (.iconst 1, 1) ∧ decode cX3_find 41 = .ok (.bastore, 1) ∧ decode cX3_find 42 = .ok (.iload 4, 2) ∧ decode cX3_find 44 = .ok (.iconst 1, 1) ∧ decode cX3_find 45 = .ok (.isub, 1) ∧ decode cX3_find 46 = .ok (.istore 5, 2) ∧ decode cX3_find 48 = .ok (.iload 5, 2) ∧ decode cX3_find 50 = .ok (.ifCond .lt 19, 3) ∧ decode cX3_find 53 = .ok (.aload_n 0, 1) ∧ decode cX3_find 54 = .ok (.aload_n 2, 1) := by decide +kernel
theorem dX3_find_40 : decode cX3_find 40 = .ok (.iconst 1, 1) := gd_X3_find_40.1
theorem dX3_find_41 : decode cX3_find 41 = .ok (.bastore, 1) := gd_X3_find_40.2.1
theorem dX3_find_42 : decode cX3_find 42 = .ok (.iload 4, 2) := gd_X3_find_40.2.2.1
theorem dX3_find_44 : decode cX3_find 44 = .ok (.iconst 1, 1) := gd_X3_find_40.2.2.2.1
theorem dX3_find_45 : decode cX3_find 45 = .ok (.isub, 1) := gd_X3_find_40.2.2.2.2.1
theorem dX3_find_46 : decode cX3_find 46 = .ok (.istore 5, 2) := gd_X3_find_40.2.2.2.2.2.1
theorem dX3_find_48 : decode cX3_find 48 = .ok (.iload 5, 2) := gd_X3_find_40.2.2.2.2.2.2.1
theorem dX3_find_50 : decode cX3_find 50 = .ok (.ifCond .lt 19, 3) := gd_X3_find_40.2.2.2.2.2.2.2.1
theorem dX3_find_53 : decode cX3_find 53 = .ok (.aload_n 0, 1) := gd_X3_find_40.2.2.2.2.2.2.2.2.1
theorem dX3_find_54 : decode cX3_find 54 = .ok (.aload_n 2, 1) := gd_X3_find_40.2.2.2.2.2.2.2.2.2
theorem gd_X3_find_55 : decode cX3_find 55 = .ok (.iload_n 3, 1) ∧ decode cX3_find 56 = .ok (.iload 5, 2) ∧ decode cX3_find 58 = .ok (.iload 4, 2) ∧ decode cX3_find 60 = .ok (.invokevirtual 43, 3) ∧ decode cX3_find 63 = .ok (.iinc 5 (-1), 3) ∧ decode cX3_find 66 = .ok (.goto (-18), 3) ∧ decode cX3_find 69 = .ok (.aload_n 0, 1) ∧ decode cX3_find 70 = .ok (.getfield 26, 3) ∧ decode cX3_find 73 = .ok (.iconst 0, 1) ∧ decode cX3_find 74 = .ok (.baload, 1) := by decide +kernel
theorem dX3_find_55 : decode cX3_find 55 = .ok (.iload_n 3, 1) := gd_X3_find_55.1
theorem dX3_find_56 : decode cX3_find 56 = .ok (.iload 5, 2) := gd_X3_find_55.2.1
theorem dX3_find_58 : decode cX3_find 58 = .ok (.iload 4, 2) := gd_X3_find_55.2.2.1
theorem dX3_find_60 : decode cX3_find 60 = .ok (.invokevirtual 43, 3) := gd_X3_find_55.2.2.2.1
theorem dX3_find_63 : decode cX3_find 63 = .ok (.iinc 5 (-1), 3) := gd_X3_find_55.2.2.2.2.1
theorem dX3_find_66 : decode cX3_find 66 = .ok (.goto (-18), 3) := gd_X3_find_55.2.2.2.2.2.1
theorem dX3_find_69 : decode cX3_find 69 = .ok (.aload_n 0, 1) := gd_X3_find_55.2.2.2.2.2.2.1
theorem dX3_find_70 : decode cX3_find 70 = .ok (.getfield 26, 3) := gd_X3_find_55.2.2.2.2.2.2.2.1
theorem dX3_find_73 : decode cX3_find 73 = .ok (.iconst 0, 1) := gd_X3_find_55.2.2.2.2.2.2.2.2.1
theorem dX3_find_74 : decode cX3_find 74 = .ok (.baload, 1) := gd_X3_find_55.2.2.2.2.2.2.2.2.2
theorem gd_X3_find_75 : decode cX3_find 75 = .ok (.ifCond .eq 11, 3) ∧ decode cX3_find 78 = .ok (.aload_n 0, 1) ∧ decode cX3_find 79 = .ok (.iconst 0, 1) ∧ decode cX3_find 80 = .ok (.iload 4, 2) ∧ decode cX3_find 82 = .ok (.iconst 0, 1) ∧ decode cX3_find 83 = .ok (.invokevirtual 47, 3) ∧ decode cX3_find 86 = .ok (.return_, 1) ∧ decode cX3_markFitting 0 = .ok (.aload_n 0, 1) ∧ decode cX3_markFitting 1 = .ok (.getfield 26, 3) ∧ decode cX3_markFitting 4 = .ok (.iload_n 3, 1) := by decide +kernel
theorem dX3_find_75 : decode cX3_find 75 = .ok (.ifCond .eq 11, 3) := gd_X3_find_75.1
theorem dX3_find_78 : decode cX3_find 78 = .ok (.aload_n 0, 1) := gd_X3_find_75.2.1
theorem dX3_find_79 : decode cX3_find 79 = .ok (.iconst 0, 1) := gd_X3_find_75.2.2.1
theorem dX3_find_80 : decode cX3_find 80 = .ok (.iload 4, 2) := gd_X3_find_75.2.2.2.1
theorem dX3_find_82 : decode cX3_find 82 = .ok (.iconst 0, 1) := gd_X3_find_75.2.2.2.2.1
theorem dX3_find_83 : decode cX3_find 83 = .ok (.invokevirtual 47, 3) := gd_X3_find_75.2.2.2.2.2.1
theorem dX3_find_86 : decode cX3_find 86 = .ok (.return_, 1) := gd_X3_find_75.2.2.2.2.2.2.1
theorem dX3_markFitting_0 : decode cX3_markFitting 0 = .ok (.aload_n 0, 1) := gd_X3_find_75.2.2.2.2.2.2.2.1
theorem dX3_markFitting_1 : decode cX3_markFitting 1 = .ok (.getfield 26, 3) := gd_X3_find_75.2.2.2.2.2.2.2.2.1
theorem dX3_markFitting_4 : decode cX3_markFitting 4 = .ok (.iload_n 3, 1) := gd_X3_find_75.2.2.2.2.2.2.2.2.2
theorem gd_X3_markFitting_5 : decode cX3_markFitting 5 = .ok (.iconst 0, 1) ∧ decode cX3_markFitting 6 = .ok (.bastore, 1) ∧ decode cX3_markFitting 7 = .ok (.aload_n 0, 1) ∧ decode cX3_markFitting 8 = .ok (.getfield 23, 3) ∧ decode cX3_markFitting 11 = .ok (.iload_n 3, 1) ∧ decode cX3_markFitting 12 = .ok (.bipush 17, 2) ∧ decode cX3_markFitting 14 = .ok (.imul, 1) ∧ decode cX3_markFitting 15 = .ok (.iload_n 3, 1) ∧ decode cX3_markFitting 16 = .ok (.bipush 17, 2) ∧ decode cX3_markFitting 18 = .ok (.imul, 1) := by decide +kernel
theorem dX3_markFitting_5 : decode cX3_markFitting 5 = .ok (.iconst 0, 1) := gd_X3_markFitting_5.1
theorem dX3_markFitting_6 : decode cX3_markFitting 6 = .ok (.bastore, 1) := gd_X3_markFitting_5.2.1
theorem dX3_markFitting_7 : decode cX3_markFitting 7 = .ok (.aload_n 0, 1) := gd_X3_markFitting_5.2.2.1
theorem dX3_markFitting_8 : decode cX3_markFitting 8 = .ok (.getfield 23, 3) := gd_X3_markFitting_5.2.2.2.1
theorem dX3_markFitting_11 : decode cX3_markFitting 11 = .ok (.iload_n 3, 1) := gd_X3_markFitting_5.2.2.2.2.1
theorem dX3_markFitting_12 : decode cX3_markFitting 12 = .ok (.bipush 17, 2) := gd_X3_markFitting_5.2.2.2.2.2.1
theorem dX3_markFitting_14 : decode cX3_markFitting 14 = .ok (.imul, 1) := gd_X3_markFitting_5.2.2.2.2.2.2.1
theorem dX3_markFitting_15 : decode cX3_markFitting 15 = .ok (.iload_n 3, 1) := gd_X3_markFitting_5.2.2.2.2.2.2.2.1
theorem dX3_markFitting_16 : decode cX3_markFitting 16 = .ok (.bipush 17, 2) := gd_X3_markFitting_5.2.2.2.2.2.2.2.2.1
theorem dX3_markFitting_18 : decode cX3_markFitting 18 = .ok (.imul, 1) := gd_X3_markFitting_5.2.2.2.2.2.2.2.2.2
theorem gd_X3_markFitting_19 : decode cX3_markFitting 19 = .ok (.bipush 17, 2) ∧ decode cX3_markFitting 21 = .ok (.iadd, 1) ∧ decode cX3_markFitting 22 = .ok (.iconst (-1), 1) ∧ decode cX3_markFitting 23 = .ok (.invokestatic 58, 3) ∧ decode cX3_markFitting 26 = .ok (.iconst 0, 1) ∧ decode cX3_markFitting 27 = .ok (.istore 5, 2) ∧ decode cX3_markFitting 29 = .ok (.iload 5, 2) ∧ decode cX3_markFitting 31 = .ok (.aload_n 0, 1) ∧ decode cX3_markFitting 32 = .ok (.getfield 38, 3) ∧ decode cX3_markFitting 35 = .ok (.getfield 42, 3) := by decide +kernel
theorem dX3_markFitting_19 : decode cX3_markFitting 19 = .ok (.bipush 17, 2) := gd_X3_markFitting_19.1
theorem dX3_markFitting_21 : decode cX3_markFitting 21 = .ok (.iadd, 1) := gd_X3_markFitting_19.2.1
theorem dX3_markFitting_22 : decode cX3_markFitting 22 = .ok (.iconst (-1), 1) := gd_X3_markFitting_19.2.2.1
theorem dX3_markFitting_23 : decode cX3_markFitting 23 = .ok (.invokestatic 58, 3) := gd_X3_markFitting_19.2.2.2.1
theorem dX3_markFitting_26 : decode cX3_markFitting 26 = .ok (.iconst 0, 1) := gd_X3_markFitting_19.2.2.2.2.1
theorem dX3_markFitting_27 : decode cX3_markFitting 27 = .ok (.istore 5, 2) := gd_X3_markFitting_19.2.2.2.2.2.1
theorem dX3_markFitting_29 : decode cX3_markFitting 29 = .ok (.iload 5, 2) := gd_X3_markFitting_19.2.2.2.2.2.2.1
theorem dX3_markFitting_31 : decode cX3_markFitting 31 = .ok (.aload_n 0, 1) := gd_X3_markFitting_19.2.2.2.2.2.2.2.1
theorem dX3_markFitting_32 : decode cX3_markFitting 32 = .ok (.getfield 38, 3) := gd_X3_markFitting_19.2.2.2.2.2.2.2.2.1
theorem dX3_markFitting_35 : decode cX3_markFitting 35 = .ok (.getfield 42, 3) := gd_X3_markFitting_19.2.2.2.2.2.2.2.2.2
theorem gd_X3_markFitting_38 : decode cX3_markFitting 38 = .ok (.if_icmp .ge 86, 3) ∧ decode cX3_markFitting 41 = .ok (.iload_n 3, 1) ∧ decode cX3_markFitting 42 = .ok (.aload_n 0, 1) ∧ decode cX3_markFitting 43 = .ok (.getfield 38, 3) ∧ decode cX3_markFitting 46 = .ok (.getfield 55, 3) ∧ decode cX3_markFitting 49 = .ok (.iload 5, 2) ∧ decode cX3_markFitting 51 = .ok (.iaload, 1) ∧ decode cX3_markFitting 52 = .ok (.iadd, 1) ∧ decode cX3_markFitting 53 = .ok (.istore 6, 2) ∧ decode cX3_markFitting 55 = .ok (.iload 6, 2) := by decide +kernel
theorem dX3_markFitting_38 : decode cX3_markFitting 38 = .ok (.if_icmp .ge 86, 3) := gd_X3_markFitting_38.1
theorem dX3_markFitting_41 : decode cX3_markFitting 41 = .ok (.iload_n 3, 1) := gd_X3_markFitting_38.2.1
theorem dX3_markFitting_42 : decode cX3_markFitting 42 = .ok (.aload_n 0, 1) := gd_X3_markFitting_38.2.2.1
theorem dX3_markFitting_43 : decode cX3_markFitting 43 = .ok (.getfield 38, 3) := gd_X3_markFitting_38.2.2.2.1
theorem dX3_markFitting_46 : decode cX3_markFitting 46 = .ok (.getfield 55, 3) := gd_X3_markFitting_38.2.2.2.2.1
theorem dX3_markFitting_49 : decode cX3_markFitting 49 = .ok (.iload 5, 2) := gd_X3_markFitting_38.2.2.2.2.2.1
theorem dX3_markFitting_51 : decode cX3_markFitting 51 = .ok (.iaload, 1) := gd_X3_markFitting_38.2.2.2.2.2.2.1
theorem dX3_markFitting_52 : decode cX3_markFitting 52 = .ok (.iadd, 1) := gd_X3_markFitting_38.2.2.2.2.2.2.2.1
theorem dX3_markFitting_53 : decode cX3_markFitting 53 = .ok (.istore 6, 2) := gd_X3_markFitting_38.2.2.2.2.2.2.2.2.1
theorem dX3_markFitting_55 : decode cX3_markFitting 55 = .ok (.iload 6, 2) := gd_X3_markFitting_38.2.2.2.2.2.2.2.2.2
theorem gd_X3_markFitting_57 : decode cX3_markFitting 57 = .ok (.iload 4, 2) ∧ decode cX3_markFitting 59 = .ok (.if_icmp .gt 59, 3) ∧ decode cX3_markFitting 62 = .ok (.aload_n 0, 1) ∧ decode cX3_markFitting 63 = .ok (.getfield 26, 3) ∧ decode cX3_markFitting 66 = .ok (.iload 6, 2) ∧ decode cX3_markFitting 68 = .ok (.baload, 1) ∧ decode cX3_markFitting 69 = .ok (.ifCond .eq 49, 3) ∧ decode cX3_markFitting 72 = .ok (.aload_n 0, 1) ∧ decode cX3_markFitting 73 = .ok (.getfield 38, 3) ∧ decode cX3_markFitting 76 = .ok (.iload 5, 2) := by decide +kernel
theorem dX3_markFitting_57 : decode cX3_markFitting 57 = .ok (.iload 4, 2) := gd_X3_markFitting_57.1
theorem dX3_markFitting_59 : decode cX3_markFitting 59 = .ok (.if_icmp .gt 59, 3) := gd_X3_markFitting_57.2.1
theorem dX3_markFitting_62 : decode cX3_markFitting 62 = .ok (.aload_n 0, 1) := gd_X3_markFitting_57.2.2.1
theorem dX3_markFitting_63 : decode cX3_markFitting 63 = .ok (.getfield 26, 3) := gd_X3_markFitting_57.2.2.2.1
theorem dX3_markFitting_66 : decode cX3_markFitting 66 = .ok (.iload 6, 2) := gd_X3_markFitting_57.2.2.2.2.1
theorem dX3_markFitting_68 : decode cX3_markFitting 68 = .ok (.baload, 1) := gd_X3_markFitting_57.2.2.2.2.2.1
theorem dX3_markFitting_69 : decode cX3_markFitting 69 = .ok (.ifCond .eq 49, 3) := gd_X3_markFitting_57.2.2.2.2.2.2.1
theorem dX3_markFitting_72 : decode cX3_markFitting 72 = .ok (.aload_n 0, 1) := gd_X3_markFitting_57.2.2.2.2.2.2.2.1
theorem dX3_markFitting_73 : decode cX3_markFitting 73 = .ok (.getfield 38, 3) := gd_X3_markFitting_57.2.2.2.2.2.2.2.2.1
theorem dX3_markFitting_76 : decode cX3_markFitting 76 = .ok (.iload 5, 2) := gd_X3_markFitting_57.2.2.2.2.2.2.2.2.2
theorem gd_X3_markFitting_78 : decode cX3_markFitting 78 = .ok (.aload_n 1, 1) ∧ decode cX3_markFitting 79 = .ok (.iload_n 2, 1) ∧ decode cX3_markFitting 80 = .ok (.iload_n 3, 1) ∧ decode cX3_markFitting 81 = .ok (.iadd, 1) ∧ decode cX3_markFitting 82 = .ok (.invokevirtual 64, 3) ∧ decode cX3_markFitting 85 = .ok (.ifCond .eq 33, 3) ∧ decode cX3_markFitting 88 = .ok (.aload_n 0, 1) ∧ decode cX3_markFitting 89 = .ok (.getfield 23, 3) ∧ decode cX3_markFitting 92 = .ok (.iload_n 3, 1) ∧ decode cX3_markFitting 93 = .ok (.bipush 17, 2) := by decide +kernel
theorem dX3_markFitting_78 : decode cX3_markFitting 78 = .ok (.aload_n 1, 1) := gd_X3_markFitting_78.1
theorem dX3_markFitting_79 : decode cX3_markFitting 79 = .ok (.iload_n 2, 1) := gd_X3_markFitting_78.2.1
theorem dX3_markFitting_80 : decode cX3_markFitting 80 = .ok (.iload_n 3, 1) := gd_X3_markFitting_78.2.2.1
theorem dX3_markFitting_81 : decode cX3_markFitting 81 = .ok (.iadd, 1) := gd_X3_markFitting_78.2.2.2.1
theorem dX3_markFitting_82 : decode cX3_markFitting 82 = .ok (.invokevirtual 64, 3) := gd_X3_markFitting_78.2.2.2.2.1
theorem dX3_markFitting_85 : decode cX3_markFitting 85 = .ok (.ifCond .eq 33, 3) := gd_X3_markFitting_78.2.2.2.2.2.1
theorem dX3_markFitting_88 : decode cX3_markFitting 88 = .ok (.aload_n 0, 1) := gd_X3_markFitting_78.2.2.2.2.2.2.1
theorem dX3_markFitting_89 : decode cX3_markFitting 89 = .ok (.getfield 23, 3) := gd_X3_markFitting_78.2.2.2.2.2.2.2.1
theorem dX3_markFitting_92 : decode cX3_markFitting 92 = .ok (.iload_n 3, 1) := gd_X3_markFitting_78.2.2.2.2.2.2.2.2.1
theorem dX3_markFitting_93 : decode cX3_markFitting 93 = .ok (.bipush 17, 2) := gd_X3_markFitting_78.2.2.2.2.2.2.2.2.2
theorem gd_X3_markFitting_95 : decode cX3_markFitting 95 = .ok (.imul, 1) ∧ decode cX3_markFitting 96 = .ok (.aload_n 0, 1) ∧ decode cX3_markFitting 97 = .ok (.getfield 38, 3) ∧ decode cX3_markFitting 100 = .ok (.getfield 55, 3) ∧ decode cX3_markFitting 103 = .ok (.iload 5, 2) ∧ decode cX3_markFitting 105 = .ok (.iaload, 1) ∧ decode cX3_markFitting 106 = .ok (.iadd, 1) ∧ decode cX3_markFitting 107 = .ok (.iload 5, 2) ∧ decode cX3_markFitting 109 = .ok (.i2b, 1) ∧ decode cX3_markFitting 110 = .ok (.bastore, 1) := by decide +kernel
theorem dX3_markFitting_95 : decode cX3_markFitting 95 = .ok (.imul, 1) := gd_X3_markFitting_95.1
theorem dX3_markFitting_96 : decode cX3_markFitting 96 = .ok (.aload_n 0, 1) := gd_X3_markFitting_95.2.1
theorem dX3_markFitting_97 : decode cX3_markFitting 97 = .ok (.getfield 38, 3) := gd_X3_markFitting_95.2.2.1
theorem dX3_markFitting_100 : decode cX3_markFitting 100 = .ok (.getfield 55, 3) := gd_X3_markFitting_95.2.2.2.1
theorem dX3_markFitting_103 : decode cX3_markFitting 103 = .ok (.iload 5, 2) := gd_X3_markFitting_95.2.2.2.2.1
theorem dX3_markFitting_105 : decode cX3_markFitting 105 = .ok (.iaload, 1) := gd_X3_markFitting_95.2.2.2.2.2.1
theorem dX3_markFitting_106 : decode cX3_markFitting 106 = .ok (.iadd, 1) := gd_X3_markFitting_95.2.2.2.2.2.2.1
theorem dX3_markFitting_107 : decode cX3_markFitting 107 = .ok (.iload 5, 2) := gd_X3_markFitting_95.2.2.2.2.2.2.2.1
theorem dX3_markFitting_109 : decode cX3_markFitting 109 = .ok (.i2b, 1) := gd_X3_markFitting_95.2.2.2.2.2.2.2.2.1
theorem dX3_markFitting_110 : decode cX3_markFitting 110 = .ok (.bastore, 1) := gd_X3_markFitting_95.2.2.2.2.2.2.2.2.2
theorem gd_X3_markFitting_111 : decode cX3_markFitting 111 = .ok (.aload_n 0, 1) ∧ decode cX3_markFitting 112 = .ok (.getfield 26, 3) ∧ decode cX3_markFitting 115 = .ok (.iload_n 3, 1) ∧ decode cX3_markFitting 116 = .ok (.iconst 1, 1) ∧ decode cX3_markFitting 117 = .ok (.bastore, 1) ∧ decode cX3_markFitting 118 = .ok (.iinc 5 1, 3) ∧ decode cX3_markFitting 121 = .ok (.goto (-92), 3) ∧ decode cX3_markFitting 124 = .ok (.return_, 1) ∧ decode cX3_walk 0 = .ok (.aload_n 0, 1) ∧ decode cX3_walk 1 = .ok (.getfield 9, 3) := by decide +kernel
theorem dX3_markFitting_111 : decode cX3_markFitting 111 = .ok (.aload_n 0, 1) := gd_X3_markFitting_111.1
theorem dX3_markFitting_112 : decode cX3_markFitting 112 = .ok (.getfield 26, 3) := gd_X3_markFitting_111.2.1
theorem dX3_markFitting_115 : decode cX3_markFitting 115 = .ok (.iload_n 3, 1) := gd_X3_markFitting_111.2.2.1
theorem dX3_markFitting_116 : decode cX3_markFitting 116 = .ok (.iconst 1, 1) := gd_X3_markFitting_111.2.2.2.1
theorem dX3_markFitting_117 : decode cX3_markFitting 117 = .ok (.bastore, 1) := gd_X3_markFitting_111.2.2.2.2.1
theorem dX3_markFitting_118 : decode cX3_markFitting 118 = .ok (.iinc 5 1, 3) := gd_X3_markFitting_111.2.2.2.2.2.1
theorem dX3_markFitting_121 : decode cX3_markFitting 121 = .ok (.goto (-92), 3) := gd_X3_markFitting_111.2.2.2.2.2.2.1
theorem dX3_markFitting_124 : decode cX3_markFitting 124 = .ok (.return_, 1) := gd_X3_markFitting_111.2.2.2.2.2.2.2.1
theorem dX3_walk_0 : decode cX3_walk 0 = .ok (.aload_n 0, 1) := gd_X3_markFitting_111.2.2.2.2.2.2.2.2.1
theorem dX3_walk_1 : decode cX3_walk 1 = .ok (.getfield 9, 3) := gd_X3_markFitting_111.2.2.2.2.2.2.2.2.2
theorem gd_X3_walk_4 : decode cX3_walk 4 = .ok (.bipush 30, 2) ∧ decode cX3_walk 6 = .ok (.if_icmp .lt 4, 3) ∧ decode cX3_walk 9 = .ok (.return_, 1) ∧ decode cX3_walk 10 = .ok (.iload_n 1, 1) ∧ decode cX3_walk 11 = .ok (.iload_n 2, 1) ∧ decode cX3_walk 12 = .ok (.if_icmp .lt 9, 3) ∧ decode cX3_walk 15 = .ok (.aload_n 0, 1) ∧ decode cX3_walk 16 = .ok (.iload_n 3, 1) ∧ decode cX3_walk 17 = .ok (.invokevirtual 68, 3) ∧ decode cX3_walk 20 = .ok (.return_, 1) := by decide +kernel
theorem dX3_walk_4 : decode cX3_walk 4 = .ok (.bipush 30, 2) := gd_X3_walk_4.1
theorem dX3_walk_6 : decode cX3_walk 6 = .ok (.if_icmp .lt 4, 3) := gd_X3_walk_4.2.1
theorem dX3_walk_9 : decode cX3_walk 9 = .ok (.return_, 1) := gd_X3_walk_4.2.2.1
theorem dX3_walk_10 : decode cX3_walk 10 = .ok (.iload_n 1, 1) := gd_X3_walk_4.2.2.2.1
theorem dX3_walk_11 : decode cX3_walk 11 = .ok (.iload_n 2, 1) := gd_X3_walk_4.2.2.2.2.1
theorem dX3_walk_12 : decode cX3_walk 12 = .ok (.if_icmp .lt 9, 3) := gd_X3_walk_4.2.2.2.2.2.1
theorem dX3_walk_15 : decode cX3_walk 15 = .ok (.aload_n 0, 1) := gd_X3_walk_4.2.2.2.2.2.2.1
theorem dX3_walk_16 : decode cX3_walk 16 = .ok (.iload_n 3, 1) := gd_X3_walk_4.2.2.2.2.2.2.2.1
theorem dX3_walk_17 : decode cX3_walk 17 = .ok (.invokevirtual 68, 3) := gd_X3_walk_4.2.2.2.2.2.2.2.2.1
theorem dX3_walk_20 : decode cX3_walk 20 = .ok (.return_, 1) := gd_X3_walk_4.2.2.2.2.2.2.2.2.2
theorem gd_X3_walk_21 : decode cX3_walk 21 = .ok (.iconst 1, 1) ∧ decode cX3_walk 22 = .ok (.istore 4, 2) ∧ decode cX3_walk 24 = .ok (.iload 4, 2) ∧ decode cX3_walk 26 = .ok (.bipush 17, 2) ∧ decode cX3_walk 28 = .ok (.if_icmp .ge 63, 3) ∧ decode cX3_walk 31 = .ok (.iload_n 1, 1) ∧ decode cX3_walk 32 = .ok (.iload 4, 2) ∧ decode cX3_walk 34 = .ok (.iadd, 1) ∧ decode cX3_walk 35 = .ok (.iload_n 2, 1) ∧ decode cX3_walk 36 = .ok (.if_icmp .gt 55, 3) := by decide +kernel
theorem dX3_walk_21 : decode cX3_walk 21 = .ok (.iconst 1, 1) := gd_X3_walk_21.1
theorem dX3_walk_22 : decode cX3_walk 22 = .ok (.istore 4, 2) := gd_X3_walk_21.2.1
theorem dX3_walk_24 : decode cX3_walk 24 = .ok (.iload 4, 2) := gd_X3_walk_21.2.2.1
theorem dX3_walk_26 : decode cX3_walk 26 = .ok (.bipush 17, 2) := gd_X3_walk_21.2.2.2.1
theorem dX3_walk_28 : decode cX3_walk 28 = .ok (.if_icmp .ge 63, 3) := gd_X3_walk_21.2.2.2.2.1
theorem dX3_walk_31 : decode cX3_walk 31 = .ok (.iload_n 1, 1) := gd_X3_walk_21.2.2.2.2.2.1
theorem dX3_walk_32 : decode cX3_walk 32 = .ok (.iload 4, 2) := gd_X3_walk_21.2.2.2.2.2.2.1
theorem dX3_walk_34 : decode cX3_walk 34 = .ok (.iadd, 1) := gd_X3_walk_21.2.2.2.2.2.2.2.1
theorem dX3_walk_35 : decode cX3_walk 35 = .ok (.iload_n 2, 1) := gd_X3_walk_21.2.2.2.2.2.2.2.2.1
theorem dX3_walk_36 : decode cX3_walk 36 = .ok (.if_icmp .gt 55, 3) := gd_X3_walk_21.2.2.2.2.2.2.2.2.2
theorem gd_X3_walk_39 : decode cX3_walk 39 = .ok (.iload_n 3, 1) ∧ decode cX3_walk 40 = .ok (.bipush 24, 2) ∧ decode cX3_walk 42 = .ok (.if_icmp .ge 49, 3) ∧ decode cX3_walk 45 = .ok (.aload_n 0, 1) ∧ decode cX3_walk 46 = .ok (.getfield 23, 3) ∧ decode cX3_walk 49 = .ok (.iload_n 1, 1) ∧ decode cX3_walk 50 = .ok (.bipush 17, 2) ∧ decode cX3_walk 52 = .ok (.imul, 1) ∧ decode cX3_walk 53 = .ok (.iload 4, 2) ∧ decode cX3_walk 55 = .ok (.iadd, 1) := by decide +kernel
theorem dX3_walk_39 : decode cX3_walk 39 = .ok (.iload_n 3, 1) := gd_X3_walk_39.1
theorem dX3_walk_40 : decode cX3_walk 40 = .ok (.bipush 24, 2) := gd_X3_walk_39.2.1
theorem dX3_walk_42 : decode cX3_walk 42 = .ok (.if_icmp .ge 49, 3) := gd_X3_walk_39.2.2.1
theorem dX3_walk_45 : decode cX3_walk 45 = .ok (.aload_n 0, 1) := gd_X3_walk_39.2.2.2.1
theorem dX3_walk_46 : decode cX3_walk 46 = .ok (.getfield 23, 3) := gd_X3_walk_39.2.2.2.2.1
theorem dX3_walk_49 : decode cX3_walk 49 = .ok (.iload_n 1, 1) := gd_X3_walk_39.2.2.2.2.2.1
theorem dX3_walk_50 : decode cX3_walk 50 = .ok (.bipush 17, 2) := gd_X3_walk_39.2.2.2.2.2.2.1
theorem dX3_walk_52 : decode cX3_walk 52 = .ok (.imul, 1) := gd_X3_walk_39.2.2.2.2.2.2.2.1
theorem dX3_walk_53 : decode cX3_walk 53 = .ok (.iload 4, 2) := gd_X3_walk_39.2.2.2.2.2.2.2.2.1
theorem dX3_walk_55 : decode cX3_walk 55 = .ok (.iadd, 1) := gd_X3_walk_39.2.2.2.2.2.2.2.2.2
theorem gd_X3_walk_56 : decode cX3_walk 56 = .ok (.baload, 1) ∧ decode cX3_walk 57 = .ok (.istore 5, 2) ∧ decode cX3_walk 59 = .ok (.iload 5, 2) ∧ decode cX3_walk 61 = .ok (.iconst (-1), 1) ∧ decode cX3_walk 62 = .ok (.if_icmp .eq 23, 3) ∧ decode cX3_walk 65 = .ok (.aload_n 0, 1) ∧ decode cX3_walk 66 = .ok (.getfield 30, 3) ∧ decode cX3_walk 69 = .ok (.iload_n 3, 1) ∧ decode cX3_walk 70 = .ok (.iload 5, 2) ∧ decode cX3_walk 72 = .ok (.bastore, 1) := by decide +kernel
theorem dX3_walk_56 : decode cX3_walk 56 = .ok (.baload, 1) := gd_X3_walk_56.1
theorem dX3_walk_57 : decode cX3_walk 57 = .ok (.istore 5, 2) := gd_X3_walk_56.2.1
theorem dX3_walk_59 : decode cX3_walk 59 = .ok (.iload 5, 2) := gd_X3_walk_56.2.2.1
theorem dX3_walk_61 : decode cX3_walk 61 = .ok (.iconst (-1), 1) := gd_X3_walk_56.2.2.2.1
theorem dX3_walk_62 : decode cX3_walk 62 = .ok (.if_icmp .eq 23, 3) := gd_X3_walk_56.2.2.2.2.1
theorem dX3_walk_65 : decode cX3_walk 65 = .ok (.aload_n 0, 1) := gd_X3_walk_56.2.2.2.2.2.1
theorem dX3_walk_66 : decode cX3_walk 66 = .ok (.getfield 30, 3) := gd_X3_walk_56.2.2.2.2.2.2.1
theorem dX3_walk_69 : decode cX3_walk 69 = .ok (.iload_n 3, 1) := gd_X3_walk_56.2.2.2.2.2.2.2.1
theorem dX3_walk_70 : decode cX3_walk 70 = .ok (.iload 5, 2) := gd_X3_walk_56.2.2.2.2.2.2.2.2.1
theorem dX3_walk_72 : decode cX3_walk 72 = .ok (.bastore, 1) := gd_X3_walk_56.2.2.2.2.2.2.2.2.2
theorem gd_X3_walk_73 : decode cX3_walk 73 = .ok (.aload_n 0, 1) ∧ decode cX3_walk 74 = .ok (.iload_n 1, 1) ∧ decode cX3_walk 75 = .ok (.iload 4, 2) ∧ decode cX3_walk 77 = .ok (.iadd, 1) ∧ decode cX3_walk 78 = .ok (.iload_n 2, 1) ∧ decode cX3_walk 79 = .ok (.iload_n 3, 1) ∧ decode cX3_walk 80 = .ok (.iconst 1, 1) ∧ decode cX3_walk 81 = .ok (.iadd, 1) ∧ decode cX3_walk 82 = .ok (.invokevirtual 47, 3) ∧ decode cX3_walk 85 = .ok (.iinc 4 1, 3) := by decide +kernel
theorem dX3_walk_73 : decode cX3_walk 73 = .ok (.aload_n 0, 1) := gd_X3_walk_73.1
theorem dX3_walk_74 : decode cX3_walk 74 = .ok (.iload_n 1, 1) := gd_X3_walk_73.2.1
theorem dX3_walk_75 : decode cX3_walk 75 = .ok (.iload 4, 2) := gd_X3_walk_73.2.2.1
theorem dX3_walk_77 : decode cX3_walk 77 = .ok (.iadd, 1) := gd_X3_walk_73.2.2.2.1
theorem dX3_walk_78 : decode cX3_walk 78 = .ok (.iload_n 2, 1) := gd_X3_walk_73.2.2.2.2.1
theorem dX3_walk_79 : decode cX3_walk 79 = .ok (.iload_n 3, 1) := gd_X3_walk_73.2.2.2.2.2.1
theorem dX3_walk_80 : decode cX3_walk 80 = .ok (.iconst 1, 1) := gd_X3_walk_73.2.2.2.2.2.2.1
theorem dX3_walk_81 : decode cX3_walk 81 = .ok (.iadd, 1) := gd_X3_walk_73.2.2.2.2.2.2.2.1
theorem dX3_walk_82 : decode cX3_walk 82 = .ok (.invokevirtual 47, 3) := gd_X3_walk_73.2.2.2.2.2.2.2.2.1
theorem dX3_walk_85 : decode cX3_walk 85 = .ok (.iinc 4 1, 3) := gd_X3_walk_73.2.2.2.2.2.2.2.2.2
theorem gd_X3_walk_88 : decode cX3_walk 88 = .ok (.goto (-64), 3) ∧ decode cX3_walk 91 = .ok (.return_, 1) ∧ decode cX3_note 0 = .ok (.aload_n 0, 1) ∧ decode cX3_note 1 = .ok (.getfield 30, 3) ∧ decode cX3_note 4 = .ok (.iconst 0, 1) ∧ decode cX3_note 5 = .ok (.aload_n 0, 1) ∧ decode cX3_note 6 = .ok (.getfield 19, 3) ∧ decode cX3_note 9 = .ok (.aload_n 0, 1) ∧ decode cX3_note 10 = .ok (.getfield 9, 3) ∧ decode cX3_note 13 = .ok (.bipush 24, 2) := by decide +kernel
theorem dX3_walk_88 : decode cX3_walk 88 = .ok (.goto (-64), 3) := gd_X3_walk_88.1
theorem dX3_walk_91 : decode cX3_walk 91 = .ok (.return_, 1) := gd_X3_walk_88.2.1
theorem dX3_note_0 : decode cX3_note 0 = .ok (.aload_n 0, 1) := gd_X3_walk_88.2.2.1
theorem dX3_note_1 : decode cX3_note 1 = .ok (.getfield 30, 3) := gd_X3_walk_88.2.2.2.1
theorem dX3_note_4 : decode cX3_note 4 = .ok (.iconst 0, 1) := gd_X3_walk_88.2.2.2.2.1
theorem dX3_note_5 : decode cX3_note 5 = .ok (.aload_n 0, 1) := gd_X3_walk_88.2.2.2.2.2.1
theorem dX3_note_6 : decode cX3_note 6 = .ok (.getfield 19, 3) := gd_X3_walk_88.2.2.2.2.2.2.1
theorem dX3_note_9 : decode cX3_note 9 = .ok (.aload_n 0, 1) := gd_X3_walk_88.2.2.2.2.2.2.2.1
theorem dX3_note_10 : decode cX3_note 10 = .ok (.getfield 9, 3) := gd_X3_walk_88.2.2.2.2.2.2.2.2.1
theorem dX3_note_13 : decode cX3_note 13 = .ok (.bipush 24, 2) := gd_X3_walk_88.2.2.2.2.2.2.2.2.2
theorem gd_X3_note_15 : decode cX3_note 15 = .ok (.imul, 1) ∧ decode cX3_note 16 = .ok (.iload_n 1, 1) ∧ decode cX3_note 17 = .ok (.invokestatic 72, 3) ∧ decode cX3_note 20 = .ok (.aload_n 0, 1) ∧ decode cX3_note 21 = .ok (.getfield 15, 3) ∧ decode cX3_note 24 = .ok (.aload_n 0, 1) ∧ decode cX3_note 25 = .ok (.getfield 9, 3) ∧ decode cX3_note 28 = .ok (.iload_n 1, 1) ∧ decode cX3_note 29 = .ok (.iastore, 1) ∧ decode cX3_note 30 = .ok (.aload_n 0, 1) := by decide +kernel
theorem dX3_note_15 : decode cX3_note 15 = .ok (.imul, 1) := gd_X3_note_15.1
theorem dX3_note_16 : decode cX3_note 16 = .ok (.iload_n 1, 1) := gd_X3_note_15.2.1
theorem dX3_note_17 : decode cX3_note 17 = .ok (.invokestatic 72, 3) := gd_X3_note_15.2.2.1
theorem dX3_note_20 : decode cX3_note 20 = .ok (.aload_n 0, 1) := gd_X3_note_15.2.2.2.1
theorem dX3_note_21 : decode cX3_note 21 = .ok (.getfield 15, 3) := gd_X3_note_15.2.2.2.2.1
theorem dX3_note_24 : decode cX3_note 24 = .ok (.aload_n 0, 1) := gd_X3_note_15.2.2.2.2.2.1
theorem dX3_note_25 : decode cX3_note 25 = .ok (.getfield 9, 3) := gd_X3_note_15.2.2.2.2.2.2.1
theorem dX3_note_28 : decode cX3_note 28 = .ok (.iload_n 1, 1) := gd_X3_note_15.2.2.2.2.2.2.2.1
theorem dX3_note_29 : decode cX3_note 29 = .ok (.iastore, 1) := gd_X3_note_15.2.2.2.2.2.2.2.2.1
theorem dX3_note_30 : decode cX3_note 30 = .ok (.aload_n 0, 1) := gd_X3_note_15.2.2.2.2.2.2.2.2.2
theorem gd_X3_note_31 : decode cX3_note 31 = .ok (.dup, 1) ∧ decode cX3_note 32 = .ok (.getfield 9, 3) ∧ decode cX3_note 35 = .ok (.iconst 1, 1) ∧ decode cX3_note 36 = .ok (.iadd, 1) ∧ decode cX3_note 37 = .ok (.putfield 9, 3) ∧ decode cX3_note 40 = .ok (.return_, 1) ∧ decode cX5_isKept 0 = .ok (.iload_n 1, 1) ∧ decode cX5_isKept 1 = .ok (.ifCond .lt 22, 3) ∧ decode cX5_isKept 4 = .ok (.iload_n 1, 1) ∧ decode cX5_isKept 5 = .ok (.bipush 40, 2) := by decide +kernel
theorem dX3_note_31 : decode cX3_note 31 = .ok (.dup, 1) := gd_X3_note_31.1
theorem dX3_note_32 : decode cX3_note 32 = .ok (.getfield 9, 3) := gd_X3_note_31.2.1
theorem dX3_note_35 : decode cX3_note 35 = .ok (.iconst 1, 1) := gd_X3_note_31.2.2.1
theorem dX3_note_36 : decode cX3_note 36 = .ok (.iadd, 1) := gd_X3_note_31.2.2.2.1
theorem dX3_note_37 : decode cX3_note 37 = .ok (.putfield 9, 3) := gd_X3_note_31.2.2.2.2.1
theorem dX3_note_40 : decode cX3_note 40 = .ok (.return_, 1) := gd_X3_note_31.2.2.2.2.2.1
theorem dX5_isKept_0 : decode cX5_isKept 0 = .ok (.iload_n 1, 1) := gd_X3_note_31.2.2.2.2.2.2.1
theorem dX5_isKept_1 : decode cX5_isKept 1 = .ok (.ifCond .lt 22, 3) := gd_X3_note_31.2.2.2.2.2.2.2.1
theorem dX5_isKept_4 : decode cX5_isKept 4 = .ok (.iload_n 1, 1) := gd_X3_note_31.2.2.2.2.2.2.2.2.1
theorem dX5_isKept_5 : decode cX5_isKept 5 = .ok (.bipush 40, 2) := gd_X3_note_31.2.2.2.2.2.2.2.2.2
theorem gd_X5_isKept_7 : decode cX5_isKept 7 = .ok (.if_icmp .ge 16, 3) ∧ decode cX5_isKept 10 = .ok (.aload_n 0, 1) ∧ decode cX5_isKept 11 = .ok (.getfield 39, 3) ∧ decode cX5_isKept 14 = .ok (.iload_n 1, 1) ∧ decode cX5_isKept 15 = .ok (.baload, 1) ∧ decode cX5_isKept 16 = .ok (.ifCond .eq 7, 3) ∧ decode cX5_isKept 19 = .ok (.iconst 1, 1) ∧ decode cX5_isKept 20 = .ok (.goto 4, 3) ∧ decode cX5_isKept 23 = .ok (.iconst 0, 1) ∧ decode cX5_isKept 24 = .ok (.ireturn, 1) := by decide +kernel
theorem dX5_isKept_7 : decode cX5_isKept 7 = .ok (.if_icmp .ge 16, 3) := gd_X5_isKept_7.1
theorem dX5_isKept_10 : decode cX5_isKept 10 = .ok (.aload_n 0, 1) := gd_X5_isKept_7.2.1
theorem dX5_isKept_11 : decode cX5_isKept 11 = .ok (.getfield 39, 3) := gd_X5_isKept_7.2.2.1
theorem dX5_isKept_14 : decode cX5_isKept 14 = .ok (.iload_n 1, 1) := gd_X5_isKept_7.2.2.2.1
theorem dX5_isKept_15 : decode cX5_isKept 15 = .ok (.baload, 1) := gd_X5_isKept_7.2.2.2.2.1
theorem dX5_isKept_16 : decode cX5_isKept 16 = .ok (.ifCond .eq 7, 3) := gd_X5_isKept_7.2.2.2.2.2.1
theorem dX5_isKept_19 : decode cX5_isKept 19 = .ok (.iconst 1, 1) := gd_X5_isKept_7.2.2.2.2.2.2.1
theorem dX5_isKept_20 : decode cX5_isKept 20 = .ok (.goto 4, 3) := gd_X5_isKept_7.2.2.2.2.2.2.2.1
theorem dX5_isKept_23 : decode cX5_isKept 23 = .ok (.iconst 0, 1) := gd_X5_isKept_7.2.2.2.2.2.2.2.2.1
theorem dX5_isKept_24 : decode cX5_isKept 24 = .ok (.ireturn, 1) := gd_X5_isKept_7.2.2.2.2.2.2.2.2.2
theorem gd_X5_addLaw_0 : decode cX5_addLaw 0 = .ok (.aload_n 0, 1) ∧ decode cX5_addLaw 1 = .ok (.getfield 21, 3) ∧ decode cX5_addLaw 4 = .ok (.bipush 40, 2) ∧ decode cX5_addLaw 6 = .ok (.if_icmp .ge 23, 3) ∧ decode cX5_addLaw 9 = .ok (.aload_n 0, 1) ∧ decode cX5_addLaw 10 = .ok (.getfield 17, 3) ∧ decode cX5_addLaw 13 = .ok (.aload_n 0, 1) ∧ decode cX5_addLaw 14 = .ok (.getfield 21, 3) ∧ decode cX5_addLaw 17 = .ok (.aload_n 1, 1) ∧ decode cX5_addLaw 18 = .ok (.aastore, 1) := by decide +kernel
theorem dX5_addLaw_0 : decode cX5_addLaw 0 = .ok (.aload_n 0, 1) := gd_X5_addLaw_0.1
theorem dX5_addLaw_1 : decode cX5_addLaw 1 = .ok (.getfield 21, 3) := gd_X5_addLaw_0.2.1
theorem dX5_addLaw_4 : decode cX5_addLaw 4 = .ok (.bipush 40, 2) := gd_X5_addLaw_0.2.2.1
theorem dX5_addLaw_6 : decode cX5_addLaw 6 = .ok (.if_icmp .ge 23, 3) := gd_X5_addLaw_0.2.2.2.1
theorem dX5_addLaw_9 : decode cX5_addLaw 9 = .ok (.aload_n 0, 1) := gd_X5_addLaw_0.2.2.2.2.1
theorem dX5_addLaw_10 : decode cX5_addLaw 10 = .ok (.getfield 17, 3) := gd_X5_addLaw_0.2.2.2.2.2.1
theorem dX5_addLaw_13 : decode cX5_addLaw 13 = .ok (.aload_n 0, 1) := gd_X5_addLaw_0.2.2.2.2.2.2.1
theorem dX5_addLaw_14 : decode cX5_addLaw 14 = .ok (.getfield 21, 3) := gd_X5_addLaw_0.2.2.2.2.2.2.2.1
theorem dX5_addLaw_17 : decode cX5_addLaw 17 = .ok (.aload_n 1, 1) := gd_X5_addLaw_0.2.2.2.2.2.2.2.2.1
theorem dX5_addLaw_18 : decode cX5_addLaw 18 = .ok (.aastore, 1) := gd_X5_addLaw_0.2.2.2.2.2.2.2.2.2
theorem gd_X5_addLaw_19 : decode cX5_addLaw 19 = .ok (.aload_n 0, 1) ∧ decode cX5_addLaw 20 = .ok (.dup, 1) ∧ decode cX5_addLaw 21 = .ok (.getfield 21, 3) ∧ decode cX5_addLaw 24 = .ok (.iconst 1, 1) ∧ decode cX5_addLaw 25 = .ok (.iadd, 1) ∧ decode cX5_addLaw 26 = .ok (.putfield 21, 3) ∧ decode cX5_addLaw 29 = .ok (.return_, 1) ∧ decode cX5_addKept 0 = .ok (.aload_n 0, 1) ∧ decode cX5_addKept 1 = .ok (.aload_n 1, 1) ∧ decode cX5_addKept 2 = .ok (.iload_n 2, 1) := by decide +kernel
theorem dX5_addLaw_19 : decode cX5_addLaw 19 = .ok (.aload_n 0, 1) := gd_X5_addLaw_19.1
theorem dX5_addLaw_20 : decode cX5_addLaw 20 = .ok (.dup, 1) := gd_X5_addLaw_19.2.1
theorem dX5_addLaw_21 : decode cX5_addLaw 21 = .ok (.getfield 21, 3) := gd_X5_addLaw_19.2.2.1
theorem dX5_addLaw_24 : decode cX5_addLaw 24 = .ok (.iconst 1, 1) := gd_X5_addLaw_19.2.2.2.1
theorem dX5_addLaw_25 : decode cX5_addLaw 25 = .ok (.iadd, 1) := gd_X5_addLaw_19.2.2.2.2.1
theorem dX5_addLaw_26 : decode cX5_addLaw 26 = .ok (.putfield 21, 3) := gd_X5_addLaw_19.2.2.2.2.2.1
theorem dX5_addLaw_29 : decode cX5_addLaw 29 = .ok (.return_, 1) := gd_X5_addLaw_19.2.2.2.2.2.2.1
theorem dX5_addKept_0 : decode cX5_addKept 0 = .ok (.aload_n 0, 1) := gd_X5_addLaw_19.2.2.2.2.2.2.2.1
theorem dX5_addKept_1 : decode cX5_addKept 1 = .ok (.aload_n 1, 1) := gd_X5_addLaw_19.2.2.2.2.2.2.2.2.1
theorem dX5_addKept_2 : decode cX5_addKept 2 = .ok (.iload_n 2, 1) := gd_X5_addLaw_19.2.2.2.2.2.2.2.2.2
theorem gd_X5_addKept_3 : decode cX5_addKept 3 = .ok (.iload_n 3, 1) ∧ decode cX5_addKept 4 = .ok (.iconst 1, 1) ∧ decode cX5_addKept 5 = .ok (.invokevirtual 59, 3) ∧ decode cX5_addKept 8 = .ok (.aload_n 0, 1) ∧ decode cX5_addKept 9 = .ok (.getfield 36, 3) ∧ decode cX5_addKept 12 = .ok (.aload_n 1, 1) ∧ decode cX5_addKept 13 = .ok (.iload_n 2, 1) ∧ decode cX5_addKept 14 = .ok (.iconst 0, 1) ∧ decode cX5_addKept 15 = .ok (.invokevirtual 63, 3) ∧ decode cX5_addKept 18 = .ok (.return_, 1) := by decide +kernel
theorem dX5_addKept_3 : decode cX5_addKept 3 = .ok (.iload_n 3, 1) := gd_X5_addKept_3.1
theorem dX5_addKept_4 : decode cX5_addKept 4 = .ok (.iconst 1, 1) := gd_X5_addKept_3.2.1
theorem dX5_addKept_5 : decode cX5_addKept 5 = .ok (.invokevirtual 59, 3) := gd_X5_addKept_3.2.2.1
theorem dX5_addKept_8 : decode cX5_addKept 8 = .ok (.aload_n 0, 1) := gd_X5_addKept_3.2.2.2.1
theorem dX5_addKept_9 : decode cX5_addKept 9 = .ok (.getfield 36, 3) := gd_X5_addKept_3.2.2.2.2.1
theorem dX5_addKept_12 : decode cX5_addKept 12 = .ok (.aload_n 1, 1) := gd_X5_addKept_3.2.2.2.2.2.1
theorem dX5_addKept_13 : decode cX5_addKept 13 = .ok (.iload_n 2, 1) := gd_X5_addKept_3.2.2.2.2.2.2.1
theorem dX5_addKept_14 : decode cX5_addKept 14 = .ok (.iconst 0, 1) := gd_X5_addKept_3.2.2.2.2.2.2.2.1
theorem dX5_addKept_15 : decode cX5_addKept 15 = .ok (.invokevirtual 63, 3) := gd_X5_addKept_3.2.2.2.2.2.2.2.2.1
theorem dX5_addKept_18 : decode cX5_addKept 18 = .ok (.return_, 1) := gd_X5_addKept_3.2.2.2.2.2.2.2.2.2
theorem gd_X5_addListed_0 : decode cX5_addListed 0 = .ok (.aload_n 0, 1) ∧ decode cX5_addListed 1 = .ok (.aload_n 1, 1) ∧ decode cX5_addListed 2 = .ok (.iload_n 2, 1) ∧ decode cX5_addListed 3 = .ok (.iload_n 3, 1) ∧ decode cX5_addListed 4 = .ok (.iconst 0, 1) ∧ decode cX5_addListed 5 = .ok (.invokevirtual 59, 3) ∧ decode cX5_addListed 8 = .ok (.return_, 1) ∧ decode cX5_addEntry 0 = .ok (.aload_n 0, 1) ∧ decode cX5_addEntry 1 = .ok (.getfield 33, 3) ∧ decode cX5_addEntry 4 = .ok (.invokevirtual 67, 3) := by decide +kernel
theorem dX5_addListed_0 : decode cX5_addListed 0 = .ok (.aload_n 0, 1) := gd_X5_addListed_0.1
theorem dX5_addListed_1 : decode cX5_addListed 1 = .ok (.aload_n 1, 1) := gd_X5_addListed_0.2.1
theorem dX5_addListed_2 : decode cX5_addListed 2 = .ok (.iload_n 2, 1) := gd_X5_addListed_0.2.2.1
theorem dX5_addListed_3 : decode cX5_addListed 3 = .ok (.iload_n 3, 1) := gd_X5_addListed_0.2.2.2.1
theorem dX5_addListed_4 : decode cX5_addListed 4 = .ok (.iconst 0, 1) := gd_X5_addListed_0.2.2.2.2.1
theorem dX5_addListed_5 : decode cX5_addListed 5 = .ok (.invokevirtual 59, 3) := gd_X5_addListed_0.2.2.2.2.2.1
theorem dX5_addListed_8 : decode cX5_addListed 8 = .ok (.return_, 1) := gd_X5_addListed_0.2.2.2.2.2.2.1
theorem dX5_addEntry_0 : decode cX5_addEntry 0 = .ok (.aload_n 0, 1) := gd_X5_addListed_0.2.2.2.2.2.2.2.1
theorem dX5_addEntry_1 : decode cX5_addEntry 1 = .ok (.getfield 33, 3) := gd_X5_addListed_0.2.2.2.2.2.2.2.2.1
theorem dX5_addEntry_4 : decode cX5_addEntry 4 = .ok (.invokevirtual 67, 3) := gd_X5_addListed_0.2.2.2.2.2.2.2.2.2
theorem gd_X5_addEntry_7 : decode cX5_addEntry 7 = .ok (.ifCond .ne 46, 3) ∧ decode cX5_addEntry 10 = .ok (.aload_n 0, 1) ∧ decode cX5_addEntry 11 = .ok (.getfield 39, 3) ∧ decode cX5_addEntry 14 = .ok (.aload_n 0, 1) ∧ decode cX5_addEntry 15 = .ok (.getfield 33, 3) ∧ decode cX5_addEntry 18 = .ok (.getfield 56, 3) ∧ decode cX5_addEntry 21 = .ok (.iload 4, 2) ∧ decode cX5_addEntry 23 = .ok (.bastore, 1) ∧ decode cX5_addEntry 24 = .ok (.aload_n 0, 1) ∧ decode cX5_addEntry 25 = .ok (.dup, 1) := by decide +kernel
theorem dX5_addEntry_7 : decode cX5_addEntry 7 = .ok (.ifCond .ne 46, 3) := gd_X5_addEntry_7.1
theorem dX5_addEntry_10 : decode cX5_addEntry 10 = .ok (.aload_n 0, 1) := gd_X5_addEntry_7.2.1
theorem dX5_addEntry_11 : decode cX5_addEntry 11 = .ok (.getfield 39, 3) := gd_X5_addEntry_7.2.2.1
theorem dX5_addEntry_14 : decode cX5_addEntry 14 = .ok (.aload_n 0, 1) := gd_X5_addEntry_7.2.2.2.1
theorem dX5_addEntry_15 : decode cX5_addEntry 15 = .ok (.getfield 33, 3) := gd_X5_addEntry_7.2.2.2.2.1
theorem dX5_addEntry_18 : decode cX5_addEntry 18 = .ok (.getfield 56, 3) := gd_X5_addEntry_7.2.2.2.2.2.1
theorem dX5_addEntry_21 : decode cX5_addEntry 21 = .ok (.iload 4, 2) := gd_X5_addEntry_7.2.2.2.2.2.2.1
theorem dX5_addEntry_23 : decode cX5_addEntry 23 = .ok (.bastore, 1) := gd_X5_addEntry_7.2.2.2.2.2.2.2.1
theorem dX5_addEntry_24 : decode cX5_addEntry 24 = .ok (.aload_n 0, 1) := gd_X5_addEntry_7.2.2.2.2.2.2.2.2.1
theorem dX5_addEntry_25 : decode cX5_addEntry 25 = .ok (.dup, 1) := gd_X5_addEntry_7.2.2.2.2.2.2.2.2.2
theorem gd_X5_addEntry_26 : decode cX5_addEntry 26 = .ok (.getfield 43, 3) ∧ decode cX5_addEntry 29 = .ok (.iload 4, 2) ∧ decode cX5_addEntry 31 = .ok (.ifCond .eq 7, 3) ∧ decode cX5_addEntry 34 = .ok (.iconst 1, 1) ∧ decode cX5_addEntry 35 = .ok (.goto 4, 3) ∧ decode cX5_addEntry 38 = .ok (.iconst 0, 1) ∧ decode cX5_addEntry 39 = .ok (.iadd, 1) ∧ decode cX5_addEntry 40 = .ok (.putfield 43, 3) ∧ decode cX5_addEntry 43 = .ok (.aload_n 0, 1) ∧ decode cX5_addEntry 44 = .ok (.getfield 33, 3) := by decide +kernel
theorem dX5_addEntry_26 : decode cX5_addEntry 26 = .ok (.getfield 43, 3) := gd_X5_addEntry_26.1
theorem dX5_addEntry_29 : decode cX5_addEntry 29 = .ok (.iload 4, 2) := gd_X5_addEntry_26.2.1
theorem dX5_addEntry_31 : decode cX5_addEntry 31 = .ok (.ifCond .eq 7, 3) := gd_X5_addEntry_26.2.2.1
theorem dX5_addEntry_34 : decode cX5_addEntry 34 = .ok (.iconst 1, 1) := gd_X5_addEntry_26.2.2.2.1
theorem dX5_addEntry_35 : decode cX5_addEntry 35 = .ok (.goto 4, 3) := gd_X5_addEntry_26.2.2.2.2.1
theorem dX5_addEntry_38 : decode cX5_addEntry 38 = .ok (.iconst 0, 1) := gd_X5_addEntry_26.2.2.2.2.2.1
theorem dX5_addEntry_39 : decode cX5_addEntry 39 = .ok (.iadd, 1) := gd_X5_addEntry_26.2.2.2.2.2.2.1
theorem dX5_addEntry_40 : decode cX5_addEntry 40 = .ok (.putfield 43, 3) := gd_X5_addEntry_26.2.2.2.2.2.2.2.1
theorem dX5_addEntry_43 : decode cX5_addEntry 43 = .ok (.aload_n 0, 1) := gd_X5_addEntry_26.2.2.2.2.2.2.2.2.1
theorem dX5_addEntry_44 : decode cX5_addEntry 44 = .ok (.getfield 33, 3) := gd_X5_addEntry_26.2.2.2.2.2.2.2.2.2
theorem gd_X5_addEntry_47 : decode cX5_addEntry 47 = .ok (.aload_n 1, 1) ∧ decode cX5_addEntry 48 = .ok (.iload_n 2, 1) ∧ decode cX5_addEntry 49 = .ok (.iload_n 3, 1) ∧ decode cX5_addEntry 50 = .ok (.invokevirtual 63, 3) ∧ decode cX5_addEntry 53 = .ok (.return_, 1) ∧ decode cX9_turnParts 15 = .ok (.aload_n 0, 1) ∧ decode cX9_turnParts 16 = .ok (.aload_n 1, 1) ∧ decode cX9_turnParts 17 = .ok (.aload_n 2, 1) ∧ decode cX9_turnParts 18 = .ok (.getfield 56, 3) ∧ decode cX9_turnParts 21 = .ok (.iload_n 3, 1) := by decide +kernel
theorem dX5_addEntry_47 : decode cX5_addEntry 47 = .ok (.aload_n 1, 1) := gd_X5_addEntry_47.1
theorem dX5_addEntry_48 : decode cX5_addEntry 48 = .ok (.iload_n 2, 1) := gd_X5_addEntry_47.2.1
theorem dX5_addEntry_49 : decode cX5_addEntry 49 = .ok (.iload_n 3, 1) := gd_X5_addEntry_47.2.2.1
theorem dX5_addEntry_50 : decode cX5_addEntry 50 = .ok (.invokevirtual 63, 3) := gd_X5_addEntry_47.2.2.2.1
theorem dX5_addEntry_53 : decode cX5_addEntry 53 = .ok (.return_, 1) := gd_X5_addEntry_47.2.2.2.2.1
theorem dX9_turnParts_15 : decode cX9_turnParts 15 = .ok (.aload_n 0, 1) := gd_X5_addEntry_47.2.2.2.2.2.1
theorem dX9_turnParts_16 : decode cX9_turnParts 16 = .ok (.aload_n 1, 1) := gd_X5_addEntry_47.2.2.2.2.2.2.1
theorem dX9_turnParts_17 : decode cX9_turnParts 17 = .ok (.aload_n 2, 1) := gd_X5_addEntry_47.2.2.2.2.2.2.2.1
theorem dX9_turnParts_18 : decode cX9_turnParts 18 = .ok (.getfield 56, 3) := gd_X5_addEntry_47.2.2.2.2.2.2.2.2.1
theorem dX9_turnParts_21 : decode cX9_turnParts 21 = .ok (.iload_n 3, 1) := gd_X5_addEntry_47.2.2.2.2.2.2.2.2.2
theorem gd_X9_turnParts_22 : decode cX9_turnParts 22 = .ok (.aload_n 2, 1) ∧ decode cX9_turnParts 23 = .ok (.getfield 59, 3) ∧ decode cX9_turnParts 26 = .ok (.imul, 1) ∧ decode cX9_turnParts 27 = .ok (.aload_n 2, 1) ∧ decode cX9_turnParts 28 = .ok (.getfield 62, 3) ∧ decode cX9_turnParts 31 = .ok (.iload_n 3, 1) ∧ decode cX9_turnParts 32 = .ok (.iaload, 1) ∧ decode cX9_turnParts 33 = .ok (.invokevirtual 66, 3) ∧ decode cX9_turnParts 36 = .ok (.istore 4, 2) ∧ decode cX9_turnParts 38 = .ok (.aload_n 1, 1) := by decide +kernel
theorem dX9_turnParts_22 : decode cX9_turnParts 22 = .ok (.aload_n 2, 1) := gd_X9_turnParts_22.1
theorem dX9_turnParts_23 : decode cX9_turnParts 23 = .ok (.getfield 59, 3) := gd_X9_turnParts_22.2.1
theorem dX9_turnParts_26 : decode cX9_turnParts 26 = .ok (.imul, 1) := gd_X9_turnParts_22.2.2.1
theorem dX9_turnParts_27 : decode cX9_turnParts 27 = .ok (.aload_n 2, 1) := gd_X9_turnParts_22.2.2.2.1
theorem dX9_turnParts_28 : decode cX9_turnParts 28 = .ok (.getfield 62, 3) := gd_X9_turnParts_22.2.2.2.2.1
theorem dX9_turnParts_31 : decode cX9_turnParts 31 = .ok (.iload_n 3, 1) := gd_X9_turnParts_22.2.2.2.2.2.1
theorem dX9_turnParts_32 : decode cX9_turnParts 32 = .ok (.iaload, 1) := gd_X9_turnParts_22.2.2.2.2.2.2.1
theorem dX9_turnParts_33 : decode cX9_turnParts 33 = .ok (.invokevirtual 66, 3) := gd_X9_turnParts_22.2.2.2.2.2.2.2.1
theorem dX9_turnParts_36 : decode cX9_turnParts 36 = .ok (.istore 4, 2) := gd_X9_turnParts_22.2.2.2.2.2.2.2.2.1
theorem dX9_turnParts_38 : decode cX9_turnParts 38 = .ok (.aload_n 1, 1) := gd_X9_turnParts_22.2.2.2.2.2.2.2.2.2
theorem gd_X9_turnParts_39 : decode cX9_turnParts 39 = .ok (.getfield 70, 3) ∧ decode cX9_turnParts 42 = .ok (.iload_n 3, 1) ∧ decode cX9_turnParts 43 = .ok (.iload 4, 2) ∧ decode cX9_turnParts 45 = .ok (.bastore, 1) ∧ decode cX9_turnParts 46 = .ok (.aload_n 1, 1) ∧ decode cX9_turnParts 47 = .ok (.getfield 74, 3) ∧ decode cX9_turnParts 50 = .ok (.iload_n 3, 1) ∧ decode cX9_turnParts 51 = .ok (.aload_n 0, 1) ∧ decode cX9_turnParts 52 = .ok (.getfield 29, 3) ∧ decode cX9_turnParts 55 = .ok (.lastore, 1) := by decide +kernel
theorem dX9_turnParts_39 : decode cX9_turnParts 39 = .ok (.getfield 70, 3) := gd_X9_turnParts_39.1
theorem dX9_turnParts_42 : decode cX9_turnParts 42 = .ok (.iload_n 3, 1) := gd_X9_turnParts_39.2.1
theorem dX9_turnParts_43 : decode cX9_turnParts 43 = .ok (.iload 4, 2) := gd_X9_turnParts_39.2.2.1
theorem dX9_turnParts_45 : decode cX9_turnParts 45 = .ok (.bastore, 1) := gd_X9_turnParts_39.2.2.2.1
theorem dX9_turnParts_46 : decode cX9_turnParts 46 = .ok (.aload_n 1, 1) := gd_X9_turnParts_39.2.2.2.2.1
theorem dX9_turnParts_47 : decode cX9_turnParts 47 = .ok (.getfield 74, 3) := gd_X9_turnParts_39.2.2.2.2.2.1
theorem dX9_turnParts_50 : decode cX9_turnParts 50 = .ok (.iload_n 3, 1) := gd_X9_turnParts_39.2.2.2.2.2.2.1
theorem dX9_turnParts_51 : decode cX9_turnParts 51 = .ok (.aload_n 0, 1) := gd_X9_turnParts_39.2.2.2.2.2.2.2.1
theorem dX9_turnParts_52 : decode cX9_turnParts 52 = .ok (.getfield 29, 3) := gd_X9_turnParts_39.2.2.2.2.2.2.2.2.1
theorem dX9_turnParts_55 : decode cX9_turnParts 55 = .ok (.lastore, 1) := gd_X9_turnParts_39.2.2.2.2.2.2.2.2.2
theorem gd_X9_turnParts_56 : decode cX9_turnParts 56 = .ok (.aload_n 1, 1) ∧ decode cX9_turnParts 57 = .ok (.getfield 78, 3) ∧ decode cX9_turnParts 60 = .ok (.aload_n 0, 1) ∧ decode cX9_turnParts 61 = .ok (.getfield 18, 3) ∧ decode cX9_turnParts 64 = .ok (.iconst 0, 1) ∧ decode cX9_turnParts 65 = .ok (.iload 4, 2) ∧ decode cX9_turnParts 67 = .ok (.ifCond .eq 10, 3) ∧ decode cX9_turnParts 70 = .ok (.aload_n 0, 1) ∧ decode cX9_turnParts 71 = .ok (.getfield 25, 3) ∧ decode cX9_turnParts 74 = .ok (.goto 4, 3) := by decide +kernel
theorem dX9_turnParts_56 : decode cX9_turnParts 56 = .ok (.aload_n 1, 1) := gd_X9_turnParts_56.1
theorem dX9_turnParts_57 : decode cX9_turnParts 57 = .ok (.getfield 78, 3) := gd_X9_turnParts_56.2.1
theorem dX9_turnParts_60 : decode cX9_turnParts 60 = .ok (.aload_n 0, 1) := gd_X9_turnParts_56.2.2.1
theorem dX9_turnParts_61 : decode cX9_turnParts 61 = .ok (.getfield 18, 3) := gd_X9_turnParts_56.2.2.2.1
theorem dX9_turnParts_64 : decode cX9_turnParts 64 = .ok (.iconst 0, 1) := gd_X9_turnParts_56.2.2.2.2.1
theorem dX9_turnParts_65 : decode cX9_turnParts 65 = .ok (.iload 4, 2) := gd_X9_turnParts_56.2.2.2.2.2.1
theorem dX9_turnParts_67 : decode cX9_turnParts 67 = .ok (.ifCond .eq 10, 3) := gd_X9_turnParts_56.2.2.2.2.2.2.1
theorem dX9_turnParts_70 : decode cX9_turnParts 70 = .ok (.aload_n 0, 1) := gd_X9_turnParts_56.2.2.2.2.2.2.2.1
theorem dX9_turnParts_71 : decode cX9_turnParts 71 = .ok (.getfield 25, 3) := gd_X9_turnParts_56.2.2.2.2.2.2.2.2.1
theorem dX9_turnParts_74 : decode cX9_turnParts 74 = .ok (.goto 4, 3) := gd_X9_turnParts_56.2.2.2.2.2.2.2.2.2
theorem gd_X9_turnParts_77 : decode cX9_turnParts 77 = .ok (.iconst 0, 1) ∧ decode cX9_turnParts 78 = .ok (.invokevirtual 81, 3) ∧ decode cX9_turnParts 81 = .ok (.iinc 3 1, 3) ∧ decode cX9_turnParts 84 = .ok (.goto (-77), 3) ∧ decode cX9_through 0 = .ok (.aload_n 0, 1) ∧ decode cX9_through 1 = .ok (.getfield 45, 3) ∧ decode cX9_through 4 = .ok (.iconst 0, 1) ∧ decode cX9_through 5 = .ok (.putfield 53, 3) ∧ decode cX9_through 8 = .ok (.aload_n 0, 1) ∧ decode cX9_through 9 = .ok (.getfield 45, 3) := by decide +kernel
theorem dX9_turnParts_77 : decode cX9_turnParts 77 = .ok (.iconst 0, 1) := gd_X9_turnParts_77.1
theorem dX9_turnParts_78 : decode cX9_turnParts 78 = .ok (.invokevirtual 81, 3) := gd_X9_turnParts_77.2.1
theorem dX9_turnParts_81 : decode cX9_turnParts 81 = .ok (.iinc 3 1, 3) := gd_X9_turnParts_77.2.2.1
theorem dX9_turnParts_84 : decode cX9_turnParts 84 = .ok (.goto (-77), 3) := gd_X9_turnParts_77.2.2.2.1
theorem dX9_through_0 : decode cX9_through 0 = .ok (.aload_n 0, 1) := gd_X9_turnParts_77.2.2.2.2.1
theorem dX9_through_1 : decode cX9_through 1 = .ok (.getfield 45, 3) := gd_X9_turnParts_77.2.2.2.2.2.1
theorem dX9_through_4 : decode cX9_through 4 = .ok (.iconst 0, 1) := gd_X9_turnParts_77.2.2.2.2.2.2.1
theorem dX9_through_5 : decode cX9_through 5 = .ok (.putfield 53, 3) := gd_X9_turnParts_77.2.2.2.2.2.2.2.1
theorem dX9_through_8 : decode cX9_through 8 = .ok (.aload_n 0, 1) := gd_X9_turnParts_77.2.2.2.2.2.2.2.2.1
theorem dX9_through_9 : decode cX9_through 9 = .ok (.getfield 45, 3) := gd_X9_turnParts_77.2.2.2.2.2.2.2.2.2
theorem gd_X9_through_12 : decode cX9_through 12 = .ok (.aload 4, 2) ∧ decode cX9_through 14 = .ok (.iload 5, 2) ∧ decode cX9_through 16 = .ok (.iload 6, 2) ∧ decode cX9_through 18 = .ok (.invokevirtual 85, 3) ∧ decode cX9_through 21 = .ok (.iload_n 2, 1) ∧ decode cX9_through 22 = .ok (.iconst 0, 1) ∧ decode cX9_through 23 = .ok (.invokestatic 88, 3) ∧ decode cX9_through 26 = .ok (.istore 7, 2) ∧ decode cX9_through 28 = .ok (.iload 7, 2) ∧ decode cX9_through 30 = .ok (.iload_n 3, 1) := by decide +kernel
theorem dX9_through_12 : decode cX9_through 12 = .ok (.aload 4, 2) := gd_X9_through_12.1
theorem dX9_through_14 : decode cX9_through 14 = .ok (.iload 5, 2) := gd_X9_through_12.2.1
theorem dX9_through_16 : decode cX9_through 16 = .ok (.iload 6, 2) := gd_X9_through_12.2.2.1
theorem dX9_through_18 : decode cX9_through 18 = .ok (.invokevirtual 85, 3) := gd_X9_through_12.2.2.2.1
theorem dX9_through_21 : decode cX9_through 21 = .ok (.iload_n 2, 1) := gd_X9_through_12.2.2.2.2.1
theorem dX9_through_22 : decode cX9_through 22 = .ok (.iconst 0, 1) := gd_X9_through_12.2.2.2.2.2.1
theorem dX9_through_23 : decode cX9_through 23 = .ok (.invokestatic 88, 3) := gd_X9_through_12.2.2.2.2.2.2.1
theorem dX9_through_26 : decode cX9_through 26 = .ok (.istore 7, 2) := gd_X9_through_12.2.2.2.2.2.2.2.1
theorem dX9_through_28 : decode cX9_through 28 = .ok (.iload 7, 2) := gd_X9_through_12.2.2.2.2.2.2.2.2.1
theorem dX9_through_30 : decode cX9_through 30 = .ok (.iload_n 3, 1) := gd_X9_through_12.2.2.2.2.2.2.2.2.2
theorem gd_X9_through_31 : decode cX9_through 31 = .ok (.if_icmp .ge 61, 3) ∧ decode cX9_through 34 = .ok (.iload 7, 2) ∧ decode cX9_through 36 = .ok (.aload_n 1, 1) ∧ decode cX9_through 37 = .ok (.arraylength, 1) ∧ decode cX9_through 38 = .ok (.if_icmp .ge 54, 3) ∧ decode cX9_through 41 = .ok (.aload_n 0, 1) ∧ decode cX9_through 42 = .ok (.getfield 41, 3) ∧ decode cX9_through 45 = .ok (.astore 8, 2) ∧ decode cX9_through 47 = .ok (.aload_n 0, 1) ∧ decode cX9_through 48 = .ok (.aload_n 0, 1) := by decide +kernel
theorem dX9_through_31 : decode cX9_through 31 = .ok (.if_icmp .ge 61, 3) := gd_X9_through_31.1
theorem dX9_through_34 : decode cX9_through 34 = .ok (.iload 7, 2) := gd_X9_through_31.2.1
theorem dX9_through_36 : decode cX9_through 36 = .ok (.aload_n 1, 1) := gd_X9_through_31.2.2.1
theorem dX9_through_37 : decode cX9_through 37 = .ok (.arraylength, 1) := gd_X9_through_31.2.2.2.1
theorem dX9_through_38 : decode cX9_through 38 = .ok (.if_icmp .ge 54, 3) := gd_X9_through_31.2.2.2.2.1
theorem dX9_through_41 : decode cX9_through 41 = .ok (.aload_n 0, 1) := gd_X9_through_31.2.2.2.2.2.1
theorem dX9_through_42 : decode cX9_through 42 = .ok (.getfield 41, 3) := gd_X9_through_31.2.2.2.2.2.2.1
theorem dX9_through_45 : decode cX9_through 45 = .ok (.astore 8, 2) := gd_X9_through_31.2.2.2.2.2.2.2.1
theorem dX9_through_47 : decode cX9_through 47 = .ok (.aload_n 0, 1) := gd_X9_through_31.2.2.2.2.2.2.2.2.1
theorem dX9_through_48 : decode cX9_through 48 = .ok (.aload_n 0, 1) := gd_X9_through_31.2.2.2.2.2.2.2.2.2
theorem gd_X9_through_49 : decode cX9_through 49 = .ok (.getfield 45, 3) ∧ decode cX9_through 52 = .ok (.putfield 41, 3) ∧ decode cX9_through 55 = .ok (.aload_n 0, 1) ∧ decode cX9_through 56 = .ok (.aload 8, 2) ∧ decode cX9_through 58 = .ok (.putfield 45, 3) ∧ decode cX9_through 61 = .ok (.aload_n 0, 1) ∧ decode cX9_through 62 = .ok (.getfield 45, 3) ∧ decode cX9_through 65 = .ok (.iconst 0, 1) ∧ decode cX9_through 66 = .ok (.putfield 53, 3) ∧ decode cX9_through 69 = .ok (.aload_n 0, 1) := by decide +kernel
theorem dX9_through_49 : decode cX9_through 49 = .ok (.getfield 45, 3) := gd_X9_through_49.1
theorem dX9_through_52 : decode cX9_through 52 = .ok (.putfield 41, 3) := gd_X9_through_49.2.1
theorem dX9_through_55 : decode cX9_through 55 = .ok (.aload_n 0, 1) := gd_X9_through_49.2.2.1
theorem dX9_through_56 : decode cX9_through 56 = .ok (.aload 8, 2) := gd_X9_through_49.2.2.2.1
theorem dX9_through_58 : decode cX9_through 58 = .ok (.putfield 45, 3) := gd_X9_through_49.2.2.2.2.1
theorem dX9_through_61 : decode cX9_through 61 = .ok (.aload_n 0, 1) := gd_X9_through_49.2.2.2.2.2.1
theorem dX9_through_62 : decode cX9_through 62 = .ok (.getfield 45, 3) := gd_X9_through_49.2.2.2.2.2.2.1
theorem dX9_through_65 : decode cX9_through 65 = .ok (.iconst 0, 1) := gd_X9_through_49.2.2.2.2.2.2.2.1
theorem dX9_through_66 : decode cX9_through 66 = .ok (.putfield 53, 3) := gd_X9_through_49.2.2.2.2.2.2.2.2.1
theorem dX9_through_69 : decode cX9_through 69 = .ok (.aload_n 0, 1) := gd_X9_through_49.2.2.2.2.2.2.2.2.2
theorem gd_X9_through_70 : decode cX9_through 70 = .ok (.aload_n 1, 1) ∧ decode cX9_through 71 = .ok (.iload 7, 2) ∧ decode cX9_through 73 = .ok (.aaload, 1) ∧ decode cX9_through 74 = .ok (.aload_n 0, 1) ∧ decode cX9_through 75 = .ok (.getfield 41, 3) ∧ decode cX9_through 78 = .ok (.aload_n 0, 1) ∧ decode cX9_through 79 = .ok (.getfield 45, 3) ∧ decode cX9_through 82 = .ok (.invokevirtual 94, 3) ∧ decode cX9_through 85 = .ok (.pop2, 1) ∧ decode cX9_through 86 = .ok (.iinc 7 1, 3) := by decide +kernel
theorem dX9_through_70 : decode cX9_through 70 = .ok (.aload_n 1, 1) := gd_X9_through_70.1
theorem dX9_through_71 : decode cX9_through 71 = .ok (.iload 7, 2) := gd_X9_through_70.2.1
theorem dX9_through_73 : decode cX9_through 73 = .ok (.aaload, 1) := gd_X9_through_70.2.2.1
theorem dX9_through_74 : decode cX9_through 74 = .ok (.aload_n 0, 1) := gd_X9_through_70.2.2.2.1
theorem dX9_through_75 : decode cX9_through 75 = .ok (.getfield 41, 3) := gd_X9_through_70.2.2.2.2.1
theorem dX9_through_78 : decode cX9_through 78 = .ok (.aload_n 0, 1) := gd_X9_through_70.2.2.2.2.2.1
theorem dX9_through_79 : decode cX9_through 79 = .ok (.getfield 45, 3) := gd_X9_through_70.2.2.2.2.2.2.1
theorem dX9_through_82 : decode cX9_through 82 = .ok (.invokevirtual 94, 3) := gd_X9_through_70.2.2.2.2.2.2.2.1
theorem dX9_through_85 : decode cX9_through 85 = .ok (.pop2, 1) := gd_X9_through_70.2.2.2.2.2.2.2.2.1
theorem dX9_through_86 : decode cX9_through 86 = .ok (.iinc 7 1, 3) := gd_X9_through_70.2.2.2.2.2.2.2.2.2
theorem gd_X9_through_89 : decode cX9_through 89 = .ok (.goto (-61), 3) ∧ decode cX9_through 92 = .ok (.aload_n 0, 1) ∧ decode cX9_through 93 = .ok (.getfield 45, 3) ∧ decode cX9_through 96 = .ok (.areturn, 1) ∧ decode cX9_turnForms 0 = .ok (.lconst 0, 1) ∧ decode cX9_turnForms 1 = .ok (.lstore 4, 2) ∧ decode cX9_turnForms 3 = .ok (.iconst 0, 1) ∧ decode cX9_turnForms 4 = .ok (.istore 6, 2) ∧ decode cX9_turnForms 6 = .ok (.aload_n 1, 1) ∧ decode cX9_turnForms 7 = .ok (.ifnull 32, 3) := by decide +kernel
theorem dX9_through_89 : decode cX9_through 89 = .ok (.goto (-61), 3) := gd_X9_through_89.1
theorem dX9_through_92 : decode cX9_through 92 = .ok (.aload_n 0, 1) := gd_X9_through_89.2.1
theorem dX9_through_93 : decode cX9_through 93 = .ok (.getfield 45, 3) := gd_X9_through_89.2.2.1
theorem dX9_through_96 : decode cX9_through 96 = .ok (.areturn, 1) := gd_X9_through_89.2.2.2.1
theorem dX9_turnForms_0 : decode cX9_turnForms 0 = .ok (.lconst 0, 1) := gd_X9_through_89.2.2.2.2.1
theorem dX9_turnForms_1 : decode cX9_turnForms 1 = .ok (.lstore 4, 2) := gd_X9_through_89.2.2.2.2.2.1
theorem dX9_turnForms_3 : decode cX9_turnForms 3 = .ok (.iconst 0, 1) := gd_X9_through_89.2.2.2.2.2.2.1
theorem dX9_turnForms_4 : decode cX9_turnForms 4 = .ok (.istore 6, 2) := gd_X9_through_89.2.2.2.2.2.2.2.1
theorem dX9_turnForms_6 : decode cX9_turnForms 6 = .ok (.aload_n 1, 1) := gd_X9_through_89.2.2.2.2.2.2.2.2.1
theorem dX9_turnForms_7 : decode cX9_turnForms 7 = .ok (.ifnull 32, 3) := gd_X9_through_89.2.2.2.2.2.2.2.2.2
theorem gd_X9_turnForms_10 : decode cX9_turnForms 10 = .ok (.iload 6, 2) ∧ decode cX9_turnForms 12 = .ok (.aload_n 2, 1) ∧ decode cX9_turnForms 13 = .ok (.getfield 53, 3) ∧ decode cX9_turnForms 16 = .ok (.if_icmp .ge 23, 3) ∧ decode cX9_turnForms 19 = .ok (.lload 4, 2) ∧ decode cX9_turnForms 21 = .ok (.aload_n 0, 1) ∧ decode cX9_turnForms 22 = .ok (.aload_n 1, 1) ∧ decode cX9_turnForms 23 = .ok (.aload_n 2, 1) ∧ decode cX9_turnForms 24 = .ok (.iload 6, 2) ∧ decode cX9_turnForms 26 = .ok (.aload_n 3, 1) := by decide +kernel
theorem dX9_turnForms_10 : decode cX9_turnForms 10 = .ok (.iload 6, 2) := gd_X9_turnForms_10.1
theorem dX9_turnForms_12 : decode cX9_turnForms 12 = .ok (.aload_n 2, 1) := gd_X9_turnForms_10.2.1
theorem dX9_turnForms_13 : decode cX9_turnForms 13 = .ok (.getfield 53, 3) := gd_X9_turnForms_10.2.2.1
theorem dX9_turnForms_16 : decode cX9_turnForms 16 = .ok (.if_icmp .ge 23, 3) := gd_X9_turnForms_10.2.2.2.1
theorem dX9_turnForms_19 : decode cX9_turnForms 19 = .ok (.lload 4, 2) := gd_X9_turnForms_10.2.2.2.2.1
theorem dX9_turnForms_21 : decode cX9_turnForms 21 = .ok (.aload_n 0, 1) := gd_X9_turnForms_10.2.2.2.2.2.1
theorem dX9_turnForms_22 : decode cX9_turnForms 22 = .ok (.aload_n 1, 1) := gd_X9_turnForms_10.2.2.2.2.2.2.1
theorem dX9_turnForms_23 : decode cX9_turnForms 23 = .ok (.aload_n 2, 1) := gd_X9_turnForms_10.2.2.2.2.2.2.2.1
theorem dX9_turnForms_24 : decode cX9_turnForms 24 = .ok (.iload 6, 2) := gd_X9_turnForms_10.2.2.2.2.2.2.2.2.1
theorem dX9_turnForms_26 : decode cX9_turnForms 26 = .ok (.aload_n 3, 1) := gd_X9_turnForms_10.2.2.2.2.2.2.2.2.2
theorem gd_X9_turnForms_27 : decode cX9_turnForms 27 = .ok (.invokevirtual 98, 3) ∧ decode cX9_turnForms 30 = .ok (.lor, 1) ∧ decode cX9_turnForms 31 = .ok (.lstore 4, 2) ∧ decode cX9_turnForms 33 = .ok (.iinc 6 1, 3) ∧ decode cX9_turnForms 36 = .ok (.goto (-30), 3) ∧ decode cX9_turnForms 39 = .ok (.lload 4, 2) ∧ decode cX9_turnForms 41 = .ok (.lreturn, 1) ∧ decode cX9_turnWord 0 = .ok (.iload_n 3, 1) ∧ decode cX9_turnWord 1 = .ok (.aload_n 2, 1) ∧ decode cX9_turnWord 2 = .ok (.getfield 59, 3) := by decide +kernel
theorem dX9_turnForms_27 : decode cX9_turnForms 27 = .ok (.invokevirtual 98, 3) := gd_X9_turnForms_27.1
theorem dX9_turnForms_30 : decode cX9_turnForms 30 = .ok (.lor, 1) := gd_X9_turnForms_27.2.1
theorem dX9_turnForms_31 : decode cX9_turnForms 31 = .ok (.lstore 4, 2) := gd_X9_turnForms_27.2.2.1
theorem dX9_turnForms_33 : decode cX9_turnForms 33 = .ok (.iinc 6 1, 3) := gd_X9_turnForms_27.2.2.2.1
theorem dX9_turnForms_36 : decode cX9_turnForms 36 = .ok (.goto (-30), 3) := gd_X9_turnForms_27.2.2.2.2.1
theorem dX9_turnForms_39 : decode cX9_turnForms 39 = .ok (.lload 4, 2) := gd_X9_turnForms_27.2.2.2.2.2.1
theorem dX9_turnForms_41 : decode cX9_turnForms 41 = .ok (.lreturn, 1) := gd_X9_turnForms_27.2.2.2.2.2.2.1
theorem dX9_turnWord_0 : decode cX9_turnWord 0 = .ok (.iload_n 3, 1) := gd_X9_turnForms_27.2.2.2.2.2.2.2.1
theorem dX9_turnWord_1 : decode cX9_turnWord 1 = .ok (.aload_n 2, 1) := gd_X9_turnForms_27.2.2.2.2.2.2.2.2.1
theorem dX9_turnWord_2 : decode cX9_turnWord 2 = .ok (.getfield 59, 3) := gd_X9_turnForms_27.2.2.2.2.2.2.2.2.2
theorem gd_X9_turnWord_5 : decode cX9_turnWord 5 = .ok (.imul, 1) ∧ decode cX9_turnWord 6 = .ok (.istore 5, 2) ∧ decode cX9_turnWord 8 = .ok (.aload_n 2, 1) ∧ decode cX9_turnWord 9 = .ok (.getfield 62, 3) ∧ decode cX9_turnWord 12 = .ok (.iload_n 3, 1) ∧ decode cX9_turnWord 13 = .ok (.iaload, 1) ∧ decode cX9_turnWord 14 = .ok (.istore 6, 2) ∧ decode cX9_turnWord 16 = .ok (.aload_n 1, 1) ∧ decode cX9_turnWord 17 = .ok (.getfield 102, 3) ∧ decode cX9_turnWord 20 = .ok (.aload_n 2, 1) := by decide +kernel
theorem dX9_turnWord_5 : decode cX9_turnWord 5 = .ok (.imul, 1) := gd_X9_turnWord_5.1
theorem dX9_turnWord_6 : decode cX9_turnWord 6 = .ok (.istore 5, 2) := gd_X9_turnWord_5.2.1
theorem dX9_turnWord_8 : decode cX9_turnWord 8 = .ok (.aload_n 2, 1) := gd_X9_turnWord_5.2.2.1
theorem dX9_turnWord_9 : decode cX9_turnWord 9 = .ok (.getfield 62, 3) := gd_X9_turnWord_5.2.2.2.1
theorem dX9_turnWord_12 : decode cX9_turnWord 12 = .ok (.iload_n 3, 1) := gd_X9_turnWord_5.2.2.2.2.1
theorem dX9_turnWord_13 : decode cX9_turnWord 13 = .ok (.iaload, 1) := gd_X9_turnWord_5.2.2.2.2.2.1
theorem dX9_turnWord_14 : decode cX9_turnWord 14 = .ok (.istore 6, 2) := gd_X9_turnWord_5.2.2.2.2.2.2.1
theorem dX9_turnWord_16 : decode cX9_turnWord 16 = .ok (.aload_n 1, 1) := gd_X9_turnWord_5.2.2.2.2.2.2.2.1
theorem dX9_turnWord_17 : decode cX9_turnWord 17 = .ok (.getfield 102, 3) := gd_X9_turnWord_5.2.2.2.2.2.2.2.2.1
theorem dX9_turnWord_20 : decode cX9_turnWord 20 = .ok (.aload_n 2, 1) := gd_X9_turnWord_5.2.2.2.2.2.2.2.2.2
theorem gd_X9_turnWord_21 : decode cX9_turnWord 21 = .ok (.getfield 56, 3) ∧ decode cX9_turnWord 24 = .ok (.iload 5, 2) ∧ decode cX9_turnWord 26 = .ok (.iload 6, 2) ∧ decode cX9_turnWord 28 = .ok (.invokevirtual 105, 3) ∧ decode cX9_turnWord 31 = .ok (.istore 7, 2) ∧ decode cX9_turnWord 33 = .ok (.iload 7, 2) ∧ decode cX9_turnWord 35 = .ok (.iconst (-1), 1) ∧ decode cX9_turnWord 36 = .ok (.if_icmp .eq 14, 3) ∧ decode cX9_turnWord 39 = .ok (.aload_n 0, 1) ∧ decode cX9_turnWord 40 = .ok (.aload_n 1, 1) := by decide +kernel
theorem dX9_turnWord_21 : decode cX9_turnWord 21 = .ok (.getfield 56, 3) := gd_X9_turnWord_21.1
theorem dX9_turnWord_24 : decode cX9_turnWord 24 = .ok (.iload 5, 2) := gd_X9_turnWord_21.2.1
theorem dX9_turnWord_26 : decode cX9_turnWord 26 = .ok (.iload 6, 2) := gd_X9_turnWord_21.2.2.1
theorem dX9_turnWord_28 : decode cX9_turnWord 28 = .ok (.invokevirtual 105, 3) := gd_X9_turnWord_21.2.2.2.1
theorem dX9_turnWord_31 : decode cX9_turnWord 31 = .ok (.istore 7, 2) := gd_X9_turnWord_21.2.2.2.2.1
theorem dX9_turnWord_33 : decode cX9_turnWord 33 = .ok (.iload 7, 2) := gd_X9_turnWord_21.2.2.2.2.2.1
theorem dX9_turnWord_35 : decode cX9_turnWord 35 = .ok (.iconst (-1), 1) := gd_X9_turnWord_21.2.2.2.2.2.2.1
theorem dX9_turnWord_36 : decode cX9_turnWord 36 = .ok (.if_icmp .eq 14, 3) := gd_X9_turnWord_21.2.2.2.2.2.2.2.1
theorem dX9_turnWord_39 : decode cX9_turnWord 39 = .ok (.aload_n 0, 1) := gd_X9_turnWord_21.2.2.2.2.2.2.2.2.1
theorem dX9_turnWord_40 : decode cX9_turnWord 40 = .ok (.aload_n 1, 1) := gd_X9_turnWord_21.2.2.2.2.2.2.2.2.2
theorem gd_X9_turnWord_41 : decode cX9_turnWord 41 = .ok (.iload 7, 2) ∧ decode cX9_turnWord 43 = .ok (.aload 4, 2) ∧ decode cX9_turnWord 45 = .ok (.invokevirtual 109, 3) ∧ decode cX9_turnWord 48 = .ok (.lconst 0, 1) ∧ decode cX9_turnWord 49 = .ok (.lreturn, 1) ∧ decode cX9_turnWord 50 = .ok (.aload_n 0, 1) ∧ decode cX9_turnWord 51 = .ok (.getfield 12, 3) ∧ decode cX9_turnWord 54 = .ok (.aload_n 1, 1) ∧ decode cX9_turnWord 55 = .ok (.getfield 48, 3) ∧ decode cX9_turnWord 58 = .ok (.aload_n 2, 1) := by decide +kernel
theorem dX9_turnWord_41 : decode cX9_turnWord 41 = .ok (.iload 7, 2) := gd_X9_turnWord_41.1
theorem dX9_turnWord_43 : decode cX9_turnWord 43 = .ok (.aload 4, 2) := gd_X9_turnWord_41.2.1
theorem dX9_turnWord_45 : decode cX9_turnWord 45 = .ok (.invokevirtual 109, 3) := gd_X9_turnWord_41.2.2.1
theorem dX9_turnWord_48 : decode cX9_turnWord 48 = .ok (.lconst 0, 1) := gd_X9_turnWord_41.2.2.2.1
theorem dX9_turnWord_49 : decode cX9_turnWord 49 = .ok (.lreturn, 1) := gd_X9_turnWord_41.2.2.2.2.1
theorem dX9_turnWord_50 : decode cX9_turnWord 50 = .ok (.aload_n 0, 1) := gd_X9_turnWord_41.2.2.2.2.2.1
theorem dX9_turnWord_51 : decode cX9_turnWord 51 = .ok (.getfield 12, 3) := gd_X9_turnWord_41.2.2.2.2.2.2.1
theorem dX9_turnWord_54 : decode cX9_turnWord 54 = .ok (.aload_n 1, 1) := gd_X9_turnWord_41.2.2.2.2.2.2.2.1
theorem dX9_turnWord_55 : decode cX9_turnWord 55 = .ok (.getfield 48, 3) := gd_X9_turnWord_41.2.2.2.2.2.2.2.2.1
theorem dX9_turnWord_58 : decode cX9_turnWord 58 = .ok (.aload_n 2, 1) := gd_X9_turnWord_41.2.2.2.2.2.2.2.2.2
theorem gd_X9_turnWord_59 : decode cX9_turnWord 59 = .ok (.getfield 56, 3) ∧ decode cX9_turnWord 62 = .ok (.iload 5, 2) ∧ decode cX9_turnWord 64 = .ok (.iload 6, 2) ∧ decode cX9_turnWord 66 = .ok (.invokevirtual 113, 3) ∧ decode cX9_turnWord 69 = .ok (.aload_n 0, 1) ∧ decode cX9_turnWord 70 = .ok (.getfield 12, 3) ∧ decode cX9_turnWord 73 = .ok (.getfield 116, 3) ∧ decode cX9_turnWord 76 = .ok (.ifCond .ne 38, 3) ∧ decode cX9_turnWord 79 = .ok (.aload_n 0, 1) ∧ decode cX9_turnWord 80 = .ok (.aload_n 1, 1) := by decide +kernel
theorem dX9_turnWord_59 : decode cX9_turnWord 59 = .ok (.getfield 56, 3) := gd_X9_turnWord_59.1
theorem dX9_turnWord_62 : decode cX9_turnWord 62 = .ok (.iload 5, 2) := gd_X9_turnWord_59.2.1
theorem dX9_turnWord_64 : decode cX9_turnWord 64 = .ok (.iload 6, 2) := gd_X9_turnWord_59.2.2.1
theorem dX9_turnWord_66 : decode cX9_turnWord 66 = .ok (.invokevirtual 113, 3) := gd_X9_turnWord_59.2.2.2.1
theorem dX9_turnWord_69 : decode cX9_turnWord 69 = .ok (.aload_n 0, 1) := gd_X9_turnWord_59.2.2.2.2.1
theorem dX9_turnWord_70 : decode cX9_turnWord 70 = .ok (.getfield 12, 3) := gd_X9_turnWord_59.2.2.2.2.2.1
theorem dX9_turnWord_73 : decode cX9_turnWord 73 = .ok (.getfield 116, 3) := gd_X9_turnWord_59.2.2.2.2.2.2.1
theorem dX9_turnWord_76 : decode cX9_turnWord 76 = .ok (.ifCond .ne 38, 3) := gd_X9_turnWord_59.2.2.2.2.2.2.2.1
theorem dX9_turnWord_79 : decode cX9_turnWord 79 = .ok (.aload_n 0, 1) := gd_X9_turnWord_59.2.2.2.2.2.2.2.2.1
theorem dX9_turnWord_80 : decode cX9_turnWord 80 = .ok (.aload_n 1, 1) := gd_X9_turnWord_59.2.2.2.2.2.2.2.2.2
theorem gd_X9_turnWord_81 : decode cX9_turnWord 81 = .ok (.aload_n 2, 1) ∧ decode cX9_turnWord 82 = .ok (.getfield 56, 3) ∧ decode cX9_turnWord 85 = .ok (.iload 5, 2) ∧ decode cX9_turnWord 87 = .ok (.iload 6, 2) ∧ decode cX9_turnWord 89 = .ok (.invokevirtual 66, 3) ∧ decode cX9_turnWord 92 = .ok (.ifCond .eq 17, 3) ∧ decode cX9_turnWord 95 = .ok (.aload 4, 2) ∧ decode cX9_turnWord 97 = .ok (.aload_n 0, 1) ∧ decode cX9_turnWord 98 = .ok (.getfield 18, 3) ∧ decode cX9_turnWord 101 = .ok (.iconst 0, 1) := by decide +kernel
theorem dX9_turnWord_81 : decode cX9_turnWord 81 = .ok (.aload_n 2, 1) := gd_X9_turnWord_81.1
theorem dX9_turnWord_82 : decode cX9_turnWord 82 = .ok (.getfield 56, 3) := gd_X9_turnWord_81.2.1
theorem dX9_turnWord_85 : decode cX9_turnWord 85 = .ok (.iload 5, 2) := gd_X9_turnWord_81.2.2.1
theorem dX9_turnWord_87 : decode cX9_turnWord 87 = .ok (.iload 6, 2) := gd_X9_turnWord_81.2.2.2.1
theorem dX9_turnWord_89 : decode cX9_turnWord 89 = .ok (.invokevirtual 66, 3) := gd_X9_turnWord_81.2.2.2.2.1
theorem dX9_turnWord_92 : decode cX9_turnWord 92 = .ok (.ifCond .eq 17, 3) := gd_X9_turnWord_81.2.2.2.2.2.1
theorem dX9_turnWord_95 : decode cX9_turnWord 95 = .ok (.aload 4, 2) := gd_X9_turnWord_81.2.2.2.2.2.2.1
theorem dX9_turnWord_97 : decode cX9_turnWord 97 = .ok (.aload_n 0, 1) := gd_X9_turnWord_81.2.2.2.2.2.2.2.1
theorem dX9_turnWord_98 : decode cX9_turnWord 98 = .ok (.getfield 18, 3) := gd_X9_turnWord_81.2.2.2.2.2.2.2.2.1
theorem dX9_turnWord_101 : decode cX9_turnWord 101 = .ok (.iconst 0, 1) := gd_X9_turnWord_81.2.2.2.2.2.2.2.2.2
theorem gd_X9_turnWord_102 : decode cX9_turnWord 102 = .ok (.aload_n 0, 1) ∧ decode cX9_turnWord 103 = .ok (.getfield 25, 3) ∧ decode cX9_turnWord 106 = .ok (.invokevirtual 85, 3) ∧ decode cX9_turnWord 109 = .ok (.aload_n 0, 1) ∧ decode cX9_turnWord 110 = .ok (.getfield 29, 3) ∧ decode cX9_turnWord 113 = .ok (.lreturn, 1) ∧ decode cX9_turnWord 114 = .ok (.lconst 0, 1) ∧ decode cX9_turnWord 115 = .ok (.lstore 8, 2) ∧ decode cX9_turnWord 117 = .ok (.iconst 0, 1) ∧ decode cX9_turnWord 118 = .ok (.istore 10, 2) := by decide +kernel
theorem dX9_turnWord_102 : decode cX9_turnWord 102 = .ok (.aload_n 0, 1) := gd_X9_turnWord_102.1
theorem dX9_turnWord_103 : decode cX9_turnWord 103 = .ok (.getfield 25, 3) := gd_X9_turnWord_102.2.1
theorem dX9_turnWord_106 : decode cX9_turnWord 106 = .ok (.invokevirtual 85, 3) := gd_X9_turnWord_102.2.2.1
theorem dX9_turnWord_109 : decode cX9_turnWord 109 = .ok (.aload_n 0, 1) := gd_X9_turnWord_102.2.2.2.1
theorem dX9_turnWord_110 : decode cX9_turnWord 110 = .ok (.getfield 29, 3) := gd_X9_turnWord_102.2.2.2.2.1
theorem dX9_turnWord_113 : decode cX9_turnWord 113 = .ok (.lreturn, 1) := gd_X9_turnWord_102.2.2.2.2.2.1
theorem dX9_turnWord_114 : decode cX9_turnWord 114 = .ok (.lconst 0, 1) := gd_X9_turnWord_102.2.2.2.2.2.2.1
theorem dX9_turnWord_115 : decode cX9_turnWord 115 = .ok (.lstore 8, 2) := gd_X9_turnWord_102.2.2.2.2.2.2.2.1
theorem dX9_turnWord_117 : decode cX9_turnWord 117 = .ok (.iconst 0, 1) := gd_X9_turnWord_102.2.2.2.2.2.2.2.2.1
theorem dX9_turnWord_118 : decode cX9_turnWord 118 = .ok (.istore 10, 2) := gd_X9_turnWord_102.2.2.2.2.2.2.2.2.2
theorem gd_X9_turnWord_120 : decode cX9_turnWord 120 = .ok (.iload 10, 2) ∧ decode cX9_turnWord 122 = .ok (.aload_n 0, 1) ∧ decode cX9_turnWord 123 = .ok (.getfield 12, 3) ∧ decode cX9_turnWord 126 = .ok (.getfield 116, 3) ∧ decode cX9_turnWord 129 = .ok (.if_icmp .ge 23, 3) ∧ decode cX9_turnWord 132 = .ok (.lload 8, 2) ∧ decode cX9_turnWord 134 = .ok (.aload_n 0, 1) ∧ decode cX9_turnWord 135 = .ok (.aload_n 1, 1) ∧ decode cX9_turnWord 136 = .ok (.iload 10, 2) ∧ decode cX9_turnWord 138 = .ok (.aload 4, 2) := by decide +kernel
theorem dX9_turnWord_120 : decode cX9_turnWord 120 = .ok (.iload 10, 2) := gd_X9_turnWord_120.1
theorem dX9_turnWord_122 : decode cX9_turnWord 122 = .ok (.aload_n 0, 1) := gd_X9_turnWord_120.2.1
theorem dX9_turnWord_123 : decode cX9_turnWord 123 = .ok (.getfield 12, 3) := gd_X9_turnWord_120.2.2.1
theorem dX9_turnWord_126 : decode cX9_turnWord 126 = .ok (.getfield 116, 3) := gd_X9_turnWord_120.2.2.2.1
theorem dX9_turnWord_129 : decode cX9_turnWord 129 = .ok (.if_icmp .ge 23, 3) := gd_X9_turnWord_120.2.2.2.2.1
theorem dX9_turnWord_132 : decode cX9_turnWord 132 = .ok (.lload 8, 2) := gd_X9_turnWord_120.2.2.2.2.2.1
theorem dX9_turnWord_134 : decode cX9_turnWord 134 = .ok (.aload_n 0, 1) := gd_X9_turnWord_120.2.2.2.2.2.2.1
theorem dX9_turnWord_135 : decode cX9_turnWord 135 = .ok (.aload_n 1, 1) := gd_X9_turnWord_120.2.2.2.2.2.2.2.1
theorem dX9_turnWord_136 : decode cX9_turnWord 136 = .ok (.iload 10, 2) := gd_X9_turnWord_120.2.2.2.2.2.2.2.2.1
theorem dX9_turnWord_138 : decode cX9_turnWord 138 = .ok (.aload 4, 2) := gd_X9_turnWord_120.2.2.2.2.2.2.2.2.2
theorem gd_X9_turnWord_140 : decode cX9_turnWord 140 = .ok (.invokevirtual 117, 3) ∧ decode cX9_turnWord 143 = .ok (.lor, 1) ∧ decode cX9_turnWord 144 = .ok (.lstore 8, 2) ∧ decode cX9_turnWord 146 = .ok (.iinc 10 1, 3) ∧ decode cX9_turnWord 149 = .ok (.goto (-29), 3) ∧ decode cX9_turnWord 152 = .ok (.lload 8, 2) ∧ decode cX9_turnWord 154 = .ok (.lreturn, 1) ∧ decode cX9_addEntry 0 = .ok (.aload_n 1, 1) ∧ decode cX9_addEntry 1 = .ok (.iload_n 2, 1) ∧ decode cX9_addEntry 2 = .ok (.invokevirtual 121, 3) := by decide +kernel
theorem dX9_turnWord_140 : decode cX9_turnWord 140 = .ok (.invokevirtual 117, 3) := gd_X9_turnWord_140.1
theorem dX9_turnWord_143 : decode cX9_turnWord 143 = .ok (.lor, 1) := gd_X9_turnWord_140.2.1
theorem dX9_turnWord_144 : decode cX9_turnWord 144 = .ok (.lstore 8, 2) := gd_X9_turnWord_140.2.2.1
theorem dX9_turnWord_146 : decode cX9_turnWord 146 = .ok (.iinc 10 1, 3) := gd_X9_turnWord_140.2.2.2.1
theorem dX9_turnWord_149 : decode cX9_turnWord 149 = .ok (.goto (-29), 3) := gd_X9_turnWord_140.2.2.2.2.1
theorem dX9_turnWord_152 : decode cX9_turnWord 152 = .ok (.lload 8, 2) := gd_X9_turnWord_140.2.2.2.2.2.1
theorem dX9_turnWord_154 : decode cX9_turnWord 154 = .ok (.lreturn, 1) := gd_X9_turnWord_140.2.2.2.2.2.2.1
theorem dX9_addEntry_0 : decode cX9_addEntry 0 = .ok (.aload_n 1, 1) := gd_X9_turnWord_140.2.2.2.2.2.2.2.1
theorem dX9_addEntry_1 : decode cX9_addEntry 1 = .ok (.iload_n 2, 1) := gd_X9_turnWord_140.2.2.2.2.2.2.2.2.1
theorem dX9_addEntry_2 : decode cX9_addEntry 2 = .ok (.invokevirtual 121, 3) := gd_X9_turnWord_140.2.2.2.2.2.2.2.2.2
theorem gd_X9_addEntry_5 : decode cX9_addEntry 5 = .ok (.ifCond .eq 10, 3) ∧ decode cX9_addEntry 8 = .ok (.aload_n 1, 1) ∧ decode cX9_addEntry 9 = .ok (.getfield 102, 3) ∧ decode cX9_addEntry 12 = .ok (.goto 7, 3) ∧ decode cX9_addEntry 15 = .ok (.aload_n 1, 1) ∧ decode cX9_addEntry 16 = .ok (.getfield 125, 3) ∧ decode cX9_addEntry 19 = .ok (.astore 4, 2) ∧ decode cX9_addEntry 21 = .ok (.iload_n 2, 1) ∧ decode cX9_addEntry 22 = .ok (.aload 4, 2) ∧ decode cX9_addEntry 24 = .ok (.getfield 53, 3) := by decide +kernel
theorem dX9_addEntry_5 : decode cX9_addEntry 5 = .ok (.ifCond .eq 10, 3) := gd_X9_addEntry_5.1
theorem dX9_addEntry_8 : decode cX9_addEntry 8 = .ok (.aload_n 1, 1) := gd_X9_addEntry_5.2.1
theorem dX9_addEntry_9 : decode cX9_addEntry 9 = .ok (.getfield 102, 3) := gd_X9_addEntry_5.2.2.1
theorem dX9_addEntry_12 : decode cX9_addEntry 12 = .ok (.goto 7, 3) := gd_X9_addEntry_5.2.2.2.1
theorem dX9_addEntry_15 : decode cX9_addEntry 15 = .ok (.aload_n 1, 1) := gd_X9_addEntry_5.2.2.2.2.1
theorem dX9_addEntry_16 : decode cX9_addEntry 16 = .ok (.getfield 125, 3) := gd_X9_addEntry_5.2.2.2.2.2.1
theorem dX9_addEntry_19 : decode cX9_addEntry 19 = .ok (.astore 4, 2) := gd_X9_addEntry_5.2.2.2.2.2.2.1
theorem dX9_addEntry_21 : decode cX9_addEntry 21 = .ok (.iload_n 2, 1) := gd_X9_addEntry_5.2.2.2.2.2.2.2.1
theorem dX9_addEntry_22 : decode cX9_addEntry 22 = .ok (.aload 4, 2) := gd_X9_addEntry_5.2.2.2.2.2.2.2.2.1
theorem dX9_addEntry_24 : decode cX9_addEntry 24 = .ok (.getfield 53, 3) := gd_X9_addEntry_5.2.2.2.2.2.2.2.2.2
theorem gd_X9_addEntry_27 : decode cX9_addEntry 27 = .ok (.if_icmp .ge 26, 3) ∧ decode cX9_addEntry 30 = .ok (.aload_n 3, 1) ∧ decode cX9_addEntry 31 = .ok (.aload 4, 2) ∧ decode cX9_addEntry 33 = .ok (.getfield 56, 3) ∧ decode cX9_addEntry 36 = .ok (.iload_n 2, 1) ∧ decode cX9_addEntry 37 = .ok (.aload 4, 2) ∧ decode cX9_addEntry 39 = .ok (.getfield 59, 3) ∧ decode cX9_addEntry 42 = .ok (.imul, 1) ∧ decode cX9_addEntry 43 = .ok (.aload 4, 2) ∧ decode cX9_addEntry 45 = .ok (.getfield 62, 3) := by decide +kernel
theorem dX9_addEntry_27 : decode cX9_addEntry 27 = .ok (.if_icmp .ge 26, 3) := gd_X9_addEntry_27.1
theorem dX9_addEntry_30 : decode cX9_addEntry 30 = .ok (.aload_n 3, 1) := gd_X9_addEntry_27.2.1
theorem dX9_addEntry_31 : decode cX9_addEntry 31 = .ok (.aload 4, 2) := gd_X9_addEntry_27.2.2.1
theorem dX9_addEntry_33 : decode cX9_addEntry 33 = .ok (.getfield 56, 3) := gd_X9_addEntry_27.2.2.2.1
theorem dX9_addEntry_36 : decode cX9_addEntry 36 = .ok (.iload_n 2, 1) := gd_X9_addEntry_27.2.2.2.2.1
theorem dX9_addEntry_37 : decode cX9_addEntry 37 = .ok (.aload 4, 2) := gd_X9_addEntry_27.2.2.2.2.2.1
theorem dX9_addEntry_39 : decode cX9_addEntry 39 = .ok (.getfield 59, 3) := gd_X9_addEntry_27.2.2.2.2.2.2.1
theorem dX9_addEntry_42 : decode cX9_addEntry 42 = .ok (.imul, 1) := gd_X9_addEntry_27.2.2.2.2.2.2.2.1
theorem dX9_addEntry_43 : decode cX9_addEntry 43 = .ok (.aload 4, 2) := gd_X9_addEntry_27.2.2.2.2.2.2.2.2.1
theorem dX9_addEntry_45 : decode cX9_addEntry 45 = .ok (.getfield 62, 3) := gd_X9_addEntry_27.2.2.2.2.2.2.2.2.2
theorem gd_X9_addEntry_48 : decode cX9_addEntry 48 = .ok (.iload_n 2, 1) ∧ decode cX9_addEntry 49 = .ok (.iaload, 1) ∧ decode cX9_addEntry 50 = .ok (.invokevirtual 85, 3) ∧ decode cX9_addEntry 53 = .ok (.return_, 1) ∧ decode cX9_turnParting 0 = .ok (.aload_n 1, 1) ∧ decode cX9_turnParting 1 = .ok (.getfield 78, 3) ∧ decode cX9_turnParting 4 = .ok (.astore 4, 2) ∧ decode cX9_turnParting 6 = .ok (.lconst 0, 1) ∧ decode cX9_turnParting 7 = .ok (.lstore 5, 2) ∧ decode cX9_turnParting 9 = .ok (.iconst 0, 1) := by decide +kernel
theorem dX9_addEntry_48 : decode cX9_addEntry 48 = .ok (.iload_n 2, 1) := gd_X9_addEntry_48.1
theorem dX9_addEntry_49 : decode cX9_addEntry 49 = .ok (.iaload, 1) := gd_X9_addEntry_48.2.1
theorem dX9_addEntry_50 : decode cX9_addEntry 50 = .ok (.invokevirtual 85, 3) := gd_X9_addEntry_48.2.2.1
theorem dX9_addEntry_53 : decode cX9_addEntry 53 = .ok (.return_, 1) := gd_X9_addEntry_48.2.2.2.1
theorem dX9_turnParting_0 : decode cX9_turnParting 0 = .ok (.aload_n 1, 1) := gd_X9_addEntry_48.2.2.2.2.1
theorem dX9_turnParting_1 : decode cX9_turnParting 1 = .ok (.getfield 78, 3) := gd_X9_addEntry_48.2.2.2.2.2.1
theorem dX9_turnParting_4 : decode cX9_turnParting 4 = .ok (.astore 4, 2) := gd_X9_addEntry_48.2.2.2.2.2.2.1
theorem dX9_turnParting_6 : decode cX9_turnParting 6 = .ok (.lconst 0, 1) := gd_X9_addEntry_48.2.2.2.2.2.2.2.1
theorem dX9_turnParting_7 : decode cX9_turnParting 7 = .ok (.lstore 5, 2) := gd_X9_addEntry_48.2.2.2.2.2.2.2.2.1
theorem dX9_turnParting_9 : decode cX9_turnParting 9 = .ok (.iconst 0, 1) := gd_X9_addEntry_48.2.2.2.2.2.2.2.2.2
theorem gd_X9_turnParting_10 : decode cX9_turnParting 10 = .ok (.istore 7, 2) ∧ decode cX9_turnParting 12 = .ok (.iconst 0, 1) ∧ decode cX9_turnParting 13 = .ok (.istore 8, 2) ∧ decode cX9_turnParting 15 = .ok (.iload 8, 2) ∧ decode cX9_turnParting 17 = .ok (.aload_n 0, 1) ∧ decode cX9_turnParting 18 = .ok (.getfield 12, 3) ∧ decode cX9_turnParting 21 = .ok (.getfield 128, 3) ∧ decode cX9_turnParting 24 = .ok (.iload_n 2, 1) ∧ decode cX9_turnParting 25 = .ok (.iaload, 1) ∧ decode cX9_turnParting 26 = .ok (.if_icmp .ge 123, 3) := by decide +kernel
theorem dX9_turnParting_10 : decode cX9_turnParting 10 = .ok (.istore 7, 2) := gd_X9_turnParting_10.1
theorem dX9_turnParting_12 : decode cX9_turnParting 12 = .ok (.iconst 0, 1) := gd_X9_turnParting_10.2.1
theorem dX9_turnParting_13 : decode cX9_turnParting 13 = .ok (.istore 8, 2) := gd_X9_turnParting_10.2.2.1
theorem dX9_turnParting_15 : decode cX9_turnParting 15 = .ok (.iload 8, 2) := gd_X9_turnParting_10.2.2.2.1
theorem dX9_turnParting_17 : decode cX9_turnParting 17 = .ok (.aload_n 0, 1) := gd_X9_turnParting_10.2.2.2.2.1
theorem dX9_turnParting_18 : decode cX9_turnParting 18 = .ok (.getfield 12, 3) := gd_X9_turnParting_10.2.2.2.2.2.1
theorem dX9_turnParting_21 : decode cX9_turnParting 21 = .ok (.getfield 128, 3) := gd_X9_turnParting_10.2.2.2.2.2.2.1
theorem dX9_turnParting_24 : decode cX9_turnParting 24 = .ok (.iload_n 2, 1) := gd_X9_turnParting_10.2.2.2.2.2.2.2.1
theorem dX9_turnParting_25 : decode cX9_turnParting 25 = .ok (.iaload, 1) := gd_X9_turnParting_10.2.2.2.2.2.2.2.2.1
theorem dX9_turnParting_26 : decode cX9_turnParting 26 = .ok (.if_icmp .ge 123, 3) := gd_X9_turnParting_10.2.2.2.2.2.2.2.2.2
theorem gd_X9_turnParting_29 : decode cX9_turnParting 29 = .ok (.aload_n 0, 1) ∧ decode cX9_turnParting 30 = .ok (.getfield 12, 3) ∧ decode cX9_turnParting 33 = .ok (.iload_n 2, 1) ∧ decode cX9_turnParting 34 = .ok (.iload 8, 2) ∧ decode cX9_turnParting 36 = .ok (.invokevirtual 131, 3) ∧ decode cX9_turnParting 39 = .ok (.istore 9, 2) ∧ decode cX9_turnParting 41 = .ok (.iload 9, 2) ∧ decode cX9_turnParting 43 = .ok (.ifCond .lt 13, 3) ∧ decode cX9_turnParting 46 = .ok (.iload 9, 2) ∧ decode cX9_turnParting 48 = .ok (.aload 4, 2) := by decide +kernel
theorem dX9_turnParting_29 : decode cX9_turnParting 29 = .ok (.aload_n 0, 1) := gd_X9_turnParting_29.1
theorem dX9_turnParting_30 : decode cX9_turnParting 30 = .ok (.getfield 12, 3) := gd_X9_turnParting_29.2.1
theorem dX9_turnParting_33 : decode cX9_turnParting 33 = .ok (.iload_n 2, 1) := gd_X9_turnParting_29.2.2.1
theorem dX9_turnParting_34 : decode cX9_turnParting 34 = .ok (.iload 8, 2) := gd_X9_turnParting_29.2.2.2.1
theorem dX9_turnParting_36 : decode cX9_turnParting 36 = .ok (.invokevirtual 131, 3) := gd_X9_turnParting_29.2.2.2.2.1
theorem dX9_turnParting_39 : decode cX9_turnParting 39 = .ok (.istore 9, 2) := gd_X9_turnParting_29.2.2.2.2.2.1
theorem dX9_turnParting_41 : decode cX9_turnParting 41 = .ok (.iload 9, 2) := gd_X9_turnParting_29.2.2.2.2.2.2.1
theorem dX9_turnParting_43 : decode cX9_turnParting 43 = .ok (.ifCond .lt 13, 3) := gd_X9_turnParting_29.2.2.2.2.2.2.2.1
theorem dX9_turnParting_46 : decode cX9_turnParting 46 = .ok (.iload 9, 2) := gd_X9_turnParting_29.2.2.2.2.2.2.2.2.1
theorem dX9_turnParting_48 : decode cX9_turnParting 48 = .ok (.aload 4, 2) := gd_X9_turnParting_29.2.2.2.2.2.2.2.2.2
theorem gd_X9_turnParting_50 : decode cX9_turnParting 50 = .ok (.getfield 53, 3) ∧ decode cX9_turnParting 53 = .ok (.if_icmp .lt 6, 3) ∧ decode cX9_turnParting 56 = .ok (.lload 5, 2) ∧ decode cX9_turnParting 58 = .ok (.lreturn, 1) ∧ decode cX9_turnParting 59 = .ok (.lload 5, 2) ∧ decode cX9_turnParting 61 = .ok (.aload_n 1, 1) ∧ decode cX9_turnParting 62 = .ok (.getfield 74, 3) ∧ decode cX9_turnParting 65 = .ok (.iload 9, 2) ∧ decode cX9_turnParting 67 = .ok (.laload, 1) ∧ decode cX9_turnParting 68 = .ok (.lor, 1) := by decide +kernel
theorem dX9_turnParting_50 : decode cX9_turnParting 50 = .ok (.getfield 53, 3) := gd_X9_turnParting_50.1
theorem dX9_turnParting_53 : decode cX9_turnParting 53 = .ok (.if_icmp .lt 6, 3) := gd_X9_turnParting_50.2.1
theorem dX9_turnParting_56 : decode cX9_turnParting 56 = .ok (.lload 5, 2) := gd_X9_turnParting_50.2.2.1
theorem dX9_turnParting_58 : decode cX9_turnParting 58 = .ok (.lreturn, 1) := gd_X9_turnParting_50.2.2.2.1
theorem dX9_turnParting_59 : decode cX9_turnParting 59 = .ok (.lload 5, 2) := gd_X9_turnParting_50.2.2.2.2.1
theorem dX9_turnParting_61 : decode cX9_turnParting 61 = .ok (.aload_n 1, 1) := gd_X9_turnParting_50.2.2.2.2.2.1
theorem dX9_turnParting_62 : decode cX9_turnParting 62 = .ok (.getfield 74, 3) := gd_X9_turnParting_50.2.2.2.2.2.2.1
theorem dX9_turnParting_65 : decode cX9_turnParting 65 = .ok (.iload 9, 2) := gd_X9_turnParting_50.2.2.2.2.2.2.2.1
theorem dX9_turnParting_67 : decode cX9_turnParting 67 = .ok (.laload, 1) := gd_X9_turnParting_50.2.2.2.2.2.2.2.2.1
theorem dX9_turnParting_68 : decode cX9_turnParting 68 = .ok (.lor, 1) := gd_X9_turnParting_50.2.2.2.2.2.2.2.2.2
theorem gd_X9_turnParting_69 : decode cX9_turnParting 69 = .ok (.lstore 5, 2) ∧ decode cX9_turnParting 71 = .ok (.aload_n 1, 1) ∧ decode cX9_turnParting 72 = .ok (.getfield 70, 3) ∧ decode cX9_turnParting 75 = .ok (.iload 9, 2) ∧ decode cX9_turnParting 77 = .ok (.baload, 1) ∧ decode cX9_turnParting 78 = .ok (.ifCond .ne 6, 3) ∧ decode cX9_turnParting 81 = .ok (.lload 5, 2) ∧ decode cX9_turnParting 83 = .ok (.lreturn, 1) ∧ decode cX9_turnParting 84 = .ok (.iload 7, 2) ∧ decode cX9_turnParting 86 = .ok (.aload 4, 2) := by decide +kernel
theorem dX9_turnParting_69 : decode cX9_turnParting 69 = .ok (.lstore 5, 2) := gd_X9_turnParting_69.1
theorem dX9_turnParting_71 : decode cX9_turnParting 71 = .ok (.aload_n 1, 1) := gd_X9_turnParting_69.2.1
theorem dX9_turnParting_72 : decode cX9_turnParting 72 = .ok (.getfield 70, 3) := gd_X9_turnParting_69.2.2.1
theorem dX9_turnParting_75 : decode cX9_turnParting 75 = .ok (.iload 9, 2) := gd_X9_turnParting_69.2.2.2.1
theorem dX9_turnParting_77 : decode cX9_turnParting 77 = .ok (.baload, 1) := gd_X9_turnParting_69.2.2.2.2.1
theorem dX9_turnParting_78 : decode cX9_turnParting 78 = .ok (.ifCond .ne 6, 3) := gd_X9_turnParting_69.2.2.2.2.2.1
theorem dX9_turnParting_81 : decode cX9_turnParting 81 = .ok (.lload 5, 2) := gd_X9_turnParting_69.2.2.2.2.2.2.1
theorem dX9_turnParting_83 : decode cX9_turnParting 83 = .ok (.lreturn, 1) := gd_X9_turnParting_69.2.2.2.2.2.2.2.1
theorem dX9_turnParting_84 : decode cX9_turnParting 84 = .ok (.iload 7, 2) := gd_X9_turnParting_69.2.2.2.2.2.2.2.2.1
theorem dX9_turnParting_86 : decode cX9_turnParting 86 = .ok (.aload 4, 2) := gd_X9_turnParting_69.2.2.2.2.2.2.2.2.2
theorem gd_X9_turnParting_88 : decode cX9_turnParting 88 = .ok (.getfield 62, 3) ∧ decode cX9_turnParting 91 = .ok (.iload 9, 2) ∧ decode cX9_turnParting 93 = .ok (.iaload, 1) ∧ decode cX9_turnParting 94 = .ok (.iadd, 1) ∧ decode cX9_turnParting 95 = .ok (.bipush 24, 2) ∧ decode cX9_turnParting 97 = .ok (.if_icmp .gt 33, 3) ∧ decode cX9_turnParting 100 = .ok (.aload 4, 2) ∧ decode cX9_turnParting 102 = .ok (.getfield 56, 3) ∧ decode cX9_turnParting 105 = .ok (.iload 9, 2) ∧ decode cX9_turnParting 107 = .ok (.aload 4, 2) := by decide +kernel
theorem dX9_turnParting_88 : decode cX9_turnParting 88 = .ok (.getfield 62, 3) := gd_X9_turnParting_88.1
theorem dX9_turnParting_91 : decode cX9_turnParting 91 = .ok (.iload 9, 2) := gd_X9_turnParting_88.2.1
theorem dX9_turnParting_93 : decode cX9_turnParting 93 = .ok (.iaload, 1) := gd_X9_turnParting_88.2.2.1
theorem dX9_turnParting_94 : decode cX9_turnParting 94 = .ok (.iadd, 1) := gd_X9_turnParting_88.2.2.2.1
theorem dX9_turnParting_95 : decode cX9_turnParting 95 = .ok (.bipush 24, 2) := gd_X9_turnParting_88.2.2.2.2.1
theorem dX9_turnParting_97 : decode cX9_turnParting 97 = .ok (.if_icmp .gt 33, 3) := gd_X9_turnParting_88.2.2.2.2.2.1
theorem dX9_turnParting_100 : decode cX9_turnParting 100 = .ok (.aload 4, 2) := gd_X9_turnParting_88.2.2.2.2.2.2.1
theorem dX9_turnParting_102 : decode cX9_turnParting 102 = .ok (.getfield 56, 3) := gd_X9_turnParting_88.2.2.2.2.2.2.2.1
theorem dX9_turnParting_105 : decode cX9_turnParting 105 = .ok (.iload 9, 2) := gd_X9_turnParting_88.2.2.2.2.2.2.2.2.1
theorem dX9_turnParting_107 : decode cX9_turnParting 107 = .ok (.aload 4, 2) := gd_X9_turnParting_88.2.2.2.2.2.2.2.2.2
theorem gd_X9_turnParting_109 : decode cX9_turnParting 109 = .ok (.getfield 59, 3) ∧ decode cX9_turnParting 112 = .ok (.imul, 1) ∧ decode cX9_turnParting 113 = .ok (.aload_n 0, 1) ∧ decode cX9_turnParting 114 = .ok (.getfield 33, 3) ∧ decode cX9_turnParting 117 = .ok (.iload 7, 2) ∧ decode cX9_turnParting 119 = .ok (.aload 4, 2) ∧ decode cX9_turnParting 121 = .ok (.getfield 62, 3) ∧ decode cX9_turnParting 124 = .ok (.iload 9, 2) ∧ decode cX9_turnParting 126 = .ok (.iaload, 1) ∧ decode cX9_turnParting 127 = .ok (.invokestatic 134, 3) := by decide +kernel
theorem dX9_turnParting_109 : decode cX9_turnParting 109 = .ok (.getfield 59, 3) := gd_X9_turnParting_109.1
theorem dX9_turnParting_112 : decode cX9_turnParting 112 = .ok (.imul, 1) := gd_X9_turnParting_109.2.1
theorem dX9_turnParting_113 : decode cX9_turnParting 113 = .ok (.aload_n 0, 1) := gd_X9_turnParting_109.2.2.1
theorem dX9_turnParting_114 : decode cX9_turnParting 114 = .ok (.getfield 33, 3) := gd_X9_turnParting_109.2.2.2.1
theorem dX9_turnParting_117 : decode cX9_turnParting 117 = .ok (.iload 7, 2) := gd_X9_turnParting_109.2.2.2.2.1
theorem dX9_turnParting_119 : decode cX9_turnParting 119 = .ok (.aload 4, 2) := gd_X9_turnParting_109.2.2.2.2.2.1
theorem dX9_turnParting_121 : decode cX9_turnParting 121 = .ok (.getfield 62, 3) := gd_X9_turnParting_109.2.2.2.2.2.2.1
theorem dX9_turnParting_124 : decode cX9_turnParting 124 = .ok (.iload 9, 2) := gd_X9_turnParting_109.2.2.2.2.2.2.2.1
theorem dX9_turnParting_126 : decode cX9_turnParting 126 = .ok (.iaload, 1) := gd_X9_turnParting_109.2.2.2.2.2.2.2.2.1
theorem dX9_turnParting_127 : decode cX9_turnParting 127 = .ok (.invokestatic 134, 3) := gd_X9_turnParting_109.2.2.2.2.2.2.2.2.2
theorem gd_X9_turnParting_130 : decode cX9_turnParting 130 = .ok (.iload 7, 2) ∧ decode cX9_turnParting 132 = .ok (.aload 4, 2) ∧ decode cX9_turnParting 134 = .ok (.getfield 62, 3) ∧ decode cX9_turnParting 137 = .ok (.iload 9, 2) ∧ decode cX9_turnParting 139 = .ok (.iaload, 1) ∧ decode cX9_turnParting 140 = .ok (.iadd, 1) ∧ decode cX9_turnParting 141 = .ok (.istore 7, 2) ∧ decode cX9_turnParting 143 = .ok (.iinc 8 1, 3) ∧ decode cX9_turnParting 146 = .ok (.goto (-131), 3) ∧ decode cX9_turnParting 149 = .ok (.iload 7, 2) := by decide +kernel
theorem dX9_turnParting_130 : decode cX9_turnParting 130 = .ok (.iload 7, 2) := gd_X9_turnParting_130.1
theorem dX9_turnParting_132 : decode cX9_turnParting 132 = .ok (.aload 4, 2) := gd_X9_turnParting_130.2.1
theorem dX9_turnParting_134 : decode cX9_turnParting 134 = .ok (.getfield 62, 3) := gd_X9_turnParting_130.2.2.1
theorem dX9_turnParting_137 : decode cX9_turnParting 137 = .ok (.iload 9, 2) := gd_X9_turnParting_130.2.2.2.1
theorem dX9_turnParting_139 : decode cX9_turnParting 139 = .ok (.iaload, 1) := gd_X9_turnParting_130.2.2.2.2.1
theorem dX9_turnParting_140 : decode cX9_turnParting 140 = .ok (.iadd, 1) := gd_X9_turnParting_130.2.2.2.2.2.1
theorem dX9_turnParting_141 : decode cX9_turnParting 141 = .ok (.istore 7, 2) := gd_X9_turnParting_130.2.2.2.2.2.2.1
theorem dX9_turnParting_143 : decode cX9_turnParting 143 = .ok (.iinc 8 1, 3) := gd_X9_turnParting_130.2.2.2.2.2.2.2.1
theorem dX9_turnParting_146 : decode cX9_turnParting 146 = .ok (.goto (-131), 3) := gd_X9_turnParting_130.2.2.2.2.2.2.2.2.1
theorem dX9_turnParting_149 : decode cX9_turnParting 149 = .ok (.iload 7, 2) := gd_X9_turnParting_130.2.2.2.2.2.2.2.2.2
theorem gd_X9_turnParting_151 : decode cX9_turnParting 151 = .ok (.bipush 24, 2) ∧ decode cX9_turnParting 153 = .ok (.if_icmp .gt 14, 3) ∧ decode cX9_turnParting 156 = .ok (.aload_n 3, 1) ∧ decode cX9_turnParting 157 = .ok (.aload_n 0, 1) ∧ decode cX9_turnParting 158 = .ok (.getfield 33, 3) ∧ decode cX9_turnParting 161 = .ok (.iconst 0, 1) ∧ decode cX9_turnParting 162 = .ok (.iload 7, 2) ∧ decode cX9_turnParting 164 = .ok (.invokevirtual 85, 3) ∧ decode cX9_turnParting 167 = .ok (.lload 5, 2) ∧ decode cX9_turnParting 169 = .ok (.lreturn, 1) := by decide +kernel
theorem dX9_turnParting_151 : decode cX9_turnParting 151 = .ok (.bipush 24, 2) := gd_X9_turnParting_151.1
theorem dX9_turnParting_153 : decode cX9_turnParting 153 = .ok (.if_icmp .gt 14, 3) := gd_X9_turnParting_151.2.1
theorem dX9_turnParting_156 : decode cX9_turnParting 156 = .ok (.aload_n 3, 1) := gd_X9_turnParting_151.2.2.1
theorem dX9_turnParting_157 : decode cX9_turnParting 157 = .ok (.aload_n 0, 1) := gd_X9_turnParting_151.2.2.2.1
theorem dX9_turnParting_158 : decode cX9_turnParting 158 = .ok (.getfield 33, 3) := gd_X9_turnParting_151.2.2.2.2.1
theorem dX9_turnParting_161 : decode cX9_turnParting 161 = .ok (.iconst 0, 1) := gd_X9_turnParting_151.2.2.2.2.2.1
theorem dX9_turnParting_162 : decode cX9_turnParting 162 = .ok (.iload 7, 2) := gd_X9_turnParting_151.2.2.2.2.2.2.1
theorem dX9_turnParting_164 : decode cX9_turnParting 164 = .ok (.invokevirtual 85, 3) := gd_X9_turnParting_151.2.2.2.2.2.2.2.1
theorem dX9_turnParting_167 : decode cX9_turnParting 167 = .ok (.lload 5, 2) := gd_X9_turnParting_151.2.2.2.2.2.2.2.2.1
theorem dX9_turnParting_169 : decode cX9_turnParting 169 = .ok (.lreturn, 1) := gd_X9_turnParting_151.2.2.2.2.2.2.2.2.2
theorem gd_X9_runLaws_0 : decode cX9_runLaws 0 = .ok (.aload_n 0, 1) ∧ decode cX9_runLaws 1 = .ok (.lconst 0, 1) ∧ decode cX9_runLaws 2 = .ok (.putfield 29, 3) ∧ decode cX9_runLaws 5 = .ok (.aload_n 0, 1) ∧ decode cX9_runLaws 6 = .ok (.iload 4, 2) ∧ decode cX9_runLaws 8 = .ok (.bipush 24, 2) ∧ decode cX9_runLaws 10 = .ok (.invokestatic 140, 3) ∧ decode cX9_runLaws 13 = .ok (.putfield 25, 3) ∧ decode cX9_runLaws 16 = .ok (.aload_n 2, 1) ∧ decode cX9_runLaws 17 = .ok (.iload_n 3, 1) := by decide +kernel
theorem dX9_runLaws_0 : decode cX9_runLaws 0 = .ok (.aload_n 0, 1) := gd_X9_runLaws_0.1
theorem dX9_runLaws_1 : decode cX9_runLaws 1 = .ok (.lconst 0, 1) := gd_X9_runLaws_0.2.1
theorem dX9_runLaws_2 : decode cX9_runLaws 2 = .ok (.putfield 29, 3) := gd_X9_runLaws_0.2.2.1
theorem dX9_runLaws_5 : decode cX9_runLaws 5 = .ok (.aload_n 0, 1) := gd_X9_runLaws_0.2.2.2.1
theorem dX9_runLaws_6 : decode cX9_runLaws 6 = .ok (.iload 4, 2) := gd_X9_runLaws_0.2.2.2.2.1
theorem dX9_runLaws_8 : decode cX9_runLaws 8 = .ok (.bipush 24, 2) := gd_X9_runLaws_0.2.2.2.2.2.1
theorem dX9_runLaws_10 : decode cX9_runLaws 10 = .ok (.invokestatic 140, 3) := gd_X9_runLaws_0.2.2.2.2.2.2.1
theorem dX9_runLaws_13 : decode cX9_runLaws 13 = .ok (.putfield 25, 3) := gd_X9_runLaws_0.2.2.2.2.2.2.2.1
theorem dX9_runLaws_16 : decode cX9_runLaws 16 = .ok (.aload_n 2, 1) := gd_X9_runLaws_0.2.2.2.2.2.2.2.2.1
theorem dX9_runLaws_17 : decode cX9_runLaws 17 = .ok (.iload_n 3, 1) := gd_X9_runLaws_0.2.2.2.2.2.2.2.2.2
theorem gd_X9_runLaws_18 : decode cX9_runLaws 18 = .ok (.aload_n 0, 1) ∧ decode cX9_runLaws 19 = .ok (.getfield 18, 3) ∧ decode cX9_runLaws 22 = .ok (.iconst 0, 1) ∧ decode cX9_runLaws 23 = .ok (.aload_n 0, 1) ∧ decode cX9_runLaws 24 = .ok (.getfield 25, 3) ∧ decode cX9_runLaws 27 = .ok (.invokestatic 134, 3) ∧ decode cX9_runLaws 30 = .ok (.iconst 0, 1) ∧ decode cX9_runLaws 31 = .ok (.istore 5, 2) ∧ decode cX9_runLaws 33 = .ok (.iload 5, 2) ∧ decode cX9_runLaws 35 = .ok (.aload_n 1, 1) := by decide +kernel
theorem dX9_runLaws_18 : decode cX9_runLaws 18 = .ok (.aload_n 0, 1) := gd_X9_runLaws_18.1
theorem dX9_runLaws_19 : decode cX9_runLaws 19 = .ok (.getfield 18, 3) := gd_X9_runLaws_18.2.1
theorem dX9_runLaws_22 : decode cX9_runLaws 22 = .ok (.iconst 0, 1) := gd_X9_runLaws_18.2.2.1
theorem dX9_runLaws_23 : decode cX9_runLaws 23 = .ok (.aload_n 0, 1) := gd_X9_runLaws_18.2.2.2.1
theorem dX9_runLaws_24 : decode cX9_runLaws 24 = .ok (.getfield 25, 3) := gd_X9_runLaws_18.2.2.2.2.1
theorem dX9_runLaws_27 : decode cX9_runLaws 27 = .ok (.invokestatic 134, 3) := gd_X9_runLaws_18.2.2.2.2.2.1
theorem dX9_runLaws_30 : decode cX9_runLaws 30 = .ok (.iconst 0, 1) := gd_X9_runLaws_18.2.2.2.2.2.2.1
theorem dX9_runLaws_31 : decode cX9_runLaws 31 = .ok (.istore 5, 2) := gd_X9_runLaws_18.2.2.2.2.2.2.2.1
theorem dX9_runLaws_33 : decode cX9_runLaws 33 = .ok (.iload 5, 2) := gd_X9_runLaws_18.2.2.2.2.2.2.2.2.1
theorem dX9_runLaws_35 : decode cX9_runLaws 35 = .ok (.aload_n 1, 1) := gd_X9_runLaws_18.2.2.2.2.2.2.2.2.2
theorem gd_X9_runLaws_36 : decode cX9_runLaws 36 = .ok (.getfield 143, 3) ∧ decode cX9_runLaws 39 = .ok (.if_icmp .ge 54, 3) ∧ decode cX9_runLaws 42 = .ok (.aload_n 0, 1) ∧ decode cX9_runLaws 43 = .ok (.getfield 25, 3) ∧ decode cX9_runLaws 46 = .ok (.bipush 24, 2) ∧ decode cX9_runLaws 48 = .ok (.if_icmp .gt 45, 3) ∧ decode cX9_runLaws 51 = .ok (.aload_n 1, 1) ∧ decode cX9_runLaws 52 = .ok (.getfield 146, 3) ∧ decode cX9_runLaws 55 = .ok (.iload 5, 2) ∧ decode cX9_runLaws 57 = .ok (.aaload, 1) := by decide +kernel
theorem dX9_runLaws_36 : decode cX9_runLaws 36 = .ok (.getfield 143, 3) := gd_X9_runLaws_36.1
theorem dX9_runLaws_39 : decode cX9_runLaws 39 = .ok (.if_icmp .ge 54, 3) := gd_X9_runLaws_36.2.1
theorem dX9_runLaws_42 : decode cX9_runLaws 42 = .ok (.aload_n 0, 1) := gd_X9_runLaws_36.2.2.1
theorem dX9_runLaws_43 : decode cX9_runLaws 43 = .ok (.getfield 25, 3) := gd_X9_runLaws_36.2.2.2.1
theorem dX9_runLaws_46 : decode cX9_runLaws 46 = .ok (.bipush 24, 2) := gd_X9_runLaws_36.2.2.2.2.1
theorem dX9_runLaws_48 : decode cX9_runLaws 48 = .ok (.if_icmp .gt 45, 3) := gd_X9_runLaws_36.2.2.2.2.2.1
theorem dX9_runLaws_51 : decode cX9_runLaws 51 = .ok (.aload_n 1, 1) := gd_X9_runLaws_36.2.2.2.2.2.2.1
theorem dX9_runLaws_52 : decode cX9_runLaws 52 = .ok (.getfield 146, 3) := gd_X9_runLaws_36.2.2.2.2.2.2.2.1
theorem dX9_runLaws_55 : decode cX9_runLaws 55 = .ok (.iload 5, 2) := gd_X9_runLaws_36.2.2.2.2.2.2.2.2.1
theorem dX9_runLaws_57 : decode cX9_runLaws 57 = .ok (.aaload, 1) := gd_X9_runLaws_36.2.2.2.2.2.2.2.2.2
theorem gd_X9_runLaws_58 : decode cX9_runLaws 58 = .ok (.astore 6, 2) ∧ decode cX9_runLaws 60 = .ok (.aload 6, 2) ∧ decode cX9_runLaws 62 = .ok (.ifnull 25, 3) ∧ decode cX9_runLaws 65 = .ok (.aload_n 0, 1) ∧ decode cX9_runLaws 66 = .ok (.aload 6, 2) ∧ decode cX9_runLaws 68 = .ok (.invokevirtual 150, 3) ∧ decode cX9_runLaws 71 = .ok (.ifCond .eq 16, 3) ∧ decode cX9_runLaws 74 = .ok (.aload_n 0, 1) ∧ decode cX9_runLaws 75 = .ok (.dup, 1) ∧ decode cX9_runLaws 76 = .ok (.getfield 29, 3) := by decide +kernel
theorem dX9_runLaws_58 : decode cX9_runLaws 58 = .ok (.astore 6, 2) := gd_X9_runLaws_58.1
theorem dX9_runLaws_60 : decode cX9_runLaws 60 = .ok (.aload 6, 2) := gd_X9_runLaws_58.2.1
theorem dX9_runLaws_62 : decode cX9_runLaws 62 = .ok (.ifnull 25, 3) := gd_X9_runLaws_58.2.2.1
theorem dX9_runLaws_65 : decode cX9_runLaws 65 = .ok (.aload_n 0, 1) := gd_X9_runLaws_58.2.2.2.1
theorem dX9_runLaws_66 : decode cX9_runLaws 66 = .ok (.aload 6, 2) := gd_X9_runLaws_58.2.2.2.2.1
theorem dX9_runLaws_68 : decode cX9_runLaws 68 = .ok (.invokevirtual 150, 3) := gd_X9_runLaws_58.2.2.2.2.2.1
theorem dX9_runLaws_71 : decode cX9_runLaws 71 = .ok (.ifCond .eq 16, 3) := gd_X9_runLaws_58.2.2.2.2.2.2.1
theorem dX9_runLaws_74 : decode cX9_runLaws 74 = .ok (.aload_n 0, 1) := gd_X9_runLaws_58.2.2.2.2.2.2.2.1
theorem dX9_runLaws_75 : decode cX9_runLaws 75 = .ok (.dup, 1) := gd_X9_runLaws_58.2.2.2.2.2.2.2.2.1
theorem dX9_runLaws_76 : decode cX9_runLaws 76 = .ok (.getfield 29, 3) := gd_X9_runLaws_58.2.2.2.2.2.2.2.2.2
theorem gd_X9_runLaws_79 : decode cX9_runLaws 79 = .ok (.lconst 1, 1) ∧ decode cX9_runLaws 80 = .ok (.iload 5, 2) ∧ decode cX9_runLaws 82 = .ok (.lshl, 1) ∧ decode cX9_runLaws 83 = .ok (.lor, 1) ∧ decode cX9_runLaws 84 = .ok (.putfield 29, 3) ∧ decode cX9_runLaws 87 = .ok (.iinc 5 1, 3) ∧ decode cX9_runLaws 90 = .ok (.goto (-57), 3) ∧ decode cX9_runLaws 93 = .ok (.aload_n 0, 1) ∧ decode cX9_runLaws 94 = .ok (.getfield 25, 3) ∧ decode cX9_runLaws 97 = .ok (.bipush 24, 2) := by decide +kernel
theorem dX9_runLaws_79 : decode cX9_runLaws 79 = .ok (.lconst 1, 1) := gd_X9_runLaws_79.1
theorem dX9_runLaws_80 : decode cX9_runLaws 80 = .ok (.iload 5, 2) := gd_X9_runLaws_79.2.1
theorem dX9_runLaws_82 : decode cX9_runLaws 82 = .ok (.lshl, 1) := gd_X9_runLaws_79.2.2.1
theorem dX9_runLaws_83 : decode cX9_runLaws 83 = .ok (.lor, 1) := gd_X9_runLaws_79.2.2.2.1
theorem dX9_runLaws_84 : decode cX9_runLaws 84 = .ok (.putfield 29, 3) := gd_X9_runLaws_79.2.2.2.2.1
theorem dX9_runLaws_87 : decode cX9_runLaws 87 = .ok (.iinc 5 1, 3) := gd_X9_runLaws_79.2.2.2.2.2.1
theorem dX9_runLaws_90 : decode cX9_runLaws 90 = .ok (.goto (-57), 3) := gd_X9_runLaws_79.2.2.2.2.2.2.1
theorem dX9_runLaws_93 : decode cX9_runLaws 93 = .ok (.aload_n 0, 1) := gd_X9_runLaws_79.2.2.2.2.2.2.2.1
theorem dX9_runLaws_94 : decode cX9_runLaws 94 = .ok (.getfield 25, 3) := gd_X9_runLaws_79.2.2.2.2.2.2.2.2.1
theorem dX9_runLaws_97 : decode cX9_runLaws 97 = .ok (.bipush 24, 2) := gd_X9_runLaws_79.2.2.2.2.2.2.2.2.2
theorem gd_X9_runLaws_99 : decode cX9_runLaws 99 = .ok (.if_icmp .gt 7, 3) ∧ decode cX9_runLaws 102 = .ok (.iconst 1, 1) ∧ decode cX9_runLaws 103 = .ok (.goto 4, 3) ∧ decode cX9_runLaws 106 = .ok (.iconst 0, 1) ∧ decode cX9_runLaws 107 = .ok (.ireturn, 1) ∧ decode cX9_apply 0 = .ok (.iconst 0, 1) ∧ decode cX9_apply 1 = .ok (.istore_n 2, 1) ∧ decode cX9_apply 2 = .ok (.iconst 0, 1) ∧ decode cX9_apply 3 = .ok (.istore_n 3, 1) ∧ decode cX9_apply 4 = .ok (.iconst 0, 1) := by decide +kernel
theorem dX9_runLaws_99 : decode cX9_runLaws 99 = .ok (.if_icmp .gt 7, 3) := gd_X9_runLaws_99.1
theorem dX9_runLaws_102 : decode cX9_runLaws 102 = .ok (.iconst 1, 1) := gd_X9_runLaws_99.2.1
theorem dX9_runLaws_103 : decode cX9_runLaws 103 = .ok (.goto 4, 3) := gd_X9_runLaws_99.2.2.1
theorem dX9_runLaws_106 : decode cX9_runLaws 106 = .ok (.iconst 0, 1) := gd_X9_runLaws_99.2.2.2.1
theorem dX9_runLaws_107 : decode cX9_runLaws 107 = .ok (.ireturn, 1) := gd_X9_runLaws_99.2.2.2.2.1
theorem dX9_apply_0 : decode cX9_apply 0 = .ok (.iconst 0, 1) := gd_X9_runLaws_99.2.2.2.2.2.1
theorem dX9_apply_1 : decode cX9_apply 1 = .ok (.istore_n 2, 1) := gd_X9_runLaws_99.2.2.2.2.2.2.1
theorem dX9_apply_2 : decode cX9_apply 2 = .ok (.iconst 0, 1) := gd_X9_runLaws_99.2.2.2.2.2.2.2.1
theorem dX9_apply_3 : decode cX9_apply 3 = .ok (.istore_n 3, 1) := gd_X9_runLaws_99.2.2.2.2.2.2.2.2.1
theorem dX9_apply_4 : decode cX9_apply 4 = .ok (.iconst 0, 1) := gd_X9_runLaws_99.2.2.2.2.2.2.2.2.2
theorem gd_X9_apply_5 : decode cX9_apply 5 = .ok (.istore 4, 2) ∧ decode cX9_apply 7 = .ok (.iload 4, 2) ∧ decode cX9_apply 9 = .ok (.aload_n 0, 1) ∧ decode cX9_apply 10 = .ok (.getfield 25, 3) ∧ decode cX9_apply 13 = .ok (.if_icmp .ge 100, 3) ∧ decode cX9_apply 16 = .ok (.iload_n 3, 1) ∧ decode cX9_apply 17 = .ok (.bipush 24, 2) ∧ decode cX9_apply 19 = .ok (.if_icmp .gt 94, 3) ∧ decode cX9_apply 22 = .ok (.aload_n 1, 1) ∧ decode cX9_apply 23 = .ok (.aload_n 0, 1) := by decide +kernel
theorem dX9_apply_5 : decode cX9_apply 5 = .ok (.istore 4, 2) := gd_X9_apply_5.1
theorem dX9_apply_7 : decode cX9_apply 7 = .ok (.iload 4, 2) := gd_X9_apply_5.2.1
theorem dX9_apply_9 : decode cX9_apply 9 = .ok (.aload_n 0, 1) := gd_X9_apply_5.2.2.1
theorem dX9_apply_10 : decode cX9_apply 10 = .ok (.getfield 25, 3) := gd_X9_apply_5.2.2.2.1
theorem dX9_apply_13 : decode cX9_apply 13 = .ok (.if_icmp .ge 100, 3) := gd_X9_apply_5.2.2.2.2.1
theorem dX9_apply_16 : decode cX9_apply 16 = .ok (.iload_n 3, 1) := gd_X9_apply_5.2.2.2.2.2.1
theorem dX9_apply_17 : decode cX9_apply 17 = .ok (.bipush 24, 2) := gd_X9_apply_5.2.2.2.2.2.2.1
theorem dX9_apply_19 : decode cX9_apply 19 = .ok (.if_icmp .gt 94, 3) := gd_X9_apply_5.2.2.2.2.2.2.2.1
theorem dX9_apply_22 : decode cX9_apply 22 = .ok (.aload_n 1, 1) := gd_X9_apply_5.2.2.2.2.2.2.2.2.1
theorem dX9_apply_23 : decode cX9_apply 23 = .ok (.aload_n 0, 1) := gd_X9_apply_5.2.2.2.2.2.2.2.2.2
theorem gd_X9_apply_24 : decode cX9_apply 24 = .ok (.getfield 18, 3) ∧ decode cX9_apply 27 = .ok (.iload 4, 2) ∧ decode cX9_apply 29 = .ok (.aload_n 0, 1) ∧ decode cX9_apply 30 = .ok (.getfield 25, 3) ∧ decode cX9_apply 33 = .ok (.aload_n 0, 1) ∧ decode cX9_apply 34 = .ok (.getfield 22, 3) ∧ decode cX9_apply 37 = .ok (.iload_n 3, 1) ∧ decode cX9_apply 38 = .ok (.invokevirtual 154, 3) ∧ decode cX9_apply 41 = .ok (.ifCond .eq 50, 3) ∧ decode cX9_apply 44 = .ok (.aload_n 1, 1) := by decide +kernel
theorem dX9_apply_24 : decode cX9_apply 24 = .ok (.getfield 18, 3) := gd_X9_apply_24.1
theorem dX9_apply_27 : decode cX9_apply 27 = .ok (.iload 4, 2) := gd_X9_apply_24.2.1
theorem dX9_apply_29 : decode cX9_apply 29 = .ok (.aload_n 0, 1) := gd_X9_apply_24.2.2.1
theorem dX9_apply_30 : decode cX9_apply 30 = .ok (.getfield 25, 3) := gd_X9_apply_24.2.2.2.1
theorem dX9_apply_33 : decode cX9_apply 33 = .ok (.aload_n 0, 1) := gd_X9_apply_24.2.2.2.2.1
theorem dX9_apply_34 : decode cX9_apply 34 = .ok (.getfield 22, 3) := gd_X9_apply_24.2.2.2.2.2.1
theorem dX9_apply_37 : decode cX9_apply 37 = .ok (.iload_n 3, 1) := gd_X9_apply_24.2.2.2.2.2.2.1
theorem dX9_apply_38 : decode cX9_apply 38 = .ok (.invokevirtual 154, 3) := gd_X9_apply_24.2.2.2.2.2.2.2.1
theorem dX9_apply_41 : decode cX9_apply 41 = .ok (.ifCond .eq 50, 3) := gd_X9_apply_24.2.2.2.2.2.2.2.2.1
theorem dX9_apply_44 : decode cX9_apply 44 = .ok (.aload_n 1, 1) := gd_X9_apply_24.2.2.2.2.2.2.2.2.2
theorem gd_X9_apply_45 : decode cX9_apply 45 = .ok (.getfield 160, 3) ∧ decode cX9_apply 48 = .ok (.iconst 0, 1) ∧ decode cX9_apply 49 = .ok (.aload_n 0, 1) ∧ decode cX9_apply 50 = .ok (.getfield 22, 3) ∧ decode cX9_apply 53 = .ok (.iload_n 3, 1) ∧ decode cX9_apply 54 = .ok (.aload_n 1, 1) ∧ decode cX9_apply 55 = .ok (.getfield 160, 3) ∧ decode cX9_apply 58 = .ok (.arraylength, 1) ∧ decode cX9_apply 59 = .ok (.invokestatic 134, 3) ∧ decode cX9_apply 62 = .ok (.iload_n 3, 1) := by decide +kernel
theorem dX9_apply_45 : decode cX9_apply 45 = .ok (.getfield 160, 3) := gd_X9_apply_45.1
theorem dX9_apply_48 : decode cX9_apply 48 = .ok (.iconst 0, 1) := gd_X9_apply_45.2.1
theorem dX9_apply_49 : decode cX9_apply 49 = .ok (.aload_n 0, 1) := gd_X9_apply_45.2.2.1
theorem dX9_apply_50 : decode cX9_apply 50 = .ok (.getfield 22, 3) := gd_X9_apply_45.2.2.2.1
theorem dX9_apply_53 : decode cX9_apply 53 = .ok (.iload_n 3, 1) := gd_X9_apply_45.2.2.2.2.1
theorem dX9_apply_54 : decode cX9_apply 54 = .ok (.aload_n 1, 1) := gd_X9_apply_45.2.2.2.2.2.1
theorem dX9_apply_55 : decode cX9_apply 55 = .ok (.getfield 160, 3) := gd_X9_apply_45.2.2.2.2.2.2.1
theorem dX9_apply_58 : decode cX9_apply 58 = .ok (.arraylength, 1) := gd_X9_apply_45.2.2.2.2.2.2.2.1
theorem dX9_apply_59 : decode cX9_apply 59 = .ok (.invokestatic 134, 3) := gd_X9_apply_45.2.2.2.2.2.2.2.2.1
theorem dX9_apply_62 : decode cX9_apply 62 = .ok (.iload_n 3, 1) := gd_X9_apply_45.2.2.2.2.2.2.2.2.2
theorem gd_X9_apply_63 : decode cX9_apply 63 = .ok (.aload_n 1, 1) ∧ decode cX9_apply 64 = .ok (.getfield 160, 3) ∧ decode cX9_apply 67 = .ok (.arraylength, 1) ∧ decode cX9_apply 68 = .ok (.iadd, 1) ∧ decode cX9_apply 69 = .ok (.istore_n 3, 1) ∧ decode cX9_apply 70 = .ok (.iload 4, 2) ∧ decode cX9_apply 72 = .ok (.aload_n 1, 1) ∧ decode cX9_apply 73 = .ok (.getfield 163, 3) ∧ decode cX9_apply 76 = .ok (.arraylength, 1) ∧ decode cX9_apply 77 = .ok (.iconst 1, 1) := by decide +kernel
theorem dX9_apply_63 : decode cX9_apply 63 = .ok (.aload_n 1, 1) := gd_X9_apply_63.1
theorem dX9_apply_64 : decode cX9_apply 64 = .ok (.getfield 160, 3) := gd_X9_apply_63.2.1
theorem dX9_apply_67 : decode cX9_apply 67 = .ok (.arraylength, 1) := gd_X9_apply_63.2.2.1
theorem dX9_apply_68 : decode cX9_apply 68 = .ok (.iadd, 1) := gd_X9_apply_63.2.2.2.1
theorem dX9_apply_69 : decode cX9_apply 69 = .ok (.istore_n 3, 1) := gd_X9_apply_63.2.2.2.2.1
theorem dX9_apply_70 : decode cX9_apply 70 = .ok (.iload 4, 2) := gd_X9_apply_63.2.2.2.2.2.1
theorem dX9_apply_72 : decode cX9_apply 72 = .ok (.aload_n 1, 1) := gd_X9_apply_63.2.2.2.2.2.2.1
theorem dX9_apply_73 : decode cX9_apply 73 = .ok (.getfield 163, 3) := gd_X9_apply_63.2.2.2.2.2.2.2.1
theorem dX9_apply_76 : decode cX9_apply 76 = .ok (.arraylength, 1) := gd_X9_apply_63.2.2.2.2.2.2.2.2.1
theorem dX9_apply_77 : decode cX9_apply 77 = .ok (.iconst 1, 1) := gd_X9_apply_63.2.2.2.2.2.2.2.2.2
theorem gd_X9_apply_78 : decode cX9_apply 78 = .ok (.invokestatic 88, 3) ∧ decode cX9_apply 81 = .ok (.iconst 1, 1) ∧ decode cX9_apply 82 = .ok (.isub, 1) ∧ decode cX9_apply 83 = .ok (.iadd, 1) ∧ decode cX9_apply 84 = .ok (.istore 4, 2) ∧ decode cX9_apply 86 = .ok (.iconst 1, 1) ∧ decode cX9_apply 87 = .ok (.istore_n 2, 1) ∧ decode cX9_apply 88 = .ok (.goto 19, 3) ∧ decode cX9_apply 91 = .ok (.aload_n 0, 1) ∧ decode cX9_apply 92 = .ok (.getfield 22, 3) := by decide +kernel
theorem dX9_apply_78 : decode cX9_apply 78 = .ok (.invokestatic 88, 3) := gd_X9_apply_78.1
theorem dX9_apply_81 : decode cX9_apply 81 = .ok (.iconst 1, 1) := gd_X9_apply_78.2.1
theorem dX9_apply_82 : decode cX9_apply 82 = .ok (.isub, 1) := gd_X9_apply_78.2.2.1
theorem dX9_apply_83 : decode cX9_apply 83 = .ok (.iadd, 1) := gd_X9_apply_78.2.2.2.1
theorem dX9_apply_84 : decode cX9_apply 84 = .ok (.istore 4, 2) := gd_X9_apply_78.2.2.2.2.1
theorem dX9_apply_86 : decode cX9_apply 86 = .ok (.iconst 1, 1) := gd_X9_apply_78.2.2.2.2.2.1
theorem dX9_apply_87 : decode cX9_apply 87 = .ok (.istore_n 2, 1) := gd_X9_apply_78.2.2.2.2.2.2.1
theorem dX9_apply_88 : decode cX9_apply 88 = .ok (.goto 19, 3) := gd_X9_apply_78.2.2.2.2.2.2.2.1
theorem dX9_apply_91 : decode cX9_apply 91 = .ok (.aload_n 0, 1) := gd_X9_apply_78.2.2.2.2.2.2.2.2.1
theorem dX9_apply_92 : decode cX9_apply 92 = .ok (.getfield 22, 3) := gd_X9_apply_78.2.2.2.2.2.2.2.2.2
theorem gd_X9_apply_95 : decode cX9_apply 95 = .ok (.iload_n 3, 1) ∧ decode cX9_apply 96 = .ok (.aload_n 0, 1) ∧ decode cX9_apply 97 = .ok (.getfield 18, 3) ∧ decode cX9_apply 100 = .ok (.iload 4, 2) ∧ decode cX9_apply 102 = .ok (.baload, 1) ∧ decode cX9_apply 103 = .ok (.bastore, 1) ∧ decode cX9_apply 104 = .ok (.iinc 3 1, 3) ∧ decode cX9_apply 107 = .ok (.iinc 4 1, 3) ∧ decode cX9_apply 110 = .ok (.goto (-103), 3) ∧ decode cX9_apply 113 = .ok (.iload_n 2, 1) := by decide +kernel
theorem dX9_apply_95 : decode cX9_apply 95 = .ok (.iload_n 3, 1) := gd_X9_apply_95.1
theorem dX9_apply_96 : decode cX9_apply 96 = .ok (.aload_n 0, 1) := gd_X9_apply_95.2.1
theorem dX9_apply_97 : decode cX9_apply 97 = .ok (.getfield 18, 3) := gd_X9_apply_95.2.2.1
theorem dX9_apply_100 : decode cX9_apply 100 = .ok (.iload 4, 2) := gd_X9_apply_95.2.2.2.1
theorem dX9_apply_102 : decode cX9_apply 102 = .ok (.baload, 1) := gd_X9_apply_95.2.2.2.2.1
theorem dX9_apply_103 : decode cX9_apply 103 = .ok (.bastore, 1) := gd_X9_apply_95.2.2.2.2.2.1
theorem dX9_apply_104 : decode cX9_apply 104 = .ok (.iinc 3 1, 3) := gd_X9_apply_95.2.2.2.2.2.2.1
theorem dX9_apply_107 : decode cX9_apply 107 = .ok (.iinc 4 1, 3) := gd_X9_apply_95.2.2.2.2.2.2.2.1
theorem dX9_apply_110 : decode cX9_apply 110 = .ok (.goto (-103), 3) := gd_X9_apply_95.2.2.2.2.2.2.2.2.1
theorem dX9_apply_113 : decode cX9_apply 113 = .ok (.iload_n 2, 1) := gd_X9_apply_95.2.2.2.2.2.2.2.2.2
theorem gd_X9_apply_114 : decode cX9_apply 114 = .ok (.ifCond .eq 28, 3) ∧ decode cX9_apply 117 = .ok (.aload_n 0, 1) ∧ decode cX9_apply 118 = .ok (.getfield 18, 3) ∧ decode cX9_apply 121 = .ok (.astore 4, 2) ∧ decode cX9_apply 123 = .ok (.aload_n 0, 1) ∧ decode cX9_apply 124 = .ok (.aload_n 0, 1) ∧ decode cX9_apply 125 = .ok (.getfield 22, 3) ∧ decode cX9_apply 128 = .ok (.putfield 18, 3) ∧ decode cX9_apply 131 = .ok (.aload_n 0, 1) ∧ decode cX9_apply 132 = .ok (.aload 4, 2) := by decide +kernel
theorem dX9_apply_114 : decode cX9_apply 114 = .ok (.ifCond .eq 28, 3) := gd_X9_apply_114.1
theorem dX9_apply_117 : decode cX9_apply 117 = .ok (.aload_n 0, 1) := gd_X9_apply_114.2.1
theorem dX9_apply_118 : decode cX9_apply 118 = .ok (.getfield 18, 3) := gd_X9_apply_114.2.2.1
theorem dX9_apply_121 : decode cX9_apply 121 = .ok (.astore 4, 2) := gd_X9_apply_114.2.2.2.1
theorem dX9_apply_123 : decode cX9_apply 123 = .ok (.aload_n 0, 1) := gd_X9_apply_114.2.2.2.2.1
theorem dX9_apply_124 : decode cX9_apply 124 = .ok (.aload_n 0, 1) := gd_X9_apply_114.2.2.2.2.2.1
theorem dX9_apply_125 : decode cX9_apply 125 = .ok (.getfield 22, 3) := gd_X9_apply_114.2.2.2.2.2.2.1
theorem dX9_apply_128 : decode cX9_apply 128 = .ok (.putfield 18, 3) := gd_X9_apply_114.2.2.2.2.2.2.2.1
theorem dX9_apply_131 : decode cX9_apply 131 = .ok (.aload_n 0, 1) := gd_X9_apply_114.2.2.2.2.2.2.2.2.1
theorem dX9_apply_132 : decode cX9_apply 132 = .ok (.aload 4, 2) := gd_X9_apply_114.2.2.2.2.2.2.2.2.2
theorem gd_X9_apply_134 : decode cX9_apply 134 = .ok (.putfield 22, 3) ∧ decode cX9_apply 137 = .ok (.aload_n 0, 1) ∧ decode cX9_apply 138 = .ok (.iload_n 3, 1) ∧ decode cX9_apply 139 = .ok (.putfield 25, 3) ∧ decode cX9_apply 142 = .ok (.iload_n 2, 1) ∧ decode cX9_apply 143 = .ok (.ireturn, 1) ∧ decode cX11_turn 31 = .ok (.aload_n 0, 1) ∧ decode cX11_turn 32 = .ok (.getfield 53, 3) ∧ decode cX11_turn 35 = .ok (.aload_n 0, 1) ∧ decode cX11_turn 36 = .ok (.getfield 44, 3) := by decide +kernel
theorem dX9_apply_134 : decode cX9_apply 134 = .ok (.putfield 22, 3) := gd_X9_apply_134.1
theorem dX9_apply_137 : decode cX9_apply 137 = .ok (.aload_n 0, 1) := gd_X9_apply_134.2.1
theorem dX9_apply_138 : decode cX9_apply 138 = .ok (.iload_n 3, 1) := gd_X9_apply_134.2.2.1
theorem dX9_apply_139 : decode cX9_apply 139 = .ok (.putfield 25, 3) := gd_X9_apply_134.2.2.2.1
theorem dX9_apply_142 : decode cX9_apply 142 = .ok (.iload_n 2, 1) := gd_X9_apply_134.2.2.2.2.1
theorem dX9_apply_143 : decode cX9_apply 143 = .ok (.ireturn, 1) := gd_X9_apply_134.2.2.2.2.2.1
theorem dX11_turn_31 : decode cX11_turn 31 = .ok (.aload_n 0, 1) := gd_X9_apply_134.2.2.2.2.2.2.1
theorem dX11_turn_32 : decode cX11_turn 32 = .ok (.getfield 53, 3) := gd_X9_apply_134.2.2.2.2.2.2.2.1
theorem dX11_turn_35 : decode cX11_turn 35 = .ok (.aload_n 0, 1) := gd_X9_apply_134.2.2.2.2.2.2.2.2.1
theorem dX11_turn_36 : decode cX11_turn 36 = .ok (.getfield 44, 3) := gd_X9_apply_134.2.2.2.2.2.2.2.2.2
theorem gd_X11_turn_39 : decode cX11_turn 39 = .ok (.aload_n 0, 1) ∧ decode cX11_turn 40 = .ok (.getfield 18, 3) ∧ decode cX11_turn 43 = .ok (.iload_n 1, 1) ∧ decode cX11_turn 44 = .ok (.iload_n 2, 1) ∧ decode cX11_turn 45 = .ok (.aload_n 0, 1) ∧ decode cX11_turn 46 = .ok (.getfield 12, 3) ∧ decode cX11_turn 49 = .ok (.getfield 120, 3) ∧ decode cX11_turn 52 = .ok (.iconst 0, 1) ∧ decode cX11_turn 53 = .ok (.iload_n 3, 1) ∧ decode cX11_turn 54 = .ok (.invokevirtual 168, 3) := by decide +kernel
theorem dX11_turn_39 : decode cX11_turn 39 = .ok (.aload_n 0, 1) := gd_X11_turn_39.1
theorem dX11_turn_40 : decode cX11_turn 40 = .ok (.getfield 18, 3) := gd_X11_turn_39.2.1
theorem dX11_turn_43 : decode cX11_turn 43 = .ok (.iload_n 1, 1) := gd_X11_turn_39.2.2.1
theorem dX11_turn_44 : decode cX11_turn 44 = .ok (.iload_n 2, 1) := gd_X11_turn_39.2.2.2.1
theorem dX11_turn_45 : decode cX11_turn 45 = .ok (.aload_n 0, 1) := gd_X11_turn_39.2.2.2.2.1
theorem dX11_turn_46 : decode cX11_turn 46 = .ok (.getfield 12, 3) := gd_X11_turn_39.2.2.2.2.2.1
theorem dX11_turn_49 : decode cX11_turn 49 = .ok (.getfield 120, 3) := gd_X11_turn_39.2.2.2.2.2.2.1
theorem dX11_turn_52 : decode cX11_turn 52 = .ok (.iconst 0, 1) := gd_X11_turn_39.2.2.2.2.2.2.2.1
theorem dX11_turn_53 : decode cX11_turn 53 = .ok (.iload_n 3, 1) := gd_X11_turn_39.2.2.2.2.2.2.2.2.1
theorem dX11_turn_54 : decode cX11_turn 54 = .ok (.invokevirtual 168, 3) := gd_X11_turn_39.2.2.2.2.2.2.2.2.2
theorem gd_X11_turn_57 : decode cX11_turn 57 = .ok (.invokevirtual 172, 3) ∧ decode cX11_turn 60 = .ok (.aload_n 0, 1) ∧ decode cX11_turn 61 = .ok (.getfield 53, 3) ∧ decode cX11_turn 64 = .ok (.getfield 151, 3) ∧ decode cX11_turn 67 = .ok (.ireturn, 1) ∧ decode cX11_partings 18 = .ok (.aload_n 0, 1) ∧ decode cX11_partings 19 = .ok (.getfield 12, 3) ∧ decode cX11_partings 22 = .ok (.iload_n 2, 1) ∧ decode cX11_partings 23 = .ok (.invokevirtual 164, 3) ∧ decode cX11_partings 26 = .ok (.ifCond .ne 6, 3) := by decide +kernel
theorem dX11_turn_57 : decode cX11_turn 57 = .ok (.invokevirtual 172, 3) := gd_X11_turn_57.1
theorem dX11_turn_60 : decode cX11_turn 60 = .ok (.aload_n 0, 1) := gd_X11_turn_57.2.1
theorem dX11_turn_61 : decode cX11_turn 61 = .ok (.getfield 53, 3) := gd_X11_turn_57.2.2.1
theorem dX11_turn_64 : decode cX11_turn 64 = .ok (.getfield 151, 3) := gd_X11_turn_57.2.2.2.1
theorem dX11_turn_67 : decode cX11_turn 67 = .ok (.ireturn, 1) := gd_X11_turn_57.2.2.2.2.1
theorem dX11_partings_18 : decode cX11_partings 18 = .ok (.aload_n 0, 1) := gd_X11_turn_57.2.2.2.2.2.1
theorem dX11_partings_19 : decode cX11_partings 19 = .ok (.getfield 12, 3) := gd_X11_turn_57.2.2.2.2.2.2.1
theorem dX11_partings_22 : decode cX11_partings 22 = .ok (.iload_n 2, 1) := gd_X11_turn_57.2.2.2.2.2.2.2.1
theorem dX11_partings_23 : decode cX11_partings 23 = .ok (.invokevirtual 164, 3) := gd_X11_turn_57.2.2.2.2.2.2.2.2.1
theorem dX11_partings_26 : decode cX11_partings 26 = .ok (.ifCond .ne 6, 3) := gd_X11_turn_57.2.2.2.2.2.2.2.2.2
theorem gd_X11_partings_32 : decode cX11_partings 32 = .ok (.aload_n 3, 1) ∧ decode cX11_partings 33 = .ok (.getfield 157, 3) ∧ decode cX11_partings 36 = .ok (.aload_n 0, 1) ∧ decode cX11_partings 37 = .ok (.getfield 12, 3) ∧ decode cX11_partings 40 = .ok (.getfield 120, 3) ∧ decode cX11_partings 43 = .ok (.iconst 0, 1) ∧ decode cX11_partings 44 = .ok (.iload_n 2, 1) ∧ decode cX11_partings 45 = .ok (.invokevirtual 180, 3) ∧ decode cX11_partings 48 = .ok (.istore 4, 2) ∧ decode cX11_partings 50 = .ok (.iload 4, 2) := by decide +kernel
theorem dX11_partings_32 : decode cX11_partings 32 = .ok (.aload_n 3, 1) := gd_X11_partings_32.1
theorem dX11_partings_33 : decode cX11_partings 33 = .ok (.getfield 157, 3) := gd_X11_partings_32.2.1
theorem dX11_partings_36 : decode cX11_partings 36 = .ok (.aload_n 0, 1) := gd_X11_partings_32.2.2.1
theorem dX11_partings_37 : decode cX11_partings 37 = .ok (.getfield 12, 3) := gd_X11_partings_32.2.2.2.1
theorem dX11_partings_40 : decode cX11_partings 40 = .ok (.getfield 120, 3) := gd_X11_partings_32.2.2.2.2.1
theorem dX11_partings_43 : decode cX11_partings 43 = .ok (.iconst 0, 1) := gd_X11_partings_32.2.2.2.2.2.1
theorem dX11_partings_44 : decode cX11_partings 44 = .ok (.iload_n 2, 1) := gd_X11_partings_32.2.2.2.2.2.2.1
theorem dX11_partings_45 : decode cX11_partings 45 = .ok (.invokevirtual 180, 3) := gd_X11_partings_32.2.2.2.2.2.2.2.1
theorem dX11_partings_48 : decode cX11_partings 48 = .ok (.istore 4, 2) := gd_X11_partings_32.2.2.2.2.2.2.2.2.1
theorem dX11_partings_50 : decode cX11_partings 50 = .ok (.iload 4, 2) := gd_X11_partings_32.2.2.2.2.2.2.2.2.2
theorem gd_X11_partings_52 : decode cX11_partings 52 = .ok (.iconst (-1), 1) ∧ decode cX11_partings 53 = .ok (.if_icmp .eq 20, 3) ∧ decode cX11_partings 56 = .ok (.aload_n 3, 1) ∧ decode cX11_partings 57 = .ok (.iload 4, 2) ∧ decode cX11_partings 59 = .ok (.invokevirtual 184, 3) ∧ decode cX11_partings 62 = .ok (.ifCond .eq 8, 3) ∧ decode cX11_partings 65 = .ok (.bipush (-10), 2) ∧ decode cX11_partings 67 = .ok (.goto 5, 3) ∧ decode cX11_partings 70 = .ok (.bipush (-11), 2) ∧ decode cX11_partings 72 = .ok (.ireturn, 1) := by decide +kernel
theorem dX11_partings_52 : decode cX11_partings 52 = .ok (.iconst (-1), 1) := gd_X11_partings_52.1
theorem dX11_partings_53 : decode cX11_partings 53 = .ok (.if_icmp .eq 20, 3) := gd_X11_partings_52.2.1
theorem dX11_partings_56 : decode cX11_partings 56 = .ok (.aload_n 3, 1) := gd_X11_partings_52.2.2.1
theorem dX11_partings_57 : decode cX11_partings 57 = .ok (.iload 4, 2) := gd_X11_partings_52.2.2.2.1
theorem dX11_partings_59 : decode cX11_partings 59 = .ok (.invokevirtual 184, 3) := gd_X11_partings_52.2.2.2.2.1
theorem dX11_partings_62 : decode cX11_partings 62 = .ok (.ifCond .eq 8, 3) := gd_X11_partings_52.2.2.2.2.2.1
theorem dX11_partings_65 : decode cX11_partings 65 = .ok (.bipush (-10), 2) := gd_X11_partings_52.2.2.2.2.2.2.1
theorem dX11_partings_67 : decode cX11_partings 67 = .ok (.goto 5, 3) := gd_X11_partings_52.2.2.2.2.2.2.2.1
theorem dX11_partings_70 : decode cX11_partings 70 = .ok (.bipush (-11), 2) := gd_X11_partings_52.2.2.2.2.2.2.2.2.1
theorem dX11_partings_72 : decode cX11_partings 72 = .ok (.ireturn, 1) := gd_X11_partings_52.2.2.2.2.2.2.2.2.2
theorem gd_X11_partings_73 : decode cX11_partings 73 = .ok (.aload_n 0, 1) ∧ decode cX11_partings 74 = .ok (.getfield 60, 3) ∧ decode cX11_partings 77 = .ok (.aload_n 3, 1) ∧ decode cX11_partings 78 = .ok (.getfield 148, 3) ∧ decode cX11_partings 81 = .ok (.aload_n 0, 1) ∧ decode cX11_partings 82 = .ok (.getfield 12, 3) ∧ decode cX11_partings 85 = .ok (.getfield 120, 3) ∧ decode cX11_partings 88 = .ok (.iconst 0, 1) ∧ decode cX11_partings 89 = .ok (.iload_n 2, 1) ∧ decode cX11_partings 90 = .ok (.invokevirtual 187, 3) := by decide +kernel
theorem dX11_partings_73 : decode cX11_partings 73 = .ok (.aload_n 0, 1) := gd_X11_partings_73.1
theorem dX11_partings_74 : decode cX11_partings 74 = .ok (.getfield 60, 3) := gd_X11_partings_73.2.1
theorem dX11_partings_77 : decode cX11_partings 77 = .ok (.aload_n 3, 1) := gd_X11_partings_73.2.2.1
theorem dX11_partings_78 : decode cX11_partings 78 = .ok (.getfield 148, 3) := gd_X11_partings_73.2.2.2.1
theorem dX11_partings_81 : decode cX11_partings 81 = .ok (.aload_n 0, 1) := gd_X11_partings_73.2.2.2.2.1
theorem dX11_partings_82 : decode cX11_partings 82 = .ok (.getfield 12, 3) := gd_X11_partings_73.2.2.2.2.2.1
theorem dX11_partings_85 : decode cX11_partings 85 = .ok (.getfield 120, 3) := gd_X11_partings_73.2.2.2.2.2.2.1
theorem dX11_partings_88 : decode cX11_partings 88 = .ok (.iconst 0, 1) := gd_X11_partings_73.2.2.2.2.2.2.2.1
theorem dX11_partings_89 : decode cX11_partings 89 = .ok (.iload_n 2, 1) := gd_X11_partings_73.2.2.2.2.2.2.2.2.1
theorem dX11_partings_90 : decode cX11_partings 90 = .ok (.invokevirtual 187, 3) := gd_X11_partings_73.2.2.2.2.2.2.2.2.2
theorem gd_X11_partings_93 : decode cX11_partings 93 = .ok (.aload_n 0, 1) ∧ decode cX11_partings 94 = .ok (.getfield 60, 3) ∧ decode cX11_partings 97 = .ok (.getfield 190, 3) ∧ decode cX11_partings 100 = .ok (.ireturn, 1) ∧ decode cJ7_rangeCheck_23922 0 = .ok (.iload_n 1, 1) ∧ decode cJ7_rangeCheck_23922 1 = .ok (.iload_n 2, 1) ∧ decode cJ7_rangeCheck_23922 2 = .ok (.if_icmp .le 44, 3) ∧ decode cJ7_rangeCheck_23922 46 = .ok (.iload_n 1, 1) ∧ decode cJ7_rangeCheck_23922 47 = .ok (.ifCond .ge 12, 3) ∧ decode cJ7_rangeCheck_23922 59 = .ok (.iload_n 2, 1) := by decide +kernel
theorem dX11_partings_93 : decode cX11_partings 93 = .ok (.aload_n 0, 1) := gd_X11_partings_93.1
theorem dX11_partings_94 : decode cX11_partings 94 = .ok (.getfield 60, 3) := gd_X11_partings_93.2.1
theorem dX11_partings_97 : decode cX11_partings 97 = .ok (.getfield 190, 3) := gd_X11_partings_93.2.2.1
theorem dX11_partings_100 : decode cX11_partings 100 = .ok (.ireturn, 1) := gd_X11_partings_93.2.2.2.1
theorem dJ7_rangeCheck_23922_0 : decode cJ7_rangeCheck_23922 0 = .ok (.iload_n 1, 1) := gd_X11_partings_93.2.2.2.2.1
theorem dJ7_rangeCheck_23922_1 : decode cJ7_rangeCheck_23922 1 = .ok (.iload_n 2, 1) := gd_X11_partings_93.2.2.2.2.2.1
theorem dJ7_rangeCheck_23922_2 : decode cJ7_rangeCheck_23922 2 = .ok (.if_icmp .le 44, 3) := gd_X11_partings_93.2.2.2.2.2.2.1
theorem dJ7_rangeCheck_23922_46 : decode cJ7_rangeCheck_23922 46 = .ok (.iload_n 1, 1) := gd_X11_partings_93.2.2.2.2.2.2.2.1
theorem dJ7_rangeCheck_23922_47 : decode cJ7_rangeCheck_23922 47 = .ok (.ifCond .ge 12, 3) := gd_X11_partings_93.2.2.2.2.2.2.2.2.1
theorem dJ7_rangeCheck_23922_59 : decode cJ7_rangeCheck_23922 59 = .ok (.iload_n 2, 1) := gd_X11_partings_93.2.2.2.2.2.2.2.2.2
theorem gd_J7_rangeCheck_23922_60 : decode cJ7_rangeCheck_23922 60 = .ok (.iload_n 0, 1) ∧ decode cJ7_rangeCheck_23922 61 = .ok (.if_icmp .le 12, 3) ∧ decode cJ7_rangeCheck_23922 73 = .ok (.return_, 1) ∧ decode cJ7_fill_eb02e 0 = .ok (.aload_n 0, 1) ∧ decode cJ7_fill_eb02e 1 = .ok (.arraylength, 1) ∧ decode cJ7_fill_eb02e 2 = .ok (.iload_n 1, 1) ∧ decode cJ7_fill_eb02e 3 = .ok (.iload_n 2, 1) ∧ decode cJ7_fill_eb02e 4 = .ok (.invokestatic 13, 3) ∧ decode cJ7_fill_eb02e 7 = .ok (.iload_n 1, 1) ∧ decode cJ7_fill_eb02e 8 = .ok (.istore 4, 2) := by decide +kernel
theorem dJ7_rangeCheck_23922_60 : decode cJ7_rangeCheck_23922 60 = .ok (.iload_n 0, 1) := gd_J7_rangeCheck_23922_60.1
theorem dJ7_rangeCheck_23922_61 : decode cJ7_rangeCheck_23922 61 = .ok (.if_icmp .le 12, 3) := gd_J7_rangeCheck_23922_60.2.1
theorem dJ7_rangeCheck_23922_73 : decode cJ7_rangeCheck_23922 73 = .ok (.return_, 1) := gd_J7_rangeCheck_23922_60.2.2.1
theorem dJ7_fill_eb02e_0 : decode cJ7_fill_eb02e 0 = .ok (.aload_n 0, 1) := gd_J7_rangeCheck_23922_60.2.2.2.1
theorem dJ7_fill_eb02e_1 : decode cJ7_fill_eb02e 1 = .ok (.arraylength, 1) := gd_J7_rangeCheck_23922_60.2.2.2.2.1
theorem dJ7_fill_eb02e_2 : decode cJ7_fill_eb02e 2 = .ok (.iload_n 1, 1) := gd_J7_rangeCheck_23922_60.2.2.2.2.2.1
theorem dJ7_fill_eb02e_3 : decode cJ7_fill_eb02e 3 = .ok (.iload_n 2, 1) := gd_J7_rangeCheck_23922_60.2.2.2.2.2.2.1
theorem dJ7_fill_eb02e_4 : decode cJ7_fill_eb02e 4 = .ok (.invokestatic 13, 3) := gd_J7_rangeCheck_23922_60.2.2.2.2.2.2.2.1
theorem dJ7_fill_eb02e_7 : decode cJ7_fill_eb02e 7 = .ok (.iload_n 1, 1) := gd_J7_rangeCheck_23922_60.2.2.2.2.2.2.2.2.1
theorem dJ7_fill_eb02e_8 : decode cJ7_fill_eb02e 8 = .ok (.istore 4, 2) := gd_J7_rangeCheck_23922_60.2.2.2.2.2.2.2.2.2
theorem gd_J7_fill_eb02e_10 : decode cJ7_fill_eb02e 10 = .ok (.iload 4, 2) ∧ decode cJ7_fill_eb02e 12 = .ok (.iload_n 2, 1) ∧ decode cJ7_fill_eb02e 13 = .ok (.if_icmp .ge 14, 3) ∧ decode cJ7_fill_eb02e 16 = .ok (.aload_n 0, 1) ∧ decode cJ7_fill_eb02e 17 = .ok (.iload 4, 2) ∧ decode cJ7_fill_eb02e 19 = .ok (.iload_n 3, 1) ∧ decode cJ7_fill_eb02e 20 = .ok (.bastore, 1) ∧ decode cJ7_fill_eb02e 21 = .ok (.iinc 4 1, 3) ∧ decode cJ7_fill_eb02e 24 = .ok (.goto (-14), 3) ∧ decode cJ7_fill_eb02e 27 = .ok (.return_, 1) := by decide +kernel
theorem dJ7_fill_eb02e_10 : decode cJ7_fill_eb02e 10 = .ok (.iload 4, 2) := gd_J7_fill_eb02e_10.1
theorem dJ7_fill_eb02e_12 : decode cJ7_fill_eb02e 12 = .ok (.iload_n 2, 1) := gd_J7_fill_eb02e_10.2.1
theorem dJ7_fill_eb02e_13 : decode cJ7_fill_eb02e 13 = .ok (.if_icmp .ge 14, 3) := gd_J7_fill_eb02e_10.2.2.1
theorem dJ7_fill_eb02e_16 : decode cJ7_fill_eb02e 16 = .ok (.aload_n 0, 1) := gd_J7_fill_eb02e_10.2.2.2.1
theorem dJ7_fill_eb02e_17 : decode cJ7_fill_eb02e 17 = .ok (.iload 4, 2) := gd_J7_fill_eb02e_10.2.2.2.2.1
theorem dJ7_fill_eb02e_19 : decode cJ7_fill_eb02e 19 = .ok (.iload_n 3, 1) := gd_J7_fill_eb02e_10.2.2.2.2.2.1
theorem dJ7_fill_eb02e_20 : decode cJ7_fill_eb02e 20 = .ok (.bastore, 1) := gd_J7_fill_eb02e_10.2.2.2.2.2.2.1
theorem dJ7_fill_eb02e_21 : decode cJ7_fill_eb02e 21 = .ok (.iinc 4 1, 3) := gd_J7_fill_eb02e_10.2.2.2.2.2.2.2.1
theorem dJ7_fill_eb02e_24 : decode cJ7_fill_eb02e 24 = .ok (.goto (-14), 3) := gd_J7_fill_eb02e_10.2.2.2.2.2.2.2.2.1
theorem dJ7_fill_eb02e_27 : decode cJ7_fill_eb02e 27 = .ok (.return_, 1) := gd_J7_fill_eb02e_10.2.2.2.2.2.2.2.2.2
set_option maxHeartbeats 4000000 in
set_option maxRecDepth 100000 in
theorem bm_J7_rangeCheck_23922 {p : Program} {l : Launch} {e : Env} {s : State} {m : MethodId} {args : Array Value} {below : List Frame} {meth : Method} {c : Code} {Q : State → Prop} {A : Nat → Prop} {dC : Nat → ClassId} {dI : Nat → Nat → Nat} {kk : Nat → ClassId} {ad : Nat → Nat} {ws : va_W} {G : Nat → Nat → Int32} {P : Nat → Nat → Option Nat} {U : Nat → Nat → Int64} {V : Nat → Nat → Nat → Int32} {X : Nat → Nat → Nat → Int64} {O : Nat → Nat → Nat → Option Nat} {kd : Nat → Nat} {ln : Nat → Nat} {cnt : Nat} {H : Heap} {locs : List Loc} {ls : Array Slot} (p0 : Int32) (p1 : Int32) (p2 : Int32) (hr : f_J7_rangeCheck_23922 G P U V X O kd ln cnt p0 p1 p2 = some ()) (hx : p.tables.exec = Jvm.exec) (hb : c.code = cJ7_rangeCheck_23922) (hml : c.maxLocals = 3) (hown : s.vm.findClass RJ7 = some m.cls) (hts : ∀ w ∈ vmJ7_rangeCheck_23922, w.before args s = true) (hA : ∀ q : Nat, s.heap.size ≤ q → A q) (hK : va_K (dC, dI) vwCl (cT kk) s) (hW : LW ws ad kk kd ln G P U V X O) (hT : TYP kd P O (V 0) cnt) (hP : va_P (dC, dI) vwCl ws H) (hD : va_D A ws) (hS : va_S A s.heap H locs) (hl : lv_has ls 3 [(0, .int p0), (1, .int p1), (2, .int p2)])
    (K : ∀ (pc : Nat) (ls : Array Slot) (ws : va_W) (H : Heap) (locs : List Loc), some () = some () → decode cJ7_rangeCheck_23922 pc = .ok (.return_, 1) → LW ws ad kk kd ln G P U V X O → TYP kd P O (V 0) cnt → va_P (dC, dI) vwCl ws H → va_D A ws → va_S A s.heap H locs → W p l e ({ frames := 2, cells := 0, slots := 0, locals := 60 } : Room) s m args below meth c H locs 0 0 Q (F0 m pc ls [])) : W p l e ({ frames := 2, cells := 0, slots := 0, locals := 60 } : Room) s m args below meth c H locs 0 0 Q (F0 m 0 ls []) := by
  unfold f_J7_rangeCheck_23922 at hr
  refine lv_iload_n hx hb dJ7_rangeCheck_23922_0 rfl (lv_at hl 1 rfl) ?_
  refine lv_iload_n hx hb dJ7_rangeCheck_23922_1 rfl (lv_at hl 2 rfl) ?_
  refine lv_icmp_le (tgt := 46) hx hb dJ7_rangeCheck_23922_2 (by decide) (fun c2 => ?_) (fun c2 => ?_)
  · replace hr := iteT c2 hr
    refine lv_iload_n hx hb dJ7_rangeCheck_23922_46 rfl (lv_at hl 1 rfl) ?_
    refine lv_if_ge (tgt := 59) hx hb dJ7_rangeCheck_23922_47 (by decide) (fun c47 => ?_) (fun c47 => ?_)
    · replace hr := iteT c47 hr
      refine lv_iload_n hx hb dJ7_rangeCheck_23922_59 rfl (lv_at hl 2 rfl) ?_
      refine lv_iload_n hx hb dJ7_rangeCheck_23922_60 rfl (lv_at hl 0 rfl) ?_
      refine lv_icmp_le (tgt := 73) hx hb dJ7_rangeCheck_23922_61 (by decide) (fun c61 => ?_) (fun c61 => ?_)
      · replace hr := iteT c61 hr
        exact K 73 ls ws H _ hr dJ7_rangeCheck_23922_73 hW hT hP hD hS
      · replace hr := iteF c61 hr
        exact nomatch hr
    · replace hr := iteF c47 hr
      exact nomatch hr
  · replace hr := iteF c2 hr
    exact nomatch hr
set_option maxHeartbeats 4000000 in
set_option maxRecDepth 100000 in
theorem m_J7_rangeCheck_23922 (l : Launch) (dC : Nat → ClassId) (dI : Nat → Nat → Nat) (kk : Nat → ClassId) (ad : Nat → Nat) (sz : Nat) (ws : va_W) (G : Nat → Nat → Int32) (P : Nat → Nat → Option Nat) (U : Nat → Nat → Int64) (V : Nat → Nat → Nat → Int32) (X : Nat → Nat → Nat → Int64) (O : Nat → Nat → Nat → Option Nat) (kd : Nat → Nat) (ln : Nat → Nat) (cnt : Nat) (p0 : Int32) (p1 : Int32) (p2 : Int32) (hW : LW ws ad kk kd ln G P U V X O) (hT : TYP kd P O (V 0) cnt) (hr : f_J7_rangeCheck_23922 G P U V X O kd ln cnt p0 p1 p2 = some ()) : Met l yJ7_rangeCheck_23922 vmJ7_rangeCheck_23922 ({ frames := 2, cells := 0, slots := 0, locals := 60 } : Room) (va_Pc [.int p0, .int p1, .int p2] (fun U => U.heap.size = sz ∧ va_P (dC, dI) vwCl ws U.heap ∧ va_K (dC, dI) vwCl (cT kk) U ∧ va_D (fun _ => True) ws)) (va_Qv (fun w => LW w ad kk kd ln G P U V X O ∧ TYP kd P O (V 0) cnt) (fun w t => va_P (dC, dI) vwCl w t.heap ∧ va_K (dC, dI) vwCl (cT kk) t ∧ va_D (va_A ws sz) w) (va_A ws sz)) 0 0 (va_A ws sz) := by
  refine Met.ofW (cc := cJ7_rangeCheck_23922) (maxL := 3) (ret := none) (by decide) rfl ?_
  intro p e s m args below meth c s₁ B hml hv
  obtain ⟨rfl, hsz, hP, hK, hD0⟩ := hv
  have hx := B.exec
  have hb := B.bytes
  have hrt := B.returns
  have hts := atoms_spec (ws := vmJ7_rangeCheck_23922) B.pre
  have hown : s.vm.findClass RJ7 = some m.cls := findClass_of_methodNamed B.named
  subst hsz
  have hD := hD0.self (sz := s.heap.size)
  generalize hAe : va_A ws s.heap.size = A at hD ⊢
  have hA : ∀ q : Nat, s.heap.size ≤ q → A q := fun q h => by rw [← hAe]; exact Or.inr h
  have hS : va_S A s.heap s.heap [] := va_S.rf
  have hl := lv_entry ([.int p0, .int p1, .int p2]) (n := 3) (Nat.le_of_ble_eq_true rfl)
  rw [lg_entry_eq]
  generalize (lg_sl ([.int p0, .int p1, .int p2]) ++ List.replicate (3 - (lg_sl ([.int p0, .int p1, .int p2])).length) Slot.unset).toArray = ls at hl ⊢
  exact bm_J7_rangeCheck_23922 p0 p1 p2 hr hx hb hml hown hts hA hK hW hT hP hD hS hl (fun pc ls ws H locs he hd hW hT hP hD hS => by cases he; exact W.vret hx hb hrt (fun t ht hW9 => ⟨⟨ws, rfl, ⟨hW, hT⟩, by rw [ht]; exact hP, va_K.moved hW9.alike hK, hD⟩, hS.F ht⟩) hS.2.2 hd)
set_option maxHeartbeats 4000000 in
set_option maxRecDepth 100000 in
theorem bm_J7_fill_eb02e {p : Program} {l : Launch} {e : Env} {s : State} {m : MethodId} {args : Array Value} {below : List Frame} {meth : Method} {c : Code} {Q : State → Prop} {A : Nat → Prop} {dC : Nat → ClassId} {dI : Nat → Nat → Nat} {kk : Nat → ClassId} {ad : Nat → Nat} {ws : va_W} {G : Nat → Nat → Int32} {P : Nat → Nat → Option Nat} {U : Nat → Nat → Int64} {V : Nat → Nat → Nat → Int32} {X : Nat → Nat → Nat → Int64} {O : Nat → Nat → Nat → Option Nat} {kd : Nat → Nat} {ln : Nat → Nat} {cnt : Nat} {H : Heap} {locs : List Loc} {ls : Array Slot} (p0 : Nat) (p1 : Int32) (p2 : Int32) (p3 : Int32) (hk_p0 : kd p0 = 100) (c_V0 : Nat → Nat → Int32) (hr : f_J7_fill_eb02e G P U V X O kd ln cnt p0 p1 p2 p3 = some c_V0) (hx : p.tables.exec = Jvm.exec) (hb : c.code = cJ7_fill_eb02e) (hml : c.maxLocals = 5) (hown : s.vm.findClass RJ7 = some m.cls) (hts : ∀ w ∈ vmJ7_fill_eb02e, w.before args s = true) (hA : ∀ q : Nat, s.heap.size ≤ q → A q) (hK : va_K (dC, dI) vwCl (cT kk) s) (hW : LW ws ad kk kd ln G P U V X O) (hT : TYP kd P O (V 0) cnt) (hP : va_P (dC, dI) vwCl ws H) (hD : va_D A ws) (hS : va_S A s.heap H locs) (hl : lv_has ls 5 [(0, .ref (ad p0)), (1, .int p1), (2, .int p2), (3, .int p3)])
    (K : ∀ (pc : Nat) (ls : Array Slot) (c_V0z : Nat → Nat → Int32) (ws : va_W) (H : Heap) (locs : List Loc), some c_V0z = some c_V0 → decode cJ7_fill_eb02e pc = .ok (.return_, 1) → LW ws ad kk kd ln G P U (va_up V 0 c_V0z) X O → TYP kd P O c_V0z cnt → va_P (dC, dI) vwCl ws H → va_D A ws → va_S A s.heap H locs → W p l e ({ frames := 3, cells := 0, slots := 0, locals := 82 } : Room) s m args below meth c H locs 0 0 Q (F0 m pc ls [])) : W p l e ({ frames := 3, cells := 0, slots := 0, locals := 82 } : Room) s m args below meth c H locs 0 0 Q (F0 m 0 ls []) := by
  unfold f_J7_fill_eb02e at hr
  refine lv_aload_n hx hb dJ7_fill_eb02e_0 rfl (lv_at hl 0 rfl) ?_
  obtain ⟨i1, hi1⟩ := hW.v0 hk_p0
  refine va_alen (v := (Int32.ofNat (ln p0))) hx hb hK hP i1 0 hi1 rfl rfl dJ7_fill_eb02e_1 ?_
  refine lv_iload_n hx hb dJ7_fill_eb02e_2 rfl (lv_at hl 1 rfl) ?_
  refine lv_iload_n hx hb dJ7_fill_eb02e_3 rfl (lv_at hl 2 rfl) ?_
  replace hr := b0S hr
  obtain ⟨hc4, hr⟩ := hr
  have hFc := fr_all hD hS hA
  refine va_callv (va_runS (As := [.int (Int32.ofNat (ln p0)), .int p1, .int p2]) (rest := []) ⟨hx, hb, hml, hown, hts⟩ (m_J7_rangeCheck_23922 l dC dI kk ad H.size ws G P U V X O kd ln cnt (Int32.ofNat (ln p0)) p1 p2 hW hT hc4) (va_cwS 3 hts gc_RJ7_J7_rangeCheck_23922_13 rfl rfl rfl (by decide +kernel) ⟨Nat.le_of_ble_eq_true rfl, Nat.le_of_ble_eq_true rfl⟩) ⟨fun a U g mk q => by obtain ⟨q0, q1, qP, qK, qD⟩ := q; exact ⟨q0, q1, qP, va_K.moved (u := U) (U := U.calling g mk a) (Vm.Alike.refl U.vm) qK, qD⟩, fun U hU hW => ⟨rfl, by rw [hU], by rw [hU]; exact hP, va_K.moved hW.alike hK, hD.weaken (fun _ _ _ _ => trivial)⟩⟩ rfl rfl hl.1 rfl (lv_room (Nat.le_of_ble_eq_true rfl)) dJ7_fill_eb02e_4 ⟨Nat.le_of_ble_eq_true rfl, Nat.le_of_ble_eq_true rfl⟩) hS (fun q _ h => hFc q h) hFc (fun w2 t H1 locs ht hvm hw hB hz1 hk1 hS => ?_)
  obtain ⟨hW, hT⟩ := hw
  obtain ⟨hP1, hK1, hD1⟩ := hB
  rw [ht] at hP1
  obtain ⟨hP, hD⟩ := jn_all (w1 := w2) hFc hP1 hD1
  replace hP : va_P (dC, dI) vwCl w2 H1 := hP
  replace hD : va_D A w2 := hD
  clear hFc hP1 hK1 hD1 hk1 hz1 ht hvm
  generalize H1 = H at hP hS ⊢
  refine lv_iload_n hx hb dJ7_fill_eb02e_7 rfl (lv_at hl 1 rfl) ?_
  refine lv_istore (lv' := [(4, .int p1), (0, .ref (ad p0)), (1, .int p1), (2, .int p2), (3, .int p3)]) hx hb dJ7_fill_eb02e_8 hl (by decide) rfl (fun ls hl => ?_)
  have lp10 : ∀ (n10 : Nat), ∀ (y10_4 : Int32) (d10_V0 : Nat → Nat → Int32) (ws : va_W) (H : Heap) (locs : List Loc) (ls : Array Slot), L_J7_fill_eb02e_10 ln p0 p2 p3 n10 y10_4 d10_V0 = some c_V0 → LW ws ad kk kd ln G P U (va_up V 0 d10_V0) X O → TYP kd P O d10_V0 cnt → va_P (dC, dI) vwCl ws H → va_D A ws → va_S A s.heap H locs → lv_has ls 5 [(0, .ref (ad p0)), (2, .int p2), (3, .int p3), (4, .int y10_4)] → W p l e ({ frames := 3, cells := 0, slots := 0, locals := 82 } : Room) s m args below meth c H locs 0 0 Q (F0 m 10 ls []) := by
    intro n10
    induction n10 with
    | zero => intro y10_4 d10_V0 ws H locs ls hr hW hT hP hD hS hl; exact nomatch (show none = some c_V0 from hr)
    | succ n10 ih10 =>
      intro y10_4 d10_V0 ws H locs ls hr hW hT hP hD hS hl
      replace hr : B_J7_fill_eb02e_10 ln p0 p2 p3 (L_J7_fill_eb02e_10 ln p0 p2 p3 n10) y10_4 d10_V0 = some c_V0 := hr
      unfold B_J7_fill_eb02e_10 at hr
      refine lv_iload hx hb dJ7_fill_eb02e_10 (lv_at hl 3 rfl) ?_
      refine lv_iload_n hx hb dJ7_fill_eb02e_12 rfl (lv_at hl 1 rfl) ?_
      refine lv_icmp_ge (tgt := 27) hx hb dJ7_fill_eb02e_13 (by decide) (fun c13 => ?_) (fun c13 => ?_)
      · replace hr := iteT c13 hr
        exact K 27 ls _ ws H _ hr dJ7_fill_eb02e_27 hW hT hP hD hS
      · replace hr := iteF c13 hr
        refine lv_aload_n hx hb dJ7_fill_eb02e_16 rfl (lv_at hl 0 rfl) ?_
        refine lv_iload hx hb dJ7_fill_eb02e_17 (lv_at hl 3 rfl) ?_
        refine lv_iload_n hx hb dJ7_fill_eb02e_19 rfl (lv_at hl 2 rfl) ?_
        obtain ⟨i3, hi3⟩ := hW.v0 hk_p0
        replace hr := iteS hr
        obtain ⟨hi20, hr⟩ := hr
        refine va_bast (f := (d10_V0 p0)) hx hb hK hP hD hS i3 0 hi3 rfl (inbV hi20) dJ7_fill_eb02e_20 (fun H locs hP2 hD2 hS => ?_)
        obtain ⟨m20, w4, em20, hP, hD, hW⟩ : ∃ (z : Nat → Nat → Int32) (w : va_W), z = (va_up d10_V0 p0 (upd (d10_V0 p0) (Int32.toNatClampNeg y10_4) (vp_nar .byte p3))) ∧ va_P (dC, dI) vwCl w H ∧ va_D A w ∧ LW w ad kk kd ln G P U (va_up (va_up V 0 d10_V0) 0 z) X O := ⟨_, _, rfl, hP2, hD2, hW.setV hD hi3 (by rw [hk_p0]; decide) 0 (upd (d10_V0 p0) (Int32.toNatClampNeg y10_4) (vp_nar .byte p3)) (by rw [hk_p0]; rfl)⟩
        replace hT : TYP kd P O m20 cnt := by rw [em20]; exact hT.setB p0 _ (fit_upd (hT.2.2.1 p0) _ _)
        replace hr := vlS hr m20 em20
        clear em20
        refine lv_iinc (v := (y10_4 + 1)) (lv' := [(4, .int (y10_4 + 1)), (0, .ref (ad p0)), (2, .int p2), (3, .int p3)]) hx hb dJ7_fill_eb02e_21 hl (k := 3) rfl rfl (by decide) rfl (fun ls hl => ?_)
        refine lv_goto (tgt := 10) hx hb dJ7_fill_eb02e_24 (by decide) ?_
        have eV : (va_up (va_up V 0 d10_V0) 0 m20) = (va_up V 0 m20) := by
          funext k
          by_cases h0 : k = 0
          · subst h0; rfl
          · simp only [va_up, h0, if_false]
        rw [eV] at hW
        clear eV
        exact ih10 (y10_4 + 1) m20 w4 H _ ls hr hW hT hP hD hS (lv_sub hl [1, 2, 3, 0] rfl)
  have eV : V = (va_up V 0 (V 0)) := by
    funext k
    by_cases h0 : k = 0
    · subst h0; rfl
    · simp only [va_up, h0, if_false]
  rw [eV] at hW
  clear eV
  exact lp10 NN p1 (V 0) w2 H _ ls hr hW hT hP hD hS (lv_sub hl [1, 3, 4, 0] rfl)
set_option maxHeartbeats 4000000 in
set_option maxRecDepth 100000 in
theorem m_J7_fill_eb02e (l : Launch) (dC : Nat → ClassId) (dI : Nat → Nat → Nat) (kk : Nat → ClassId) (ad : Nat → Nat) (sz : Nat) (ws : va_W) (G : Nat → Nat → Int32) (P : Nat → Nat → Option Nat) (U : Nat → Nat → Int64) (V : Nat → Nat → Nat → Int32) (X : Nat → Nat → Nat → Int64) (O : Nat → Nat → Nat → Option Nat) (kd : Nat → Nat) (ln : Nat → Nat) (cnt : Nat) (p0 : Nat) (p1 : Int32) (p2 : Int32) (p3 : Int32) (hk_p0 : kd p0 = 100) (hW : LW ws ad kk kd ln G P U V X O) (hT : TYP kd P O (V 0) cnt) (c_V0 : Nat → Nat → Int32) (hr : f_J7_fill_eb02e G P U V X O kd ln cnt p0 p1 p2 p3 = some c_V0) : Met l yJ7_fill_eb02e vmJ7_fill_eb02e ({ frames := 3, cells := 0, slots := 0, locals := 82 } : Room) (va_Pc [.ref (ad p0), .int p1, .int p2, .int p3] (fun U => U.heap.size = sz ∧ va_P (dC, dI) vwCl ws U.heap ∧ va_K (dC, dI) vwCl (cT kk) U ∧ va_D (fun _ => True) ws)) (va_Qv (fun w => LW w ad kk kd ln G P U (va_up V 0 c_V0) X O ∧ TYP kd P O c_V0 cnt) (fun w t => va_P (dC, dI) vwCl w t.heap ∧ va_K (dC, dI) vwCl (cT kk) t ∧ va_D (va_A ws sz) w) (va_A ws sz)) 0 0 (va_A ws sz) := by
  refine Met.ofW (cc := cJ7_fill_eb02e) (maxL := 5) (ret := none) (by decide) rfl ?_
  intro p e s m args below meth c s₁ B hml hv
  obtain ⟨rfl, hsz, hP, hK, hD0⟩ := hv
  have hx := B.exec
  have hb := B.bytes
  have hrt := B.returns
  have hts := atoms_spec (ws := vmJ7_fill_eb02e) B.pre
  have hown : s.vm.findClass RJ7 = some m.cls := findClass_of_methodNamed B.named
  subst hsz
  have hD := hD0.self (sz := s.heap.size)
  generalize hAe : va_A ws s.heap.size = A at hD ⊢
  have hA : ∀ q : Nat, s.heap.size ≤ q → A q := fun q h => by rw [← hAe]; exact Or.inr h
  have hS : va_S A s.heap s.heap [] := va_S.rf
  have hl := lv_entry ([.ref (ad p0), .int p1, .int p2, .int p3]) (n := 5) (Nat.le_of_ble_eq_true rfl)
  rw [lg_entry_eq]
  generalize (lg_sl ([.ref (ad p0), .int p1, .int p2, .int p3]) ++ List.replicate (5 - (lg_sl ([.ref (ad p0), .int p1, .int p2, .int p3])).length) Slot.unset).toArray = ls at hl ⊢
  exact bm_J7_fill_eb02e p0 p1 p2 p3 hk_p0 c_V0 hr hx hb hml hown hts hA hK hW hT hP hD hS hl (fun pc ls c_V0z ws H locs he hd hW hT hP hD hS => by cases he; exact W.vret hx hb hrt (fun t ht hW9 => ⟨⟨ws, rfl, ⟨hW, hT⟩, by rw [ht]; exact hP, va_K.moved hW9.alike hK, hD⟩, hS.F ht⟩) hS.2.2 hd)
set_option maxHeartbeats 4000000 in
set_option maxRecDepth 100000 in
theorem bm_X3_markFitting {p : Program} {l : Launch} {e : Env} {s : State} {m : MethodId} {args : Array Value} {below : List Frame} {meth : Method} {c : Code} {Q : State → Prop} {A : Nat → Prop} {dC : Nat → ClassId} {dI : Nat → Nat → Nat} {kk : Nat → ClassId} {ad : Nat → Nat} {ws : va_W} {G : Nat → Nat → Int32} {P : Nat → Nat → Option Nat} {U : Nat → Nat → Int64} {V : Nat → Nat → Nat → Int32} {X : Nat → Nat → Nat → Int64} {O : Nat → Nat → Nat → Option Nat} {kd : Nat → Nat} {ln : Nat → Nat} {cnt : Nat} {H : Heap} {locs : List Loc} {ls : Array Slot} (this : Nat) (p0 : Nat) (p1 : Int32) (p2 : Int32) (p3 : Int32) (hk_this : kd this = 4) (hk_p0 : kd p0 = 100) (c_V0 : Nat → Nat → Int32) (c_V12 : Nat → Nat → Int32) (hr : f_X3_markFitting G P U V X O kd ln cnt this p0 p1 p2 p3 = some (c_V0, c_V12)) (hx : p.tables.exec = Jvm.exec) (hb : c.code = cX3_markFitting) (hml : c.maxLocals = 7) (hown : s.vm.findClass RX3 = some m.cls) (hts : ∀ w ∈ vmX3_markFitting, w.before args s = true) (hA : ∀ q : Nat, s.heap.size ≤ q → A q) (hK : va_K (dC, dI) vwCl (cT kk) s) (hW : LW ws ad kk kd ln G P U V X O) (hT : TYP kd P O (V 0) cnt) (hP : va_P (dC, dI) vwCl ws H) (hD : va_D A ws) (hS : va_S A s.heap H locs) (hl : lv_has ls 7 [(0, .ref (ad this)), (1, .ref (ad p0)), (2, .int p1), (3, .int p2), (4, .int p3)])
    (K : ∀ (pc : Nat) (ls : Array Slot) (c_V0z : Nat → Nat → Int32) (c_V12z : Nat → Nat → Int32) (ws : va_W) (H : Heap) (locs : List Loc), some (c_V0z, c_V12z) = some (c_V0, c_V12) → decode cX3_markFitting pc = .ok (.return_, 1) → LW ws ad kk kd ln G P U (va_up (va_up V 0 c_V0z) 12 c_V12z) X O → TYP kd P O c_V0z cnt → va_P (dC, dI) vwCl ws H → va_D A ws → va_S A s.heap H locs → W p l e ({ frames := 4, cells := 0, slots := 0, locals := 108 } : Room) s m args below meth c H locs 0 0 Q (F0 m pc ls [])) : W p l e ({ frames := 4, cells := 0, slots := 0, locals := 108 } : Room) s m args below meth c H locs 0 0 Q (F0 m 0 ls []) := by
  unfold f_X3_markFitting at hr
  refine lv_aload_n hx hb dX3_markFitting_0 rfl (lv_at hl 0 rfl) ?_
  obtain ⟨i1, hi1⟩ := hW.o3 hk_this
  replace hr := nnS hr
  obtain ⟨a1, hn1, hr⟩ := hr
  have hk_a1 : kd a1 = 112 := hT.1 64 _ _ hn1
  refine va_get (D := (dC, dI)) (ci := 3) (v := .ref (ad a1)) (C := RX3) (T := TX3) (N := 7) hx hb hts inX3 hown hK hP i1 hi1 rfl 4 (by decide) (hts (.fieldLink RX3 26 "SpellTurner$Partings" "closes" "[Z") ic_218) (fun _ h9 => h9) (congrArg (fun o => some (va_re ad o)) hn1) dX3_markFitting_1 ?_
  refine lv_iload_n hx hb dX3_markFitting_4 rfl (lv_at hl 3 rfl) ?_
  refine lv_iconst (v := 0) hx hb dX3_markFitting_5 (by decide +kernel) ?_
  obtain ⟨i2, hi2⟩ := hW.v12 hk_a1
  replace hr := iteS hr
  obtain ⟨hi6, hr⟩ := hr
  refine va_zast (f := ((V 12) a1)) hx hb hK hP hD hS i2 2 hi2 rfl (inbV hi6) dX3_markFitting_6 (fun H locs hP2 hD2 hS => ?_)
  obtain ⟨m6, w3, em6, hP, hD, hW⟩ : ∃ (z : Nat → Nat → Int32) (w : va_W), z = (va_up (V 12) a1 (upd ((V 12) a1) (Int32.toNatClampNeg p2) (vp_nar .boolean 0))) ∧ va_P (dC, dI) vwCl w H ∧ va_D A w ∧ LW w ad kk kd ln G P U (va_up V 12 z) X O := ⟨_, _, rfl, hP2, hD2, hW.setV hD hi2 (by rw [hk_a1]; decide) 12 (upd ((V 12) a1) (Int32.toNatClampNeg p2) (vp_nar .boolean 0)) (by rw [hk_a1]; rfl)⟩
  replace hr := vlS hr m6 em6
  clear em6
  refine lv_aload_n hx hb dX3_markFitting_7 rfl (lv_at hl 0 rfl) ?_
  obtain ⟨i4, hi4⟩ := hW.o3 hk_this
  replace hr := nnS hr
  obtain ⟨a8, hn8, hr⟩ := hr
  have hk_a8 : kd a8 = 100 := hT.1 63 _ _ hn8
  refine va_get (D := (dC, dI)) (ci := 3) (v := .ref (ad a8)) (C := RX3) (T := TX3) (N := 7) hx hb hts inX3 hown hK hP i4 hi4 rfl 3 (by decide) (hts (.fieldLink RX3 23 "SpellTurner$Partings" "fitting" "[B") ic_219) (fun _ h9 => h9) (congrArg (fun o => some (va_re ad o)) hn8) dX3_markFitting_8 ?_
  refine lv_iload_n hx hb dX3_markFitting_11 rfl (lv_at hl 3 rfl) ?_
  refine lv_bipush (v := 17) hx hb dX3_markFitting_12 (by decide +kernel) ?_
  refine lv_imul hx hb dX3_markFitting_14 ?_
  refine lv_iload_n hx hb dX3_markFitting_15 rfl (lv_at hl 3 rfl) ?_
  refine lv_bipush (v := 17) hx hb dX3_markFitting_16 (by decide +kernel) ?_
  refine lv_imul hx hb dX3_markFitting_18 ?_
  refine lv_bipush (v := 17) hx hb dX3_markFitting_19 (by decide +kernel) ?_
  refine lv_iadd hx hb dX3_markFitting_21 ?_
  refine lv_iconst (v := (-1)) hx hb dX3_markFitting_22 (by decide +kernel) ?_
  replace hr := b1S hr
  obtain ⟨c23_V0, hc23, hr⟩ := hr
  have hFc := fr_all hD hS hA
  refine va_callv (va_runS (As := [.ref (ad a8), .int (p2 * 17), .int ((p2 * 17) + 17), .int (-1)]) (rest := []) ⟨hx, hb, hml, hown, hts⟩ (m_J7_fill_eb02e l dC dI kk ad H.size w3 G P U (va_up V 12 m6) X O kd ln cnt a8 (p2 * 17) ((p2 * 17) + 17) (-1) hk_a8 hW hT c23_V0 hc23) (va_cwS 4 hts gc_RX3_J7_fill_eb02e_58 rfl rfl rfl (by decide +kernel) ⟨Nat.le_of_ble_eq_true rfl, Nat.le_of_ble_eq_true rfl⟩) ⟨fun a U g mk q => by obtain ⟨q0, q1, qP, qK, qD⟩ := q; exact ⟨q0, q1, qP, va_K.moved (u := U) (U := U.calling g mk a) (Vm.Alike.refl U.vm) qK, qD⟩, fun U hU hW => ⟨rfl, by rw [hU], by rw [hU]; exact hP, va_K.moved hW.alike hK, hD.weaken (fun _ _ _ _ => trivial)⟩⟩ rfl rfl hl.1 rfl (lv_room (Nat.le_of_ble_eq_true rfl)) dX3_markFitting_23 ⟨Nat.le_of_ble_eq_true rfl, Nat.le_of_ble_eq_true rfl⟩) hS (fun q _ h => hFc q h) hFc (fun w5 t H1 locs ht hvm hw hB hz1 hk1 hS => ?_)
  obtain ⟨hW, hT⟩ := hw
  obtain ⟨hP1, hK1, hD1⟩ := hB
  rw [ht] at hP1
  obtain ⟨hP, hD⟩ := jn_all (w1 := w5) hFc hP1 hD1
  replace hP : va_P (dC, dI) vwCl w5 H1 := hP
  replace hD : va_D A w5 := hD
  clear hFc hP1 hK1 hD1 hk1 hz1 ht hvm
  generalize H1 = H at hP hS ⊢
  refine lv_iconst (v := 0) hx hb dX3_markFitting_26 (by decide +kernel) ?_
  refine lv_istore (lv' := [(5, .int 0), (0, .ref (ad this)), (1, .ref (ad p0)), (2, .int p1), (3, .int p2), (4, .int p3)]) hx hb dX3_markFitting_27 hl (by decide) rfl (fun ls hl => ?_)
  have lp29 : ∀ (n29 : Nat), ∀ (y29_5 : Int32) (d29_V0 : Nat → Nat → Int32) (d29_V12 : Nat → Nat → Int32) (ws : va_W) (H : Heap) (locs : List Loc) (ls : Array Slot), L_X3_markFitting_29 G P U V X O kd ln cnt this p0 p1 p2 p3 n29 y29_5 d29_V0 d29_V12 = some (c_V0, c_V12) → LW ws ad kk kd ln G P U (va_up (va_up V 0 d29_V0) 12 d29_V12) X O → TYP kd P O d29_V0 cnt → va_P (dC, dI) vwCl ws H → va_D A ws → va_S A s.heap H locs → lv_has ls 7 [(0, .ref (ad this)), (1, .ref (ad p0)), (2, .int p1), (3, .int p2), (4, .int p3), (5, .int y29_5)] → W p l e ({ frames := 4, cells := 0, slots := 0, locals := 108 } : Room) s m args below meth c H locs 0 0 Q (F0 m 29 ls []) := by
    intro n29
    induction n29 with
    | zero => intro y29_5 d29_V0 d29_V12 ws H locs ls hr hW hT hP hD hS hl; exact nomatch (show none = some (c_V0, c_V12) from hr)
    | succ n29 ih29 =>
      intro y29_5 d29_V0 d29_V12 ws H locs ls hr hW hT hP hD hS hl
      replace hr : B_X3_markFitting_29 G P U V X O kd ln cnt this p0 p1 p2 p3 (L_X3_markFitting_29 G P U V X O kd ln cnt this p0 p1 p2 p3 n29) y29_5 d29_V0 d29_V12 = some (c_V0, c_V12) := hr
      unfold B_X3_markFitting_29 at hr
      refine lv_iload hx hb dX3_markFitting_29 (lv_at hl 5 rfl) ?_
      refine lv_aload_n hx hb dX3_markFitting_31 rfl (lv_at hl 0 rfl) ?_
      obtain ⟨i6, hi6⟩ := hW.o3 hk_this
      replace hr := nnS hr
      obtain ⟨a32, hn32, hr⟩ := hr
      have hk_a32 : kd a32 = 11 := hT.1 66 _ _ hn32
      refine va_get (D := (dC, dI)) (ci := 3) (v := .ref (ad a32)) (C := RX3) (T := TX3) (N := 7) hx hb hts inX3 hown hK hP i6 hi6 rfl 6 (by decide) (hts (.fieldLink RX3 38 "SpellTurner$Partings" "parts" "LSpellTurner$WordRow;") ic_169) (fun _ h9 => h9) (congrArg (fun o => some (va_re ad o)) hn32) dX3_markFitting_32 ?_
      obtain ⟨i7, hi7⟩ := hW.o10 hk_a32
      refine va_get (D := (dC, dI)) (ci := 10) (v := .int ((G 203) a32)) (C := RX10) (T := TX10) (N := 4) hx hb hts inX10 hown hK hP i7 hi7 rfl 3 (by decide) (hts (.fieldLink RX3 42 "SpellTurner$WordRow" "count" "I") ic_170) (fun _ h9 => h9) rfl dX3_markFitting_35 ?_
      refine lv_icmp_ge (tgt := 124) hx hb dX3_markFitting_38 (by decide) (fun c38 => ?_) (fun c38 => ?_)
      · replace hr := iteT c38 hr
        exact K 124 ls _ _ ws H _ hr dX3_markFitting_124 hW hT hP hD hS
      · replace hr := iteF c38 hr
        refine lv_iload_n hx hb dX3_markFitting_41 rfl (lv_at hl 3 rfl) ?_
        refine lv_aload_n hx hb dX3_markFitting_42 rfl (lv_at hl 0 rfl) ?_
        obtain ⟨i8, hi8⟩ := hW.o3 hk_this
        replace hr := nnS hr
        obtain ⟨a43, hn43, hr⟩ := hr
        have hk_a43 : kd a43 = 11 := hT.1 66 _ _ hn43
        refine va_get (D := (dC, dI)) (ci := 3) (v := .ref (ad a43)) (C := RX3) (T := TX3) (N := 7) hx hb hts inX3 hown hK hP i8 hi8 rfl 6 (by decide) (hts (.fieldLink RX3 38 "SpellTurner$Partings" "parts" "LSpellTurner$WordRow;") ic_169) (fun _ h9 => h9) (congrArg (fun o => some (va_re ad o)) hn43) dX3_markFitting_43 ?_
        obtain ⟨i9, hi9⟩ := hW.o10 hk_a43
        replace hr := nnS hr
        obtain ⟨a46, hn46, hr⟩ := hr
        have hk_a46 : kd a46 = 101 := hT.1 202 _ _ hn46
        refine va_get (D := (dC, dI)) (ci := 10) (v := .ref (ad a46)) (C := RX10) (T := TX10) (N := 4) hx hb hts inX10 hown hK hP i9 hi9 rfl 2 (by decide) (hts (.fieldLink RX3 55 "SpellTurner$WordRow" "lengths" "[I") ic_171) (fun _ h9 => h9) (congrArg (fun o => some (va_re ad o)) hn46) dX3_markFitting_46 ?_
        refine lv_iload hx hb dX3_markFitting_49 (lv_at hl 5 rfl) ?_
        obtain ⟨i10, hi10⟩ := hW.v1 hk_a46
        replace hr := iteS hr
        obtain ⟨hi51, hr⟩ := hr
        refine va_iald (f := ((V 1) a46)) hx hb hK hP i10 1 hi10 rfl (inbV hi51) dX3_markFitting_51 ?_
        refine lv_iadd hx hb dX3_markFitting_52 ?_
        refine lv_topi (fun x53 ex53 => ?_)
        replace hr := vlS hr x53 ex53
        clear ex53
        refine lv_istore (lv' := [(6, .int x53), (0, .ref (ad this)), (1, .ref (ad p0)), (2, .int p1), (3, .int p2), (4, .int p3), (5, .int y29_5)]) hx hb dX3_markFitting_53 hl (by decide) rfl (fun ls hl => ?_)
        refine lv_iload hx hb dX3_markFitting_55 (lv_at hl 0 rfl) ?_
        refine lv_iload hx hb dX3_markFitting_57 (lv_at hl 5 rfl) ?_
        replace hr := jnS hr
        obtain ⟨j118, hj118, hr⟩ := hr
        have Jj118 : ∀ (c118_V0 : Nat → Nat → Int32) (c118_V12 : Nat → Nat → Int32) (ws : va_W) (H : Heap) (locs : List Loc) (ls : Array Slot), j118 c118_V0 c118_V12 = some (c_V0, c_V12) → LW ws ad kk kd ln G P U (va_up (va_up V 0 c118_V0) 12 c118_V12) X O → TYP kd P O c118_V0 cnt → va_P (dC, dI) vwCl ws H → va_D A ws → va_S A s.heap H locs → lv_has ls 7 [(0, .ref (ad this)), (1, .ref (ad p0)), (2, .int p1), (3, .int p2), (4, .int p3), (5, .int y29_5)] → W p l e ({ frames := 4, cells := 0, slots := 0, locals := 108 } : Room) s m args below meth c H locs 0 0 Q (F0 m 118 ls []) := by
          intro c118_V0 c118_V12 ws H locs ls hr hW hT hP hD hS hl
          rw [hj118] at hr
          refine lv_iinc (v := (y29_5 + 1)) (lv' := [(5, .int (y29_5 + 1)), (0, .ref (ad this)), (1, .ref (ad p0)), (2, .int p1), (3, .int p2), (4, .int p3)]) hx hb dX3_markFitting_118 hl (k := 5) rfl rfl (by decide) rfl (fun ls hl => ?_)
          refine lv_goto (tgt := 29) hx hb dX3_markFitting_121 (by decide) ?_
          exact ih29 (y29_5 + 1) c118_V0 c118_V12 ws H _ ls hr hW hT hP hD hS (lv_sub hl [1, 2, 3, 4, 5, 0] rfl)
        refine lv_icmp_gt (tgt := 118) hx hb dX3_markFitting_59 (by decide) (fun c59 => ?_) (fun c59 => ?_)
        · replace hr := iteT c59 hr
          exact Jj118 d29_V0 d29_V12 ws H _ ls hr hW hT hP hD hS (lv_sub hl [1, 2, 3, 4, 5, 6] rfl)
        · replace hr := iteF c59 hr
          refine lv_aload_n hx hb dX3_markFitting_62 rfl (lv_at hl 1 rfl) ?_
          obtain ⟨i11, hi11⟩ := hW.o3 hk_this
          replace hr := nnS hr
          obtain ⟨a63, hn63, hr⟩ := hr
          have hk_a63 : kd a63 = 112 := hT.1 64 _ _ hn63
          refine va_get (D := (dC, dI)) (ci := 3) (v := .ref (ad a63)) (C := RX3) (T := TX3) (N := 7) hx hb hts inX3 hown hK hP i11 hi11 rfl 4 (by decide) (hts (.fieldLink RX3 26 "SpellTurner$Partings" "closes" "[Z") ic_218) (fun _ h9 => h9) (congrArg (fun o => some (va_re ad o)) hn63) dX3_markFitting_63 ?_
          refine lv_iload hx hb dX3_markFitting_66 (lv_at hl 0 rfl) ?_
          obtain ⟨i12, hi12⟩ := hW.v12 hk_a63
          replace hr := iteS hr
          obtain ⟨hi68, hr⟩ := hr
          refine va_zald (f := (d29_V12 a63)) hx hb hK hP i12 2 hi12 rfl (inbV hi68) dX3_markFitting_68 ?_
          refine lv_if_eq (tgt := 118) hx hb dX3_markFitting_69 (by decide) (fun c69 => ?_) (fun c69 => ?_)
          · replace hr := iteT c69 hr
            exact Jj118 d29_V0 d29_V12 ws H _ ls hr hW hT hP hD hS (lv_sub hl [1, 2, 3, 4, 5, 6] rfl)
          · replace hr := iteF c69 hr
            refine lv_aload_n hx hb dX3_markFitting_72 rfl (lv_at hl 1 rfl) ?_
            obtain ⟨i13, hi13⟩ := hW.o3 hk_this
            replace hr := nnS hr
            obtain ⟨a73, hn73, hr⟩ := hr
            have hk_a73 : kd a73 = 11 := hT.1 66 _ _ hn73
            refine va_get (D := (dC, dI)) (ci := 3) (v := .ref (ad a73)) (C := RX3) (T := TX3) (N := 7) hx hb hts inX3 hown hK hP i13 hi13 rfl 6 (by decide) (hts (.fieldLink RX3 38 "SpellTurner$Partings" "parts" "LSpellTurner$WordRow;") ic_169) (fun _ h9 => h9) (congrArg (fun o => some (va_re ad o)) hn73) dX3_markFitting_73 ?_
            refine lv_iload hx hb dX3_markFitting_76 (lv_at hl 6 rfl) ?_
            refine lv_aload_n hx hb dX3_markFitting_78 rfl (lv_at hl 2 rfl) ?_
            refine lv_iload_n hx hb dX3_markFitting_79 rfl (lv_at hl 3 rfl) ?_
            refine lv_iload_n hx hb dX3_markFitting_80 rfl (lv_at hl 4 rfl) ?_
            refine lv_iadd hx hb dX3_markFitting_81 ?_
            replace hr := b1S hr
            obtain ⟨r82z, hc82, hr⟩ := hr
            have hFc := fr_all hD hS hA
            obtain ⟨i14, hi14⟩ := hW.o10 hk_a73
            refine va_calli (va_runV (As := [.int y29_5, .ref (ad p0), .int (p1 + p2)]) (rest := []) ⟨hx, hb, hml, hown, hts⟩ (m_X10_standsIn l dC dI kk ad H.size ws G P U (va_up (va_up V 0 d29_V0) 12 d29_V12) X O kd ln cnt a73 y29_5 p0 (p1 + p2) hk_a73 hk_p0 hW hT r82z hc82) (cwV 3 hts gc_RX3_X10_standsIn_64 rfl rfl rfl (by decide +kernel) ⟨Nat.le_of_ble_eq_true rfl, Nat.le_of_ble_eq_true rfl⟩) ⟨fun a U g mk q => by obtain ⟨q0, q1, qP, qK, qD⟩ := q; exact ⟨q0, q1, qP, va_K.moved (u := U) (U := U.calling g mk a) (Vm.Alike.refl U.vm) qK, qD⟩, va_recv hK hP (ci := 10) (q0 := i14) rfl hi14, fun U hU hW => ⟨rfl, by rw [hU], by rw [hU]; exact hP, va_K.moved hW.alike hK, hD.weaken (fun _ _ _ _ => trivial)⟩⟩ rfl rfl hl.1 rfl (lv_room (Nat.le_of_ble_eq_true rfl)) dX3_markFitting_82 ⟨Nat.le_of_ble_eq_true rfl, Nat.le_of_ble_eq_true rfl⟩) hS (fun q _ h => hFc q h) hFc (fun r82 w15 t H1 locs ht hvm hw hB hz1 hk1 hS => ?_)
            obtain ⟨hw0, hW, hT⟩ := hw
            replace hw0 : r82 = r82z := hw0
            subst hw0
            obtain ⟨hP1, hK1, hD1⟩ := hB
            rw [ht] at hP1
            obtain ⟨hP, hD⟩ := jn_all (w1 := w15) hFc hP1 hD1
            replace hP : va_P (dC, dI) vwCl w15 H1 := hP
            replace hD : va_D A w15 := hD
            clear hFc hP1 hK1 hD1 hk1 hz1 ht hvm
            generalize H1 = H at hP hS ⊢
            refine lv_if_eq (tgt := 118) hx hb dX3_markFitting_85 (by decide) (fun c85 => ?_) (fun c85 => ?_)
            · replace hr := iteT c85 hr
              exact Jj118 d29_V0 d29_V12 w15 H _ ls hr hW hT hP hD hS (lv_sub hl [1, 2, 3, 4, 5, 6] rfl)
            · replace hr := iteF c85 hr
              refine lv_aload_n hx hb dX3_markFitting_88 rfl (lv_at hl 1 rfl) ?_
              obtain ⟨i16, hi16⟩ := hW.o3 hk_this
              replace hr := nnS hr
              obtain ⟨a89, hn89, hr⟩ := hr
              have hk_a89 : kd a89 = 100 := hT.1 63 _ _ hn89
              refine va_get (D := (dC, dI)) (ci := 3) (v := .ref (ad a89)) (C := RX3) (T := TX3) (N := 7) hx hb hts inX3 hown hK hP i16 hi16 rfl 3 (by decide) (hts (.fieldLink RX3 23 "SpellTurner$Partings" "fitting" "[B") ic_219) (fun _ h9 => h9) (congrArg (fun o => some (va_re ad o)) hn89) dX3_markFitting_89 ?_
              refine lv_iload_n hx hb dX3_markFitting_92 rfl (lv_at hl 4 rfl) ?_
              refine lv_bipush (v := 17) hx hb dX3_markFitting_93 (by decide +kernel) ?_
              refine lv_imul hx hb dX3_markFitting_95 ?_
              refine lv_aload_n hx hb dX3_markFitting_96 rfl (lv_at hl 1 rfl) ?_
              obtain ⟨i17, hi17⟩ := hW.o3 hk_this
              replace hr := nnS hr
              obtain ⟨a97, hn97, hr⟩ := hr
              have hk_a97 : kd a97 = 11 := hT.1 66 _ _ hn97
              refine va_get (D := (dC, dI)) (ci := 3) (v := .ref (ad a97)) (C := RX3) (T := TX3) (N := 7) hx hb hts inX3 hown hK hP i17 hi17 rfl 6 (by decide) (hts (.fieldLink RX3 38 "SpellTurner$Partings" "parts" "LSpellTurner$WordRow;") ic_169) (fun _ h9 => h9) (congrArg (fun o => some (va_re ad o)) hn97) dX3_markFitting_97 ?_
              obtain ⟨i18, hi18⟩ := hW.o10 hk_a97
              replace hr := nnS hr
              obtain ⟨a100, hn100, hr⟩ := hr
              have hk_a100 : kd a100 = 101 := hT.1 202 _ _ hn100
              refine va_get (D := (dC, dI)) (ci := 10) (v := .ref (ad a100)) (C := RX10) (T := TX10) (N := 4) hx hb hts inX10 hown hK hP i18 hi18 rfl 2 (by decide) (hts (.fieldLink RX3 55 "SpellTurner$WordRow" "lengths" "[I") ic_171) (fun _ h9 => h9) (congrArg (fun o => some (va_re ad o)) hn100) dX3_markFitting_100 ?_
              refine lv_iload hx hb dX3_markFitting_103 (lv_at hl 6 rfl) ?_
              obtain ⟨i19, hi19⟩ := hW.v1 hk_a100
              replace hr := iteS hr
              obtain ⟨hi105, hr⟩ := hr
              refine va_iald (f := ((V 1) a100)) hx hb hK hP i19 1 hi19 rfl (inbV hi105) dX3_markFitting_105 ?_
              refine lv_iadd hx hb dX3_markFitting_106 ?_
              refine lv_iload hx hb dX3_markFitting_107 (lv_at hl 6 rfl) ?_
              refine lv_i2b (v := (Int8.toInt32 (Int32.toInt8 y29_5))) hx hb dX3_markFitting_109 rfl ?_
              obtain ⟨i20, hi20⟩ := hW.v0 hk_a89
              replace hr := iteS hr
              obtain ⟨hi110, hr⟩ := hr
              refine va_bast (f := (d29_V0 a89)) hx hb hK hP hD hS i20 0 hi20 rfl (inbV hi110) dX3_markFitting_110 (fun H locs hP2 hD2 hS => ?_)
              obtain ⟨m110, w21, em110, hP, hD, hW⟩ : ∃ (z : Nat → Nat → Int32) (w : va_W), z = (va_up d29_V0 a89 (upd (d29_V0 a89) (Int32.toNatClampNeg ((p2 * 17) + (((V 1) a100) (Int32.toNatClampNeg y29_5)))) (vp_nar .byte (Int8.toInt32 (Int32.toInt8 y29_5))))) ∧ va_P (dC, dI) vwCl w H ∧ va_D A w ∧ LW w ad kk kd ln G P U (va_up (va_up (va_up V 0 d29_V0) 12 d29_V12) 0 z) X O := ⟨_, _, rfl, hP2, hD2, hW.setV hD hi20 (by rw [hk_a89]; decide) 0 (upd (d29_V0 a89) (Int32.toNatClampNeg ((p2 * 17) + (((V 1) a100) (Int32.toNatClampNeg y29_5)))) (vp_nar .byte (Int8.toInt32 (Int32.toInt8 y29_5)))) (by rw [hk_a89]; rfl)⟩
              replace hT : TYP kd P O m110 cnt := by rw [em110]; exact hT.setB a89 _ (fit_upd (hT.2.2.1 a89) _ _)
              replace hr := vlS hr m110 em110
              clear em110
              refine lv_aload_n hx hb dX3_markFitting_111 rfl (lv_at hl 1 rfl) ?_
              obtain ⟨i22, hi22⟩ := hW.o3 hk_this
              replace hr := nnS hr
              obtain ⟨a112, hn112, hr⟩ := hr
              have hk_a112 : kd a112 = 112 := hT.1 64 _ _ hn112
              refine va_get (D := (dC, dI)) (ci := 3) (v := .ref (ad a112)) (C := RX3) (T := TX3) (N := 7) hx hb hts inX3 hown hK hP i22 hi22 rfl 4 (by decide) (hts (.fieldLink RX3 26 "SpellTurner$Partings" "closes" "[Z") ic_218) (fun _ h9 => h9) (congrArg (fun o => some (va_re ad o)) hn112) dX3_markFitting_112 ?_
              refine lv_iload_n hx hb dX3_markFitting_115 rfl (lv_at hl 4 rfl) ?_
              refine lv_iconst (v := 1) hx hb dX3_markFitting_116 (by decide +kernel) ?_
              obtain ⟨i23, hi23⟩ := hW.v12 hk_a112
              replace hr := iteS hr
              obtain ⟨hi117, hr⟩ := hr
              refine va_zast (f := (d29_V12 a112)) hx hb hK hP hD hS i23 2 hi23 rfl (inbV hi117) dX3_markFitting_117 (fun H locs hP2 hD2 hS => ?_)
              obtain ⟨m117, w24, em117, hP, hD, hW⟩ : ∃ (z : Nat → Nat → Int32) (w : va_W), z = (va_up d29_V12 a112 (upd (d29_V12 a112) (Int32.toNatClampNeg p2) (vp_nar .boolean 1))) ∧ va_P (dC, dI) vwCl w H ∧ va_D A w ∧ LW w ad kk kd ln G P U (va_up (va_up (va_up (va_up V 0 d29_V0) 12 d29_V12) 0 m110) 12 z) X O := ⟨_, _, rfl, hP2, hD2, hW.setV hD hi23 (by rw [hk_a112]; decide) 12 (upd (d29_V12 a112) (Int32.toNatClampNeg p2) (vp_nar .boolean 1)) (by rw [hk_a112]; rfl)⟩
              replace hr := vlS hr m117 em117
              clear em117
              have eV : (va_up (va_up (va_up (va_up V 0 d29_V0) 12 d29_V12) 0 m110) 12 m117) = (va_up (va_up V 0 m110) 12 m117) := by
                funext k
                by_cases h0 : k = 0
                · subst h0; rfl
                by_cases h12 : k = 12
                · subst h12; rfl
                · simp only [va_up, h0, h12, if_false]
              rw [eV] at hW
              clear eV
              exact Jj118 m110 m117 w24 H _ ls hr hW hT hP hD hS (lv_sub hl [1, 2, 3, 4, 5, 6] rfl)
  have eV : (va_up (va_up V 12 m6) 0 c23_V0) = (va_up (va_up V 0 c23_V0) 12 m6) := by
    funext k
    by_cases h0 : k = 0
    · subst h0; rfl
    by_cases h12 : k = 12
    · subst h12; rfl
    · simp only [va_up, h0, h12, if_false]
  rw [eV] at hW
  clear eV
  exact lp29 NN 0 c23_V0 m6 w5 H _ ls hr hW hT hP hD hS (lv_sub hl [1, 2, 3, 4, 5, 0] rfl)
set_option maxHeartbeats 4000000 in
set_option maxRecDepth 100000 in
theorem m_X3_markFitting (l : Launch) (dC : Nat → ClassId) (dI : Nat → Nat → Nat) (kk : Nat → ClassId) (ad : Nat → Nat) (sz : Nat) (ws : va_W) (G : Nat → Nat → Int32) (P : Nat → Nat → Option Nat) (U : Nat → Nat → Int64) (V : Nat → Nat → Nat → Int32) (X : Nat → Nat → Nat → Int64) (O : Nat → Nat → Nat → Option Nat) (kd : Nat → Nat) (ln : Nat → Nat) (cnt : Nat) (this : Nat) (p0 : Nat) (p1 : Int32) (p2 : Int32) (p3 : Int32) (hk_this : kd this = 4) (hk_p0 : kd p0 = 100) (hW : LW ws ad kk kd ln G P U V X O) (hT : TYP kd P O (V 0) cnt) (c_V0 : Nat → Nat → Int32) (c_V12 : Nat → Nat → Int32) (hr : f_X3_markFitting G P U V X O kd ln cnt this p0 p1 p2 p3 = some (c_V0, c_V12)) : Met l yX3_markFitting vmX3_markFitting ({ frames := 4, cells := 0, slots := 0, locals := 108 } : Room) (va_Pc [.ref (ad this), .ref (ad p0), .int p1, .int p2, .int p3] (fun U => U.heap.size = sz ∧ va_P (dC, dI) vwCl ws U.heap ∧ va_K (dC, dI) vwCl (cT kk) U ∧ va_D (fun _ => True) ws)) (va_Qv (fun w => LW w ad kk kd ln G P U (va_up (va_up V 0 c_V0) 12 c_V12) X O ∧ TYP kd P O c_V0 cnt) (fun w t => va_P (dC, dI) vwCl w t.heap ∧ va_K (dC, dI) vwCl (cT kk) t ∧ va_D (va_A ws sz) w) (va_A ws sz)) 0 0 (va_A ws sz) := by
  refine Met.ofW (cc := cX3_markFitting) (maxL := 7) (ret := none) (by decide) rfl ?_
  intro p e s m args below meth c s₁ B hml hv
  obtain ⟨rfl, hsz, hP, hK, hD0⟩ := hv
  have hx := B.exec
  have hb := B.bytes
  have hrt := B.returns
  have hts := atoms_spec (ws := vmX3_markFitting) B.pre
  have hown : s.vm.findClass RX3 = some m.cls := findClass_of_methodNamed B.named
  subst hsz
  have hD := hD0.self (sz := s.heap.size)
  generalize hAe : va_A ws s.heap.size = A at hD ⊢
  have hA : ∀ q : Nat, s.heap.size ≤ q → A q := fun q h => by rw [← hAe]; exact Or.inr h
  have hS : va_S A s.heap s.heap [] := va_S.rf
  have hl := lv_entry ([.ref (ad this), .ref (ad p0), .int p1, .int p2, .int p3]) (n := 7) (Nat.le_of_ble_eq_true rfl)
  rw [lg_entry_eq]
  generalize (lg_sl ([.ref (ad this), .ref (ad p0), .int p1, .int p2, .int p3]) ++ List.replicate (7 - (lg_sl ([.ref (ad this), .ref (ad p0), .int p1, .int p2, .int p3])).length) Slot.unset).toArray = ls at hl ⊢
  exact bm_X3_markFitting this p0 p1 p2 p3 hk_this hk_p0 c_V0 c_V12 hr hx hb hml hown hts hA hK hW hT hP hD hS hl (fun pc ls c_V0z c_V12z ws H locs he hd hW hT hP hD hS => by cases he; exact W.vret hx hb hrt (fun t ht hW9 => ⟨⟨ws, rfl, ⟨hW, hT⟩, by rw [ht]; exact hP, va_K.moved hW9.alike hK, hD⟩, hS.F ht⟩) hS.2.2 hd)
set_option maxHeartbeats 4000000 in
set_option maxRecDepth 100000 in
theorem bm_X3_note {p : Program} {l : Launch} {e : Env} {s : State} {m : MethodId} {args : Array Value} {below : List Frame} {meth : Method} {c : Code} {Q : State → Prop} {A : Nat → Prop} {dC : Nat → ClassId} {dI : Nat → Nat → Nat} {kk : Nat → ClassId} {ad : Nat → Nat} {ws : va_W} {G : Nat → Nat → Int32} {P : Nat → Nat → Option Nat} {U : Nat → Nat → Int64} {V : Nat → Nat → Nat → Int32} {X : Nat → Nat → Nat → Int64} {O : Nat → Nat → Nat → Option Nat} {kd : Nat → Nat} {ln : Nat → Nat} {cnt : Nat} {H : Heap} {locs : List Loc} {ls : Array Slot} (this : Nat) (p0 : Int32) (hk_this : kd this = 4) (c_G60 : Nat → Int32) (c_V0 : Nat → Nat → Int32) (c_V2 : Nat → Nat → Int32) (hr : f_X3_note G P U V X O kd ln cnt this p0 = some (c_G60, c_V0, c_V2)) (hx : p.tables.exec = Jvm.exec) (hb : c.code = cX3_note) (hml : c.maxLocals = 2) (hown : s.vm.findClass RX3 = some m.cls) (hts : ∀ w ∈ vmX3_note, w.before args s = true) (hA : ∀ q : Nat, s.heap.size ≤ q → A q) (hK : va_K (dC, dI) vwCl (cT kk) s) (hW : LW ws ad kk kd ln G P U V X O) (hT : TYP kd P O (V 0) cnt) (hP : va_P (dC, dI) vwCl ws H) (hD : va_D A ws) (hS : va_S A s.heap H locs) (hl : lv_has ls 2 [(0, .ref (ad this)), (1, .int p0)])
    (K : ∀ (pc : Nat) (ls : Array Slot) (c_G60z : Nat → Int32) (c_V0z : Nat → Nat → Int32) (c_V2z : Nat → Nat → Int32) (ws : va_W) (H : Heap) (locs : List Loc), some (c_G60z, c_V0z, c_V2z) = some (c_G60, c_V0, c_V2) → decode cX3_note pc = .ok (.return_, 1) → LW ws ad kk kd ln (va_up G 60 c_G60z) P U (va_up (va_up V 0 c_V0z) 2 c_V2z) X O → TYP kd P O c_V0z cnt → va_P (dC, dI) vwCl ws H → va_D A ws → va_S A s.heap H locs → W p l e ({ frames := 3, cells := 0, slots := 0, locals := 120 } : Room) s m args below meth c H locs 0 0 Q (F0 m pc ls [])) : W p l e ({ frames := 3, cells := 0, slots := 0, locals := 120 } : Room) s m args below meth c H locs 0 0 Q (F0 m 0 ls []) := by
  unfold f_X3_note at hr
  refine lv_aload_n hx hb dX3_note_0 rfl (lv_at hl 0 rfl) ?_
  obtain ⟨i1, hi1⟩ := hW.o3 hk_this
  replace hr := nnS hr
  obtain ⟨a1, hn1, hr⟩ := hr
  have hk_a1 : kd a1 = 100 := hT.1 65 _ _ hn1
  refine va_get (D := (dC, dI)) (ci := 3) (v := .ref (ad a1)) (C := RX3) (T := TX3) (N := 7) hx hb hts inX3 hown hK hP i1 hi1 rfl 5 (by decide) (hts (.fieldLink RX3 30 "SpellTurner$Partings" "path" "[B") ic_226) (fun _ h9 => h9) (congrArg (fun o => some (va_re ad o)) hn1) dX3_note_1 ?_
  refine lv_iconst (v := 0) hx hb dX3_note_4 (by decide +kernel) ?_
  refine lv_aload_n hx hb dX3_note_5 rfl (lv_at hl 0 rfl) ?_
  obtain ⟨i2, hi2⟩ := hW.o3 hk_this
  replace hr := nnS hr
  obtain ⟨a6, hn6, hr⟩ := hr
  have hk_a6 : kd a6 = 100 := hT.1 62 _ _ hn6
  refine va_get (D := (dC, dI)) (ci := 3) (v := .ref (ad a6)) (C := RX3) (T := TX3) (N := 7) hx hb hts inX3 hown hK hP i2 hi2 rfl 2 (by decide) (hts (.fieldLink RX3 19 "SpellTurner$Partings" "picks" "[B") ic_163) (fun _ h9 => h9) (congrArg (fun o => some (va_re ad o)) hn6) dX3_note_6 ?_
  refine lv_aload_n hx hb dX3_note_9 rfl (lv_at hl 0 rfl) ?_
  obtain ⟨i3, hi3⟩ := hW.o3 hk_this
  refine va_get (D := (dC, dI)) (ci := 3) (v := .int ((G 60) this)) (C := RX3) (T := TX3) (N := 7) hx hb hts inX3 hown hK hP i3 hi3 rfl 0 (by decide) (hts (.fieldLink RX3 9 "SpellTurner$Partings" "count" "I") ic_161) (fun _ h9 => h9) rfl dX3_note_10 ?_
  refine lv_bipush (v := 24) hx hb dX3_note_13 (by decide +kernel) ?_
  refine lv_imul hx hb dX3_note_15 ?_
  refine lv_iload_n hx hb dX3_note_16 rfl (lv_at hl 1 rfl) ?_
  replace hr := iteS hr
  obtain ⟨hi17, hr⟩ := hr
  obtain ⟨i4, hi4⟩ := hW.v0 hk_a1
  obtain ⟨i5, hi5⟩ := hW.v0 hk_a6
  refine va_copyi (f := ((V 0) a1)) (g := ((V 0) a6)) hx hb (by rw [hml]; exact hl.1.symm) hown (hts (.methodLink RX3 72 arraycopyName) ic_227) (hts (.native arraycopyName) ic_16) (hts (.static arraycopyName) ic_17) (hts (.initialized "java/lang/System") ic_18) hK hP hD hS i4 i5 0 0 hi4 hi5 rfl rfl rfl (cpbS hi17).1 (cpbS hi17).2.1 (cpbS hi17).2.2.1 (cpbS hi17).2.2.2.1 (cpbS hi17).2.2.2.2 (fun _ _ => hT.2.2.1 _ _) (Nat.le_of_ble_eq_true rfl) (Nat.le_of_ble_eq_true rfl) dX3_note_17 (fun H locs hP2 hD2 hS => ?_)
  obtain ⟨m17, w6, em17, hP, hD, hW⟩ : ∃ (z : Nat → Nat → Int32) (w : va_W), z = (va_up (V 0) a6 (va_cpy ((V 0) a1) ((V 0) a6) (Int32.toNatClampNeg 0) (Int32.toNatClampNeg (((G 60) this) * 24)) (Int32.toNatClampNeg p0))) ∧ va_P (dC, dI) vwCl w H ∧ va_D A w ∧ LW w ad kk kd ln G P U (va_up V 0 z) X O := ⟨_, _, rfl, hP2, hD2, hW.setV hD hi5 (by rw [hk_a6]; decide) 0 (va_cpy ((V 0) a1) ((V 0) a6) (Int32.toNatClampNeg 0) (Int32.toNatClampNeg (((G 60) this) * 24)) (Int32.toNatClampNeg p0)) (by rw [hk_a6]; rfl)⟩
  replace hT : TYP kd P O m17 cnt := by rw [em17]; exact hT.setB a6 _ (fit_cpy (hT.2.2.1 a1) (hT.2.2.1 a6) _ _ _)
  replace hr := vlS hr m17 em17
  clear em17
  refine lv_aload_n hx hb dX3_note_20 rfl (lv_at hl 0 rfl) ?_
  obtain ⟨i7, hi7⟩ := hW.o3 hk_this
  replace hr := nnS hr
  obtain ⟨a21, hn21, hr⟩ := hr
  have hk_a21 : kd a21 = 102 := hT.1 61 _ _ hn21
  refine va_get (D := (dC, dI)) (ci := 3) (v := .ref (ad a21)) (C := RX3) (T := TX3) (N := 7) hx hb hts inX3 hown hK hP i7 hi7 rfl 1 (by decide) (hts (.fieldLink RX3 15 "SpellTurner$Partings" "sizes" "[I") ic_162) (fun _ h9 => h9) (congrArg (fun o => some (va_re ad o)) hn21) dX3_note_21 ?_
  refine lv_aload_n hx hb dX3_note_24 rfl (lv_at hl 0 rfl) ?_
  obtain ⟨i8, hi8⟩ := hW.o3 hk_this
  refine va_get (D := (dC, dI)) (ci := 3) (v := .int ((G 60) this)) (C := RX3) (T := TX3) (N := 7) hx hb hts inX3 hown hK hP i8 hi8 rfl 0 (by decide) (hts (.fieldLink RX3 9 "SpellTurner$Partings" "count" "I") ic_161) (fun _ h9 => h9) rfl dX3_note_25 ?_
  refine lv_iload_n hx hb dX3_note_28 rfl (lv_at hl 1 rfl) ?_
  obtain ⟨i9, hi9⟩ := hW.v2 hk_a21
  replace hr := iteS hr
  obtain ⟨hi29, hr⟩ := hr
  refine va_iast (f := ((V 2) a21)) hx hb hK hP hD hS i9 1 hi9 rfl (inbV hi29) dX3_note_29 (fun H locs hP2 hD2 hS => ?_)
  obtain ⟨m29, w10, em29, hP, hD, hW⟩ : ∃ (z : Nat → Nat → Int32) (w : va_W), z = (va_up (V 2) a21 (upd ((V 2) a21) (Int32.toNatClampNeg ((G 60) this)) p0)) ∧ va_P (dC, dI) vwCl w H ∧ va_D A w ∧ LW w ad kk kd ln G P U (va_up (va_up V 0 m17) 2 z) X O := ⟨_, _, rfl, hP2, hD2, hW.setV hD hi9 (by rw [hk_a21]; decide) 2 (upd ((V 2) a21) (Int32.toNatClampNeg ((G 60) this)) p0) (by rw [hk_a21]; rfl)⟩
  replace hr := vlS hr m29 em29
  clear em29
  refine lv_aload_n hx hb dX3_note_30 rfl (lv_at hl 0 rfl) ?_
  refine lv_dup hx hb dX3_note_31 rfl ?_
  obtain ⟨i11, hi11⟩ := hW.o3 hk_this
  refine va_get (D := (dC, dI)) (ci := 3) (v := .int ((G 60) this)) (C := RX3) (T := TX3) (N := 7) hx hb hts inX3 hown hK hP i11 hi11 rfl 0 (by decide) (hts (.fieldLink RX3 9 "SpellTurner$Partings" "count" "I") ic_161) (fun _ h9 => h9) rfl dX3_note_32 ?_
  refine lv_iconst (v := 1) hx hb dX3_note_35 (by decide +kernel) ?_
  refine lv_iadd hx hb dX3_note_36 ?_
  refine lv_topi (fun x37 ex37 => ?_)
  replace hr := vlS hr x37 ex37
  clear ex37
  obtain ⟨i12, hi12⟩ := hW.o3 hk_this
  refine va_put (D := (dC, dI)) (ci := 3) (v := .int x37) (ty := .int) (C := RX3) (T := TX3) (N := 7) hx hb hts inX3 tyX3 tyX3_ok nmX3 hown hK hP hD hS i12 hi12 rfl 0 (by decide) (hts (.fieldLink RX3 9 "SpellTurner$Partings" "count" "I") ic_161) (fun _ h9 => h9) rfl (by decide +kernel) rfl rfl (Nat.le_of_ble_eq_true rfl) dX3_note_37 (fun H locs hP2 hD2 hS => ?_)
  obtain ⟨m37, w13, em37, hP, hD, hW⟩ : ∃ (z : Nat → Int32) (w : va_W), z = (va_up (G 60) this x37) ∧ va_P (dC, dI) vwCl w H ∧ va_D A w ∧ LW w ad kk kd ln (va_up G 60 z) P U (va_up (va_up V 0 m17) 2 m29) X O := ⟨_, _, rfl, hP2, hD2, hW.setG hD hi12 (by rw [hk_this]; decide) 60 x37 (by rw [hk_this]; rfl)⟩
  replace hr := vlS hr m37 em37
  clear em37
  exact K 40 ls _ _ _ w13 H _ hr dX3_note_40 hW hT hP hD hS
set_option maxHeartbeats 4000000 in
set_option maxRecDepth 100000 in
theorem m_X3_note (l : Launch) (dC : Nat → ClassId) (dI : Nat → Nat → Nat) (kk : Nat → ClassId) (ad : Nat → Nat) (sz : Nat) (ws : va_W) (G : Nat → Nat → Int32) (P : Nat → Nat → Option Nat) (U : Nat → Nat → Int64) (V : Nat → Nat → Nat → Int32) (X : Nat → Nat → Nat → Int64) (O : Nat → Nat → Nat → Option Nat) (kd : Nat → Nat) (ln : Nat → Nat) (cnt : Nat) (this : Nat) (p0 : Int32) (hk_this : kd this = 4) (hW : LW ws ad kk kd ln G P U V X O) (hT : TYP kd P O (V 0) cnt) (c_G60 : Nat → Int32) (c_V0 : Nat → Nat → Int32) (c_V2 : Nat → Nat → Int32) (hr : f_X3_note G P U V X O kd ln cnt this p0 = some (c_G60, c_V0, c_V2)) : Met l yX3_note vmX3_note ({ frames := 3, cells := 0, slots := 0, locals := 120 } : Room) (va_Pc [.ref (ad this), .int p0] (fun U => U.heap.size = sz ∧ va_P (dC, dI) vwCl ws U.heap ∧ va_K (dC, dI) vwCl (cT kk) U ∧ va_D (fun _ => True) ws)) (va_Qv (fun w => LW w ad kk kd ln (va_up G 60 c_G60) P U (va_up (va_up V 0 c_V0) 2 c_V2) X O ∧ TYP kd P O c_V0 cnt) (fun w t => va_P (dC, dI) vwCl w t.heap ∧ va_K (dC, dI) vwCl (cT kk) t ∧ va_D (va_A ws sz) w) (va_A ws sz)) 0 0 (va_A ws sz) := by
  refine Met.ofW (cc := cX3_note) (maxL := 2) (ret := none) (by decide) rfl ?_
  intro p e s m args below meth c s₁ B hml hv
  obtain ⟨rfl, hsz, hP, hK, hD0⟩ := hv
  have hx := B.exec
  have hb := B.bytes
  have hrt := B.returns
  have hts := atoms_spec (ws := vmX3_note) B.pre
  have hown : s.vm.findClass RX3 = some m.cls := findClass_of_methodNamed B.named
  subst hsz
  have hD := hD0.self (sz := s.heap.size)
  generalize hAe : va_A ws s.heap.size = A at hD ⊢
  have hA : ∀ q : Nat, s.heap.size ≤ q → A q := fun q h => by rw [← hAe]; exact Or.inr h
  have hS : va_S A s.heap s.heap [] := va_S.rf
  have hl := lv_entry ([.ref (ad this), .int p0]) (n := 2) (Nat.le_of_ble_eq_true rfl)
  rw [lg_entry_eq]
  generalize (lg_sl ([.ref (ad this), .int p0]) ++ List.replicate (2 - (lg_sl ([.ref (ad this), .int p0])).length) Slot.unset).toArray = ls at hl ⊢
  exact bm_X3_note this p0 hk_this c_G60 c_V0 c_V2 hr hx hb hml hown hts hA hK hW hT hP hD hS hl (fun pc ls c_G60z c_V0z c_V2z ws H locs he hd hW hT hP hD hS => by cases he; exact W.vret hx hb hrt (fun t ht hW9 => ⟨⟨ws, rfl, ⟨hW, hT⟩, by rw [ht]; exact hP, va_K.moved hW9.alike hK, hD⟩, hS.F ht⟩) hS.2.2 hd)
set_option maxHeartbeats 4000000 in
set_option maxRecDepth 100000 in
theorem bm_X3_walk {dn : Nat} {p : Program} {l : Launch} {e : Env} {s : State} {m : MethodId} {args : Array Value} {below : List Frame} {meth : Method} {c : Code} {Q : State → Prop} {A : Nat → Prop} {dC : Nat → ClassId} {dI : Nat → Nat → Nat} {kk : Nat → ClassId} {ad : Nat → Nat} {ws : va_W} {G : Nat → Nat → Int32} {P : Nat → Nat → Option Nat} {U : Nat → Nat → Int64} {V : Nat → Nat → Nat → Int32} {X : Nat → Nat → Nat → Int64} {O : Nat → Nat → Nat → Option Nat} {kd : Nat → Nat} {ln : Nat → Nat} {cnt : Nat} {H : Heap} {locs : List Loc} {ls : Array Slot} (ihm : ∀ (kk : Nat → ClassId) (ad : Nat → Nat) (sz : Nat) (ws : va_W) (G : Nat → Nat → Int32) (P : Nat → Nat → Option Nat) (U : Nat → Nat → Int64) (V : Nat → Nat → Nat → Int32) (X : Nat → Nat → Nat → Int64) (O : Nat → Nat → Nat → Option Nat) (kd : Nat → Nat) (ln : Nat → Nat) (cnt : Nat) (this : Nat) (p0 : Int32) (p1 : Int32) (p2 : Int32) (hk_this : kd this = 4) (hW : LW ws ad kk kd ln G P U V X O) (hT : TYP kd P O (V 0) cnt) (c_G60 : Nat → Int32) (c_V0 : Nat → Nat → Int32) (c_V2 : Nat → Nat → Int32) (hr : f_X3_walk dn G P U V X O kd ln cnt this p0 p1 p2 = some (c_G60, c_V0, c_V2)), Met l yX3_walk vmX3_walk ({ frames := 4 + dn, cells := 0, slots := 0, locals := 141 + dn * 25 } : Room) (va_Pc [.ref (ad this), .int p0, .int p1, .int p2] (fun U => U.heap.size = sz ∧ va_P (dC, dI) vwCl ws U.heap ∧ va_K (dC, dI) vwCl (cT kk) U ∧ va_D (fun _ => True) ws)) (va_Qv (fun w => LW w ad kk kd ln (va_up G 60 c_G60) P U (va_up (va_up V 0 c_V0) 2 c_V2) X O ∧ TYP kd P O c_V0 cnt) (fun w t => va_P (dC, dI) vwCl w t.heap ∧ va_K (dC, dI) vwCl (cT kk) t ∧ va_D (va_A ws sz) w) (va_A ws sz)) 0 0 (va_A ws sz)) (this : Nat) (p0 : Int32) (p1 : Int32) (p2 : Int32) (hk_this : kd this = 4) (c_G60 : Nat → Int32) (c_V0 : Nat → Nat → Int32) (c_V2 : Nat → Nat → Int32) (hr : F_X3_walk (f_X3_walk dn) G P U V X O kd ln cnt this p0 p1 p2 = some (c_G60, c_V0, c_V2)) (hx : p.tables.exec = Jvm.exec) (hb : c.code = cX3_walk) (hml : c.maxLocals = 6) (hown : s.vm.findClass RX3 = some m.cls) (hts : ∀ w ∈ vmX3_walk, w.before args s = true) (hA : ∀ q : Nat, s.heap.size ≤ q → A q) (hK : va_K (dC, dI) vwCl (cT kk) s) (hW : LW ws ad kk kd ln G P U V X O) (hT : TYP kd P O (V 0) cnt) (hP : va_P (dC, dI) vwCl ws H) (hD : va_D A ws) (hS : va_S A s.heap H locs) (hl : lv_has ls 6 [(0, .ref (ad this)), (1, .int p0), (2, .int p1), (3, .int p2)])
    (K : ∀ (pc : Nat) (ls : Array Slot) (c_G60z : Nat → Int32) (c_V0z : Nat → Nat → Int32) (c_V2z : Nat → Nat → Int32) (ws : va_W) (H : Heap) (locs : List Loc), some (c_G60z, c_V0z, c_V2z) = some (c_G60, c_V0, c_V2) → decode cX3_walk pc = .ok (.return_, 1) → LW ws ad kk kd ln (va_up G 60 c_G60z) P U (va_up (va_up V 0 c_V0z) 2 c_V2z) X O → TYP kd P O c_V0z cnt → va_P (dC, dI) vwCl ws H → va_D A ws → va_S A s.heap H locs → W p l e ({ frames := 4 + (dn + 1), cells := 0, slots := 0, locals := 141 + (dn + 1) * 25 } : Room) s m args below meth c H locs 0 0 Q (F0 m pc ls [])) : W p l e ({ frames := 4 + (dn + 1), cells := 0, slots := 0, locals := 141 + (dn + 1) * 25 } : Room) s m args below meth c H locs 0 0 Q (F0 m 0 ls []) := by
  unfold F_X3_walk at hr
  refine lv_aload_n hx hb dX3_walk_0 rfl (lv_at hl 0 rfl) ?_
  obtain ⟨i1, hi1⟩ := hW.o3 hk_this
  refine va_get (D := (dC, dI)) (ci := 3) (v := .int ((G 60) this)) (C := RX3) (T := TX3) (N := 7) hx hb hts inX3 hown hK hP i1 hi1 rfl 0 (by decide) (hts (.fieldLink RX3 9 "SpellTurner$Partings" "count" "I") ic_161) (fun _ h9 => h9) rfl dX3_walk_1 ?_
  refine lv_bipush (v := 30) hx hb dX3_walk_4 (by decide +kernel) ?_
  refine lv_icmp_lt (tgt := 10) hx hb dX3_walk_6 (by decide) (fun c6 => ?_) (fun c6 => ?_)
  · replace hr := iteT c6 hr
    refine lv_iload_n hx hb dX3_walk_10 rfl (lv_at hl 1 rfl) ?_
    refine lv_iload_n hx hb dX3_walk_11 rfl (lv_at hl 2 rfl) ?_
    refine lv_icmp_lt (tgt := 21) hx hb dX3_walk_12 (by decide) (fun c12 => ?_) (fun c12 => ?_)
    · replace hr := iteT c12 hr
      refine lv_iconst (v := 1) hx hb dX3_walk_21 (by decide +kernel) ?_
      refine lv_istore (lv' := [(4, .int 1), (0, .ref (ad this)), (1, .int p0), (2, .int p1), (3, .int p2)]) hx hb dX3_walk_22 hl (by decide) rfl (fun ls hl => ?_)
      replace hr := jnS hr
      obtain ⟨k91, hk91, hr⟩ := hr
      have Jk91 : ∀ (c91_G60 : Nat → Int32) (c91_V0 : Nat → Nat → Int32) (c91_V2 : Nat → Nat → Int32) (ws : va_W) (H : Heap) (locs : List Loc) (ls : Array Slot), k91 c91_G60 c91_V0 c91_V2 = some (c_G60, c_V0, c_V2) → LW ws ad kk kd ln (va_up G 60 c91_G60) P U (va_up (va_up V 0 c91_V0) 2 c91_V2) X O → TYP kd P O c91_V0 cnt → va_P (dC, dI) vwCl ws H → va_D A ws → va_S A s.heap H locs → lv_has ls 6 [] → W p l e ({ frames := 4 + (dn + 1), cells := 0, slots := 0, locals := 141 + (dn + 1) * 25 } : Room) s m args below meth c H locs 0 0 Q (F0 m 91 ls []) := by
        intro c91_G60 c91_V0 c91_V2 ws H locs ls hr hW hT hP hD hS hl
        rw [hk91] at hr
        exact K 91 ls _ _ _ ws H _ hr dX3_walk_91 hW hT hP hD hS
      have lp24 : ∀ (n24 : Nat), ∀ (y24_4 : Int32) (d24_G60 : Nat → Int32) (d24_V0 : Nat → Nat → Int32) (d24_V2 : Nat → Nat → Int32) (ws : va_W) (H : Heap) (locs : List Loc) (ls : Array Slot), L_X3_walk_24 (f_X3_walk dn) G P U V X O kd ln cnt this p0 p1 p2 k91 n24 y24_4 d24_G60 d24_V0 d24_V2 = some (c_G60, c_V0, c_V2) → LW ws ad kk kd ln (va_up G 60 d24_G60) P U (va_up (va_up V 0 d24_V0) 2 d24_V2) X O → TYP kd P O d24_V0 cnt → va_P (dC, dI) vwCl ws H → va_D A ws → va_S A s.heap H locs → lv_has ls 6 [(0, .ref (ad this)), (1, .int p0), (2, .int p1), (3, .int p2), (4, .int y24_4)] → W p l e ({ frames := 4 + (dn + 1), cells := 0, slots := 0, locals := 141 + (dn + 1) * 25 } : Room) s m args below meth c H locs 0 0 Q (F0 m 24 ls []) := by
        intro n24
        induction n24 with
        | zero => intro y24_4 d24_G60 d24_V0 d24_V2 ws H locs ls hr hW hT hP hD hS hl; exact nomatch (show none = some (c_G60, c_V0, c_V2) from hr)
        | succ n24 ih24 =>
          intro y24_4 d24_G60 d24_V0 d24_V2 ws H locs ls hr hW hT hP hD hS hl
          replace hr : B_X3_walk_24 (f_X3_walk dn) G P U V X O kd ln cnt this p0 p1 p2 k91 (L_X3_walk_24 (f_X3_walk dn) G P U V X O kd ln cnt this p0 p1 p2 k91 n24) y24_4 d24_G60 d24_V0 d24_V2 = some (c_G60, c_V0, c_V2) := hr
          unfold B_X3_walk_24 at hr
          refine lv_iload hx hb dX3_walk_24 (lv_at hl 4 rfl) ?_
          refine lv_bipush (v := 17) hx hb dX3_walk_26 (by decide +kernel) ?_
          refine lv_icmp_ge (tgt := 91) hx hb dX3_walk_28 (by decide) (fun c28 => ?_) (fun c28 => ?_)
          · replace hr := iteT c28 hr
            exact Jk91 d24_G60 d24_V0 d24_V2 ws H _ ls hr hW hT hP hD hS (lv_sub hl [] rfl)
          · replace hr := iteF c28 hr
            refine lv_iload_n hx hb dX3_walk_31 rfl (lv_at hl 1 rfl) ?_
            refine lv_iload hx hb dX3_walk_32 (lv_at hl 4 rfl) ?_
            refine lv_iadd hx hb dX3_walk_34 ?_
            refine lv_iload_n hx hb dX3_walk_35 rfl (lv_at hl 2 rfl) ?_
            refine lv_icmp_gt (tgt := 91) hx hb dX3_walk_36 (by decide) (fun c36 => ?_) (fun c36 => ?_)
            · replace hr := iteT c36 hr
              exact Jk91 d24_G60 d24_V0 d24_V2 ws H _ ls hr hW hT hP hD hS (lv_sub hl [] rfl)
            · replace hr := iteF c36 hr
              refine lv_iload_n hx hb dX3_walk_39 rfl (lv_at hl 3 rfl) ?_
              refine lv_bipush (v := 24) hx hb dX3_walk_40 (by decide +kernel) ?_
              refine lv_icmp_ge (tgt := 91) hx hb dX3_walk_42 (by decide) (fun c42 => ?_) (fun c42 => ?_)
              · replace hr := iteT c42 hr
                exact Jk91 d24_G60 d24_V0 d24_V2 ws H _ ls hr hW hT hP hD hS (lv_sub hl [] rfl)
              · replace hr := iteF c42 hr
                refine lv_aload_n hx hb dX3_walk_45 rfl (lv_at hl 0 rfl) ?_
                obtain ⟨i2, hi2⟩ := hW.o3 hk_this
                replace hr := nnS hr
                obtain ⟨a46, hn46, hr⟩ := hr
                have hk_a46 : kd a46 = 100 := hT.1 63 _ _ hn46
                refine va_get (D := (dC, dI)) (ci := 3) (v := .ref (ad a46)) (C := RX3) (T := TX3) (N := 7) hx hb hts inX3 hown hK hP i2 hi2 rfl 3 (by decide) (hts (.fieldLink RX3 23 "SpellTurner$Partings" "fitting" "[B") ic_219) (fun _ h9 => h9) (congrArg (fun o => some (va_re ad o)) hn46) dX3_walk_46 ?_
                refine lv_iload_n hx hb dX3_walk_49 rfl (lv_at hl 1 rfl) ?_
                refine lv_bipush (v := 17) hx hb dX3_walk_50 (by decide +kernel) ?_
                refine lv_imul hx hb dX3_walk_52 ?_
                refine lv_iload hx hb dX3_walk_53 (lv_at hl 4 rfl) ?_
                refine lv_iadd hx hb dX3_walk_55 ?_
                obtain ⟨i3, hi3⟩ := hW.v0 hk_a46
                replace hr := iteS hr
                obtain ⟨hi56, hr⟩ := hr
                refine va_bald (f := (d24_V0 a46)) hx hb hK hP i3 0 hi3 rfl (inbV hi56) dX3_walk_56 ?_
                refine lv_topi (fun x57 ex57 => ?_)
                replace hr := vlS hr x57 ex57
                clear ex57
                refine lv_istore (lv' := [(5, .int x57), (0, .ref (ad this)), (1, .int p0), (2, .int p1), (3, .int p2), (4, .int y24_4)]) hx hb dX3_walk_57 hl (by decide) rfl (fun ls hl => ?_)
                refine lv_iload hx hb dX3_walk_59 (lv_at hl 0 rfl) ?_
                refine lv_iconst (v := (-1)) hx hb dX3_walk_61 (by decide +kernel) ?_
                replace hr := jnS hr
                obtain ⟨j85, hj85, hr⟩ := hr
                have Jj85 : ∀ (c85_G60 : Nat → Int32) (c85_V0 : Nat → Nat → Int32) (c85_V2 : Nat → Nat → Int32) (ws : va_W) (H : Heap) (locs : List Loc) (ls : Array Slot), j85 c85_G60 c85_V0 c85_V2 = some (c_G60, c_V0, c_V2) → LW ws ad kk kd ln (va_up G 60 c85_G60) P U (va_up (va_up V 0 c85_V0) 2 c85_V2) X O → TYP kd P O c85_V0 cnt → va_P (dC, dI) vwCl ws H → va_D A ws → va_S A s.heap H locs → lv_has ls 6 [(0, .ref (ad this)), (1, .int p0), (2, .int p1), (3, .int p2), (4, .int y24_4)] → W p l e ({ frames := 4 + (dn + 1), cells := 0, slots := 0, locals := 141 + (dn + 1) * 25 } : Room) s m args below meth c H locs 0 0 Q (F0 m 85 ls []) := by
                  intro c85_G60 c85_V0 c85_V2 ws H locs ls hr hW hT hP hD hS hl
                  rw [hj85] at hr
                  refine lv_iinc (v := (y24_4 + 1)) (lv' := [(4, .int (y24_4 + 1)), (0, .ref (ad this)), (1, .int p0), (2, .int p1), (3, .int p2)]) hx hb dX3_walk_85 hl (k := 4) rfl rfl (by decide) rfl (fun ls hl => ?_)
                  refine lv_goto (tgt := 24) hx hb dX3_walk_88 (by decide) ?_
                  exact ih24 (y24_4 + 1) c85_G60 c85_V0 c85_V2 ws H _ ls hr hW hT hP hD hS (lv_sub hl [1, 2, 3, 4, 0] rfl)
                refine lv_icmp_eq (tgt := 85) hx hb dX3_walk_62 (by decide) (fun c62 => ?_) (fun c62 => ?_)
                · replace hr := iteT c62 hr
                  exact Jj85 d24_G60 d24_V0 d24_V2 ws H _ ls hr hW hT hP hD hS (lv_sub hl [1, 2, 3, 4, 5] rfl)
                · replace hr := iteF c62 hr
                  refine lv_aload_n hx hb dX3_walk_65 rfl (lv_at hl 1 rfl) ?_
                  obtain ⟨i4, hi4⟩ := hW.o3 hk_this
                  replace hr := nnS hr
                  obtain ⟨a66, hn66, hr⟩ := hr
                  have hk_a66 : kd a66 = 100 := hT.1 65 _ _ hn66
                  refine va_get (D := (dC, dI)) (ci := 3) (v := .ref (ad a66)) (C := RX3) (T := TX3) (N := 7) hx hb hts inX3 hown hK hP i4 hi4 rfl 5 (by decide) (hts (.fieldLink RX3 30 "SpellTurner$Partings" "path" "[B") ic_226) (fun _ h9 => h9) (congrArg (fun o => some (va_re ad o)) hn66) dX3_walk_66 ?_
                  refine lv_iload_n hx hb dX3_walk_69 rfl (lv_at hl 4 rfl) ?_
                  refine lv_iload hx hb dX3_walk_70 (lv_at hl 0 rfl) ?_
                  obtain ⟨i5, hi5⟩ := hW.v0 hk_a66
                  replace hr := iteS hr
                  obtain ⟨hi72, hr⟩ := hr
                  refine va_bast (f := (d24_V0 a66)) hx hb hK hP hD hS i5 0 hi5 rfl (inbV hi72) dX3_walk_72 (fun H locs hP2 hD2 hS => ?_)
                  obtain ⟨m72, w6, em72, hP, hD, hW⟩ : ∃ (z : Nat → Nat → Int32) (w : va_W), z = (va_up d24_V0 a66 (upd (d24_V0 a66) (Int32.toNatClampNeg p2) (vp_nar .byte x57))) ∧ va_P (dC, dI) vwCl w H ∧ va_D A w ∧ LW w ad kk kd ln (va_up G 60 d24_G60) P U (va_up (va_up (va_up V 0 d24_V0) 2 d24_V2) 0 z) X O := ⟨_, _, rfl, hP2, hD2, hW.setV hD hi5 (by rw [hk_a66]; decide) 0 (upd (d24_V0 a66) (Int32.toNatClampNeg p2) (vp_nar .byte x57)) (by rw [hk_a66]; rfl)⟩
                  replace hT : TYP kd P O m72 cnt := by rw [em72]; exact hT.setB a66 _ (fit_upd (hT.2.2.1 a66) _ _)
                  replace hr := vlS hr m72 em72
                  clear em72
                  refine lv_aload_n hx hb dX3_walk_73 rfl (lv_at hl 1 rfl) ?_
                  refine lv_iload_n hx hb dX3_walk_74 rfl (lv_at hl 2 rfl) ?_
                  refine lv_iload hx hb dX3_walk_75 (lv_at hl 5 rfl) ?_
                  refine lv_iadd hx hb dX3_walk_77 ?_
                  refine lv_iload_n hx hb dX3_walk_78 rfl (lv_at hl 3 rfl) ?_
                  refine lv_iload_n hx hb dX3_walk_79 rfl (lv_at hl 4 rfl) ?_
                  refine lv_iconst (v := 1) hx hb dX3_walk_80 (by decide +kernel) ?_
                  refine lv_iadd hx hb dX3_walk_81 ?_
                  replace hr := b3S hr
                  obtain ⟨c82_G60, c82_V0, c82_V2, hc82, hr⟩ := hr
                  have hFc := fr_all hD hS hA
                  obtain ⟨i7, hi7⟩ := hW.o3 hk_this
                  refine va_callv (va_runV (As := [.int (p0 + y24_4), .int p1, .int (p2 + 1)]) (rest := []) ⟨hx, hb, hml, hown, hts⟩ (ihm kk ad H.size w6 (va_up G 60 d24_G60) P U (va_up (va_up (va_up V 0 d24_V0) 2 d24_V2) 0 m72) X O kd ln cnt this (p0 + y24_4) p1 (p2 + 1) hk_this hW hT c82_G60 c82_V0 c82_V2 hc82) (cwV 3 hts gc_RX3_X3_walk_47 rfl rfl rfl (by decide +kernel) ⟨by dsimp only; omega, by dsimp only; omega⟩) ⟨fun a U g mk q => by obtain ⟨q0, q1, qP, qK, qD⟩ := q; exact ⟨q0, q1, qP, va_K.moved (u := U) (U := U.calling g mk a) (Vm.Alike.refl U.vm) qK, qD⟩, va_recv hK hP (ci := 3) (q0 := i7) rfl hi7, fun U hU hW => ⟨rfl, by rw [hU], by rw [hU]; exact hP, va_K.moved hW.alike hK, hD.weaken (fun _ _ _ _ => trivial)⟩⟩ rfl rfl hl.1 rfl (lv_room (Nat.le_of_ble_eq_true rfl)) dX3_walk_82 ⟨Nat.le_of_ble_eq_true rfl, Nat.le_of_ble_eq_true rfl⟩) hS (fun q _ h => hFc q h) hFc (fun w8 t H1 locs ht hvm hw hB hz1 hk1 hS => ?_)
                  obtain ⟨hW, hT⟩ := hw
                  obtain ⟨hP1, hK1, hD1⟩ := hB
                  rw [ht] at hP1
                  obtain ⟨hP, hD⟩ := jn_all (w1 := w8) hFc hP1 hD1
                  replace hP : va_P (dC, dI) vwCl w8 H1 := hP
                  replace hD : va_D A w8 := hD
                  clear hFc hP1 hK1 hD1 hk1 hz1 ht hvm
                  generalize H1 = H at hP hS ⊢
                  have eG : (va_up (va_up G 60 d24_G60) 60 c82_G60) = (va_up G 60 c82_G60) := by
                    funext k
                    by_cases h60 : k = 60
                    · subst h60; rfl
                    · simp only [va_up, h60, if_false]
                  rw [eG] at hW
                  clear eG
                  have eV : (va_up (va_up (va_up (va_up (va_up V 0 d24_V0) 2 d24_V2) 0 m72) 0 c82_V0) 2 c82_V2) = (va_up (va_up V 0 c82_V0) 2 c82_V2) := by
                    funext k
                    by_cases h0 : k = 0
                    · subst h0; rfl
                    by_cases h2 : k = 2
                    · subst h2; rfl
                    · simp only [va_up, h0, h2, if_false]
                  rw [eV] at hW
                  clear eV
                  exact Jj85 c82_G60 c82_V0 c82_V2 w8 H _ ls hr hW hT hP hD hS (lv_sub hl [1, 2, 3, 4, 5] rfl)
      have eG : G = (va_up G 60 (G 60)) := by
        funext k
        by_cases h60 : k = 60
        · subst h60; rfl
        · simp only [va_up, h60, if_false]
      rw [eG] at hW
      clear eG
      have eV : V = (va_up (va_up V 0 (V 0)) 2 (V 2)) := by
        funext k
        by_cases h0 : k = 0
        · subst h0; rfl
        by_cases h2 : k = 2
        · subst h2; rfl
        · simp only [va_up, h0, h2, if_false]
      rw [eV] at hW
      clear eV
      exact lp24 NN 1 (G 60) (V 0) (V 2) ws H _ ls hr hW hT hP hD hS (lv_sub hl [1, 2, 3, 4, 0] rfl)
    · replace hr := iteF c12 hr
      refine lv_aload_n hx hb dX3_walk_15 rfl (lv_at hl 0 rfl) ?_
      refine lv_iload_n hx hb dX3_walk_16 rfl (lv_at hl 3 rfl) ?_
      replace hr := b3S hr
      obtain ⟨c17_G60, c17_V0, c17_V2, hc17, hr⟩ := hr
      have hFc := fr_all hD hS hA
      obtain ⟨i9, hi9⟩ := hW.o3 hk_this
      refine va_callv (va_runV (As := [.int p2]) (rest := []) ⟨hx, hb, hml, hown, hts⟩ (m_X3_note l dC dI kk ad H.size ws G P U V X O kd ln cnt this p2 hk_this hW hT c17_G60 c17_V0 c17_V2 hc17) (cwV 1 hts gc_RX3_X3_note_68 rfl rfl rfl (by decide +kernel) ⟨by dsimp only; omega, by dsimp only; omega⟩) ⟨fun a U g mk q => by obtain ⟨q0, q1, qP, qK, qD⟩ := q; exact ⟨q0, q1, qP, va_K.moved (u := U) (U := U.calling g mk a) (Vm.Alike.refl U.vm) qK, qD⟩, va_recv hK hP (ci := 3) (q0 := i9) rfl hi9, fun U hU hW => ⟨rfl, by rw [hU], by rw [hU]; exact hP, va_K.moved hW.alike hK, hD.weaken (fun _ _ _ _ => trivial)⟩⟩ rfl rfl hl.1 rfl (lv_room (Nat.le_of_ble_eq_true rfl)) dX3_walk_17 ⟨Nat.le_of_ble_eq_true rfl, Nat.le_of_ble_eq_true rfl⟩) hS (fun q _ h => hFc q h) hFc (fun w10 t H1 locs ht hvm hw hB hz1 hk1 hS => ?_)
      obtain ⟨hW, hT⟩ := hw
      obtain ⟨hP1, hK1, hD1⟩ := hB
      rw [ht] at hP1
      obtain ⟨hP, hD⟩ := jn_all (w1 := w10) hFc hP1 hD1
      replace hP : va_P (dC, dI) vwCl w10 H1 := hP
      replace hD : va_D A w10 := hD
      clear hFc hP1 hK1 hD1 hk1 hz1 ht hvm
      generalize H1 = H at hP hS ⊢
      exact K 20 ls _ _ _ w10 H _ hr dX3_walk_20 hW hT hP hD hS
  · replace hr := iteF c6 hr
    have eG : G = (va_up G 60 (G 60)) := by
      funext k
      by_cases h60 : k = 60
      · subst h60; rfl
      · simp only [va_up, h60, if_false]
    rw [eG] at hW
    clear eG
    have eV : V = (va_up (va_up V 0 (V 0)) 2 (V 2)) := by
      funext k
      by_cases h0 : k = 0
      · subst h0; rfl
      by_cases h2 : k = 2
      · subst h2; rfl
      · simp only [va_up, h0, h2, if_false]
    rw [eV] at hW
    clear eV
    exact K 9 ls _ _ _ ws H _ hr dX3_walk_9 hW hT hP hD hS
set_option maxHeartbeats 4000000 in
set_option maxRecDepth 100000 in
theorem m_X3_walk (l : Launch) (dC : Nat → ClassId) (dI : Nat → Nat → Nat) (dn : Nat) : ∀ (kk : Nat → ClassId) (ad : Nat → Nat) (sz : Nat) (ws : va_W) (G : Nat → Nat → Int32) (P : Nat → Nat → Option Nat) (U : Nat → Nat → Int64) (V : Nat → Nat → Nat → Int32) (X : Nat → Nat → Nat → Int64) (O : Nat → Nat → Nat → Option Nat) (kd : Nat → Nat) (ln : Nat → Nat) (cnt : Nat) (this : Nat) (p0 : Int32) (p1 : Int32) (p2 : Int32) (hk_this : kd this = 4) (hW : LW ws ad kk kd ln G P U V X O) (hT : TYP kd P O (V 0) cnt) (c_G60 : Nat → Int32) (c_V0 : Nat → Nat → Int32) (c_V2 : Nat → Nat → Int32) (hr : f_X3_walk dn G P U V X O kd ln cnt this p0 p1 p2 = some (c_G60, c_V0, c_V2)), Met l yX3_walk vmX3_walk ({ frames := 4 + dn, cells := 0, slots := 0, locals := 141 + dn * 25 } : Room) (va_Pc [.ref (ad this), .int p0, .int p1, .int p2] (fun U => U.heap.size = sz ∧ va_P (dC, dI) vwCl ws U.heap ∧ va_K (dC, dI) vwCl (cT kk) U ∧ va_D (fun _ => True) ws)) (va_Qv (fun w => LW w ad kk kd ln (va_up G 60 c_G60) P U (va_up (va_up V 0 c_V0) 2 c_V2) X O ∧ TYP kd P O c_V0 cnt) (fun w t => va_P (dC, dI) vwCl w t.heap ∧ va_K (dC, dI) vwCl (cT kk) t ∧ va_D (va_A ws sz) w) (va_A ws sz)) 0 0 (va_A ws sz) := by
  induction dn with
  | zero => intro kk ad sz ws G P U V X O kd ln cnt this p0 p1 p2 hk_this hW hT c_G60 c_V0 c_V2 hr; exact nomatch (show none = some (c_G60, c_V0, c_V2) from hr)
  | succ dn ihm =>
  intro kk ad sz ws G P U V X O kd ln cnt this p0 p1 p2 hk_this hW hT c_G60 c_V0 c_V2 hr
  replace hr : F_X3_walk (f_X3_walk dn) G P U V X O kd ln cnt this p0 p1 p2 = some (c_G60, c_V0, c_V2) := hr
  refine Met.ofW (cc := cX3_walk) (maxL := 6) (ret := none) (by decide) rfl ?_
  intro p e s m args below meth c s₁ B hml hv
  obtain ⟨rfl, hsz, hP, hK, hD0⟩ := hv
  have hx := B.exec
  have hb := B.bytes
  have hrt := B.returns
  have hts := atoms_spec (ws := vmX3_walk) B.pre
  have hown : s.vm.findClass RX3 = some m.cls := findClass_of_methodNamed B.named
  subst hsz
  have hD := hD0.self (sz := s.heap.size)
  generalize hAe : va_A ws s.heap.size = A at hD ⊢
  have hA : ∀ q : Nat, s.heap.size ≤ q → A q := fun q h => by rw [← hAe]; exact Or.inr h
  have hS : va_S A s.heap s.heap [] := va_S.rf
  have hl := lv_entry ([.ref (ad this), .int p0, .int p1, .int p2]) (n := 6) (Nat.le_of_ble_eq_true rfl)
  rw [lg_entry_eq]
  generalize (lg_sl ([.ref (ad this), .int p0, .int p1, .int p2]) ++ List.replicate (6 - (lg_sl ([.ref (ad this), .int p0, .int p1, .int p2])).length) Slot.unset).toArray = ls at hl ⊢
  exact bm_X3_walk ihm this p0 p1 p2 hk_this c_G60 c_V0 c_V2 hr hx hb hml hown hts hA hK hW hT hP hD hS hl (fun pc ls c_G60z c_V0z c_V2z ws H locs he hd hW hT hP hD hS => by cases he; exact W.vret hx hb hrt (fun t ht hW9 => ⟨⟨ws, rfl, ⟨hW, hT⟩, by rw [ht]; exact hP, va_K.moved hW9.alike hK, hD⟩, hS.F ht⟩) hS.2.2 hd)
set_option maxHeartbeats 4000000 in
set_option maxRecDepth 100000 in
theorem bm_X3_find {p : Program} {l : Launch} {e : Env} {s : State} {m : MethodId} {args : Array Value} {below : List Frame} {meth : Method} {c : Code} {Q : State → Prop} {A : Nat → Prop} {dC : Nat → ClassId} {dI : Nat → Nat → Nat} {kk : Nat → ClassId} {ad : Nat → Nat} {ws : va_W} {G : Nat → Nat → Int32} {P : Nat → Nat → Option Nat} {U : Nat → Nat → Int64} {V : Nat → Nat → Nat → Int32} {X : Nat → Nat → Nat → Int64} {O : Nat → Nat → Nat → Option Nat} {kd : Nat → Nat} {ln : Nat → Nat} {cnt : Nat} {H : Heap} {locs : List Loc} {ls : Array Slot} (this : Nat) (p0 : Nat) (p1 : Nat) (p2 : Int32) (p3 : Int32) (hk_this : kd this = 4) (hk_p0 : kd p0 = 11) (hk_p1 : kd p1 = 100) (c_G60 : Nat → Int32) (c_P66 : Nat → Option Nat) (c_V0 : Nat → Nat → Int32) (c_V2 : Nat → Nat → Int32) (c_V12 : Nat → Nat → Int32) (hr : f_X3_find G P U V X O kd ln cnt this p0 p1 p2 p3 = some (c_G60, c_P66, c_V0, c_V2, c_V12)) (hx : p.tables.exec = Jvm.exec) (hb : c.code = cX3_find) (hml : c.maxLocals = 6) (hown : s.vm.findClass RX3 = some m.cls) (hts : ∀ w ∈ vmX3_find, w.before args s = true) (hA : ∀ q : Nat, s.heap.size ≤ q → A q) (hK : va_K (dC, dI) vwCl (cT kk) s) (hW : LW ws ad kk kd ln G P U V X O) (hT : TYP kd P O (V 0) cnt) (hP : va_P (dC, dI) vwCl ws H) (hD : va_D A ws) (hS : va_S A s.heap H locs) (hl : lv_has ls 6 [(0, .ref (ad this)), (1, .ref (ad p0)), (2, .ref (ad p1)), (3, .int p2), (4, .int p3)])
    (K : ∀ (pc : Nat) (ls : Array Slot) (c_G60z : Nat → Int32) (c_P66z : Nat → Option Nat) (c_V0z : Nat → Nat → Int32) (c_V2z : Nat → Nat → Int32) (c_V12z : Nat → Nat → Int32) (ws : va_W) (H : Heap) (locs : List Loc), some (c_G60z, c_P66z, c_V0z, c_V2z, c_V12z) = some (c_G60, c_P66, c_V0, c_V2, c_V12) → decode cX3_find pc = .ok (.return_, 1) → LW ws ad kk kd ln (va_up G 60 c_G60z) (va_up P 66 c_P66z) U (va_up (va_up (va_up V 0 c_V0z) 2 c_V2z) 12 c_V12z) X O → TYP kd (va_up P 66 c_P66z) O c_V0z cnt → va_P (dC, dI) vwCl ws H → va_D A ws → va_S A s.heap H locs → W p l e ({ frames := 45, cells := 0, slots := 0, locals := 1166 } : Room) s m args below meth c H locs 0 0 Q (F0 m pc ls [])) : W p l e ({ frames := 45, cells := 0, slots := 0, locals := 1166 } : Room) s m args below meth c H locs 0 0 Q (F0 m 0 ls []) := by
  unfold f_X3_find at hr
  refine lv_aload_n hx hb dX3_find_0 rfl (lv_at hl 0 rfl) ?_
  refine lv_iconst (v := 0) hx hb dX3_find_1 (by decide +kernel) ?_
  obtain ⟨i1, hi1⟩ := hW.o3 hk_this
  refine va_put (D := (dC, dI)) (ci := 3) (v := .int 0) (ty := .int) (C := RX3) (T := TX3) (N := 7) hx hb hts inX3 tyX3 tyX3_ok nmX3 hown hK hP hD hS i1 hi1 rfl 0 (by decide) (hts (.fieldLink RX3 9 "SpellTurner$Partings" "count" "I") ic_161) (fun _ h9 => h9) rfl (by decide +kernel) rfl rfl (Nat.le_of_ble_eq_true rfl) dX3_find_2 (fun H locs hP2 hD2 hS => ?_)
  obtain ⟨m2, w2, em2, hP, hD, hW⟩ : ∃ (z : Nat → Int32) (w : va_W), z = (va_up (G 60) this 0) ∧ va_P (dC, dI) vwCl w H ∧ va_D A w ∧ LW w ad kk kd ln (va_up G 60 z) P U V X O := ⟨_, _, rfl, hP2, hD2, hW.setG hD hi1 (by rw [hk_this]; decide) 60 0 (by rw [hk_this]; rfl)⟩
  replace hr := vlS hr m2 em2
  clear em2
  refine lv_aload_n hx hb dX3_find_5 rfl (lv_at hl 0 rfl) ?_
  refine lv_aload_n hx hb dX3_find_6 rfl (lv_at hl 1 rfl) ?_
  obtain ⟨i3, hi3⟩ := hW.o3 hk_this
  refine va_put (D := (dC, dI)) (ci := 3) (v := .ref (ad p0)) (ty := (.object "SpellTurner$WordRow")) (C := RX3) (T := TX3) (N := 7) hx hb hts inX3 tyX3 tyX3_ok nmX3 hown hK hP hD hS i3 hi3 rfl 6 (by decide) (hts (.fieldLink RX3 38 "SpellTurner$Partings" "parts" "LSpellTurner$WordRow;") ic_169) (fun _ h9 => h9) rfl (by decide +kernel) rfl rfl (Nat.le_of_ble_eq_true rfl) dX3_find_7 (fun H locs hP2 hD2 hS => ?_)
  obtain ⟨m7, w4, em7, hP, hD, hW⟩ : ∃ (z : Nat → Option Nat) (w : va_W), z = (va_up (P 66) this (some p0)) ∧ va_P (dC, dI) vwCl w H ∧ va_D A w ∧ LW w ad kk kd ln (va_up G 60 m2) (va_up P 66 z) U V X O := ⟨_, _, rfl, hP2, hD2, hW.setP hD hi3 (by rw [hk_this]; decide) 66 (some p0) (by rw [hk_this]; rfl)⟩
  replace hT : TYP kd (va_up P 66 m7) O (V 0) cnt := by rw [em7]; exact hT.setP 66 this p0 hk_p0
  replace hr := vlS hr m7 em7
  clear em7
  refine lv_aload_n hx hb dX3_find_10 rfl (lv_at hl 0 rfl) ?_
  obtain ⟨i5, hi5⟩ := hW.o3 hk_this
  replace hr := nnS hr
  obtain ⟨a11, hn11, hr⟩ := hr
  have hk_a11 : kd a11 = 11 := hT.1 66 _ _ hn11
  refine va_get (D := (dC, dI)) (ci := 3) (v := .ref (ad a11)) (C := RX3) (T := TX3) (N := 7) hx hb hts inX3 hown hK hP i5 hi5 rfl 6 (by decide) (hts (.fieldLink RX3 38 "SpellTurner$Partings" "parts" "LSpellTurner$WordRow;") ic_169) (fun _ h9 => h9) (congrArg (fun o => some (va_re ad o)) hn11) dX3_find_11 ?_
  obtain ⟨i6, hi6⟩ := hW.o10 hk_a11
  refine va_get (D := (dC, dI)) (ci := 10) (v := .int ((G 203) a11)) (C := RX10) (T := TX10) (N := 4) hx hb hts inX10 hown hK hP i6 hi6 rfl 3 (by decide) (hts (.fieldLink RX3 42 "SpellTurner$WordRow" "count" "I") ic_170) (fun _ h9 => h9) rfl dX3_find_14 ?_
  replace hr := jnS hr
  obtain ⟨j33, hj33, hr⟩ := hr
  have Jj33 : ∀ (ws : va_W) (H : Heap) (locs : List Loc) (ls : Array Slot), j33 () = some (c_G60, c_P66, c_V0, c_V2, c_V12) → LW ws ad kk kd ln (va_up G 60 m2) (va_up P 66 m7) U V X O → TYP kd (va_up P 66 m7) O (V 0) cnt → va_P (dC, dI) vwCl ws H → va_D A ws → va_S A s.heap H locs → lv_has ls 6 [] → W p l e ({ frames := 45, cells := 0, slots := 0, locals := 1166 } : Room) s m args below meth c H locs 0 0 Q (F0 m 33 ls []) := by
    intro ws H locs ls hr hW hT hP hD hS hl
    rw [hj33] at hr
    have eV : V = (va_up (va_up (va_up V 0 (V 0)) 2 (V 2)) 12 (V 12)) := by
      funext k
      by_cases h0 : k = 0
      · subst h0; rfl
      by_cases h2 : k = 2
      · subst h2; rfl
      by_cases h12 : k = 12
      · subst h12; rfl
      · simp only [va_up, h0, h2, h12, if_false]
    rw [eV] at hW
    clear eV
    exact K 33 ls _ _ _ _ _ ws H _ hr dX3_find_33 hW hT hP hD hS
  refine lv_if_eq (tgt := 33) hx hb dX3_find_17 (by decide) (fun c17 => ?_) (fun c17 => ?_)
  · replace hr := iteT c17 hr
    exact Jj33 w4 H _ ls hr hW hT hP hD hS (lv_sub hl [] rfl)
  · replace hr := iteF c17 hr
    refine lv_iload hx hb dX3_find_20 (lv_at hl 4 rfl) ?_
    refine lv_iconst (v := 1) hx hb dX3_find_22 (by decide +kernel) ?_
    refine lv_icmp_lt (tgt := 33) hx hb dX3_find_23 (by decide) (fun c23 => ?_) (fun c23 => ?_)
    · replace hr := iteT c23 hr
      exact Jj33 w4 H _ ls hr hW hT hP hD hS (lv_sub hl [] rfl)
    · replace hr := iteF c23 hr
      refine lv_iload hx hb dX3_find_26 (lv_at hl 4 rfl) ?_
      refine lv_bipush (v := 24) hx hb dX3_find_28 (by decide +kernel) ?_
      refine lv_icmp_le (tgt := 34) hx hb dX3_find_30 (by decide) (fun c30 => ?_) (fun c30 => ?_)
      · replace hr := iteT c30 hr
        refine lv_aload_n hx hb dX3_find_34 rfl (lv_at hl 0 rfl) ?_
        obtain ⟨i7, hi7⟩ := hW.o3 hk_this
        replace hr := nnS hr
        obtain ⟨a35, hn35, hr⟩ := hr
        have hk_a35 : kd a35 = 112 := hT.1 64 _ _ hn35
        refine va_get (D := (dC, dI)) (ci := 3) (v := .ref (ad a35)) (C := RX3) (T := TX3) (N := 7) hx hb hts inX3 hown hK hP i7 hi7 rfl 4 (by decide) (hts (.fieldLink RX3 26 "SpellTurner$Partings" "closes" "[Z") ic_218) (fun _ h9 => h9) (congrArg (fun o => some (va_re ad o)) hn35) dX3_find_35 ?_
        refine lv_iload hx hb dX3_find_38 (lv_at hl 4 rfl) ?_
        refine lv_iconst (v := 1) hx hb dX3_find_40 (by decide +kernel) ?_
        obtain ⟨i8, hi8⟩ := hW.v12 hk_a35
        replace hr := iteS hr
        obtain ⟨hi41, hr⟩ := hr
        refine va_zast (f := ((V 12) a35)) hx hb hK hP hD hS i8 2 hi8 rfl (inbV hi41) dX3_find_41 (fun H locs hP2 hD2 hS => ?_)
        obtain ⟨m41, w9, em41, hP, hD, hW⟩ : ∃ (z : Nat → Nat → Int32) (w : va_W), z = (va_up (V 12) a35 (upd ((V 12) a35) (Int32.toNatClampNeg p3) (vp_nar .boolean 1))) ∧ va_P (dC, dI) vwCl w H ∧ va_D A w ∧ LW w ad kk kd ln (va_up G 60 m2) (va_up P 66 m7) U (va_up V 12 z) X O := ⟨_, _, rfl, hP2, hD2, hW.setV hD hi8 (by rw [hk_a35]; decide) 12 (upd ((V 12) a35) (Int32.toNatClampNeg p3) (vp_nar .boolean 1)) (by rw [hk_a35]; rfl)⟩
        replace hr := vlS hr m41 em41
        clear em41
        refine lv_iload hx hb dX3_find_42 (lv_at hl 4 rfl) ?_
        refine lv_iconst (v := 1) hx hb dX3_find_44 (by decide +kernel) ?_
        refine lv_isub hx hb dX3_find_45 ?_
        refine lv_topi (fun x46 ex46 => ?_)
        replace hr := vlS hr x46 ex46
        clear ex46
        refine lv_istore (lv' := [(5, .int x46), (0, .ref (ad this)), (1, .ref (ad p0)), (2, .ref (ad p1)), (3, .int p2), (4, .int p3)]) hx hb dX3_find_46 hl (by decide) rfl (fun ls hl => ?_)
        replace hr := jnS hr
        obtain ⟨k69, hk69, hr⟩ := hr
        have Jk69 : ∀ (c69_V0 : Nat → Nat → Int32) (c69_V12 : Nat → Nat → Int32) (ws : va_W) (H : Heap) (locs : List Loc) (ls : Array Slot), k69 c69_V0 c69_V12 = some (c_G60, c_P66, c_V0, c_V2, c_V12) → LW ws ad kk kd ln (va_up G 60 m2) (va_up P 66 m7) U (va_up (va_up V 0 c69_V0) 12 c69_V12) X O → TYP kd (va_up P 66 m7) O c69_V0 cnt → va_P (dC, dI) vwCl ws H → va_D A ws → va_S A s.heap H locs → lv_has ls 6 [(0, .ref (ad this)), (4, .int p3)] → W p l e ({ frames := 45, cells := 0, slots := 0, locals := 1166 } : Room) s m args below meth c H locs 0 0 Q (F0 m 69 ls []) := by
          intro c69_V0 c69_V12 ws H locs ls hr hW hT hP hD hS hl
          rw [hk69] at hr
          refine lv_aload_n hx hb dX3_find_69 rfl (lv_at hl 0 rfl) ?_
          obtain ⟨i10, hi10⟩ := hW.o3 hk_this
          replace hr := nnS hr
          obtain ⟨a70, hn70, hr⟩ := hr
          have hk_a70 : kd a70 = 112 := hT.1 64 _ _ hn70
          refine va_get (D := (dC, dI)) (ci := 3) (v := .ref (ad a70)) (C := RX3) (T := TX3) (N := 7) hx hb hts inX3 hown hK hP i10 hi10 rfl 4 (by decide) (hts (.fieldLink RX3 26 "SpellTurner$Partings" "closes" "[Z") ic_218) (fun _ h9 => h9) (congrArg (fun o => some (va_re ad o)) hn70) dX3_find_70 ?_
          refine lv_iconst (v := 0) hx hb dX3_find_73 (by decide +kernel) ?_
          obtain ⟨i11, hi11⟩ := hW.v12 hk_a70
          replace hr := iteS hr
          obtain ⟨hi74, hr⟩ := hr
          refine va_zald (f := (c69_V12 a70)) hx hb hK hP i11 2 hi11 rfl (inbV hi74) dX3_find_74 ?_
          replace hr := jnS hr
          obtain ⟨j86, hj86, hr⟩ := hr
          have Jj86 : ∀ (c86_G60 : Nat → Int32) (c86_V0 : Nat → Nat → Int32) (c86_V2 : Nat → Nat → Int32) (ws : va_W) (H : Heap) (locs : List Loc) (ls : Array Slot), j86 c86_G60 c86_V0 c86_V2 = some (c_G60, c_P66, c_V0, c_V2, c_V12) → LW ws ad kk kd ln (va_up G 60 c86_G60) (va_up P 66 m7) U (va_up (va_up (va_up V 0 c86_V0) 2 c86_V2) 12 c69_V12) X O → TYP kd (va_up P 66 m7) O c86_V0 cnt → va_P (dC, dI) vwCl ws H → va_D A ws → va_S A s.heap H locs → lv_has ls 6 [] → W p l e ({ frames := 45, cells := 0, slots := 0, locals := 1166 } : Room) s m args below meth c H locs 0 0 Q (F0 m 86 ls []) := by
            intro c86_G60 c86_V0 c86_V2 ws H locs ls hr hW hT hP hD hS hl
            rw [hj86] at hr
            exact K 86 ls _ _ _ _ _ ws H _ hr dX3_find_86 hW hT hP hD hS
          refine lv_if_eq (tgt := 86) hx hb dX3_find_75 (by decide) (fun c75 => ?_) (fun c75 => ?_)
          · replace hr := iteT c75 hr
            have eV : (va_up (va_up V 0 c69_V0) 12 c69_V12) = (va_up (va_up (va_up V 0 c69_V0) 2 (V 2)) 12 c69_V12) := by
              funext k
              by_cases h0 : k = 0
              · subst h0; rfl
              by_cases h2 : k = 2
              · subst h2; rfl
              by_cases h12 : k = 12
              · subst h12; rfl
              · simp only [va_up, h0, h2, h12, if_false]
            rw [eV] at hW
            clear eV
            exact Jj86 m2 c69_V0 (V 2) ws H _ ls hr hW hT hP hD hS (lv_sub hl [] rfl)
          · replace hr := iteF c75 hr
            refine lv_aload_n hx hb dX3_find_78 rfl (lv_at hl 0 rfl) ?_
            refine lv_iconst (v := 0) hx hb dX3_find_79 (by decide +kernel) ?_
            refine lv_iload hx hb dX3_find_80 (lv_at hl 1 rfl) ?_
            refine lv_iconst (v := 0) hx hb dX3_find_82 (by decide +kernel) ?_
            replace hr := b3S hr
            obtain ⟨c83_G60, c83_V0, c83_V2, hc83, hr⟩ := hr
            have hFc := fr_all hD hS hA
            obtain ⟨i12, hi12⟩ := hW.o3 hk_this
            refine va_callv (va_runV (As := [.int 0, .int p3, .int 0]) (rest := []) ⟨hx, hb, hml, hown, hts⟩ (m_X3_walk l dC dI 40 kk ad H.size ws (va_up G 60 m2) (va_up P 66 m7) U (va_up (va_up V 0 c69_V0) 12 c69_V12) X O kd ln cnt this 0 p3 0 hk_this hW hT c83_G60 c83_V0 c83_V2 hc83) (cwV 3 hts gc_RX3_X3_walk_47 rfl rfl rfl (by decide +kernel) ⟨Nat.le_of_ble_eq_true rfl, Nat.le_of_ble_eq_true rfl⟩) ⟨fun a U g mk q => by obtain ⟨q0, q1, qP, qK, qD⟩ := q; exact ⟨q0, q1, qP, va_K.moved (u := U) (U := U.calling g mk a) (Vm.Alike.refl U.vm) qK, qD⟩, va_recv hK hP (ci := 3) (q0 := i12) rfl hi12, fun U hU hW => ⟨rfl, by rw [hU], by rw [hU]; exact hP, va_K.moved hW.alike hK, hD.weaken (fun _ _ _ _ => trivial)⟩⟩ rfl rfl hl.1 rfl (lv_room (Nat.le_of_ble_eq_true rfl)) dX3_find_83 ⟨Nat.le_of_ble_eq_true rfl, Nat.le_of_ble_eq_true rfl⟩) hS (fun q _ h => hFc q h) hFc (fun w13 t H1 locs ht hvm hw hB hz1 hk1 hS => ?_)
            obtain ⟨hW, hT⟩ := hw
            obtain ⟨hP1, hK1, hD1⟩ := hB
            rw [ht] at hP1
            obtain ⟨hP, hD⟩ := jn_all (w1 := w13) hFc hP1 hD1
            replace hP : va_P (dC, dI) vwCl w13 H1 := hP
            replace hD : va_D A w13 := hD
            clear hFc hP1 hK1 hD1 hk1 hz1 ht hvm
            generalize H1 = H at hP hS ⊢
            have eG : (va_up (va_up G 60 m2) 60 c83_G60) = (va_up G 60 c83_G60) := by
              funext k
              by_cases h60 : k = 60
              · subst h60; rfl
              · simp only [va_up, h60, if_false]
            rw [eG] at hW
            clear eG
            have eV : (va_up (va_up (va_up (va_up V 0 c69_V0) 12 c69_V12) 0 c83_V0) 2 c83_V2) = (va_up (va_up (va_up V 0 c83_V0) 2 c83_V2) 12 c69_V12) := by
              funext k
              by_cases h0 : k = 0
              · subst h0; rfl
              by_cases h2 : k = 2
              · subst h2; rfl
              by_cases h12 : k = 12
              · subst h12; rfl
              · simp only [va_up, h0, h2, h12, if_false]
            rw [eV] at hW
            clear eV
            exact Jj86 c83_G60 c83_V0 c83_V2 w13 H _ ls hr hW hT hP hD hS (lv_sub hl [] rfl)
        have lp48 : ∀ (n48 : Nat), ∀ (y48_5 : Int32) (d48_V0 : Nat → Nat → Int32) (d48_V12 : Nat → Nat → Int32) (ws : va_W) (H : Heap) (locs : List Loc) (ls : Array Slot), L_X3_find_48 G P U V X O kd ln cnt this p1 p2 p3 m2 m7 k69 n48 y48_5 d48_V0 d48_V12 = some (c_G60, c_P66, c_V0, c_V2, c_V12) → LW ws ad kk kd ln (va_up G 60 m2) (va_up P 66 m7) U (va_up (va_up V 0 d48_V0) 12 d48_V12) X O → TYP kd (va_up P 66 m7) O d48_V0 cnt → va_P (dC, dI) vwCl ws H → va_D A ws → va_S A s.heap H locs → lv_has ls 6 [(0, .ref (ad this)), (2, .ref (ad p1)), (3, .int p2), (4, .int p3), (5, .int y48_5)] → W p l e ({ frames := 45, cells := 0, slots := 0, locals := 1166 } : Room) s m args below meth c H locs 0 0 Q (F0 m 48 ls []) := by
          intro n48
          induction n48 with
          | zero => intro y48_5 d48_V0 d48_V12 ws H locs ls hr hW hT hP hD hS hl; exact nomatch (show none = some (c_G60, c_P66, c_V0, c_V2, c_V12) from hr)
          | succ n48 ih48 =>
            intro y48_5 d48_V0 d48_V12 ws H locs ls hr hW hT hP hD hS hl
            replace hr : B_X3_find_48 G P U V X O kd ln cnt this p1 p2 p3 m2 m7 k69 (L_X3_find_48 G P U V X O kd ln cnt this p1 p2 p3 m2 m7 k69 n48) y48_5 d48_V0 d48_V12 = some (c_G60, c_P66, c_V0, c_V2, c_V12) := hr
            unfold B_X3_find_48 at hr
            refine lv_iload hx hb dX3_find_48 (lv_at hl 4 rfl) ?_
            refine lv_if_lt (tgt := 69) hx hb dX3_find_50 (by decide) (fun c50 => ?_) (fun c50 => ?_)
            · replace hr := iteT c50 hr
              exact Jk69 d48_V0 d48_V12 ws H _ ls hr hW hT hP hD hS (lv_sub hl [0, 3] rfl)
            · replace hr := iteF c50 hr
              refine lv_aload_n hx hb dX3_find_53 rfl (lv_at hl 0 rfl) ?_
              refine lv_aload_n hx hb dX3_find_54 rfl (lv_at hl 1 rfl) ?_
              refine lv_iload_n hx hb dX3_find_55 rfl (lv_at hl 2 rfl) ?_
              refine lv_iload hx hb dX3_find_56 (lv_at hl 4 rfl) ?_
              refine lv_iload hx hb dX3_find_58 (lv_at hl 3 rfl) ?_
              replace hr := b2S hr
              obtain ⟨c60_V0, c60_V12, hc60, hr⟩ := hr
              have hFc := fr_all hD hS hA
              obtain ⟨i14, hi14⟩ := hW.o3 hk_this
              refine va_callv (va_runV (As := [.ref (ad p1), .int p2, .int y48_5, .int p3]) (rest := []) ⟨hx, hb, hml, hown, hts⟩ (m_X3_markFitting l dC dI kk ad H.size ws (va_up G 60 m2) (va_up P 66 m7) U (va_up (va_up V 0 d48_V0) 12 d48_V12) X O kd ln cnt this p1 p2 y48_5 p3 hk_this hk_p1 hW hT c60_V0 c60_V12 hc60) (cwV 4 hts gc_RX3_X3_markFitting_43 rfl rfl rfl (by decide +kernel) ⟨Nat.le_of_ble_eq_true rfl, Nat.le_of_ble_eq_true rfl⟩) ⟨fun a U g mk q => by obtain ⟨q0, q1, qP, qK, qD⟩ := q; exact ⟨q0, q1, qP, va_K.moved (u := U) (U := U.calling g mk a) (Vm.Alike.refl U.vm) qK, qD⟩, va_recv hK hP (ci := 3) (q0 := i14) rfl hi14, fun U hU hW => ⟨rfl, by rw [hU], by rw [hU]; exact hP, va_K.moved hW.alike hK, hD.weaken (fun _ _ _ _ => trivial)⟩⟩ rfl rfl hl.1 rfl (lv_room (Nat.le_of_ble_eq_true rfl)) dX3_find_60 ⟨Nat.le_of_ble_eq_true rfl, Nat.le_of_ble_eq_true rfl⟩) hS (fun q _ h => hFc q h) hFc (fun w15 t H1 locs ht hvm hw hB hz1 hk1 hS => ?_)
              obtain ⟨hW, hT⟩ := hw
              obtain ⟨hP1, hK1, hD1⟩ := hB
              rw [ht] at hP1
              obtain ⟨hP, hD⟩ := jn_all (w1 := w15) hFc hP1 hD1
              replace hP : va_P (dC, dI) vwCl w15 H1 := hP
              replace hD : va_D A w15 := hD
              clear hFc hP1 hK1 hD1 hk1 hz1 ht hvm
              generalize H1 = H at hP hS ⊢
              refine lv_iinc (v := (y48_5 + (-1))) (lv' := [(5, .int (y48_5 + (-1))), (0, .ref (ad this)), (2, .ref (ad p1)), (3, .int p2), (4, .int p3)]) hx hb dX3_find_63 hl (k := 4) rfl rfl (by decide) rfl (fun ls hl => ?_)
              refine lv_goto (tgt := 48) hx hb dX3_find_66 (by decide) ?_
              have eV : (va_up (va_up (va_up (va_up V 0 d48_V0) 12 d48_V12) 0 c60_V0) 12 c60_V12) = (va_up (va_up V 0 c60_V0) 12 c60_V12) := by
                funext k
                by_cases h0 : k = 0
                · subst h0; rfl
                by_cases h12 : k = 12
                · subst h12; rfl
                · simp only [va_up, h0, h12, if_false]
              rw [eV] at hW
              clear eV
              exact ih48 (y48_5 + (-1)) c60_V0 c60_V12 w15 H _ ls hr hW hT hP hD hS (lv_sub hl [1, 2, 3, 4, 0] rfl)
        have eV : (va_up V 12 m41) = (va_up (va_up V 0 (V 0)) 12 m41) := by
          funext k
          by_cases h0 : k = 0
          · subst h0; rfl
          by_cases h12 : k = 12
          · subst h12; rfl
          · simp only [va_up, h0, h12, if_false]
        rw [eV] at hW
        clear eV
        exact lp48 NN x46 (V 0) m41 w9 H _ ls hr hW hT hP hD hS (lv_sub hl [1, 3, 4, 5, 0] rfl)
      · replace hr := iteF c30 hr
        exact Jj33 w4 H _ ls hr hW hT hP hD hS (lv_sub hl [] rfl)
set_option maxHeartbeats 4000000 in
set_option maxRecDepth 100000 in
theorem m_X3_find (l : Launch) (dC : Nat → ClassId) (dI : Nat → Nat → Nat) (kk : Nat → ClassId) (ad : Nat → Nat) (sz : Nat) (ws : va_W) (G : Nat → Nat → Int32) (P : Nat → Nat → Option Nat) (U : Nat → Nat → Int64) (V : Nat → Nat → Nat → Int32) (X : Nat → Nat → Nat → Int64) (O : Nat → Nat → Nat → Option Nat) (kd : Nat → Nat) (ln : Nat → Nat) (cnt : Nat) (this : Nat) (p0 : Nat) (p1 : Nat) (p2 : Int32) (p3 : Int32) (hk_this : kd this = 4) (hk_p0 : kd p0 = 11) (hk_p1 : kd p1 = 100) (hW : LW ws ad kk kd ln G P U V X O) (hT : TYP kd P O (V 0) cnt) (c_G60 : Nat → Int32) (c_P66 : Nat → Option Nat) (c_V0 : Nat → Nat → Int32) (c_V2 : Nat → Nat → Int32) (c_V12 : Nat → Nat → Int32) (hr : f_X3_find G P U V X O kd ln cnt this p0 p1 p2 p3 = some (c_G60, c_P66, c_V0, c_V2, c_V12)) : Met l yX3_find vmX3_find ({ frames := 45, cells := 0, slots := 0, locals := 1166 } : Room) (va_Pc [.ref (ad this), .ref (ad p0), .ref (ad p1), .int p2, .int p3] (fun U => U.heap.size = sz ∧ va_P (dC, dI) vwCl ws U.heap ∧ va_K (dC, dI) vwCl (cT kk) U ∧ va_D (fun _ => True) ws)) (va_Qv (fun w => LW w ad kk kd ln (va_up G 60 c_G60) (va_up P 66 c_P66) U (va_up (va_up (va_up V 0 c_V0) 2 c_V2) 12 c_V12) X O ∧ TYP kd (va_up P 66 c_P66) O c_V0 cnt) (fun w t => va_P (dC, dI) vwCl w t.heap ∧ va_K (dC, dI) vwCl (cT kk) t ∧ va_D (va_A ws sz) w) (va_A ws sz)) 0 0 (va_A ws sz) := by
  refine Met.ofW (cc := cX3_find) (maxL := 6) (ret := none) (by decide) rfl ?_
  intro p e s m args below meth c s₁ B hml hv
  obtain ⟨rfl, hsz, hP, hK, hD0⟩ := hv
  have hx := B.exec
  have hb := B.bytes
  have hrt := B.returns
  have hts := atoms_spec (ws := vmX3_find) B.pre
  have hown : s.vm.findClass RX3 = some m.cls := findClass_of_methodNamed B.named
  subst hsz
  have hD := hD0.self (sz := s.heap.size)
  generalize hAe : va_A ws s.heap.size = A at hD ⊢
  have hA : ∀ q : Nat, s.heap.size ≤ q → A q := fun q h => by rw [← hAe]; exact Or.inr h
  have hS : va_S A s.heap s.heap [] := va_S.rf
  have hl := lv_entry ([.ref (ad this), .ref (ad p0), .ref (ad p1), .int p2, .int p3]) (n := 6) (Nat.le_of_ble_eq_true rfl)
  rw [lg_entry_eq]
  generalize (lg_sl ([.ref (ad this), .ref (ad p0), .ref (ad p1), .int p2, .int p3]) ++ List.replicate (6 - (lg_sl ([.ref (ad this), .ref (ad p0), .ref (ad p1), .int p2, .int p3])).length) Slot.unset).toArray = ls at hl ⊢
  exact bm_X3_find this p0 p1 p2 p3 hk_this hk_p0 hk_p1 c_G60 c_P66 c_V0 c_V2 c_V12 hr hx hb hml hown hts hA hK hW hT hP hD hS hl (fun pc ls c_G60z c_P66z c_V0z c_V2z c_V12z ws H locs he hd hW hT hP hD hS => by cases he; exact W.vret hx hb hrt (fun t ht hW9 => ⟨⟨ws, rfl, ⟨hW, hT⟩, by rw [ht]; exact hP, va_K.moved hW9.alike hK, hD⟩, hS.F ht⟩) hS.2.2 hd)
set_option maxHeartbeats 4000000 in
set_option maxRecDepth 100000 in
theorem bm_X5_isKept {p : Program} {l : Launch} {e : Env} {s : State} {m : MethodId} {args : Array Value} {below : List Frame} {meth : Method} {c : Code} {Q : State → Prop} {A : Nat → Prop} {dC : Nat → ClassId} {dI : Nat → Nat → Nat} {kk : Nat → ClassId} {ad : Nat → Nat} {ws : va_W} {G : Nat → Nat → Int32} {P : Nat → Nat → Option Nat} {U : Nat → Nat → Int64} {V : Nat → Nat → Nat → Int32} {X : Nat → Nat → Nat → Int64} {O : Nat → Nat → Nat → Option Nat} {kd : Nat → Nat} {ln : Nat → Nat} {cnt : Nat} {H : Heap} {locs : List Loc} {ls : Array Slot} (this : Nat) (p0 : Int32) (hk_this : kd this = 6) (r : Int32) (hr : f_X5_isKept G P U V X O kd ln cnt this p0 = some r) (hx : p.tables.exec = Jvm.exec) (hb : c.code = cX5_isKept) (hml : c.maxLocals = 2) (hown : s.vm.findClass RX5 = some m.cls) (hts : ∀ w ∈ vmX5_isKept, w.before args s = true) (hA : ∀ q : Nat, s.heap.size ≤ q → A q) (hK : va_K (dC, dI) vwCl (cT kk) s) (hW : LW ws ad kk kd ln G P U V X O) (hT : TYP kd P O (V 0) cnt) (hP : va_P (dC, dI) vwCl ws H) (hD : va_D A ws) (hS : va_S A s.heap H locs) (hl : lv_has ls 2 [(0, .ref (ad this)), (1, .int p0)])
    (K : ∀ (pc : Nat) (ls : Array Slot) (rz : Int32) (ws : va_W) (H : Heap) (locs : List Loc), some rz = some r → is01 rz → decode cX5_isKept pc = .ok (.ireturn, 1) → LW ws ad kk kd ln G P U V X O → TYP kd P O (V 0) cnt → va_P (dC, dI) vwCl ws H → va_D A ws → va_S A s.heap H locs → W p l e ({ frames := 2, cells := 0, slots := 0, locals := 60 } : Room) s m args below meth c H locs 0 0 Q (F0 m pc ls [.int rz])) : W p l e ({ frames := 2, cells := 0, slots := 0, locals := 60 } : Room) s m args below meth c H locs 0 0 Q (F0 m 0 ls []) := by
  unfold f_X5_isKept at hr
  refine lv_iload_n hx hb dX5_isKept_0 rfl (lv_at hl 1 rfl) ?_
  replace hr := jnS hr
  obtain ⟨j24, hj24, hr⟩ := hr
  have Jj24 : ∀ (t24_0 : Int32) (ws : va_W) (H : Heap) (locs : List Loc) (ls : Array Slot), j24 t24_0 = some r → LW ws ad kk kd ln G P U V X O → TYP kd P O (V 0) cnt → va_P (dC, dI) vwCl ws H → va_D A ws → va_S A s.heap H locs → lv_has ls 2 [] → W p l e ({ frames := 2, cells := 0, slots := 0, locals := 60 } : Room) s m args below meth c H locs 0 0 Q (F0 m 24 ls [.int t24_0]) := by
    intro t24_0 ws H locs ls hr hW hT hP hD hS hl
    rw [hj24] at hr
    replace hr := iteS hr
    obtain ⟨hz24, hr⟩ := hr
    exact K 24 ls _ ws H _ hr hz24 dX5_isKept_24 hW hT hP hD hS
  replace hr := jnS hr
  obtain ⟨j23, hj23, hr⟩ := hr
  have Jj23 : ∀ (ws : va_W) (H : Heap) (locs : List Loc) (ls : Array Slot), j23 () = some r → LW ws ad kk kd ln G P U V X O → TYP kd P O (V 0) cnt → va_P (dC, dI) vwCl ws H → va_D A ws → va_S A s.heap H locs → lv_has ls 2 [] → W p l e ({ frames := 2, cells := 0, slots := 0, locals := 60 } : Room) s m args below meth c H locs 0 0 Q (F0 m 23 ls []) := by
    intro ws H locs ls hr hW hT hP hD hS hl
    rw [hj23] at hr
    refine lv_iconst (v := 0) hx hb dX5_isKept_23 (by decide +kernel) ?_
    exact Jj24 0 ws H _ ls hr hW hT hP hD hS (lv_sub hl [] rfl)
  refine lv_if_lt (tgt := 23) hx hb dX5_isKept_1 (by decide) (fun c1 => ?_) (fun c1 => ?_)
  · replace hr := iteT c1 hr
    exact Jj23 ws H _ ls hr hW hT hP hD hS (lv_sub hl [] rfl)
  · replace hr := iteF c1 hr
    refine lv_iload_n hx hb dX5_isKept_4 rfl (lv_at hl 1 rfl) ?_
    refine lv_bipush (v := 40) hx hb dX5_isKept_5 (by decide +kernel) ?_
    refine lv_icmp_ge (tgt := 23) hx hb dX5_isKept_7 (by decide) (fun c7 => ?_) (fun c7 => ?_)
    · replace hr := iteT c7 hr
      exact Jj23 ws H _ ls hr hW hT hP hD hS (lv_sub hl [] rfl)
    · replace hr := iteF c7 hr
      refine lv_aload_n hx hb dX5_isKept_10 rfl (lv_at hl 0 rfl) ?_
      obtain ⟨i1, hi1⟩ := hW.o5 hk_this
      replace hr := nnS hr
      obtain ⟨a11, hn11, hr⟩ := hr
      have hk_a11 : kd a11 = 110 := hT.1 106 _ _ hn11
      refine va_get (D := (dC, dI)) (ci := 5) (v := .ref (ad a11)) (C := RX5) (T := TX5) (N := 11) hx hb hts inX5 hown hK hP i1 hi1 rfl 6 (by decide) (hts (.fieldLink RX5 39 "SpellTurner$Reform" "kept" "[Z") ic_240) (fun _ h9 => h9) (congrArg (fun o => some (va_re ad o)) hn11) dX5_isKept_11 ?_
      refine lv_iload_n hx hb dX5_isKept_14 rfl (lv_at hl 1 rfl) ?_
      obtain ⟨i2, hi2⟩ := hW.v10 hk_a11
      replace hr := iteS hr
      obtain ⟨hi15, hr⟩ := hr
      refine va_zald (f := ((V 10) a11)) hx hb hK hP i2 2 hi2 rfl (inbV hi15) dX5_isKept_15 ?_
      refine lv_if_eq (tgt := 23) hx hb dX5_isKept_16 (by decide) (fun c16 => ?_) (fun c16 => ?_)
      · replace hr := iteT c16 hr
        exact Jj23 ws H _ ls hr hW hT hP hD hS (lv_sub hl [] rfl)
      · replace hr := iteF c16 hr
        refine lv_iconst (v := 1) hx hb dX5_isKept_19 (by decide +kernel) ?_
        refine lv_goto (tgt := 24) hx hb dX5_isKept_20 (by decide) ?_
        exact Jj24 1 ws H _ ls hr hW hT hP hD hS (lv_sub hl [] rfl)
set_option maxHeartbeats 4000000 in
set_option maxRecDepth 100000 in
theorem m_X5_isKept (l : Launch) (dC : Nat → ClassId) (dI : Nat → Nat → Nat) (kk : Nat → ClassId) (ad : Nat → Nat) (sz : Nat) (ws : va_W) (G : Nat → Nat → Int32) (P : Nat → Nat → Option Nat) (U : Nat → Nat → Int64) (V : Nat → Nat → Nat → Int32) (X : Nat → Nat → Nat → Int64) (O : Nat → Nat → Nat → Option Nat) (kd : Nat → Nat) (ln : Nat → Nat) (cnt : Nat) (this : Nat) (p0 : Int32) (hk_this : kd this = 6) (hW : LW ws ad kk kd ln G P U V X O) (hT : TYP kd P O (V 0) cnt) (r : Int32) (hr : f_X5_isKept G P U V X O kd ln cnt this p0 = some r) : Met l yX5_isKept vmX5_isKept ({ frames := 2, cells := 0, slots := 0, locals := 60 } : Room) (va_Pc [.ref (ad this), .int p0] (fun U => U.heap.size = sz ∧ va_P (dC, dI) vwCl ws U.heap ∧ va_K (dC, dI) vwCl (cT kk) U ∧ va_D (fun _ => True) ws)) (va_Qi (fun (rz : Int32) (w : va_W) => rz = r ∧ LW w ad kk kd ln G P U V X O ∧ TYP kd P O (V 0) cnt) (fun w t => va_P (dC, dI) vwCl w t.heap ∧ va_K (dC, dI) vwCl (cT kk) t ∧ va_D (va_A ws sz) w) (va_A ws sz)) 0 0 (va_A ws sz) := by
  refine Met.ofW (cc := cX5_isKept) (maxL := 2) (ret := (some .boolean)) (by decide) rfl ?_
  intro p e s m args below meth c s₁ B hml hv
  obtain ⟨rfl, hsz, hP, hK, hD0⟩ := hv
  have hx := B.exec
  have hb := B.bytes
  have hrt := B.returns
  have hts := atoms_spec (ws := vmX5_isKept) B.pre
  have hown : s.vm.findClass RX5 = some m.cls := findClass_of_methodNamed B.named
  subst hsz
  have hD := hD0.self (sz := s.heap.size)
  generalize hAe : va_A ws s.heap.size = A at hD ⊢
  have hA : ∀ q : Nat, s.heap.size ≤ q → A q := fun q h => by rw [← hAe]; exact Or.inr h
  have hS : va_S A s.heap s.heap [] := va_S.rf
  have hl := lv_entry ([.ref (ad this), .int p0]) (n := 2) (Nat.le_of_ble_eq_true rfl)
  rw [lg_entry_eq]
  generalize (lg_sl ([.ref (ad this), .int p0]) ++ List.replicate (2 - (lg_sl ([.ref (ad this), .int p0])).length) Slot.unset).toArray = ls at hl ⊢
  exact bm_X5_isKept this p0 hk_this r hr hx hb hml hown hts hA hK hW hT hP hD hS hl (fun pc ls rz ws H locs he hz hd hW hT hP hD hS => by cases he; exact W.zret (v := r) hx hb hrt (z_nb hz) (fun t ht hW9 => ⟨⟨r, ws, rfl, ⟨rfl, hW, hT⟩, by rw [ht]; exact hP, va_K.moved hW9.alike hK, hD⟩, hS.F ht⟩) hS.2.2 hd)
set_option maxHeartbeats 4000000 in
set_option maxRecDepth 100000 in
theorem bm_X11_partings {p : Program} {l : Launch} {e : Env} {s : State} {m : MethodId} {args : Array Value} {below : List Frame} {meth : Method} {c : Code} {Q : State → Prop} {A : Nat → Prop} {dC : Nat → ClassId} {dI : Nat → Nat → Nat} {kk : Nat → ClassId} {ad : Nat → Nat} {ws : va_W} {G : Nat → Nat → Int32} {P : Nat → Nat → Option Nat} {U : Nat → Nat → Int64} {V : Nat → Nat → Nat → Int32} {X : Nat → Nat → Nat → Int64} {O : Nat → Nat → Nat → Option Nat} {kd : Nat → Nat} {ln : Nat → Nat} {cnt : Nat} {H : Heap} {locs : List Loc} {ls : Array Slot} (this : Nat) (p0 : Int32) (hk_this : kd this = 12) (r : Int32) (c_G60 : Nat → Int32) (c_G141 : Nat → Int32) (c_P66 : Nat → Option Nat) (c_V0 : Nat → Nat → Int32) (c_V2 : Nat → Nat → Int32) (c_V12 : Nat → Nat → Int32) (hr : f_X11_partings G P U V X O kd ln cnt this p0 = some (r, c_G60, c_G141, c_P66, c_V0, c_V2, c_V12)) (hx : p.tables.exec = Jvm.exec) (hb : c.code = cX11_partings) (hml : c.maxLocals = 5) (hown : s.vm.findClass RX11 = some m.cls) (hts : ∀ w ∈ vmX11_partings, w.before args s = true) (hA : ∀ q : Nat, s.heap.size ≤ q → A q) (hK : va_K (dC, dI) vwCl (cT kk) s) (hW : LW ws ad kk kd ln G P U V X O) (hT : TYP kd P O (V 0) cnt) (hP : va_P (dC, dI) vwCl ws H) (hD : va_D A ws) (hS : va_S A s.heap H locs) (hl : lv_has ls 5 [(0, .ref (ad this)), (1, .int p0)])
    (K : ∀ (pc : Nat) (ls : Array Slot) (rz : Int32) (c_G60z : Nat → Int32) (c_G141z : Nat → Int32) (c_P66z : Nat → Option Nat) (c_V0z : Nat → Nat → Int32) (c_V2z : Nat → Nat → Int32) (c_V12z : Nat → Nat → Int32) (ws : va_W) (H : Heap) (locs : List Loc), some (rz, c_G60z, c_G141z, c_P66z, c_V0z, c_V2z, c_V12z) = some (r, c_G60, c_G141, c_P66, c_V0, c_V2, c_V12) → decode cX11_partings pc = .ok (.ireturn, 1) → LW ws ad kk kd ln (va_up (va_up G 60 c_G60z) 141 c_G141z) (va_up P 66 c_P66z) U (va_up (va_up (va_up V 0 c_V0z) 2 c_V2z) 12 c_V12z) X O → TYP kd (va_up P 66 c_P66z) O c_V0z cnt → va_P (dC, dI) vwCl ws H → va_D A ws → va_S A s.heap H locs → W p l e ({ frames := 46, cells := 0, slots := 0, locals := 1191 } : Room) s m args below meth c H locs 0 0 Q (F0 m pc ls [.int rz])) : W p l e ({ frames := 46, cells := 0, slots := 0, locals := 1191 } : Room) s m args below meth c H locs 0 0 Q (F0 m 0 ls []) := by
  unfold f_X11_partings at hr
  refine lv_aload_n hx hb dX11_partings_0 rfl (lv_at hl 0 rfl) ?_
  obtain ⟨i1, hi1⟩ := hW.o11 hk_this
  replace hr := nnS hr
  obtain ⟨a1, hn1, hr⟩ := hr
  have hk_a1 : kd a1 = 8 := hT.1 220 _ _ hn1
  refine va_get (D := (dC, dI)) (ci := 11) (v := .ref (ad a1)) (C := RX11) (T := TX11) (N := 17) hx hb hts inX11 hown hK hP i1 hi1 rfl 0 (by decide) (hts (.fieldLink RX11 12 "SpellTurner" "tape" "LSpellTurner$Tape;") ic_48) (fun _ h9 => h9) (congrArg (fun o => some (va_re ad o)) hn1) dX11_partings_1 ?_
  replace hr := b2S hr
  obtain ⟨r4z, c4_G141, hc4, hr⟩ := hr
  have hFc := fr_all hD hS hA
  obtain ⟨i2, hi2⟩ := hW.o7 hk_a1
  refine va_calli (va_runV (As := []) (rest := []) ⟨hx, hb, hml, hown, hts⟩ (m_X7_take l dC dI kk ad H.size ws G P U V X O kd ln cnt a1 hk_a1 hW hT r4z c4_G141 hc4) (cwV 0 hts gc_RX11_X7_take_112 rfl rfl rfl (by decide +kernel) ⟨Nat.le_of_ble_eq_true rfl, Nat.le_of_ble_eq_true rfl⟩) ⟨fun a U g mk q => by obtain ⟨q0, q1, qP, qK, qD⟩ := q; exact ⟨q0, q1, qP, va_K.moved (u := U) (U := U.calling g mk a) (Vm.Alike.refl U.vm) qK, qD⟩, va_recv hK hP (ci := 7) (q0 := i2) rfl hi2, fun U hU hW => ⟨rfl, by rw [hU], by rw [hU]; exact hP, va_K.moved hW.alike hK, hD.weaken (fun _ _ _ _ => trivial)⟩⟩ rfl rfl hl.1 rfl (lv_room (Nat.le_of_ble_eq_true rfl)) dX11_partings_4 ⟨Nat.le_of_ble_eq_true rfl, Nat.le_of_ble_eq_true rfl⟩) hS (fun q _ h => hFc q h) hFc (fun r4 w3 t H1 locs ht hvm hw hB hz1 hk1 hS => ?_)
  obtain ⟨hw0, hW, hT⟩ := hw
  replace hw0 : r4 = r4z := hw0
  subst hw0
  obtain ⟨hP1, hK1, hD1⟩ := hB
  rw [ht] at hP1
  obtain ⟨hP, hD⟩ := jn_all (w1 := w3) hFc hP1 hD1
  replace hP : va_P (dC, dI) vwCl w3 H1 := hP
  replace hD : va_D A w3 := hD
  clear hFc hP1 hK1 hD1 hk1 hz1 ht hvm
  generalize H1 = H at hP hS ⊢
  refine lv_istore_n (lv' := [(2, .int r4), (0, .ref (ad this)), (1, .int p0)]) hx hb dX11_partings_7 rfl hl (by decide) rfl (fun ls hl => ?_)
  refine lv_aload_n hx hb dX11_partings_8 rfl (lv_at hl 1 rfl) ?_
  refine lv_iload_n hx hb dX11_partings_9 rfl (lv_at hl 2 rfl) ?_
  replace hr := b1S hr
  obtain ⟨r10z, hc10, hr⟩ := hr
  have hFc := fr_all hD hS hA
  obtain ⟨i4, hi4⟩ := hW.o11 hk_this
  refine va_calle (va_runV (As := [.int p0]) (rest := []) ⟨hx, hb, hml, hown, hts⟩ (m_X11_reformAt l dC dI kk ad H.size w3 (va_up G 141 c4_G141) P U V X O kd ln cnt this p0 hk_this hW hT r10z hc10) (cwV 1 hts gc_RX11_X11_reformAt_138 rfl rfl rfl (by decide +kernel) ⟨Nat.le_of_ble_eq_true rfl, Nat.le_of_ble_eq_true rfl⟩) ⟨fun a U g mk q => by obtain ⟨q0, q1, qP, qK, qD⟩ := q; exact ⟨q0, q1, qP, va_K.moved (u := U) (U := U.calling g mk a) (Vm.Alike.refl U.vm) qK, qD⟩, va_recv hK hP (ci := 11) (q0 := i4) rfl hi4, fun U hU hW => ⟨rfl, by rw [hU], by rw [hU]; exact hP, va_K.moved hW.alike hK, hD.weaken (fun _ _ _ _ => trivial)⟩⟩ rfl rfl hl.1 rfl (lv_room (Nat.le_of_ble_eq_true rfl)) dX11_partings_10 ⟨Nat.le_of_ble_eq_true rfl, Nat.le_of_ble_eq_true rfl⟩) hS (fun q _ h => hFc q h) hFc (fun r10 w5 t H1 locs ht hvm hw hB hz1 hk1 hS => ?_)
  obtain ⟨hw0, hW, hT, hkr10⟩ := hw
  replace hw0 : r10 = r10z := hw0
  subst hw0
  obtain ⟨hP1, hK1, hD1⟩ := hB
  rw [ht] at hP1
  obtain ⟨hP, hD⟩ := jn_all (w1 := w5) hFc hP1 hD1
  replace hP : va_P (dC, dI) vwCl w5 H1 := hP
  replace hD : va_D A w5 := hD
  clear hFc hP1 hK1 hD1 hk1 hz1 ht hvm
  generalize H1 = H at hP hS ⊢
  refine lq_astore_n (lv' := [(3, va_re ad r10), (2, .int r4), (0, .ref (ad this)), (1, .int p0)]) hx hb dX11_partings_13 rfl hl (by decide) rfl (fun ls hl => ?_)
  refine lq_aload_n hx hb dX11_partings_14 rfl (lv_at hl 0 rfl) ?_
  replace hr := jnS hr
  obtain ⟨j29, hj29, hr⟩ := hr
  have Jj29 : ∀ (ws : va_W) (H : Heap) (locs : List Loc) (ls : Array Slot), j29 () = some (r, c_G60, c_G141, c_P66, c_V0, c_V2, c_V12) → LW ws ad kk kd ln (va_up G 141 c4_G141) P U V X O → TYP kd P O (V 0) cnt → va_P (dC, dI) vwCl ws H → va_D A ws → va_S A s.heap H locs → lv_has ls 5 [] → W p l e ({ frames := 46, cells := 0, slots := 0, locals := 1191 } : Room) s m args below meth c H locs 0 0 Q (F0 m 29 ls []) := by
    intro ws H locs ls hr hW hT hP hD hS hl
    rw [hj29] at hr
    refine lv_bipush (v := (-2)) hx hb dX11_partings_29 (by decide +kernel) ?_
    have eG : (va_up G 141 c4_G141) = (va_up (va_up G 60 (G 60)) 141 c4_G141) := by
      funext k
      by_cases h60 : k = 60
      · subst h60; rfl
      by_cases h141 : k = 141
      · subst h141; rfl
      · simp only [va_up, h60, h141, if_false]
    rw [eG] at hW
    clear eG
    have eP : P = (va_up P 66 (P 66)) := by
      funext k
      by_cases h66 : k = 66
      · subst h66; rfl
      · simp only [va_up, h66, if_false]
    rw [eP] at hW
    rw [eP] at hT
    clear eP
    have eV : V = (va_up (va_up (va_up V 0 (V 0)) 2 (V 2)) 12 (V 12)) := by
      funext k
      by_cases h0 : k = 0
      · subst h0; rfl
      by_cases h2 : k = 2
      · subst h2; rfl
      by_cases h12 : k = 12
      · subst h12; rfl
      · simp only [va_up, h0, h2, h12, if_false]
    rw [eV] at hW
    clear eV
    exact K 31 ls _ _ _ _ _ _ _ ws H _ hr dX11_partings_31 hW hT hP hD hS
  refine lq_ifnull (tgt := 29) hx hb dX11_partings_15 (by decide) (fun c15 => ?_) (fun b15 c15 => ?_)
  · subst c15
    replace hr := ocN hr
    replace hl : lv_has ls 5 [(3, .null), (2, .int r4), (0, .ref (ad this)), (1, .int p0)] := hl
    exact Jj29 w5 H _ ls hr hW hT hP hD hS (lv_sub hl [] rfl)
  · subst c15
    replace hr := ocS hr
    replace hl : lv_has ls 5 [(3, .ref (ad b15)), (2, .int r4), (0, .ref (ad this)), (1, .int p0)] := hl
    have hk_b15 := hkr10 b15 rfl
    refine lv_aload_n hx hb dX11_partings_18 rfl (lv_at hl 2 rfl) ?_
    obtain ⟨i6, hi6⟩ := hW.o11 hk_this
    replace hr := nnS hr
    obtain ⟨a19, hn19, hr⟩ := hr
    have hk_a19 : kd a19 = 8 := hT.1 220 _ _ hn19
    refine va_get (D := (dC, dI)) (ci := 11) (v := .ref (ad a19)) (C := RX11) (T := TX11) (N := 17) hx hb hts inX11 hown hK hP i6 hi6 rfl 0 (by decide) (hts (.fieldLink RX11 12 "SpellTurner" "tape" "LSpellTurner$Tape;") ic_48) (fun _ h9 => h9) (congrArg (fun o => some (va_re ad o)) hn19) dX11_partings_19 ?_
    refine lv_iload_n hx hb dX11_partings_22 rfl (lv_at hl 1 rfl) ?_
    replace hr := b1S hr
    obtain ⟨r23z, hc23, hr⟩ := hr
    have hFc := fr_all hD hS hA
    obtain ⟨i7, hi7⟩ := hW.o7 hk_a19
    refine va_calli (va_runV (As := [.int r4]) (rest := []) ⟨hx, hb, hml, hown, hts⟩ (m_X7_isWord l dC dI kk ad H.size w5 (va_up G 141 c4_G141) P U V X O kd ln cnt a19 r4 hk_a19 hW hT r23z hc23) (cwV 1 hts gc_RX11_X7_isWord_164 rfl rfl rfl (by decide +kernel) ⟨Nat.le_of_ble_eq_true rfl, Nat.le_of_ble_eq_true rfl⟩) ⟨fun a U g mk q => by obtain ⟨q0, q1, qP, qK, qD⟩ := q; exact ⟨q0, q1, qP, va_K.moved (u := U) (U := U.calling g mk a) (Vm.Alike.refl U.vm) qK, qD⟩, va_recv hK hP (ci := 7) (q0 := i7) rfl hi7, fun U hU hW => ⟨rfl, by rw [hU], by rw [hU]; exact hP, va_K.moved hW.alike hK, hD.weaken (fun _ _ _ _ => trivial)⟩⟩ rfl rfl hl.1 rfl (lv_room (Nat.le_of_ble_eq_true rfl)) dX11_partings_23 ⟨Nat.le_of_ble_eq_true rfl, Nat.le_of_ble_eq_true rfl⟩) hS (fun q _ h => hFc q h) hFc (fun r23 w8 t H1 locs ht hvm hw hB hz1 hk1 hS => ?_)
    obtain ⟨hw0, hW, hT⟩ := hw
    replace hw0 : r23 = r23z := hw0
    subst hw0
    obtain ⟨hP1, hK1, hD1⟩ := hB
    rw [ht] at hP1
    obtain ⟨hP, hD⟩ := jn_all (w1 := w8) hFc hP1 hD1
    replace hP : va_P (dC, dI) vwCl w8 H1 := hP
    replace hD : va_D A w8 := hD
    clear hFc hP1 hK1 hD1 hk1 hz1 ht hvm
    generalize H1 = H at hP hS ⊢
    refine lv_if_ne (tgt := 32) hx hb dX11_partings_26 (by decide) (fun c26 => ?_) (fun c26 => ?_)
    · replace hr := iteF c26 hr
      refine lv_aload_n hx hb dX11_partings_32 rfl (lv_at hl 0 rfl) ?_
      obtain ⟨i9, hi9⟩ := hW.o5 hk_b15
      replace hr := nnS hr
      obtain ⟨a33, hn33, hr⟩ := hr
      have hk_a33 : kd a33 = 11 := hT.1 104 _ _ hn33
      refine va_get (D := (dC, dI)) (ci := 5) (v := .ref (ad a33)) (C := RX5) (T := TX5) (N := 11) hx hb hts inX5 hown hK hP i9 hi9 rfl 4 (by decide) (hts (.fieldLink RX11 157 "SpellTurner$Reform" "entries" "LSpellTurner$WordRow;") ic_69) (fun _ h9 => h9) (congrArg (fun o => some (va_re ad o)) hn33) dX11_partings_33 ?_
      refine lv_aload_n hx hb dX11_partings_36 rfl (lv_at hl 2 rfl) ?_
      obtain ⟨i10, hi10⟩ := hW.o11 hk_this
      replace hr := nnS hr
      obtain ⟨a37, hn37, hr⟩ := hr
      have hk_a37 : kd a37 = 8 := hT.1 220 _ _ hn37
      refine va_get (D := (dC, dI)) (ci := 11) (v := .ref (ad a37)) (C := RX11) (T := TX11) (N := 17) hx hb hts inX11 hown hK hP i10 hi10 rfl 0 (by decide) (hts (.fieldLink RX11 12 "SpellTurner" "tape" "LSpellTurner$Tape;") ic_48) (fun _ h9 => h9) (congrArg (fun o => some (va_re ad o)) hn37) dX11_partings_37 ?_
      obtain ⟨i11, hi11⟩ := hW.o7 hk_a37
      replace hr := nnS hr
      obtain ⟨a40, hn40, hr⟩ := hr
      have hk_a40 : kd a40 = 100 := hT.1 140 _ _ hn40
      refine va_get (D := (dC, dI)) (ci := 7) (v := .ref (ad a40)) (C := RX7) (T := TX7) (N := 2) hx hb hts inX7 hown hK hP i11 hi11 rfl 0 (by decide) (hts (.fieldLink RX11 120 "SpellTurner$Tape" "bytes" "[B") ic_107) (fun _ h9 => h9) (congrArg (fun o => some (va_re ad o)) hn40) dX11_partings_40 ?_
      refine lv_iconst (v := 0) hx hb dX11_partings_43 (by decide +kernel) ?_
      refine lv_iload_n hx hb dX11_partings_44 rfl (lv_at hl 1 rfl) ?_
      replace hr := b1S hr
      obtain ⟨r45z, hc45, hr⟩ := hr
      have hFc := fr_all hD hS hA
      obtain ⟨i12, hi12⟩ := hW.o10 hk_a33
      refine va_calli (va_runV (As := [.ref (ad a40), .int 0, .int r4]) (rest := []) ⟨hx, hb, hml, hown, hts⟩ (m_X10_find l dC dI kk ad H.size w8 (va_up G 141 c4_G141) P U V X O kd ln cnt a33 a40 0 r4 hk_a33 hk_a40 hW hT r45z hc45) (cwV 3 hts gc_RX11_X10_find_180 rfl rfl rfl (by decide +kernel) ⟨Nat.le_of_ble_eq_true rfl, Nat.le_of_ble_eq_true rfl⟩) ⟨fun a U g mk q => by obtain ⟨q0, q1, qP, qK, qD⟩ := q; exact ⟨q0, q1, qP, va_K.moved (u := U) (U := U.calling g mk a) (Vm.Alike.refl U.vm) qK, qD⟩, va_recv hK hP (ci := 10) (q0 := i12) rfl hi12, fun U hU hW => ⟨rfl, by rw [hU], by rw [hU]; exact hP, va_K.moved hW.alike hK, hD.weaken (fun _ _ _ _ => trivial)⟩⟩ rfl rfl hl.1 rfl (lv_room (Nat.le_of_ble_eq_true rfl)) dX11_partings_45 ⟨Nat.le_of_ble_eq_true rfl, Nat.le_of_ble_eq_true rfl⟩) hS (fun q _ h => hFc q h) hFc (fun r45 w13 t H1 locs ht hvm hw hB hz1 hk1 hS => ?_)
      obtain ⟨hw0, hW, hT⟩ := hw
      replace hw0 : r45 = r45z := hw0
      subst hw0
      obtain ⟨hP1, hK1, hD1⟩ := hB
      rw [ht] at hP1
      obtain ⟨hP, hD⟩ := jn_all (w1 := w13) hFc hP1 hD1
      replace hP : va_P (dC, dI) vwCl w13 H1 := hP
      replace hD : va_D A w13 := hD
      clear hFc hP1 hK1 hD1 hk1 hz1 ht hvm
      generalize H1 = H at hP hS ⊢
      refine lv_istore (lv' := [(4, .int r45), (3, .ref (ad b15)), (2, .int r4), (0, .ref (ad this)), (1, .int p0)]) hx hb dX11_partings_48 hl (by decide) rfl (fun ls hl => ?_)
      refine lv_iload hx hb dX11_partings_50 (lv_at hl 0 rfl) ?_
      refine lv_iconst (v := (-1)) hx hb dX11_partings_52 (by decide +kernel) ?_
      refine lv_icmp_eq (tgt := 73) hx hb dX11_partings_53 (by decide) (fun c53 => ?_) (fun c53 => ?_)
      · replace hr := iteT c53 hr
        refine lv_aload_n hx hb dX11_partings_73 rfl (lv_at hl 3 rfl) ?_
        obtain ⟨i14, hi14⟩ := hW.o11 hk_this
        replace hr := nnS hr
        obtain ⟨a74, hn74, hr⟩ := hr
        have hk_a74 : kd a74 = 4 := hT.1 228 _ _ hn74
        refine va_get (D := (dC, dI)) (ci := 11) (v := .ref (ad a74)) (C := RX11) (T := TX11) (N := 17) hx hb hts inX11 hown hK hP i14 hi14 rfl 8 (by decide) (hts (.fieldLink RX11 60 "SpellTurner" "latestPartings" "LSpellTurner$Partings;") ic_173) (fun _ h9 => h9) (congrArg (fun o => some (va_re ad o)) hn74) dX11_partings_74 ?_
        refine lv_aload_n hx hb dX11_partings_77 rfl (lv_at hl 1 rfl) ?_
        obtain ⟨i15, hi15⟩ := hW.o5 hk_b15
        replace hr := nnS hr
        obtain ⟨a78, hn78, hr⟩ := hr
        have hk_a78 : kd a78 = 11 := hT.1 103 _ _ hn78
        refine va_get (D := (dC, dI)) (ci := 5) (v := .ref (ad a78)) (C := RX5) (T := TX5) (N := 11) hx hb hts inX5 hown hK hP i15 hi15 rfl 3 (by decide) (hts (.fieldLink RX11 148 "SpellTurner$Reform" "parts" "LSpellTurner$WordRow;") ic_66) (fun _ h9 => h9) (congrArg (fun o => some (va_re ad o)) hn78) dX11_partings_78 ?_
        refine lv_aload_n hx hb dX11_partings_81 rfl (lv_at hl 3 rfl) ?_
        obtain ⟨i16, hi16⟩ := hW.o11 hk_this
        replace hr := nnS hr
        obtain ⟨a82, hn82, hr⟩ := hr
        have hk_a82 : kd a82 = 8 := hT.1 220 _ _ hn82
        refine va_get (D := (dC, dI)) (ci := 11) (v := .ref (ad a82)) (C := RX11) (T := TX11) (N := 17) hx hb hts inX11 hown hK hP i16 hi16 rfl 0 (by decide) (hts (.fieldLink RX11 12 "SpellTurner" "tape" "LSpellTurner$Tape;") ic_48) (fun _ h9 => h9) (congrArg (fun o => some (va_re ad o)) hn82) dX11_partings_82 ?_
        obtain ⟨i17, hi17⟩ := hW.o7 hk_a82
        replace hr := nnS hr
        obtain ⟨a85, hn85, hr⟩ := hr
        have hk_a85 : kd a85 = 100 := hT.1 140 _ _ hn85
        refine va_get (D := (dC, dI)) (ci := 7) (v := .ref (ad a85)) (C := RX7) (T := TX7) (N := 2) hx hb hts inX7 hown hK hP i17 hi17 rfl 0 (by decide) (hts (.fieldLink RX11 120 "SpellTurner$Tape" "bytes" "[B") ic_107) (fun _ h9 => h9) (congrArg (fun o => some (va_re ad o)) hn85) dX11_partings_85 ?_
        refine lv_iconst (v := 0) hx hb dX11_partings_88 (by decide +kernel) ?_
        refine lv_iload_n hx hb dX11_partings_89 rfl (lv_at hl 2 rfl) ?_
        replace hr := b5S hr
        obtain ⟨c90_G60, c90_P66, c90_V0, c90_V2, c90_V12, hc90, hr⟩ := hr
        have hFc := fr_all hD hS hA
        obtain ⟨i18, hi18⟩ := hW.o3 hk_a74
        refine va_callv (va_runV (As := [.ref (ad a78), .ref (ad a85), .int 0, .int r4]) (rest := []) ⟨hx, hb, hml, hown, hts⟩ (m_X3_find l dC dI kk ad H.size w13 (va_up G 141 c4_G141) P U V X O kd ln cnt a74 a78 a85 0 r4 hk_a74 hk_a78 hk_a85 hW hT c90_G60 c90_P66 c90_V0 c90_V2 c90_V12 hc90) (cwV 4 hts gc_RX11_X3_find_187 rfl rfl rfl (by decide +kernel) ⟨Nat.le_of_ble_eq_true rfl, Nat.le_of_ble_eq_true rfl⟩) ⟨fun a U g mk q => by obtain ⟨q0, q1, qP, qK, qD⟩ := q; exact ⟨q0, q1, qP, va_K.moved (u := U) (U := U.calling g mk a) (Vm.Alike.refl U.vm) qK, qD⟩, va_recv hK hP (ci := 3) (q0 := i18) rfl hi18, fun U hU hW => ⟨rfl, by rw [hU], by rw [hU]; exact hP, va_K.moved hW.alike hK, hD.weaken (fun _ _ _ _ => trivial)⟩⟩ rfl rfl hl.1 rfl (lv_room (Nat.le_of_ble_eq_true rfl)) dX11_partings_90 ⟨Nat.le_of_ble_eq_true rfl, Nat.le_of_ble_eq_true rfl⟩) hS (fun q _ h => hFc q h) hFc (fun w19 t H1 locs ht hvm hw hB hz1 hk1 hS => ?_)
        obtain ⟨hW, hT⟩ := hw
        obtain ⟨hP1, hK1, hD1⟩ := hB
        rw [ht] at hP1
        obtain ⟨hP, hD⟩ := jn_all (w1 := w19) hFc hP1 hD1
        replace hP : va_P (dC, dI) vwCl w19 H1 := hP
        replace hD : va_D A w19 := hD
        clear hFc hP1 hK1 hD1 hk1 hz1 ht hvm
        generalize H1 = H at hP hS ⊢
        refine lv_aload_n hx hb dX11_partings_93 rfl (lv_at hl 3 rfl) ?_
        obtain ⟨i20, hi20⟩ := hW.o11 hk_this
        replace hr := nnS hr
        obtain ⟨a94, hn94, hr⟩ := hr
        have hk_a94 : kd a94 = 4 := hT.1 228 _ _ hn94
        refine va_get (D := (dC, dI)) (ci := 11) (v := .ref (ad a94)) (C := RX11) (T := TX11) (N := 17) hx hb hts inX11 hown hK hP i20 hi20 rfl 8 (by decide) (hts (.fieldLink RX11 60 "SpellTurner" "latestPartings" "LSpellTurner$Partings;") ic_173) (fun _ h9 => h9) (congrArg (fun o => some (va_re ad o)) hn94) dX11_partings_94 ?_
        obtain ⟨i21, hi21⟩ := hW.o3 hk_a94
        refine va_get (D := (dC, dI)) (ci := 3) (v := .int (c90_G60 a94)) (C := RX3) (T := TX3) (N := 7) hx hb hts inX3 hown hK hP i21 hi21 rfl 0 (by decide) (hts (.fieldLink RX11 190 "SpellTurner$Partings" "count" "I") ic_174) (fun _ h9 => h9) rfl dX11_partings_97 ?_
        have eG : (va_up (va_up G 141 c4_G141) 60 c90_G60) = (va_up (va_up G 60 c90_G60) 141 c4_G141) := by
          funext k
          by_cases h60 : k = 60
          · subst h60; rfl
          by_cases h141 : k = 141
          · subst h141; rfl
          · simp only [va_up, h60, h141, if_false]
        rw [eG] at hW
        clear eG
        exact K 100 ls _ _ _ _ _ _ _ w19 H _ hr dX11_partings_100 hW hT hP hD hS
      · replace hr := iteF c53 hr
        refine lv_aload_n hx hb dX11_partings_56 rfl (lv_at hl 1 rfl) ?_
        refine lv_iload hx hb dX11_partings_57 (lv_at hl 0 rfl) ?_
        replace hr := b1S hr
        obtain ⟨r59z, hc59, hr⟩ := hr
        have hFc := fr_all hD hS hA
        obtain ⟨i22, hi22⟩ := hW.o5 hk_b15
        refine va_calli (va_runV (As := [.int r45]) (rest := []) ⟨hx, hb, hml, hown, hts⟩ (m_X5_isKept l dC dI kk ad H.size w13 (va_up G 141 c4_G141) P U V X O kd ln cnt b15 r45 hk_b15 hW hT r59z hc59) (cwV 1 hts gc_RX11_X5_isKept_184 rfl rfl rfl (by decide +kernel) ⟨Nat.le_of_ble_eq_true rfl, Nat.le_of_ble_eq_true rfl⟩) ⟨fun a U g mk q => by obtain ⟨q0, q1, qP, qK, qD⟩ := q; exact ⟨q0, q1, qP, va_K.moved (u := U) (U := U.calling g mk a) (Vm.Alike.refl U.vm) qK, qD⟩, va_recv hK hP (ci := 5) (q0 := i22) rfl hi22, fun U hU hW => ⟨rfl, by rw [hU], by rw [hU]; exact hP, va_K.moved hW.alike hK, hD.weaken (fun _ _ _ _ => trivial)⟩⟩ rfl rfl hl.1 rfl (lv_room (Nat.le_of_ble_eq_true rfl)) dX11_partings_59 ⟨Nat.le_of_ble_eq_true rfl, Nat.le_of_ble_eq_true rfl⟩) hS (fun q _ h => hFc q h) hFc (fun r59 w23 t H1 locs ht hvm hw hB hz1 hk1 hS => ?_)
        obtain ⟨hw0, hW, hT⟩ := hw
        replace hw0 : r59 = r59z := hw0
        subst hw0
        obtain ⟨hP1, hK1, hD1⟩ := hB
        rw [ht] at hP1
        obtain ⟨hP, hD⟩ := jn_all (w1 := w23) hFc hP1 hD1
        replace hP : va_P (dC, dI) vwCl w23 H1 := hP
        replace hD : va_D A w23 := hD
        clear hFc hP1 hK1 hD1 hk1 hz1 ht hvm
        generalize H1 = H at hP hS ⊢
        replace hr := jnS hr
        obtain ⟨j72, hj72, hr⟩ := hr
        have Jj72 : ∀ (t72_0 : Int32) (ws : va_W) (H : Heap) (locs : List Loc) (ls : Array Slot), j72 t72_0 = some (r, c_G60, c_G141, c_P66, c_V0, c_V2, c_V12) → LW ws ad kk kd ln (va_up G 141 c4_G141) P U V X O → TYP kd P O (V 0) cnt → va_P (dC, dI) vwCl ws H → va_D A ws → va_S A s.heap H locs → lv_has ls 5 [] → W p l e ({ frames := 46, cells := 0, slots := 0, locals := 1191 } : Room) s m args below meth c H locs 0 0 Q (F0 m 72 ls [.int t72_0]) := by
          intro t72_0 ws H locs ls hr hW hT hP hD hS hl
          rw [hj72] at hr
          have eG : (va_up G 141 c4_G141) = (va_up (va_up G 60 (G 60)) 141 c4_G141) := by
            funext k
            by_cases h60 : k = 60
            · subst h60; rfl
            by_cases h141 : k = 141
            · subst h141; rfl
            · simp only [va_up, h60, h141, if_false]
          rw [eG] at hW
          clear eG
          have eP : P = (va_up P 66 (P 66)) := by
            funext k
            by_cases h66 : k = 66
            · subst h66; rfl
            · simp only [va_up, h66, if_false]
          rw [eP] at hW
          rw [eP] at hT
          clear eP
          have eV : V = (va_up (va_up (va_up V 0 (V 0)) 2 (V 2)) 12 (V 12)) := by
            funext k
            by_cases h0 : k = 0
            · subst h0; rfl
            by_cases h2 : k = 2
            · subst h2; rfl
            by_cases h12 : k = 12
            · subst h12; rfl
            · simp only [va_up, h0, h2, h12, if_false]
          rw [eV] at hW
          clear eV
          exact K 72 ls _ _ _ _ _ _ _ ws H _ hr dX11_partings_72 hW hT hP hD hS
        refine lv_if_eq (tgt := 70) hx hb dX11_partings_62 (by decide) (fun c62 => ?_) (fun c62 => ?_)
        · replace hr := iteT c62 hr
          refine lv_bipush (v := (-11)) hx hb dX11_partings_70 (by decide +kernel) ?_
          exact Jj72 (-11) w23 H _ ls hr hW hT hP hD hS (lv_sub hl [] rfl)
        · replace hr := iteF c62 hr
          refine lv_bipush (v := (-10)) hx hb dX11_partings_65 (by decide +kernel) ?_
          refine lv_goto (tgt := 72) hx hb dX11_partings_67 (by decide) ?_
          exact Jj72 (-10) w23 H _ ls hr hW hT hP hD hS (lv_sub hl [] rfl)
    · replace hr := iteT c26 hr
      exact Jj29 w8 H _ ls hr hW hT hP hD hS (lv_sub hl [] rfl)
set_option maxHeartbeats 4000000 in
set_option maxRecDepth 100000 in
theorem m_X11_partings (l : Launch) (dC : Nat → ClassId) (dI : Nat → Nat → Nat) (kk : Nat → ClassId) (ad : Nat → Nat) (sz : Nat) (ws : va_W) (G : Nat → Nat → Int32) (P : Nat → Nat → Option Nat) (U : Nat → Nat → Int64) (V : Nat → Nat → Nat → Int32) (X : Nat → Nat → Nat → Int64) (O : Nat → Nat → Nat → Option Nat) (kd : Nat → Nat) (ln : Nat → Nat) (cnt : Nat) (this : Nat) (p0 : Int32) (hk_this : kd this = 12) (hW : LW ws ad kk kd ln G P U V X O) (hT : TYP kd P O (V 0) cnt) (r : Int32) (c_G60 : Nat → Int32) (c_G141 : Nat → Int32) (c_P66 : Nat → Option Nat) (c_V0 : Nat → Nat → Int32) (c_V2 : Nat → Nat → Int32) (c_V12 : Nat → Nat → Int32) (hr : f_X11_partings G P U V X O kd ln cnt this p0 = some (r, c_G60, c_G141, c_P66, c_V0, c_V2, c_V12)) : Met l yX11_partings vmX11_partings ({ frames := 46, cells := 0, slots := 0, locals := 1191 } : Room) (va_Pc [.ref (ad this), .int p0] (fun U => U.heap.size = sz ∧ va_P (dC, dI) vwCl ws U.heap ∧ va_K (dC, dI) vwCl (cT kk) U ∧ va_D (fun _ => True) ws)) (va_Qi (fun (rz : Int32) (w : va_W) => rz = r ∧ LW w ad kk kd ln (va_up (va_up G 60 c_G60) 141 c_G141) (va_up P 66 c_P66) U (va_up (va_up (va_up V 0 c_V0) 2 c_V2) 12 c_V12) X O ∧ TYP kd (va_up P 66 c_P66) O c_V0 cnt) (fun w t => va_P (dC, dI) vwCl w t.heap ∧ va_K (dC, dI) vwCl (cT kk) t ∧ va_D (va_A ws sz) w) (va_A ws sz)) 0 0 (va_A ws sz) := by
  refine Met.ofW (cc := cX11_partings) (maxL := 5) (ret := (some .int)) (by decide) rfl ?_
  intro p e s m args below meth c s₁ B hml hv
  obtain ⟨rfl, hsz, hP, hK, hD0⟩ := hv
  have hx := B.exec
  have hb := B.bytes
  have hrt := B.returns
  have hts := atoms_spec (ws := vmX11_partings) B.pre
  have hown : s.vm.findClass RX11 = some m.cls := findClass_of_methodNamed B.named
  subst hsz
  have hD := hD0.self (sz := s.heap.size)
  generalize hAe : va_A ws s.heap.size = A at hD ⊢
  have hA : ∀ q : Nat, s.heap.size ≤ q → A q := fun q h => by rw [← hAe]; exact Or.inr h
  have hS : va_S A s.heap s.heap [] := va_S.rf
  have hl := lv_entry ([.ref (ad this), .int p0]) (n := 5) (Nat.le_of_ble_eq_true rfl)
  rw [lg_entry_eq]
  generalize (lg_sl ([.ref (ad this), .int p0]) ++ List.replicate (5 - (lg_sl ([.ref (ad this), .int p0])).length) Slot.unset).toArray = ls at hl ⊢
  exact bm_X11_partings this p0 hk_this r c_G60 c_G141 c_P66 c_V0 c_V2 c_V12 hr hx hb hml hown hts hA hK hW hT hP hD hS hl (fun pc ls rz c_G60z c_G141z c_P66z c_V0z c_V2z c_V12z ws H locs he hd hW hT hP hD hS => by cases he; exact W.iret (v := r) hx hb hrt (fun t ht hW9 => ⟨⟨r, ws, rfl, ⟨rfl, hW, hT⟩, by rw [ht]; exact hP, va_K.moved hW9.alike hK, hD⟩, hS.F ht⟩) hS.2.2 hd)
set_option maxHeartbeats 4000000 in
set_option maxRecDepth 100000 in
theorem bm_X5_addLaw {p : Program} {l : Launch} {e : Env} {s : State} {m : MethodId} {args : Array Value} {below : List Frame} {meth : Method} {c : Code} {Q : State → Prop} {A : Nat → Prop} {dC : Nat → ClassId} {dI : Nat → Nat → Nat} {kk : Nat → ClassId} {ad : Nat → Nat} {ws : va_W} {G : Nat → Nat → Int32} {P : Nat → Nat → Option Nat} {U : Nat → Nat → Int64} {V : Nat → Nat → Nat → Int32} {X : Nat → Nat → Nat → Int64} {O : Nat → Nat → Nat → Option Nat} {kd : Nat → Nat} {ln : Nat → Nat} {cnt : Nat} {H : Heap} {locs : List Loc} {ls : Array Slot} (this : Nat) (p0 : Nat) (hk_this : kd this = 6) (hk_p0 : kd p0 = 2) (c_G102 : Nat → Int32) (c_O0 : Nat → Nat → Option Nat) (hr : f_X5_addLaw G P U V X O kd ln cnt this p0 = some (c_G102, c_O0)) (hx : p.tables.exec = Jvm.exec) (hb : c.code = cX5_addLaw) (hml : c.maxLocals = 2) (hown : s.vm.findClass RX5 = some m.cls) (hts : ∀ w ∈ vmX5_addLaw, w.before args s = true) (hA : ∀ q : Nat, s.heap.size ≤ q → A q) (hK : va_K (dC, dI) vwCl (cT kk) s) (hW : LW ws ad kk kd ln G P U V X O) (hT : TYP kd P O (V 0) cnt) (hP : va_P (dC, dI) vwCl ws H) (hD : va_D A ws) (hS : va_S A s.heap H locs) (hl : lv_has ls 2 [(0, .ref (ad this)), (1, .ref (ad p0))])
    (K : ∀ (pc : Nat) (ls : Array Slot) (c_G102z : Nat → Int32) (c_O0z : Nat → Nat → Option Nat) (ws : va_W) (H : Heap) (locs : List Loc), some (c_G102z, c_O0z) = some (c_G102, c_O0) → decode cX5_addLaw pc = .ok (.return_, 1) → LW ws ad kk kd ln (va_up G 102 c_G102z) P U V X (va_up O 0 c_O0z) → TYP kd P (va_up O 0 c_O0z) (V 0) cnt → va_P (dC, dI) vwCl ws H → va_D A ws → va_S A s.heap H locs → W p l e ({ frames := 2, cells := 0, slots := 0, locals := 60 } : Room) s m args below meth c H locs 0 0 Q (F0 m pc ls [])) : W p l e ({ frames := 2, cells := 0, slots := 0, locals := 60 } : Room) s m args below meth c H locs 0 0 Q (F0 m 0 ls []) := by
  unfold f_X5_addLaw at hr
  refine lv_aload_n hx hb dX5_addLaw_0 rfl (lv_at hl 0 rfl) ?_
  obtain ⟨i1, hi1⟩ := hW.o5 hk_this
  refine va_get (D := (dC, dI)) (ci := 5) (v := .int ((G 102) this)) (C := RX5) (T := TX5) (N := 11) hx hb hts inX5 hown hK hP i1 hi1 rfl 2 (by decide) (hts (.fieldLink RX5 21 "SpellTurner$Reform" "lawCount" "I") ic_250) (fun _ h9 => h9) rfl dX5_addLaw_1 ?_
  refine lv_bipush (v := 40) hx hb dX5_addLaw_4 (by decide +kernel) ?_
  replace hr := jnS hr
  obtain ⟨j29, hj29, hr⟩ := hr
  have Jj29 : ∀ (c29_G102 : Nat → Int32) (c29_O0 : Nat → Nat → Option Nat) (ws : va_W) (H : Heap) (locs : List Loc) (ls : Array Slot), j29 c29_G102 c29_O0 = some (c_G102, c_O0) → LW ws ad kk kd ln (va_up G 102 c29_G102) P U V X (va_up O 0 c29_O0) → TYP kd P (va_up O 0 c29_O0) (V 0) cnt → va_P (dC, dI) vwCl ws H → va_D A ws → va_S A s.heap H locs → lv_has ls 2 [] → W p l e ({ frames := 2, cells := 0, slots := 0, locals := 60 } : Room) s m args below meth c H locs 0 0 Q (F0 m 29 ls []) := by
    intro c29_G102 c29_O0 ws H locs ls hr hW hT hP hD hS hl
    rw [hj29] at hr
    exact K 29 ls _ _ ws H _ hr dX5_addLaw_29 hW hT hP hD hS
  refine lv_icmp_ge (tgt := 29) hx hb dX5_addLaw_6 (by decide) (fun c6 => ?_) (fun c6 => ?_)
  · replace hr := iteT c6 hr
    have eG : G = (va_up G 102 (G 102)) := by
      funext k
      by_cases h102 : k = 102
      · subst h102; rfl
      · simp only [va_up, h102, if_false]
    rw [eG] at hW
    clear eG
    have eO : O = (va_up O 0 (O 0)) := by
      funext k
      by_cases h0 : k = 0
      · subst h0; rfl
      · simp only [va_up, h0, if_false]
    rw [eO] at hW
    rw [eO] at hT
    clear eO
    exact Jj29 (G 102) (O 0) ws H _ ls hr hW hT hP hD hS (lv_sub hl [] rfl)
  · replace hr := iteF c6 hr
    refine lv_aload_n hx hb dX5_addLaw_9 rfl (lv_at hl 0 rfl) ?_
    obtain ⟨i2, hi2⟩ := hW.o5 hk_this
    replace hr := nnS hr
    obtain ⟨a10, hn10, hr⟩ := hr
    have hk_a10 : kd a10 = 300 := hT.1 101 _ _ hn10
    refine va_get (D := (dC, dI)) (ci := 5) (v := .ref (ad a10)) (C := RX5) (T := TX5) (N := 11) hx hb hts inX5 hown hK hP i2 hi2 rfl 1 (by decide) (hts (.fieldLink RX5 17 "SpellTurner$Reform" "laws" "[LSpellTurner$Law;") ic_251) (fun _ h9 => h9) (congrArg (fun o => some (va_re ad o)) hn10) dX5_addLaw_10 ?_
    refine lv_aload_n hx hb dX5_addLaw_13 rfl (lv_at hl 0 rfl) ?_
    obtain ⟨i3, hi3⟩ := hW.o5 hk_this
    refine va_get (D := (dC, dI)) (ci := 5) (v := .int ((G 102) this)) (C := RX5) (T := TX5) (N := 11) hx hb hts inX5 hown hK hP i3 hi3 rfl 2 (by decide) (hts (.fieldLink RX5 21 "SpellTurner$Reform" "lawCount" "I") ic_250) (fun _ h9 => h9) rfl dX5_addLaw_14 ?_
    refine lv_aload_n hx hb dX5_addLaw_17 rfl (lv_at hl 1 rfl) ?_
    obtain ⟨i4, hi4⟩ := hW.q0 hk_a10
    obtain ⟨i5, hi5⟩ := hW.o1 hk_p0
    replace hr := iteS hr
    obtain ⟨hi18, hr⟩ := hr
    refine va_astq (f := fun i => (((O 0) a10) i).map ad) hx hb hK hP hD hS i4 4 i5 1 hi4 rfl hi5 rfl (inbV hi18) dX5_addLaw_18 (fun H locs hP2 hD2 hS => ?_)
    obtain ⟨m18, w6, em18, hP, hD, hW⟩ : ∃ (z : Nat → Nat → Option Nat) (w : va_W), z = (va_up (O 0) a10 (va_up ((O 0) a10) (Int32.toNatClampNeg ((G 102) this)) (some p0))) ∧ va_P (dC, dI) vwCl w H ∧ va_D A w ∧ LW w ad kk kd ln G P U V X (va_up O 0 z) := ⟨_, _, rfl, hP2, hD2, hW.setO hD hi4 (by rw [hk_a10]; decide) 0 (va_up ((O 0) a10) (Int32.toNatClampNeg ((G 102) this)) (some p0)) (by rw [hk_a10]; exact congrArg (fun h => (.inl (kk 4, ln a10, .inr (.inr (.inr (.inr h)))) : va_E)) up_map)⟩
    replace hT : TYP kd P (va_up O 0 m18) (V 0) cnt := by rw [em18]; exact hT.setO 0 a10 _ p0 hk_p0
    replace hr := vlS hr m18 em18
    clear em18
    refine lv_aload_n hx hb dX5_addLaw_19 rfl (lv_at hl 0 rfl) ?_
    refine lv_dup hx hb dX5_addLaw_20 rfl ?_
    obtain ⟨i7, hi7⟩ := hW.o5 hk_this
    refine va_get (D := (dC, dI)) (ci := 5) (v := .int ((G 102) this)) (C := RX5) (T := TX5) (N := 11) hx hb hts inX5 hown hK hP i7 hi7 rfl 2 (by decide) (hts (.fieldLink RX5 21 "SpellTurner$Reform" "lawCount" "I") ic_250) (fun _ h9 => h9) rfl dX5_addLaw_21 ?_
    refine lv_iconst (v := 1) hx hb dX5_addLaw_24 (by decide +kernel) ?_
    refine lv_iadd hx hb dX5_addLaw_25 ?_
    refine lv_topi (fun x26 ex26 => ?_)
    replace hr := vlS hr x26 ex26
    clear ex26
    obtain ⟨i8, hi8⟩ := hW.o5 hk_this
    refine va_put (D := (dC, dI)) (ci := 5) (v := .int x26) (ty := .int) (C := RX5) (T := TX5) (N := 11) hx hb hts inX5 tyX5 tyX5_ok nmX5 hown hK hP hD hS i8 hi8 rfl 2 (by decide) (hts (.fieldLink RX5 21 "SpellTurner$Reform" "lawCount" "I") ic_250) (fun _ h9 => h9) rfl (by decide +kernel) rfl rfl (Nat.le_of_ble_eq_true rfl) dX5_addLaw_26 (fun H locs hP2 hD2 hS => ?_)
    obtain ⟨m26, w9, em26, hP, hD, hW⟩ : ∃ (z : Nat → Int32) (w : va_W), z = (va_up (G 102) this x26) ∧ va_P (dC, dI) vwCl w H ∧ va_D A w ∧ LW w ad kk kd ln (va_up G 102 z) P U V X (va_up O 0 m18) := ⟨_, _, rfl, hP2, hD2, hW.setG hD hi8 (by rw [hk_this]; decide) 102 x26 (by rw [hk_this]; rfl)⟩
    replace hr := vlS hr m26 em26
    clear em26
    exact Jj29 m26 m18 w9 H _ ls hr hW hT hP hD hS (lv_sub hl [] rfl)
set_option maxHeartbeats 4000000 in
set_option maxRecDepth 100000 in
theorem m_X5_addLaw (l : Launch) (dC : Nat → ClassId) (dI : Nat → Nat → Nat) (kk : Nat → ClassId) (ad : Nat → Nat) (sz : Nat) (ws : va_W) (G : Nat → Nat → Int32) (P : Nat → Nat → Option Nat) (U : Nat → Nat → Int64) (V : Nat → Nat → Nat → Int32) (X : Nat → Nat → Nat → Int64) (O : Nat → Nat → Nat → Option Nat) (kd : Nat → Nat) (ln : Nat → Nat) (cnt : Nat) (this : Nat) (p0 : Nat) (hk_this : kd this = 6) (hk_p0 : kd p0 = 2) (hW : LW ws ad kk kd ln G P U V X O) (hT : TYP kd P O (V 0) cnt) (c_G102 : Nat → Int32) (c_O0 : Nat → Nat → Option Nat) (hr : f_X5_addLaw G P U V X O kd ln cnt this p0 = some (c_G102, c_O0)) : Met l yX5_addLaw vmX5_addLaw ({ frames := 2, cells := 0, slots := 0, locals := 60 } : Room) (va_Pc [.ref (ad this), .ref (ad p0)] (fun U => U.heap.size = sz ∧ va_P (dC, dI) vwCl ws U.heap ∧ va_K (dC, dI) vwCl (cT kk) U ∧ va_D (fun _ => True) ws)) (va_Qv (fun w => LW w ad kk kd ln (va_up G 102 c_G102) P U V X (va_up O 0 c_O0) ∧ TYP kd P (va_up O 0 c_O0) (V 0) cnt) (fun w t => va_P (dC, dI) vwCl w t.heap ∧ va_K (dC, dI) vwCl (cT kk) t ∧ va_D (va_A ws sz) w) (va_A ws sz)) 0 0 (va_A ws sz) := by
  refine Met.ofW (cc := cX5_addLaw) (maxL := 2) (ret := none) (by decide) rfl ?_
  intro p e s m args below meth c s₁ B hml hv
  obtain ⟨rfl, hsz, hP, hK, hD0⟩ := hv
  have hx := B.exec
  have hb := B.bytes
  have hrt := B.returns
  have hts := atoms_spec (ws := vmX5_addLaw) B.pre
  have hown : s.vm.findClass RX5 = some m.cls := findClass_of_methodNamed B.named
  subst hsz
  have hD := hD0.self (sz := s.heap.size)
  generalize hAe : va_A ws s.heap.size = A at hD ⊢
  have hA : ∀ q : Nat, s.heap.size ≤ q → A q := fun q h => by rw [← hAe]; exact Or.inr h
  have hS : va_S A s.heap s.heap [] := va_S.rf
  have hl := lv_entry ([.ref (ad this), .ref (ad p0)]) (n := 2) (Nat.le_of_ble_eq_true rfl)
  rw [lg_entry_eq]
  generalize (lg_sl ([.ref (ad this), .ref (ad p0)]) ++ List.replicate (2 - (lg_sl ([.ref (ad this), .ref (ad p0)])).length) Slot.unset).toArray = ls at hl ⊢
  exact bm_X5_addLaw this p0 hk_this hk_p0 c_G102 c_O0 hr hx hb hml hown hts hA hK hW hT hP hD hS hl (fun pc ls c_G102z c_O0z ws H locs he hd hW hT hP hD hS => by cases he; exact W.vret hx hb hrt (fun t ht hW9 => ⟨⟨ws, rfl, ⟨hW, hT⟩, by rw [ht]; exact hP, va_K.moved hW9.alike hK, hD⟩, hS.F ht⟩) hS.2.2 hd)
set_option maxHeartbeats 4000000 in
set_option maxRecDepth 100000 in
theorem bm_X5_addEntry {p : Program} {l : Launch} {e : Env} {s : State} {m : MethodId} {args : Array Value} {below : List Frame} {meth : Method} {c : Code} {Q : State → Prop} {A : Nat → Prop} {dC : Nat → ClassId} {dI : Nat → Nat → Nat} {kk : Nat → ClassId} {ad : Nat → Nat} {ws : va_W} {G : Nat → Nat → Int32} {P : Nat → Nat → Option Nat} {U : Nat → Nat → Int64} {V : Nat → Nat → Nat → Int32} {X : Nat → Nat → Nat → Int64} {O : Nat → Nat → Nat → Option Nat} {kd : Nat → Nat} {ln : Nat → Nat} {cnt : Nat} {H : Heap} {locs : List Loc} {ls : Array Slot} (this : Nat) (p0 : Nat) (p1 : Int32) (p2 : Int32) (p3 : Int32) (hk_this : kd this = 6) (hk_p0 : kd p0 = 100) (c_G107 : Nat → Int32) (c_G203 : Nat → Int32) (c_V0 : Nat → Nat → Int32) (c_V1 : Nat → Nat → Int32) (c_V10 : Nat → Nat → Int32) (hr : f_X5_addEntry G P U V X O kd ln cnt this p0 p1 p2 p3 = some (c_G107, c_G203, c_V0, c_V1, c_V10)) (hx : p.tables.exec = Jvm.exec) (hb : c.code = cX5_addEntry) (hml : c.maxLocals = 5) (hown : s.vm.findClass RX5 = some m.cls) (hts : ∀ w ∈ vmX5_addEntry, w.before args s = true) (hA : ∀ q : Nat, s.heap.size ≤ q → A q) (hK : va_K (dC, dI) vwCl (cT kk) s) (hW : LW ws ad kk kd ln G P U V X O) (hT : TYP kd P O (V 0) cnt) (hP : va_P (dC, dI) vwCl ws H) (hD : va_D A ws) (hS : va_S A s.heap H locs) (hl : lv_has ls 5 [(0, .ref (ad this)), (1, .ref (ad p0)), (2, .int p1), (3, .int p2), (4, .int p3)])
    (K : ∀ (pc : Nat) (ls : Array Slot) (c_G107z : Nat → Int32) (c_G203z : Nat → Int32) (c_V0z : Nat → Nat → Int32) (c_V1z : Nat → Nat → Int32) (c_V10z : Nat → Nat → Int32) (ws : va_W) (H : Heap) (locs : List Loc), some (c_G107z, c_G203z, c_V0z, c_V1z, c_V10z) = some (c_G107, c_G203, c_V0, c_V1, c_V10) → decode cX5_addEntry pc = .ok (.return_, 1) → LW ws ad kk kd ln (va_up (va_up G 107 c_G107z) 203 c_G203z) P U (va_up (va_up (va_up V 0 c_V0z) 1 c_V1z) 10 c_V10z) X O → TYP kd P O c_V0z cnt → va_P (dC, dI) vwCl ws H → va_D A ws → va_S A s.heap H locs → W p l e ({ frames := 4, cells := 0, slots := 0, locals := 143 } : Room) s m args below meth c H locs 0 0 Q (F0 m pc ls [])) : W p l e ({ frames := 4, cells := 0, slots := 0, locals := 143 } : Room) s m args below meth c H locs 0 0 Q (F0 m 0 ls []) := by
  unfold f_X5_addEntry at hr
  refine lv_aload_n hx hb dX5_addEntry_0 rfl (lv_at hl 0 rfl) ?_
  obtain ⟨i1, hi1⟩ := hW.o5 hk_this
  replace hr := nnS hr
  obtain ⟨a1, hn1, hr⟩ := hr
  have hk_a1 : kd a1 = 11 := hT.1 104 _ _ hn1
  refine va_get (D := (dC, dI)) (ci := 5) (v := .ref (ad a1)) (C := RX5) (T := TX5) (N := 11) hx hb hts inX5 hown hK hP i1 hi1 rfl 4 (by decide) (hts (.fieldLink RX5 33 "SpellTurner$Reform" "entries" "LSpellTurner$WordRow;") ic_253) (fun _ h9 => h9) (congrArg (fun o => some (va_re ad o)) hn1) dX5_addEntry_1 ?_
  replace hr := b1S hr
  obtain ⟨r4z, hc4, hr⟩ := hr
  have hFc := fr_all hD hS hA
  obtain ⟨i2, hi2⟩ := hW.o10 hk_a1
  refine va_calli (va_runV (As := []) (rest := []) ⟨hx, hb, hml, hown, hts⟩ (m_X10_isFull l dC dI kk ad H.size ws G P U V X O kd ln cnt a1 hk_a1 hW hT r4z hc4) (cwV 0 hts gc_RX5_X10_isFull_67 rfl rfl rfl (by decide +kernel) ⟨Nat.le_of_ble_eq_true rfl, Nat.le_of_ble_eq_true rfl⟩) ⟨fun a U g mk q => by obtain ⟨q0, q1, qP, qK, qD⟩ := q; exact ⟨q0, q1, qP, va_K.moved (u := U) (U := U.calling g mk a) (Vm.Alike.refl U.vm) qK, qD⟩, va_recv hK hP (ci := 10) (q0 := i2) rfl hi2, fun U hU hW => ⟨rfl, by rw [hU], by rw [hU]; exact hP, va_K.moved hW.alike hK, hD.weaken (fun _ _ _ _ => trivial)⟩⟩ rfl rfl hl.1 rfl (lv_room (Nat.le_of_ble_eq_true rfl)) dX5_addEntry_4 ⟨Nat.le_of_ble_eq_true rfl, Nat.le_of_ble_eq_true rfl⟩) hS (fun q _ h => hFc q h) hFc (fun r4 w3 t H1 locs ht hvm hw hB hz1 hk1 hS => ?_)
  obtain ⟨hw0, hW, hT⟩ := hw
  replace hw0 : r4 = r4z := hw0
  subst hw0
  obtain ⟨hP1, hK1, hD1⟩ := hB
  rw [ht] at hP1
  obtain ⟨hP, hD⟩ := jn_all (w1 := w3) hFc hP1 hD1
  replace hP : va_P (dC, dI) vwCl w3 H1 := hP
  replace hD : va_D A w3 := hD
  clear hFc hP1 hK1 hD1 hk1 hz1 ht hvm
  generalize H1 = H at hP hS ⊢
  replace hr := jnS hr
  obtain ⟨j53, hj53, hr⟩ := hr
  have Jj53 : ∀ (c53_G107 : Nat → Int32) (c53_G203 : Nat → Int32) (c53_V0 : Nat → Nat → Int32) (c53_V1 : Nat → Nat → Int32) (c53_V10 : Nat → Nat → Int32) (ws : va_W) (H : Heap) (locs : List Loc) (ls : Array Slot), j53 c53_G107 c53_G203 c53_V0 c53_V1 c53_V10 = some (c_G107, c_G203, c_V0, c_V1, c_V10) → LW ws ad kk kd ln (va_up (va_up G 107 c53_G107) 203 c53_G203) P U (va_up (va_up (va_up V 0 c53_V0) 1 c53_V1) 10 c53_V10) X O → TYP kd P O c53_V0 cnt → va_P (dC, dI) vwCl ws H → va_D A ws → va_S A s.heap H locs → lv_has ls 5 [] → W p l e ({ frames := 4, cells := 0, slots := 0, locals := 143 } : Room) s m args below meth c H locs 0 0 Q (F0 m 53 ls []) := by
    intro c53_G107 c53_G203 c53_V0 c53_V1 c53_V10 ws H locs ls hr hW hT hP hD hS hl
    rw [hj53] at hr
    exact K 53 ls _ _ _ _ _ ws H _ hr dX5_addEntry_53 hW hT hP hD hS
  refine lv_if_ne (tgt := 53) hx hb dX5_addEntry_7 (by decide) (fun c7 => ?_) (fun c7 => ?_)
  · replace hr := iteF c7 hr
    have eG : G = (va_up (va_up G 107 (G 107)) 203 (G 203)) := by
      funext k
      by_cases h107 : k = 107
      · subst h107; rfl
      by_cases h203 : k = 203
      · subst h203; rfl
      · simp only [va_up, h107, h203, if_false]
    rw [eG] at hW
    clear eG
    have eV : V = (va_up (va_up (va_up V 0 (V 0)) 1 (V 1)) 10 (V 10)) := by
      funext k
      by_cases h0 : k = 0
      · subst h0; rfl
      by_cases h1 : k = 1
      · subst h1; rfl
      by_cases h10 : k = 10
      · subst h10; rfl
      · simp only [va_up, h0, h1, h10, if_false]
    rw [eV] at hW
    clear eV
    exact Jj53 (G 107) (G 203) (V 0) (V 1) (V 10) w3 H _ ls hr hW hT hP hD hS (lv_sub hl [] rfl)
  · replace hr := iteT c7 hr
    refine lv_aload_n hx hb dX5_addEntry_10 rfl (lv_at hl 0 rfl) ?_
    obtain ⟨i4, hi4⟩ := hW.o5 hk_this
    replace hr := nnS hr
    obtain ⟨a11, hn11, hr⟩ := hr
    have hk_a11 : kd a11 = 110 := hT.1 106 _ _ hn11
    refine va_get (D := (dC, dI)) (ci := 5) (v := .ref (ad a11)) (C := RX5) (T := TX5) (N := 11) hx hb hts inX5 hown hK hP i4 hi4 rfl 6 (by decide) (hts (.fieldLink RX5 39 "SpellTurner$Reform" "kept" "[Z") ic_240) (fun _ h9 => h9) (congrArg (fun o => some (va_re ad o)) hn11) dX5_addEntry_11 ?_
    refine lv_aload_n hx hb dX5_addEntry_14 rfl (lv_at hl 0 rfl) ?_
    obtain ⟨i5, hi5⟩ := hW.o5 hk_this
    replace hr := nnS hr
    obtain ⟨a15, hn15, hr⟩ := hr
    have hk_a15 : kd a15 = 11 := hT.1 104 _ _ hn15
    refine va_get (D := (dC, dI)) (ci := 5) (v := .ref (ad a15)) (C := RX5) (T := TX5) (N := 11) hx hb hts inX5 hown hK hP i5 hi5 rfl 4 (by decide) (hts (.fieldLink RX5 33 "SpellTurner$Reform" "entries" "LSpellTurner$WordRow;") ic_253) (fun _ h9 => h9) (congrArg (fun o => some (va_re ad o)) hn15) dX5_addEntry_15 ?_
    obtain ⟨i6, hi6⟩ := hW.o10 hk_a15
    refine va_get (D := (dC, dI)) (ci := 10) (v := .int ((G 203) a15)) (C := RX10) (T := TX10) (N := 4) hx hb hts inX10 hown hK hP i6 hi6 rfl 3 (by decide) (hts (.fieldLink RX5 56 "SpellTurner$WordRow" "count" "I") ic_255) (fun _ h9 => h9) rfl dX5_addEntry_18 ?_
    refine lv_iload hx hb dX5_addEntry_21 (lv_at hl 4 rfl) ?_
    obtain ⟨i7, hi7⟩ := hW.v10 hk_a11
    replace hr := iteS hr
    obtain ⟨hi23, hr⟩ := hr
    refine va_zast (f := ((V 10) a11)) hx hb hK hP hD hS i7 2 hi7 rfl (inbV hi23) dX5_addEntry_23 (fun H locs hP2 hD2 hS => ?_)
    obtain ⟨m23, w8, em23, hP, hD, hW⟩ : ∃ (z : Nat → Nat → Int32) (w : va_W), z = (va_up (V 10) a11 (upd ((V 10) a11) (Int32.toNatClampNeg ((G 203) a15)) (vp_nar .boolean p3))) ∧ va_P (dC, dI) vwCl w H ∧ va_D A w ∧ LW w ad kk kd ln G P U (va_up V 10 z) X O := ⟨_, _, rfl, hP2, hD2, hW.setV hD hi7 (by rw [hk_a11]; decide) 10 (upd ((V 10) a11) (Int32.toNatClampNeg ((G 203) a15)) (vp_nar .boolean p3)) (by rw [hk_a11]; rfl)⟩
    replace hr := vlS hr m23 em23
    clear em23
    refine lv_aload_n hx hb dX5_addEntry_24 rfl (lv_at hl 0 rfl) ?_
    refine lv_dup hx hb dX5_addEntry_25 rfl ?_
    obtain ⟨i9, hi9⟩ := hW.o5 hk_this
    refine va_get (D := (dC, dI)) (ci := 5) (v := .int ((G 107) this)) (C := RX5) (T := TX5) (N := 11) hx hb hts inX5 hown hK hP i9 hi9 rfl 7 (by decide) (hts (.fieldLink RX5 43 "SpellTurner$Reform" "keptCount" "I") ic_256) (fun _ h9 => h9) rfl dX5_addEntry_26 ?_
    refine lv_iload hx hb dX5_addEntry_29 (lv_at hl 4 rfl) ?_
    replace hr := jnS hr
    obtain ⟨j39, hj39, hr⟩ := hr
    have Jj39 : ∀ (t39_0 : Int32) (ws : va_W) (H : Heap) (locs : List Loc) (ls : Array Slot), j39 t39_0 = some (c_G107, c_G203, c_V0, c_V1, c_V10) → LW ws ad kk kd ln G P U (va_up V 10 m23) X O → TYP kd P O (V 0) cnt → va_P (dC, dI) vwCl ws H → va_D A ws → va_S A s.heap H locs → lv_has ls 5 [(0, .ref (ad this)), (1, .ref (ad p0)), (2, .int p1), (3, .int p2)] → W p l e ({ frames := 4, cells := 0, slots := 0, locals := 143 } : Room) s m args below meth c H locs 0 0 Q (F0 m 39 ls [.int t39_0, .int ((G 107) this), .ref (ad this)]) := by
      intro t39_0 ws H locs ls hr hW hT hP hD hS hl
      rw [hj39] at hr
      refine lv_iadd hx hb dX5_addEntry_39 ?_
      refine lv_topi (fun x40 ex40 => ?_)
      replace hr := vlS hr x40 ex40
      clear ex40
      obtain ⟨i10, hi10⟩ := hW.o5 hk_this
      refine va_put (D := (dC, dI)) (ci := 5) (v := .int x40) (ty := .int) (C := RX5) (T := TX5) (N := 11) hx hb hts inX5 tyX5 tyX5_ok nmX5 hown hK hP hD hS i10 hi10 rfl 7 (by decide) (hts (.fieldLink RX5 43 "SpellTurner$Reform" "keptCount" "I") ic_256) (fun _ h9 => h9) rfl (by decide +kernel) rfl rfl (Nat.le_of_ble_eq_true rfl) dX5_addEntry_40 (fun H locs hP2 hD2 hS => ?_)
      obtain ⟨m40, w11, em40, hP, hD, hW⟩ : ∃ (z : Nat → Int32) (w : va_W), z = (va_up (G 107) this x40) ∧ va_P (dC, dI) vwCl w H ∧ va_D A w ∧ LW w ad kk kd ln (va_up G 107 z) P U (va_up V 10 m23) X O := ⟨_, _, rfl, hP2, hD2, hW.setG hD hi10 (by rw [hk_this]; decide) 107 x40 (by rw [hk_this]; rfl)⟩
      replace hr := vlS hr m40 em40
      clear em40
      refine lv_aload_n hx hb dX5_addEntry_43 rfl (lv_at hl 0 rfl) ?_
      obtain ⟨i12, hi12⟩ := hW.o5 hk_this
      replace hr := nnS hr
      obtain ⟨a44, hn44, hr⟩ := hr
      have hk_a44 : kd a44 = 11 := hT.1 104 _ _ hn44
      refine va_get (D := (dC, dI)) (ci := 5) (v := .ref (ad a44)) (C := RX5) (T := TX5) (N := 11) hx hb hts inX5 hown hK hP i12 hi12 rfl 4 (by decide) (hts (.fieldLink RX5 33 "SpellTurner$Reform" "entries" "LSpellTurner$WordRow;") ic_253) (fun _ h9 => h9) (congrArg (fun o => some (va_re ad o)) hn44) dX5_addEntry_44 ?_
      refine lv_aload_n hx hb dX5_addEntry_47 rfl (lv_at hl 1 rfl) ?_
      refine lv_iload_n hx hb dX5_addEntry_48 rfl (lv_at hl 2 rfl) ?_
      refine lv_iload_n hx hb dX5_addEntry_49 rfl (lv_at hl 3 rfl) ?_
      replace hr := b3S hr
      obtain ⟨c50_G203, c50_V0, c50_V1, hc50, hr⟩ := hr
      have hFc := fr_all hD hS hA
      obtain ⟨i13, hi13⟩ := hW.o10 hk_a44
      refine va_callv (va_runV (As := [.ref (ad p0), .int p1, .int p2]) (rest := []) ⟨hx, hb, hml, hown, hts⟩ (m_X10_add l dC dI kk ad H.size w11 (va_up G 107 m40) P U (va_up V 10 m23) X O kd ln cnt a44 p0 p1 p2 hk_a44 hk_p0 hW hT c50_G203 c50_V0 c50_V1 hc50) (cwV 3 hts gc_RX5_X10_add_63 rfl rfl rfl (by decide +kernel) ⟨Nat.le_of_ble_eq_true rfl, Nat.le_of_ble_eq_true rfl⟩) ⟨fun a U g mk q => by obtain ⟨q0, q1, qP, qK, qD⟩ := q; exact ⟨q0, q1, qP, va_K.moved (u := U) (U := U.calling g mk a) (Vm.Alike.refl U.vm) qK, qD⟩, va_recv hK hP (ci := 10) (q0 := i13) rfl hi13, fun U hU hW => ⟨rfl, by rw [hU], by rw [hU]; exact hP, va_K.moved hW.alike hK, hD.weaken (fun _ _ _ _ => trivial)⟩⟩ rfl rfl hl.1 rfl (lv_room (Nat.le_of_ble_eq_true rfl)) dX5_addEntry_50 ⟨Nat.le_of_ble_eq_true rfl, Nat.le_of_ble_eq_true rfl⟩) hS (fun q _ h => hFc q h) hFc (fun w14 t H1 locs ht hvm hw hB hz1 hk1 hS => ?_)
      obtain ⟨hW, hT⟩ := hw
      obtain ⟨hP1, hK1, hD1⟩ := hB
      rw [ht] at hP1
      obtain ⟨hP, hD⟩ := jn_all (w1 := w14) hFc hP1 hD1
      replace hP : va_P (dC, dI) vwCl w14 H1 := hP
      replace hD : va_D A w14 := hD
      clear hFc hP1 hK1 hD1 hk1 hz1 ht hvm
      generalize H1 = H at hP hS ⊢
      have eV : (va_up (va_up (va_up V 10 m23) 0 c50_V0) 1 c50_V1) = (va_up (va_up (va_up V 0 c50_V0) 1 c50_V1) 10 m23) := by
        funext k
        by_cases h0 : k = 0
        · subst h0; rfl
        by_cases h1 : k = 1
        · subst h1; rfl
        by_cases h10 : k = 10
        · subst h10; rfl
        · simp only [va_up, h0, h1, h10, if_false]
      rw [eV] at hW
      clear eV
      exact Jj53 m40 c50_G203 c50_V0 c50_V1 m23 w14 H _ ls hr hW hT hP hD hS (lv_sub hl [] rfl)
    refine lv_if_eq (tgt := 38) hx hb dX5_addEntry_31 (by decide) (fun c31 => ?_) (fun c31 => ?_)
    · replace hr := iteT c31 hr
      refine lv_iconst (v := 0) hx hb dX5_addEntry_38 (by decide +kernel) ?_
      exact Jj39 0 w8 H _ ls hr hW hT hP hD hS (lv_sub hl [0, 1, 2, 3] rfl)
    · replace hr := iteF c31 hr
      refine lv_iconst (v := 1) hx hb dX5_addEntry_34 (by decide +kernel) ?_
      refine lv_goto (tgt := 39) hx hb dX5_addEntry_35 (by decide) ?_
      exact Jj39 1 w8 H _ ls hr hW hT hP hD hS (lv_sub hl [0, 1, 2, 3] rfl)
set_option maxHeartbeats 4000000 in
set_option maxRecDepth 100000 in
theorem m_X5_addEntry (l : Launch) (dC : Nat → ClassId) (dI : Nat → Nat → Nat) (kk : Nat → ClassId) (ad : Nat → Nat) (sz : Nat) (ws : va_W) (G : Nat → Nat → Int32) (P : Nat → Nat → Option Nat) (U : Nat → Nat → Int64) (V : Nat → Nat → Nat → Int32) (X : Nat → Nat → Nat → Int64) (O : Nat → Nat → Nat → Option Nat) (kd : Nat → Nat) (ln : Nat → Nat) (cnt : Nat) (this : Nat) (p0 : Nat) (p1 : Int32) (p2 : Int32) (p3 : Int32) (hk_this : kd this = 6) (hk_p0 : kd p0 = 100) (hW : LW ws ad kk kd ln G P U V X O) (hT : TYP kd P O (V 0) cnt) (c_G107 : Nat → Int32) (c_G203 : Nat → Int32) (c_V0 : Nat → Nat → Int32) (c_V1 : Nat → Nat → Int32) (c_V10 : Nat → Nat → Int32) (hr : f_X5_addEntry G P U V X O kd ln cnt this p0 p1 p2 p3 = some (c_G107, c_G203, c_V0, c_V1, c_V10)) : Met l yX5_addEntry vmX5_addEntry ({ frames := 4, cells := 0, slots := 0, locals := 143 } : Room) (va_Pc [.ref (ad this), .ref (ad p0), .int p1, .int p2, .int p3] (fun U => U.heap.size = sz ∧ va_P (dC, dI) vwCl ws U.heap ∧ va_K (dC, dI) vwCl (cT kk) U ∧ va_D (fun _ => True) ws)) (va_Qv (fun w => LW w ad kk kd ln (va_up (va_up G 107 c_G107) 203 c_G203) P U (va_up (va_up (va_up V 0 c_V0) 1 c_V1) 10 c_V10) X O ∧ TYP kd P O c_V0 cnt) (fun w t => va_P (dC, dI) vwCl w t.heap ∧ va_K (dC, dI) vwCl (cT kk) t ∧ va_D (va_A ws sz) w) (va_A ws sz)) 0 0 (va_A ws sz) := by
  refine Met.ofW (cc := cX5_addEntry) (maxL := 5) (ret := none) (by decide) rfl ?_
  intro p e s m args below meth c s₁ B hml hv
  obtain ⟨rfl, hsz, hP, hK, hD0⟩ := hv
  have hx := B.exec
  have hb := B.bytes
  have hrt := B.returns
  have hts := atoms_spec (ws := vmX5_addEntry) B.pre
  have hown : s.vm.findClass RX5 = some m.cls := findClass_of_methodNamed B.named
  subst hsz
  have hD := hD0.self (sz := s.heap.size)
  generalize hAe : va_A ws s.heap.size = A at hD ⊢
  have hA : ∀ q : Nat, s.heap.size ≤ q → A q := fun q h => by rw [← hAe]; exact Or.inr h
  have hS : va_S A s.heap s.heap [] := va_S.rf
  have hl := lv_entry ([.ref (ad this), .ref (ad p0), .int p1, .int p2, .int p3]) (n := 5) (Nat.le_of_ble_eq_true rfl)
  rw [lg_entry_eq]
  generalize (lg_sl ([.ref (ad this), .ref (ad p0), .int p1, .int p2, .int p3]) ++ List.replicate (5 - (lg_sl ([.ref (ad this), .ref (ad p0), .int p1, .int p2, .int p3])).length) Slot.unset).toArray = ls at hl ⊢
  exact bm_X5_addEntry this p0 p1 p2 p3 hk_this hk_p0 c_G107 c_G203 c_V0 c_V1 c_V10 hr hx hb hml hown hts hA hK hW hT hP hD hS hl (fun pc ls c_G107z c_G203z c_V0z c_V1z c_V10z ws H locs he hd hW hT hP hD hS => by cases he; exact W.vret hx hb hrt (fun t ht hW9 => ⟨⟨ws, rfl, ⟨hW, hT⟩, by rw [ht]; exact hP, va_K.moved hW9.alike hK, hD⟩, hS.F ht⟩) hS.2.2 hd)
set_option maxHeartbeats 4000000 in
set_option maxRecDepth 100000 in
theorem bm_X5_addKept {p : Program} {l : Launch} {e : Env} {s : State} {m : MethodId} {args : Array Value} {below : List Frame} {meth : Method} {c : Code} {Q : State → Prop} {A : Nat → Prop} {dC : Nat → ClassId} {dI : Nat → Nat → Nat} {kk : Nat → ClassId} {ad : Nat → Nat} {ws : va_W} {G : Nat → Nat → Int32} {P : Nat → Nat → Option Nat} {U : Nat → Nat → Int64} {V : Nat → Nat → Nat → Int32} {X : Nat → Nat → Nat → Int64} {O : Nat → Nat → Nat → Option Nat} {kd : Nat → Nat} {ln : Nat → Nat} {cnt : Nat} {H : Heap} {locs : List Loc} {ls : Array Slot} (this : Nat) (p0 : Nat) (p1 : Int32) (p2 : Int32) (hk_this : kd this = 6) (hk_p0 : kd p0 = 100) (c_G107 : Nat → Int32) (c_G203 : Nat → Int32) (c_V0 : Nat → Nat → Int32) (c_V1 : Nat → Nat → Int32) (c_V10 : Nat → Nat → Int32) (hr : f_X5_addKept G P U V X O kd ln cnt this p0 p1 p2 = some (c_G107, c_G203, c_V0, c_V1, c_V10)) (hx : p.tables.exec = Jvm.exec) (hb : c.code = cX5_addKept) (hml : c.maxLocals = 4) (hown : s.vm.findClass RX5 = some m.cls) (hts : ∀ w ∈ vmX5_addKept, w.before args s = true) (hA : ∀ q : Nat, s.heap.size ≤ q → A q) (hK : va_K (dC, dI) vwCl (cT kk) s) (hW : LW ws ad kk kd ln G P U V X O) (hT : TYP kd P O (V 0) cnt) (hP : va_P (dC, dI) vwCl ws H) (hD : va_D A ws) (hS : va_S A s.heap H locs) (hl : lv_has ls 4 [(0, .ref (ad this)), (1, .ref (ad p0)), (2, .int p1), (3, .int p2)])
    (K : ∀ (pc : Nat) (ls : Array Slot) (c_G107z : Nat → Int32) (c_G203z : Nat → Int32) (c_V0z : Nat → Nat → Int32) (c_V1z : Nat → Nat → Int32) (c_V10z : Nat → Nat → Int32) (ws : va_W) (H : Heap) (locs : List Loc), some (c_G107z, c_G203z, c_V0z, c_V1z, c_V10z) = some (c_G107, c_G203, c_V0, c_V1, c_V10) → decode cX5_addKept pc = .ok (.return_, 1) → LW ws ad kk kd ln (va_up (va_up G 107 c_G107z) 203 c_G203z) P U (va_up (va_up (va_up V 0 c_V0z) 1 c_V1z) 10 c_V10z) X O → TYP kd P O c_V0z cnt → va_P (dC, dI) vwCl ws H → va_D A ws → va_S A s.heap H locs → W p l e ({ frames := 5, cells := 0, slots := 0, locals := 167 } : Room) s m args below meth c H locs 0 0 Q (F0 m pc ls [])) : W p l e ({ frames := 5, cells := 0, slots := 0, locals := 167 } : Room) s m args below meth c H locs 0 0 Q (F0 m 0 ls []) := by
  unfold f_X5_addKept at hr
  refine lv_aload_n hx hb dX5_addKept_0 rfl (lv_at hl 0 rfl) ?_
  refine lv_aload_n hx hb dX5_addKept_1 rfl (lv_at hl 1 rfl) ?_
  refine lv_iload_n hx hb dX5_addKept_2 rfl (lv_at hl 2 rfl) ?_
  refine lv_iload_n hx hb dX5_addKept_3 rfl (lv_at hl 3 rfl) ?_
  refine lv_iconst (v := 1) hx hb dX5_addKept_4 (by decide +kernel) ?_
  replace hr := b5S hr
  obtain ⟨c5_G107, c5_G203, c5_V0, c5_V1, c5_V10, hc5, hr⟩ := hr
  have hFc := fr_all hD hS hA
  obtain ⟨i1, hi1⟩ := hW.o5 hk_this
  refine va_callv (va_runV (As := [.ref (ad p0), .int p1, .int p2, .int 1]) (rest := []) ⟨hx, hb, hml, hown, hts⟩ (m_X5_addEntry l dC dI kk ad H.size ws G P U V X O kd ln cnt this p0 p1 p2 1 hk_this hk_p0 hW hT c5_G107 c5_G203 c5_V0 c5_V1 c5_V10 hc5) (cwV 4 hts gc_RX5_X5_addEntry_59 rfl rfl rfl (by decide +kernel) ⟨Nat.le_of_ble_eq_true rfl, Nat.le_of_ble_eq_true rfl⟩) ⟨fun a U g mk q => by obtain ⟨q0, q1, qP, qK, qD⟩ := q; exact ⟨q0, q1, qP, va_K.moved (u := U) (U := U.calling g mk a) (Vm.Alike.refl U.vm) qK, qD⟩, va_recv hK hP (ci := 5) (q0 := i1) rfl hi1, fun U hU hW => ⟨rfl, by rw [hU], by rw [hU]; exact hP, va_K.moved hW.alike hK, hD.weaken (fun _ _ _ _ => trivial)⟩⟩ rfl rfl hl.1 rfl (lv_room (Nat.le_of_ble_eq_true rfl)) dX5_addKept_5 ⟨Nat.le_of_ble_eq_true rfl, Nat.le_of_ble_eq_true rfl⟩) hS (fun q _ h => hFc q h) hFc (fun w2 t H1 locs ht hvm hw hB hz1 hk1 hS => ?_)
  obtain ⟨hW, hT⟩ := hw
  obtain ⟨hP1, hK1, hD1⟩ := hB
  rw [ht] at hP1
  obtain ⟨hP, hD⟩ := jn_all (w1 := w2) hFc hP1 hD1
  replace hP : va_P (dC, dI) vwCl w2 H1 := hP
  replace hD : va_D A w2 := hD
  clear hFc hP1 hK1 hD1 hk1 hz1 ht hvm
  generalize H1 = H at hP hS ⊢
  refine lv_aload_n hx hb dX5_addKept_8 rfl (lv_at hl 0 rfl) ?_
  obtain ⟨i3, hi3⟩ := hW.o5 hk_this
  replace hr := nnS hr
  obtain ⟨a9, hn9, hr⟩ := hr
  have hk_a9 : kd a9 = 11 := hT.1 105 _ _ hn9
  refine va_get (D := (dC, dI)) (ci := 5) (v := .ref (ad a9)) (C := RX5) (T := TX5) (N := 11) hx hb hts inX5 hown hK hP i3 hi3 rfl 5 (by decide) (hts (.fieldLink RX5 36 "SpellTurner$Reform" "becomes" "LSpellTurner$WordRow;") ic_262) (fun _ h9 => h9) (congrArg (fun o => some (va_re ad o)) hn9) dX5_addKept_9 ?_
  refine lv_aload_n hx hb dX5_addKept_12 rfl (lv_at hl 1 rfl) ?_
  refine lv_iload_n hx hb dX5_addKept_13 rfl (lv_at hl 2 rfl) ?_
  refine lv_iconst (v := 0) hx hb dX5_addKept_14 (by decide +kernel) ?_
  replace hr := b3S hr
  obtain ⟨c15_G203, c15_V0, c15_V1, hc15, hr⟩ := hr
  have hFc := fr_all hD hS hA
  obtain ⟨i4, hi4⟩ := hW.o10 hk_a9
  refine va_callv (va_runV (As := [.ref (ad p0), .int p1, .int 0]) (rest := []) ⟨hx, hb, hml, hown, hts⟩ (m_X10_add l dC dI kk ad H.size w2 (va_up (va_up G 107 c5_G107) 203 c5_G203) P U (va_up (va_up (va_up V 0 c5_V0) 1 c5_V1) 10 c5_V10) X O kd ln cnt a9 p0 p1 0 hk_a9 hk_p0 hW hT c15_G203 c15_V0 c15_V1 hc15) (cwV 3 hts gc_RX5_X10_add_63 rfl rfl rfl (by decide +kernel) ⟨Nat.le_of_ble_eq_true rfl, Nat.le_of_ble_eq_true rfl⟩) ⟨fun a U g mk q => by obtain ⟨q0, q1, qP, qK, qD⟩ := q; exact ⟨q0, q1, qP, va_K.moved (u := U) (U := U.calling g mk a) (Vm.Alike.refl U.vm) qK, qD⟩, va_recv hK hP (ci := 10) (q0 := i4) rfl hi4, fun U hU hW => ⟨rfl, by rw [hU], by rw [hU]; exact hP, va_K.moved hW.alike hK, hD.weaken (fun _ _ _ _ => trivial)⟩⟩ rfl rfl hl.1 rfl (lv_room (Nat.le_of_ble_eq_true rfl)) dX5_addKept_15 ⟨Nat.le_of_ble_eq_true rfl, Nat.le_of_ble_eq_true rfl⟩) hS (fun q _ h => hFc q h) hFc (fun w5 t H1 locs ht hvm hw hB hz1 hk1 hS => ?_)
  obtain ⟨hW, hT⟩ := hw
  obtain ⟨hP1, hK1, hD1⟩ := hB
  rw [ht] at hP1
  obtain ⟨hP, hD⟩ := jn_all (w1 := w5) hFc hP1 hD1
  replace hP : va_P (dC, dI) vwCl w5 H1 := hP
  replace hD : va_D A w5 := hD
  clear hFc hP1 hK1 hD1 hk1 hz1 ht hvm
  generalize H1 = H at hP hS ⊢
  have eG : (va_up (va_up (va_up G 107 c5_G107) 203 c5_G203) 203 c15_G203) = (va_up (va_up G 107 c5_G107) 203 c15_G203) := by
    funext k
    by_cases h107 : k = 107
    · subst h107; rfl
    by_cases h203 : k = 203
    · subst h203; rfl
    · simp only [va_up, h107, h203, if_false]
  rw [eG] at hW
  clear eG
  have eV : (va_up (va_up (va_up (va_up (va_up V 0 c5_V0) 1 c5_V1) 10 c5_V10) 0 c15_V0) 1 c15_V1) = (va_up (va_up (va_up V 0 c15_V0) 1 c15_V1) 10 c5_V10) := by
    funext k
    by_cases h0 : k = 0
    · subst h0; rfl
    by_cases h1 : k = 1
    · subst h1; rfl
    by_cases h10 : k = 10
    · subst h10; rfl
    · simp only [va_up, h0, h1, h10, if_false]
  rw [eV] at hW
  clear eV
  exact K 18 ls _ _ _ _ _ w5 H _ hr dX5_addKept_18 hW hT hP hD hS
set_option maxHeartbeats 4000000 in
set_option maxRecDepth 100000 in
theorem m_X5_addKept (l : Launch) (dC : Nat → ClassId) (dI : Nat → Nat → Nat) (kk : Nat → ClassId) (ad : Nat → Nat) (sz : Nat) (ws : va_W) (G : Nat → Nat → Int32) (P : Nat → Nat → Option Nat) (U : Nat → Nat → Int64) (V : Nat → Nat → Nat → Int32) (X : Nat → Nat → Nat → Int64) (O : Nat → Nat → Nat → Option Nat) (kd : Nat → Nat) (ln : Nat → Nat) (cnt : Nat) (this : Nat) (p0 : Nat) (p1 : Int32) (p2 : Int32) (hk_this : kd this = 6) (hk_p0 : kd p0 = 100) (hW : LW ws ad kk kd ln G P U V X O) (hT : TYP kd P O (V 0) cnt) (c_G107 : Nat → Int32) (c_G203 : Nat → Int32) (c_V0 : Nat → Nat → Int32) (c_V1 : Nat → Nat → Int32) (c_V10 : Nat → Nat → Int32) (hr : f_X5_addKept G P U V X O kd ln cnt this p0 p1 p2 = some (c_G107, c_G203, c_V0, c_V1, c_V10)) : Met l yX5_addKept vmX5_addKept ({ frames := 5, cells := 0, slots := 0, locals := 167 } : Room) (va_Pc [.ref (ad this), .ref (ad p0), .int p1, .int p2] (fun U => U.heap.size = sz ∧ va_P (dC, dI) vwCl ws U.heap ∧ va_K (dC, dI) vwCl (cT kk) U ∧ va_D (fun _ => True) ws)) (va_Qv (fun w => LW w ad kk kd ln (va_up (va_up G 107 c_G107) 203 c_G203) P U (va_up (va_up (va_up V 0 c_V0) 1 c_V1) 10 c_V10) X O ∧ TYP kd P O c_V0 cnt) (fun w t => va_P (dC, dI) vwCl w t.heap ∧ va_K (dC, dI) vwCl (cT kk) t ∧ va_D (va_A ws sz) w) (va_A ws sz)) 0 0 (va_A ws sz) := by
  refine Met.ofW (cc := cX5_addKept) (maxL := 4) (ret := none) (by decide) rfl ?_
  intro p e s m args below meth c s₁ B hml hv
  obtain ⟨rfl, hsz, hP, hK, hD0⟩ := hv
  have hx := B.exec
  have hb := B.bytes
  have hrt := B.returns
  have hts := atoms_spec (ws := vmX5_addKept) B.pre
  have hown : s.vm.findClass RX5 = some m.cls := findClass_of_methodNamed B.named
  subst hsz
  have hD := hD0.self (sz := s.heap.size)
  generalize hAe : va_A ws s.heap.size = A at hD ⊢
  have hA : ∀ q : Nat, s.heap.size ≤ q → A q := fun q h => by rw [← hAe]; exact Or.inr h
  have hS : va_S A s.heap s.heap [] := va_S.rf
  have hl := lv_entry ([.ref (ad this), .ref (ad p0), .int p1, .int p2]) (n := 4) (Nat.le_of_ble_eq_true rfl)
  rw [lg_entry_eq]
  generalize (lg_sl ([.ref (ad this), .ref (ad p0), .int p1, .int p2]) ++ List.replicate (4 - (lg_sl ([.ref (ad this), .ref (ad p0), .int p1, .int p2])).length) Slot.unset).toArray = ls at hl ⊢
  exact bm_X5_addKept this p0 p1 p2 hk_this hk_p0 c_G107 c_G203 c_V0 c_V1 c_V10 hr hx hb hml hown hts hA hK hW hT hP hD hS hl (fun pc ls c_G107z c_G203z c_V0z c_V1z c_V10z ws H locs he hd hW hT hP hD hS => by cases he; exact W.vret hx hb hrt (fun t ht hW9 => ⟨⟨ws, rfl, ⟨hW, hT⟩, by rw [ht]; exact hP, va_K.moved hW9.alike hK, hD⟩, hS.F ht⟩) hS.2.2 hd)
set_option maxHeartbeats 4000000 in
set_option maxRecDepth 100000 in
theorem bm_X5_addListed {p : Program} {l : Launch} {e : Env} {s : State} {m : MethodId} {args : Array Value} {below : List Frame} {meth : Method} {c : Code} {Q : State → Prop} {A : Nat → Prop} {dC : Nat → ClassId} {dI : Nat → Nat → Nat} {kk : Nat → ClassId} {ad : Nat → Nat} {ws : va_W} {G : Nat → Nat → Int32} {P : Nat → Nat → Option Nat} {U : Nat → Nat → Int64} {V : Nat → Nat → Nat → Int32} {X : Nat → Nat → Nat → Int64} {O : Nat → Nat → Nat → Option Nat} {kd : Nat → Nat} {ln : Nat → Nat} {cnt : Nat} {H : Heap} {locs : List Loc} {ls : Array Slot} (this : Nat) (p0 : Nat) (p1 : Int32) (p2 : Int32) (hk_this : kd this = 6) (hk_p0 : kd p0 = 100) (c_G107 : Nat → Int32) (c_G203 : Nat → Int32) (c_V0 : Nat → Nat → Int32) (c_V1 : Nat → Nat → Int32) (c_V10 : Nat → Nat → Int32) (hr : f_X5_addListed G P U V X O kd ln cnt this p0 p1 p2 = some (c_G107, c_G203, c_V0, c_V1, c_V10)) (hx : p.tables.exec = Jvm.exec) (hb : c.code = cX5_addListed) (hml : c.maxLocals = 4) (hown : s.vm.findClass RX5 = some m.cls) (hts : ∀ w ∈ vmX5_addListed, w.before args s = true) (hA : ∀ q : Nat, s.heap.size ≤ q → A q) (hK : va_K (dC, dI) vwCl (cT kk) s) (hW : LW ws ad kk kd ln G P U V X O) (hT : TYP kd P O (V 0) cnt) (hP : va_P (dC, dI) vwCl ws H) (hD : va_D A ws) (hS : va_S A s.heap H locs) (hl : lv_has ls 4 [(0, .ref (ad this)), (1, .ref (ad p0)), (2, .int p1), (3, .int p2)])
    (K : ∀ (pc : Nat) (ls : Array Slot) (c_G107z : Nat → Int32) (c_G203z : Nat → Int32) (c_V0z : Nat → Nat → Int32) (c_V1z : Nat → Nat → Int32) (c_V10z : Nat → Nat → Int32) (ws : va_W) (H : Heap) (locs : List Loc), some (c_G107z, c_G203z, c_V0z, c_V1z, c_V10z) = some (c_G107, c_G203, c_V0, c_V1, c_V10) → decode cX5_addListed pc = .ok (.return_, 1) → LW ws ad kk kd ln (va_up (va_up G 107 c_G107z) 203 c_G203z) P U (va_up (va_up (va_up V 0 c_V0z) 1 c_V1z) 10 c_V10z) X O → TYP kd P O c_V0z cnt → va_P (dC, dI) vwCl ws H → va_D A ws → va_S A s.heap H locs → W p l e ({ frames := 5, cells := 0, slots := 0, locals := 167 } : Room) s m args below meth c H locs 0 0 Q (F0 m pc ls [])) : W p l e ({ frames := 5, cells := 0, slots := 0, locals := 167 } : Room) s m args below meth c H locs 0 0 Q (F0 m 0 ls []) := by
  unfold f_X5_addListed at hr
  refine lv_aload_n hx hb dX5_addListed_0 rfl (lv_at hl 0 rfl) ?_
  refine lv_aload_n hx hb dX5_addListed_1 rfl (lv_at hl 1 rfl) ?_
  refine lv_iload_n hx hb dX5_addListed_2 rfl (lv_at hl 2 rfl) ?_
  refine lv_iload_n hx hb dX5_addListed_3 rfl (lv_at hl 3 rfl) ?_
  refine lv_iconst (v := 0) hx hb dX5_addListed_4 (by decide +kernel) ?_
  replace hr := b5S hr
  obtain ⟨c5_G107, c5_G203, c5_V0, c5_V1, c5_V10, hc5, hr⟩ := hr
  have hFc := fr_all hD hS hA
  obtain ⟨i1, hi1⟩ := hW.o5 hk_this
  refine va_callv (va_runV (As := [.ref (ad p0), .int p1, .int p2, .int 0]) (rest := []) ⟨hx, hb, hml, hown, hts⟩ (m_X5_addEntry l dC dI kk ad H.size ws G P U V X O kd ln cnt this p0 p1 p2 0 hk_this hk_p0 hW hT c5_G107 c5_G203 c5_V0 c5_V1 c5_V10 hc5) (cwV 4 hts gc_RX5_X5_addEntry_59 rfl rfl rfl (by decide +kernel) ⟨Nat.le_of_ble_eq_true rfl, Nat.le_of_ble_eq_true rfl⟩) ⟨fun a U g mk q => by obtain ⟨q0, q1, qP, qK, qD⟩ := q; exact ⟨q0, q1, qP, va_K.moved (u := U) (U := U.calling g mk a) (Vm.Alike.refl U.vm) qK, qD⟩, va_recv hK hP (ci := 5) (q0 := i1) rfl hi1, fun U hU hW => ⟨rfl, by rw [hU], by rw [hU]; exact hP, va_K.moved hW.alike hK, hD.weaken (fun _ _ _ _ => trivial)⟩⟩ rfl rfl hl.1 rfl (lv_room (Nat.le_of_ble_eq_true rfl)) dX5_addListed_5 ⟨Nat.le_of_ble_eq_true rfl, Nat.le_of_ble_eq_true rfl⟩) hS (fun q _ h => hFc q h) hFc (fun w2 t H1 locs ht hvm hw hB hz1 hk1 hS => ?_)
  obtain ⟨hW, hT⟩ := hw
  obtain ⟨hP1, hK1, hD1⟩ := hB
  rw [ht] at hP1
  obtain ⟨hP, hD⟩ := jn_all (w1 := w2) hFc hP1 hD1
  replace hP : va_P (dC, dI) vwCl w2 H1 := hP
  replace hD : va_D A w2 := hD
  clear hFc hP1 hK1 hD1 hk1 hz1 ht hvm
  generalize H1 = H at hP hS ⊢
  exact K 8 ls _ _ _ _ _ w2 H _ hr dX5_addListed_8 hW hT hP hD hS
set_option maxHeartbeats 4000000 in
set_option maxRecDepth 100000 in
theorem m_X5_addListed (l : Launch) (dC : Nat → ClassId) (dI : Nat → Nat → Nat) (kk : Nat → ClassId) (ad : Nat → Nat) (sz : Nat) (ws : va_W) (G : Nat → Nat → Int32) (P : Nat → Nat → Option Nat) (U : Nat → Nat → Int64) (V : Nat → Nat → Nat → Int32) (X : Nat → Nat → Nat → Int64) (O : Nat → Nat → Nat → Option Nat) (kd : Nat → Nat) (ln : Nat → Nat) (cnt : Nat) (this : Nat) (p0 : Nat) (p1 : Int32) (p2 : Int32) (hk_this : kd this = 6) (hk_p0 : kd p0 = 100) (hW : LW ws ad kk kd ln G P U V X O) (hT : TYP kd P O (V 0) cnt) (c_G107 : Nat → Int32) (c_G203 : Nat → Int32) (c_V0 : Nat → Nat → Int32) (c_V1 : Nat → Nat → Int32) (c_V10 : Nat → Nat → Int32) (hr : f_X5_addListed G P U V X O kd ln cnt this p0 p1 p2 = some (c_G107, c_G203, c_V0, c_V1, c_V10)) : Met l yX5_addListed vmX5_addListed ({ frames := 5, cells := 0, slots := 0, locals := 167 } : Room) (va_Pc [.ref (ad this), .ref (ad p0), .int p1, .int p2] (fun U => U.heap.size = sz ∧ va_P (dC, dI) vwCl ws U.heap ∧ va_K (dC, dI) vwCl (cT kk) U ∧ va_D (fun _ => True) ws)) (va_Qv (fun w => LW w ad kk kd ln (va_up (va_up G 107 c_G107) 203 c_G203) P U (va_up (va_up (va_up V 0 c_V0) 1 c_V1) 10 c_V10) X O ∧ TYP kd P O c_V0 cnt) (fun w t => va_P (dC, dI) vwCl w t.heap ∧ va_K (dC, dI) vwCl (cT kk) t ∧ va_D (va_A ws sz) w) (va_A ws sz)) 0 0 (va_A ws sz) := by
  refine Met.ofW (cc := cX5_addListed) (maxL := 4) (ret := none) (by decide) rfl ?_
  intro p e s m args below meth c s₁ B hml hv
  obtain ⟨rfl, hsz, hP, hK, hD0⟩ := hv
  have hx := B.exec
  have hb := B.bytes
  have hrt := B.returns
  have hts := atoms_spec (ws := vmX5_addListed) B.pre
  have hown : s.vm.findClass RX5 = some m.cls := findClass_of_methodNamed B.named
  subst hsz
  have hD := hD0.self (sz := s.heap.size)
  generalize hAe : va_A ws s.heap.size = A at hD ⊢
  have hA : ∀ q : Nat, s.heap.size ≤ q → A q := fun q h => by rw [← hAe]; exact Or.inr h
  have hS : va_S A s.heap s.heap [] := va_S.rf
  have hl := lv_entry ([.ref (ad this), .ref (ad p0), .int p1, .int p2]) (n := 4) (Nat.le_of_ble_eq_true rfl)
  rw [lg_entry_eq]
  generalize (lg_sl ([.ref (ad this), .ref (ad p0), .int p1, .int p2]) ++ List.replicate (4 - (lg_sl ([.ref (ad this), .ref (ad p0), .int p1, .int p2])).length) Slot.unset).toArray = ls at hl ⊢
  exact bm_X5_addListed this p0 p1 p2 hk_this hk_p0 c_G107 c_G203 c_V0 c_V1 c_V10 hr hx hb hml hown hts hA hK hW hT hP hD hS hl (fun pc ls c_G107z c_G203z c_V0z c_V1z c_V10z ws H locs he hd hW hT hP hD hS => by cases he; exact W.vret hx hb hrt (fun t ht hW9 => ⟨⟨ws, rfl, ⟨hW, hT⟩, by rw [ht]; exact hP, va_K.moved hW9.alike hK, hD⟩, hS.F ht⟩) hS.2.2 hd)
set_option maxHeartbeats 4000000 in
set_option maxRecDepth 100000 in
theorem bm_X5_clear {p : Program} {l : Launch} {e : Env} {s : State} {m : MethodId} {args : Array Value} {below : List Frame} {meth : Method} {c : Code} {Q : State → Prop} {A : Nat → Prop} {dC : Nat → ClassId} {dI : Nat → Nat → Nat} {kk : Nat → ClassId} {ad : Nat → Nat} {ws : va_W} {G : Nat → Nat → Int32} {P : Nat → Nat → Option Nat} {U : Nat → Nat → Int64} {V : Nat → Nat → Nat → Int32} {X : Nat → Nat → Nat → Int64} {O : Nat → Nat → Nat → Option Nat} {kd : Nat → Nat} {ln : Nat → Nat} {cnt : Nat} {H : Heap} {locs : List Loc} {ls : Array Slot} (this : Nat) (p0 : Int32) (hk_this : kd this = 6) (c_G100 : Nat → Int32) (c_G102 : Nat → Int32) (c_G107 : Nat → Int32) (c_G203 : Nat → Int32) (hr : f_X5_clear G P U V X O kd ln cnt this p0 = some (c_G100, c_G102, c_G107, c_G203)) (hx : p.tables.exec = Jvm.exec) (hb : c.code = cX5_clear) (hml : c.maxLocals = 2) (hown : s.vm.findClass RX5 = some m.cls) (hts : ∀ w ∈ vmX5_clear, w.before args s = true) (hA : ∀ q : Nat, s.heap.size ≤ q → A q) (hK : va_K (dC, dI) vwCl (cT kk) s) (hW : LW ws ad kk kd ln G P U V X O) (hT : TYP kd P O (V 0) cnt) (hP : va_P (dC, dI) vwCl ws H) (hD : va_D A ws) (hS : va_S A s.heap H locs) (hl : lv_has ls 2 [(0, .ref (ad this)), (1, .int p0)])
    (K : ∀ (pc : Nat) (ls : Array Slot) (c_G100z : Nat → Int32) (c_G102z : Nat → Int32) (c_G107z : Nat → Int32) (c_G203z : Nat → Int32) (ws : va_W) (H : Heap) (locs : List Loc), some (c_G100z, c_G102z, c_G107z, c_G203z) = some (c_G100, c_G102, c_G107, c_G203) → decode cX5_clear pc = .ok (.return_, 1) → LW ws ad kk kd ln (va_up (va_up (va_up (va_up G 100 c_G100z) 102 c_G102z) 107 c_G107z) 203 c_G203z) P U V X O → TYP kd P O (V 0) cnt → va_P (dC, dI) vwCl ws H → va_D A ws → va_S A s.heap H locs → W p l e ({ frames := 2, cells := 0, slots := 0, locals := 60 } : Room) s m args below meth c H locs 0 0 Q (F0 m pc ls [])) : W p l e ({ frames := 2, cells := 0, slots := 0, locals := 60 } : Room) s m args below meth c H locs 0 0 Q (F0 m 0 ls []) := by
  unfold f_X5_clear at hr
  refine lv_aload_n hx hb dX5_clear_0 rfl (lv_at hl 0 rfl) ?_
  refine lv_iload_n hx hb dX5_clear_1 rfl (lv_at hl 1 rfl) ?_
  obtain ⟨i1, hi1⟩ := hW.o5 hk_this
  refine va_put (D := (dC, dI)) (ci := 5) (v := .int p0) (ty := .int) (C := RX5) (T := TX5) (N := 11) hx hb hts inX5 tyX5 tyX5_ok nmX5 hown hK hP hD hS i1 hi1 rfl 0 (by decide) (hts (.fieldLink RX5 9 "SpellTurner$Reform" "day" "I") ic_265) (fun _ h9 => h9) rfl (by decide +kernel) rfl rfl (Nat.le_of_ble_eq_true rfl) dX5_clear_2 (fun H locs hP2 hD2 hS => ?_)
  obtain ⟨m2, w2, em2, hP, hD, hW⟩ : ∃ (z : Nat → Int32) (w : va_W), z = (va_up (G 100) this p0) ∧ va_P (dC, dI) vwCl w H ∧ va_D A w ∧ LW w ad kk kd ln (va_up G 100 z) P U V X O := ⟨_, _, rfl, hP2, hD2, hW.setG hD hi1 (by rw [hk_this]; decide) 100 p0 (by rw [hk_this]; rfl)⟩
  replace hr := vlS hr m2 em2
  clear em2
  refine lv_aload_n hx hb dX5_clear_5 rfl (lv_at hl 0 rfl) ?_
  refine lv_iconst (v := 0) hx hb dX5_clear_6 (by decide +kernel) ?_
  obtain ⟨i3, hi3⟩ := hW.o5 hk_this
  refine va_put (D := (dC, dI)) (ci := 5) (v := .int 0) (ty := .int) (C := RX5) (T := TX5) (N := 11) hx hb hts inX5 tyX5 tyX5_ok nmX5 hown hK hP hD hS i3 hi3 rfl 2 (by decide) (hts (.fieldLink RX5 21 "SpellTurner$Reform" "lawCount" "I") ic_250) (fun _ h9 => h9) rfl (by decide +kernel) rfl rfl (Nat.le_of_ble_eq_true rfl) dX5_clear_7 (fun H locs hP2 hD2 hS => ?_)
  obtain ⟨m7, w4, em7, hP, hD, hW⟩ : ∃ (z : Nat → Int32) (w : va_W), z = (va_up (G 102) this 0) ∧ va_P (dC, dI) vwCl w H ∧ va_D A w ∧ LW w ad kk kd ln (va_up (va_up G 100 m2) 102 z) P U V X O := ⟨_, _, rfl, hP2, hD2, hW.setG hD hi3 (by rw [hk_this]; decide) 102 0 (by rw [hk_this]; rfl)⟩
  replace hr := vlS hr m7 em7
  clear em7
  refine lv_aload_n hx hb dX5_clear_10 rfl (lv_at hl 0 rfl) ?_
  obtain ⟨i5, hi5⟩ := hW.o5 hk_this
  replace hr := nnS hr
  obtain ⟨a11, hn11, hr⟩ := hr
  have hk_a11 : kd a11 = 11 := hT.1 103 _ _ hn11
  refine va_get (D := (dC, dI)) (ci := 5) (v := .ref (ad a11)) (C := RX5) (T := TX5) (N := 11) hx hb hts inX5 hown hK hP i5 hi5 rfl 3 (by decide) (hts (.fieldLink RX5 29 "SpellTurner$Reform" "parts" "LSpellTurner$WordRow;") ic_266) (fun _ h9 => h9) (congrArg (fun o => some (va_re ad o)) hn11) dX5_clear_11 ?_
  refine lv_iconst (v := 0) hx hb dX5_clear_14 (by decide +kernel) ?_
  obtain ⟨i6, hi6⟩ := hW.o10 hk_a11
  refine va_put (D := (dC, dI)) (ci := 10) (v := .int 0) (ty := .int) (C := RX10) (T := TX10) (N := 4) hx hb hts inX10 tyX10 tyX10_ok nmX10 hown hK hP hD hS i6 hi6 rfl 3 (by decide) (hts (.fieldLink RX5 56 "SpellTurner$WordRow" "count" "I") ic_255) (fun _ h9 => h9) rfl (by decide +kernel) rfl rfl (Nat.le_of_ble_eq_true rfl) dX5_clear_15 (fun H locs hP2 hD2 hS => ?_)
  obtain ⟨m15, w7, em15, hP, hD, hW⟩ : ∃ (z : Nat → Int32) (w : va_W), z = (va_up (G 203) a11 0) ∧ va_P (dC, dI) vwCl w H ∧ va_D A w ∧ LW w ad kk kd ln (va_up (va_up (va_up G 100 m2) 102 m7) 203 z) P U V X O := ⟨_, _, rfl, hP2, hD2, hW.setG hD hi6 (by rw [hk_a11]; decide) 203 0 (by rw [hk_a11]; rfl)⟩
  replace hr := vlS hr m15 em15
  clear em15
  refine lv_aload_n hx hb dX5_clear_18 rfl (lv_at hl 0 rfl) ?_
  obtain ⟨i8, hi8⟩ := hW.o5 hk_this
  replace hr := nnS hr
  obtain ⟨a19, hn19, hr⟩ := hr
  have hk_a19 : kd a19 = 11 := hT.1 104 _ _ hn19
  refine va_get (D := (dC, dI)) (ci := 5) (v := .ref (ad a19)) (C := RX5) (T := TX5) (N := 11) hx hb hts inX5 hown hK hP i8 hi8 rfl 4 (by decide) (hts (.fieldLink RX5 33 "SpellTurner$Reform" "entries" "LSpellTurner$WordRow;") ic_253) (fun _ h9 => h9) (congrArg (fun o => some (va_re ad o)) hn19) dX5_clear_19 ?_
  refine lv_iconst (v := 0) hx hb dX5_clear_22 (by decide +kernel) ?_
  obtain ⟨i9, hi9⟩ := hW.o10 hk_a19
  refine va_put (D := (dC, dI)) (ci := 10) (v := .int 0) (ty := .int) (C := RX10) (T := TX10) (N := 4) hx hb hts inX10 tyX10 tyX10_ok nmX10 hown hK hP hD hS i9 hi9 rfl 3 (by decide) (hts (.fieldLink RX5 56 "SpellTurner$WordRow" "count" "I") ic_255) (fun _ h9 => h9) rfl (by decide +kernel) rfl rfl (Nat.le_of_ble_eq_true rfl) dX5_clear_23 (fun H locs hP2 hD2 hS => ?_)
  obtain ⟨m23, w10, em23, hP, hD, hW⟩ : ∃ (z : Nat → Int32) (w : va_W), z = (va_up m15 a19 0) ∧ va_P (dC, dI) vwCl w H ∧ va_D A w ∧ LW w ad kk kd ln (va_up (va_up (va_up (va_up G 100 m2) 102 m7) 203 m15) 203 z) P U V X O := ⟨_, _, rfl, hP2, hD2, hW.setG hD hi9 (by rw [hk_a19]; decide) 203 0 (by rw [hk_a19]; rfl)⟩
  replace hr := vlS hr m23 em23
  clear em23
  refine lv_aload_n hx hb dX5_clear_26 rfl (lv_at hl 0 rfl) ?_
  obtain ⟨i11, hi11⟩ := hW.o5 hk_this
  replace hr := nnS hr
  obtain ⟨a27, hn27, hr⟩ := hr
  have hk_a27 : kd a27 = 11 := hT.1 105 _ _ hn27
  refine va_get (D := (dC, dI)) (ci := 5) (v := .ref (ad a27)) (C := RX5) (T := TX5) (N := 11) hx hb hts inX5 hown hK hP i11 hi11 rfl 5 (by decide) (hts (.fieldLink RX5 36 "SpellTurner$Reform" "becomes" "LSpellTurner$WordRow;") ic_262) (fun _ h9 => h9) (congrArg (fun o => some (va_re ad o)) hn27) dX5_clear_27 ?_
  refine lv_iconst (v := 0) hx hb dX5_clear_30 (by decide +kernel) ?_
  obtain ⟨i12, hi12⟩ := hW.o10 hk_a27
  refine va_put (D := (dC, dI)) (ci := 10) (v := .int 0) (ty := .int) (C := RX10) (T := TX10) (N := 4) hx hb hts inX10 tyX10 tyX10_ok nmX10 hown hK hP hD hS i12 hi12 rfl 3 (by decide) (hts (.fieldLink RX5 56 "SpellTurner$WordRow" "count" "I") ic_255) (fun _ h9 => h9) rfl (by decide +kernel) rfl rfl (Nat.le_of_ble_eq_true rfl) dX5_clear_31 (fun H locs hP2 hD2 hS => ?_)
  obtain ⟨m31, w13, em31, hP, hD, hW⟩ : ∃ (z : Nat → Int32) (w : va_W), z = (va_up m23 a27 0) ∧ va_P (dC, dI) vwCl w H ∧ va_D A w ∧ LW w ad kk kd ln (va_up (va_up (va_up (va_up (va_up G 100 m2) 102 m7) 203 m15) 203 m23) 203 z) P U V X O := ⟨_, _, rfl, hP2, hD2, hW.setG hD hi12 (by rw [hk_a27]; decide) 203 0 (by rw [hk_a27]; rfl)⟩
  replace hr := vlS hr m31 em31
  clear em31
  refine lv_aload_n hx hb dX5_clear_34 rfl (lv_at hl 0 rfl) ?_
  refine lv_iconst (v := 0) hx hb dX5_clear_35 (by decide +kernel) ?_
  obtain ⟨i14, hi14⟩ := hW.o5 hk_this
  refine va_put (D := (dC, dI)) (ci := 5) (v := .int 0) (ty := .int) (C := RX5) (T := TX5) (N := 11) hx hb hts inX5 tyX5 tyX5_ok nmX5 hown hK hP hD hS i14 hi14 rfl 7 (by decide) (hts (.fieldLink RX5 43 "SpellTurner$Reform" "keptCount" "I") ic_256) (fun _ h9 => h9) rfl (by decide +kernel) rfl rfl (Nat.le_of_ble_eq_true rfl) dX5_clear_36 (fun H locs hP2 hD2 hS => ?_)
  obtain ⟨m36, w15, em36, hP, hD, hW⟩ : ∃ (z : Nat → Int32) (w : va_W), z = (va_up (G 107) this 0) ∧ va_P (dC, dI) vwCl w H ∧ va_D A w ∧ LW w ad kk kd ln (va_up (va_up (va_up (va_up (va_up (va_up G 100 m2) 102 m7) 203 m15) 203 m23) 203 m31) 107 z) P U V X O := ⟨_, _, rfl, hP2, hD2, hW.setG hD hi14 (by rw [hk_this]; decide) 107 0 (by rw [hk_this]; rfl)⟩
  replace hr := vlS hr m36 em36
  clear em36
  refine lv_aload_n hx hb dX5_clear_39 rfl (lv_at hl 0 rfl) ?_
  obtain ⟨i16, hi16⟩ := hW.o5 hk_this
  replace hr := nnS hr
  obtain ⟨a40, hn40, hr⟩ := hr
  have hk_a40 : kd a40 = 11 := hT.1 108 _ _ hn40
  refine va_get (D := (dC, dI)) (ci := 5) (v := .ref (ad a40)) (C := RX5) (T := TX5) (N := 11) hx hb hts inX5 hown hK hP i16 hi16 rfl 8 (by decide) (hts (.fieldLink RX5 46 "SpellTurner$Reform" "turnedParts" "LSpellTurner$WordRow;") ic_267) (fun _ h9 => h9) (congrArg (fun o => some (va_re ad o)) hn40) dX5_clear_40 ?_
  refine lv_iconst (v := 0) hx hb dX5_clear_43 (by decide +kernel) ?_
  obtain ⟨i17, hi17⟩ := hW.o10 hk_a40
  refine va_put (D := (dC, dI)) (ci := 10) (v := .int 0) (ty := .int) (C := RX10) (T := TX10) (N := 4) hx hb hts inX10 tyX10 tyX10_ok nmX10 hown hK hP hD hS i17 hi17 rfl 3 (by decide) (hts (.fieldLink RX5 56 "SpellTurner$WordRow" "count" "I") ic_255) (fun _ h9 => h9) rfl (by decide +kernel) rfl rfl (Nat.le_of_ble_eq_true rfl) dX5_clear_44 (fun H locs hP2 hD2 hS => ?_)
  obtain ⟨m44, w18, em44, hP, hD, hW⟩ : ∃ (z : Nat → Int32) (w : va_W), z = (va_up m31 a40 0) ∧ va_P (dC, dI) vwCl w H ∧ va_D A w ∧ LW w ad kk kd ln (va_up (va_up (va_up (va_up (va_up (va_up (va_up G 100 m2) 102 m7) 203 m15) 203 m23) 203 m31) 107 m36) 203 z) P U V X O := ⟨_, _, rfl, hP2, hD2, hW.setG hD hi17 (by rw [hk_a40]; decide) 203 0 (by rw [hk_a40]; rfl)⟩
  replace hr := vlS hr m44 em44
  clear em44
  have eG : (va_up (va_up (va_up (va_up (va_up (va_up (va_up G 100 m2) 102 m7) 203 m15) 203 m23) 203 m31) 107 m36) 203 m44) = (va_up (va_up (va_up (va_up G 100 m2) 102 m7) 107 m36) 203 m44) := by
    funext k
    by_cases h100 : k = 100
    · subst h100; rfl
    by_cases h102 : k = 102
    · subst h102; rfl
    by_cases h107 : k = 107
    · subst h107; rfl
    by_cases h203 : k = 203
    · subst h203; rfl
    · simp only [va_up, h100, h102, h107, h203, if_false]
  rw [eG] at hW
  clear eG
  exact K 47 ls _ _ _ _ w18 H _ hr dX5_clear_47 hW hT hP hD hS
set_option maxHeartbeats 4000000 in
set_option maxRecDepth 100000 in
theorem m_X5_clear (l : Launch) (dC : Nat → ClassId) (dI : Nat → Nat → Nat) (kk : Nat → ClassId) (ad : Nat → Nat) (sz : Nat) (ws : va_W) (G : Nat → Nat → Int32) (P : Nat → Nat → Option Nat) (U : Nat → Nat → Int64) (V : Nat → Nat → Nat → Int32) (X : Nat → Nat → Nat → Int64) (O : Nat → Nat → Nat → Option Nat) (kd : Nat → Nat) (ln : Nat → Nat) (cnt : Nat) (this : Nat) (p0 : Int32) (hk_this : kd this = 6) (hW : LW ws ad kk kd ln G P U V X O) (hT : TYP kd P O (V 0) cnt) (c_G100 : Nat → Int32) (c_G102 : Nat → Int32) (c_G107 : Nat → Int32) (c_G203 : Nat → Int32) (hr : f_X5_clear G P U V X O kd ln cnt this p0 = some (c_G100, c_G102, c_G107, c_G203)) : Met l yX5_clear vmX5_clear ({ frames := 2, cells := 0, slots := 0, locals := 60 } : Room) (va_Pc [.ref (ad this), .int p0] (fun U => U.heap.size = sz ∧ va_P (dC, dI) vwCl ws U.heap ∧ va_K (dC, dI) vwCl (cT kk) U ∧ va_D (fun _ => True) ws)) (va_Qv (fun w => LW w ad kk kd ln (va_up (va_up (va_up (va_up G 100 c_G100) 102 c_G102) 107 c_G107) 203 c_G203) P U V X O ∧ TYP kd P O (V 0) cnt) (fun w t => va_P (dC, dI) vwCl w t.heap ∧ va_K (dC, dI) vwCl (cT kk) t ∧ va_D (va_A ws sz) w) (va_A ws sz)) 0 0 (va_A ws sz) := by
  refine Met.ofW (cc := cX5_clear) (maxL := 2) (ret := none) (by decide) rfl ?_
  intro p e s m args below meth c s₁ B hml hv
  obtain ⟨rfl, hsz, hP, hK, hD0⟩ := hv
  have hx := B.exec
  have hb := B.bytes
  have hrt := B.returns
  have hts := atoms_spec (ws := vmX5_clear) B.pre
  have hown : s.vm.findClass RX5 = some m.cls := findClass_of_methodNamed B.named
  subst hsz
  have hD := hD0.self (sz := s.heap.size)
  generalize hAe : va_A ws s.heap.size = A at hD ⊢
  have hA : ∀ q : Nat, s.heap.size ≤ q → A q := fun q h => by rw [← hAe]; exact Or.inr h
  have hS : va_S A s.heap s.heap [] := va_S.rf
  have hl := lv_entry ([.ref (ad this), .int p0]) (n := 2) (Nat.le_of_ble_eq_true rfl)
  rw [lg_entry_eq]
  generalize (lg_sl ([.ref (ad this), .int p0]) ++ List.replicate (2 - (lg_sl ([.ref (ad this), .int p0])).length) Slot.unset).toArray = ls at hl ⊢
  exact bm_X5_clear this p0 hk_this c_G100 c_G102 c_G107 c_G203 hr hx hb hml hown hts hA hK hW hT hP hD hS hl (fun pc ls c_G100z c_G102z c_G107z c_G203z ws H locs he hd hW hT hP hD hS => by cases he; exact W.vret hx hb hrt (fun t ht hW9 => ⟨⟨ws, rfl, ⟨hW, hT⟩, by rw [ht]; exact hP, va_K.moved hW9.alike hK, hD⟩, hS.F ht⟩) hS.2.2 hd)
set_option maxHeartbeats 4000000 in
set_option maxRecDepth 100000 in
theorem bm_X9_addEntry {p : Program} {l : Launch} {e : Env} {s : State} {m : MethodId} {args : Array Value} {below : List Frame} {meth : Method} {c : Code} {Q : State → Prop} {A : Nat → Prop} {dC : Nat → ClassId} {dI : Nat → Nat → Nat} {kk : Nat → ClassId} {ad : Nat → Nat} {ws : va_W} {G : Nat → Nat → Int32} {P : Nat → Nat → Option Nat} {U : Nat → Nat → Int64} {V : Nat → Nat → Nat → Int32} {X : Nat → Nat → Nat → Int64} {O : Nat → Nat → Nat → Option Nat} {kd : Nat → Nat} {ln : Nat → Nat} {cnt : Nat} {H : Heap} {locs : List Loc} {ls : Array Slot} (this : Nat) (p0 : Nat) (p1 : Int32) (p2 : Nat) (hk_this : kd this = 10) (hk_p0 : kd p0 = 6) (hk_p2 : kd p2 = 11) (c_G203 : Nat → Int32) (c_V0 : Nat → Nat → Int32) (c_V1 : Nat → Nat → Int32) (hr : f_X9_addEntry G P U V X O kd ln cnt this p0 p1 p2 = some (c_G203, c_V0, c_V1)) (hx : p.tables.exec = Jvm.exec) (hb : c.code = cX9_addEntry) (hml : c.maxLocals = 5) (hown : s.vm.findClass RX9 = some m.cls) (hts : ∀ w ∈ vmX9_addEntry, w.before args s = true) (hA : ∀ q : Nat, s.heap.size ≤ q → A q) (hK : va_K (dC, dI) vwCl (cT kk) s) (hW : LW ws ad kk kd ln G P U V X O) (hT : TYP kd P O (V 0) cnt) (hP : va_P (dC, dI) vwCl ws H) (hD : va_D A ws) (hS : va_S A s.heap H locs) (hl : lv_has ls 5 [(0, .ref (ad this)), (1, .ref (ad p0)), (2, .int p1), (3, .ref (ad p2))])
    (K : ∀ (pc : Nat) (ls : Array Slot) (c_G203z : Nat → Int32) (c_V0z : Nat → Nat → Int32) (c_V1z : Nat → Nat → Int32) (ws : va_W) (H : Heap) (locs : List Loc), some (c_G203z, c_V0z, c_V1z) = some (c_G203, c_V0, c_V1) → decode cX9_addEntry pc = .ok (.return_, 1) → LW ws ad kk kd ln (va_up G 203 c_G203z) P U (va_up (va_up V 0 c_V0z) 1 c_V1z) X O → TYP kd P O c_V0z cnt → va_P (dC, dI) vwCl ws H → va_D A ws → va_S A s.heap H locs → W p l e ({ frames := 5, cells := 0, slots := 0, locals := 166 } : Room) s m args below meth c H locs 0 0 Q (F0 m pc ls [])) : W p l e ({ frames := 5, cells := 0, slots := 0, locals := 166 } : Room) s m args below meth c H locs 0 0 Q (F0 m 0 ls []) := by
  unfold f_X9_addEntry at hr
  refine lv_aload_n hx hb dX9_addEntry_0 rfl (lv_at hl 1 rfl) ?_
  refine lv_iload_n hx hb dX9_addEntry_1 rfl (lv_at hl 2 rfl) ?_
  replace hr := b1S hr
  obtain ⟨r2z, hc2, hr⟩ := hr
  have hFc := fr_all hD hS hA
  obtain ⟨i1, hi1⟩ := hW.o5 hk_p0
  refine va_calli (va_runV (As := [.int p1]) (rest := []) ⟨hx, hb, hml, hown, hts⟩ (m_X5_isKept l dC dI kk ad H.size ws G P U V X O kd ln cnt p0 p1 hk_p0 hW hT r2z hc2) (cwV 1 hts gc_RX9_X5_isKept_121 rfl rfl rfl (by decide +kernel) ⟨Nat.le_of_ble_eq_true rfl, Nat.le_of_ble_eq_true rfl⟩) ⟨fun a U g mk q => by obtain ⟨q0, q1, qP, qK, qD⟩ := q; exact ⟨q0, q1, qP, va_K.moved (u := U) (U := U.calling g mk a) (Vm.Alike.refl U.vm) qK, qD⟩, va_recv hK hP (ci := 5) (q0 := i1) rfl hi1, fun U hU hW => ⟨rfl, by rw [hU], by rw [hU]; exact hP, va_K.moved hW.alike hK, hD.weaken (fun _ _ _ _ => trivial)⟩⟩ rfl rfl hl.1 rfl (lv_room (Nat.le_of_ble_eq_true rfl)) dX9_addEntry_2 ⟨Nat.le_of_ble_eq_true rfl, Nat.le_of_ble_eq_true rfl⟩) hS (fun q _ h => hFc q h) hFc (fun r2 w2 t H1 locs ht hvm hw hB hz1 hk1 hS => ?_)
  obtain ⟨hw0, hW, hT⟩ := hw
  replace hw0 : r2 = r2z := hw0
  subst hw0
  obtain ⟨hP1, hK1, hD1⟩ := hB
  rw [ht] at hP1
  obtain ⟨hP, hD⟩ := jn_all (w1 := w2) hFc hP1 hD1
  replace hP : va_P (dC, dI) vwCl w2 H1 := hP
  replace hD : va_D A w2 := hD
  clear hFc hP1 hK1 hD1 hk1 hz1 ht hvm
  generalize H1 = H at hP hS ⊢
  replace hr := jnS hr
  obtain ⟨j19, hj19, hr⟩ := hr
  have Jj19 : ∀ (t19_0 : Nat) (ws : va_W) (H : Heap) (locs : List Loc) (ls : Array Slot), j19 t19_0 = some (c_G203, c_V0, c_V1) → LW ws ad kk kd ln G P U V X O → TYP kd P O (V 0) cnt → va_P (dC, dI) vwCl ws H → va_D A ws → va_S A s.heap H locs → lv_has ls 5 [(2, .int p1), (3, .ref (ad p2))] → kd t19_0 = 11 → W p l e ({ frames := 5, cells := 0, slots := 0, locals := 166 } : Room) s m args below meth c H locs 0 0 Q (F0 m 19 ls [.ref (ad t19_0)]) := by
    intro t19_0 ws H locs ls hr hW hT hP hD hS hl hk_t19_0
    rw [hj19] at hr
    refine lv_astore (lv' := [(4, .ref (ad t19_0)), (2, .int p1), (3, .ref (ad p2))]) hx hb dX9_addEntry_19 hl (by decide) rfl (fun ls hl => ?_)
    refine lv_iload_n hx hb dX9_addEntry_21 rfl (lv_at hl 1 rfl) ?_
    refine lv_aload hx hb dX9_addEntry_22 (lv_at hl 0 rfl) ?_
    obtain ⟨i3, hi3⟩ := hW.o10 hk_t19_0
    refine va_get (D := (dC, dI)) (ci := 10) (v := .int ((G 203) t19_0)) (C := RX10) (T := TX10) (N := 4) hx hb hts inX10 hown hK hP i3 hi3 rfl 3 (by decide) (hts (.fieldLink RX9 53 "SpellTurner$WordRow" "count" "I") ic_270) (fun _ h9 => h9) rfl dX9_addEntry_24 ?_
    replace hr := jnS hr
    obtain ⟨j53, hj53, hr⟩ := hr
    have Jj53 : ∀ (c53_G203 : Nat → Int32) (c53_V0 : Nat → Nat → Int32) (c53_V1 : Nat → Nat → Int32) (ws : va_W) (H : Heap) (locs : List Loc) (ls : Array Slot), j53 c53_G203 c53_V0 c53_V1 = some (c_G203, c_V0, c_V1) → LW ws ad kk kd ln (va_up G 203 c53_G203) P U (va_up (va_up V 0 c53_V0) 1 c53_V1) X O → TYP kd P O c53_V0 cnt → va_P (dC, dI) vwCl ws H → va_D A ws → va_S A s.heap H locs → lv_has ls 5 [] → W p l e ({ frames := 5, cells := 0, slots := 0, locals := 166 } : Room) s m args below meth c H locs 0 0 Q (F0 m 53 ls []) := by
      intro c53_G203 c53_V0 c53_V1 ws H locs ls hr hW hT hP hD hS hl
      rw [hj53] at hr
      exact K 53 ls _ _ _ ws H _ hr dX9_addEntry_53 hW hT hP hD hS
    refine lv_icmp_ge (tgt := 53) hx hb dX9_addEntry_27 (by decide) (fun c27 => ?_) (fun c27 => ?_)
    · replace hr := iteT c27 hr
      have eG : G = (va_up G 203 (G 203)) := by
        funext k
        by_cases h203 : k = 203
        · subst h203; rfl
        · simp only [va_up, h203, if_false]
      rw [eG] at hW
      clear eG
      have eV : V = (va_up (va_up V 0 (V 0)) 1 (V 1)) := by
        funext k
        by_cases h0 : k = 0
        · subst h0; rfl
        by_cases h1 : k = 1
        · subst h1; rfl
        · simp only [va_up, h0, h1, if_false]
      rw [eV] at hW
      clear eV
      exact Jj53 (G 203) (V 0) (V 1) ws H _ ls hr hW hT hP hD hS (lv_sub hl [] rfl)
    · replace hr := iteF c27 hr
      refine lv_aload_n hx hb dX9_addEntry_30 rfl (lv_at hl 2 rfl) ?_
      refine lv_aload hx hb dX9_addEntry_31 (lv_at hl 0 rfl) ?_
      obtain ⟨i4, hi4⟩ := hW.o10 hk_t19_0
      replace hr := nnS hr
      obtain ⟨a33, hn33, hr⟩ := hr
      have hk_a33 : kd a33 = 100 := hT.1 201 _ _ hn33
      refine va_get (D := (dC, dI)) (ci := 10) (v := .ref (ad a33)) (C := RX10) (T := TX10) (N := 4) hx hb hts inX10 hown hK hP i4 hi4 rfl 1 (by decide) (hts (.fieldLink RX9 56 "SpellTurner$WordRow" "letters" "[B") ic_271) (fun _ h9 => h9) (congrArg (fun o => some (va_re ad o)) hn33) dX9_addEntry_33 ?_
      refine lv_iload_n hx hb dX9_addEntry_36 rfl (lv_at hl 1 rfl) ?_
      refine lv_aload hx hb dX9_addEntry_37 (lv_at hl 0 rfl) ?_
      obtain ⟨i5, hi5⟩ := hW.o10 hk_t19_0
      refine va_get (D := (dC, dI)) (ci := 10) (v := .int ((G 200) t19_0)) (C := RX10) (T := TX10) (N := 4) hx hb hts inX10 hown hK hP i5 hi5 rfl 0 (by decide) (hts (.fieldLink RX9 59 "SpellTurner$WordRow" "width" "I") ic_272) (fun _ h9 => h9) rfl dX9_addEntry_39 ?_
      refine lv_imul hx hb dX9_addEntry_42 ?_
      refine lv_aload hx hb dX9_addEntry_43 (lv_at hl 0 rfl) ?_
      obtain ⟨i6, hi6⟩ := hW.o10 hk_t19_0
      replace hr := nnS hr
      obtain ⟨a45, hn45, hr⟩ := hr
      have hk_a45 : kd a45 = 101 := hT.1 202 _ _ hn45
      refine va_get (D := (dC, dI)) (ci := 10) (v := .ref (ad a45)) (C := RX10) (T := TX10) (N := 4) hx hb hts inX10 hown hK hP i6 hi6 rfl 2 (by decide) (hts (.fieldLink RX9 62 "SpellTurner$WordRow" "lengths" "[I") ic_273) (fun _ h9 => h9) (congrArg (fun o => some (va_re ad o)) hn45) dX9_addEntry_45 ?_
      refine lv_iload_n hx hb dX9_addEntry_48 rfl (lv_at hl 1 rfl) ?_
      obtain ⟨i7, hi7⟩ := hW.v1 hk_a45
      replace hr := iteS hr
      obtain ⟨hi49, hr⟩ := hr
      refine va_iald (f := ((V 1) a45)) hx hb hK hP i7 1 hi7 rfl (inbV hi49) dX9_addEntry_49 ?_
      replace hr := b3S hr
      obtain ⟨c50_G203, c50_V0, c50_V1, hc50, hr⟩ := hr
      have hFc := fr_all hD hS hA
      obtain ⟨i8, hi8⟩ := hW.o10 hk_p2
      refine va_callv (va_runV (As := [.ref (ad a33), .int (p1 * ((G 200) t19_0)), .int (((V 1) a45) (Int32.toNatClampNeg p1))]) (rest := []) ⟨hx, hb, hml, hown, hts⟩ (m_X10_addForm l dC dI kk ad H.size ws G P U V X O kd ln cnt p2 a33 (p1 * ((G 200) t19_0)) (((V 1) a45) (Int32.toNatClampNeg p1)) hk_p2 hk_a33 hW hT c50_G203 c50_V0 c50_V1 hc50) (cwV 3 hts gc_RX9_X10_addForm_85 rfl rfl rfl (by decide +kernel) ⟨Nat.le_of_ble_eq_true rfl, Nat.le_of_ble_eq_true rfl⟩) ⟨fun a U g mk q => by obtain ⟨q0, q1, qP, qK, qD⟩ := q; exact ⟨q0, q1, qP, va_K.moved (u := U) (U := U.calling g mk a) (Vm.Alike.refl U.vm) qK, qD⟩, va_recv hK hP (ci := 10) (q0 := i8) rfl hi8, fun U hU hW => ⟨rfl, by rw [hU], by rw [hU]; exact hP, va_K.moved hW.alike hK, hD.weaken (fun _ _ _ _ => trivial)⟩⟩ rfl rfl hl.1 rfl (lv_room (Nat.le_of_ble_eq_true rfl)) dX9_addEntry_50 ⟨Nat.le_of_ble_eq_true rfl, Nat.le_of_ble_eq_true rfl⟩) hS (fun q _ h => hFc q h) hFc (fun w9 t H1 locs ht hvm hw hB hz1 hk1 hS => ?_)
      obtain ⟨hW, hT⟩ := hw
      obtain ⟨hP1, hK1, hD1⟩ := hB
      rw [ht] at hP1
      obtain ⟨hP, hD⟩ := jn_all (w1 := w9) hFc hP1 hD1
      replace hP : va_P (dC, dI) vwCl w9 H1 := hP
      replace hD : va_D A w9 := hD
      clear hFc hP1 hK1 hD1 hk1 hz1 ht hvm
      generalize H1 = H at hP hS ⊢
      exact Jj53 c50_G203 c50_V0 c50_V1 w9 H _ ls hr hW hT hP hD hS (lv_sub hl [] rfl)
  refine lv_if_eq (tgt := 15) hx hb dX9_addEntry_5 (by decide) (fun c5 => ?_) (fun c5 => ?_)
  · replace hr := iteT c5 hr
    refine lv_aload_n hx hb dX9_addEntry_15 rfl (lv_at hl 1 rfl) ?_
    obtain ⟨i10, hi10⟩ := hW.o5 hk_p0
    replace hr := nnS hr
    obtain ⟨a16, hn16, hr⟩ := hr
    have hk_a16 : kd a16 = 11 := hT.1 105 _ _ hn16
    refine va_get (D := (dC, dI)) (ci := 5) (v := .ref (ad a16)) (C := RX5) (T := TX5) (N := 11) hx hb hts inX5 hown hK hP i10 hi10 rfl 5 (by decide) (hts (.fieldLink RX9 125 "SpellTurner$Reform" "becomes" "LSpellTurner$WordRow;") ic_277) (fun _ h9 => h9) (congrArg (fun o => some (va_re ad o)) hn16) dX9_addEntry_16 ?_
    exact Jj19 a16 w2 H _ ls hr hW hT hP hD hS (lv_sub hl [2, 3] rfl) hk_a16
  · replace hr := iteF c5 hr
    refine lv_aload_n hx hb dX9_addEntry_8 rfl (lv_at hl 1 rfl) ?_
    obtain ⟨i11, hi11⟩ := hW.o5 hk_p0
    replace hr := nnS hr
    obtain ⟨a9, hn9, hr⟩ := hr
    have hk_a9 : kd a9 = 11 := hT.1 104 _ _ hn9
    refine va_get (D := (dC, dI)) (ci := 5) (v := .ref (ad a9)) (C := RX5) (T := TX5) (N := 11) hx hb hts inX5 hown hK hP i11 hi11 rfl 4 (by decide) (hts (.fieldLink RX9 102 "SpellTurner$Reform" "entries" "LSpellTurner$WordRow;") ic_278) (fun _ h9 => h9) (congrArg (fun o => some (va_re ad o)) hn9) dX9_addEntry_9 ?_
    refine lv_goto (tgt := 19) hx hb dX9_addEntry_12 (by decide) ?_
    exact Jj19 a9 w2 H _ ls hr hW hT hP hD hS (lv_sub hl [2, 3] rfl) hk_a9
set_option maxHeartbeats 4000000 in
set_option maxRecDepth 100000 in
theorem m_X9_addEntry (l : Launch) (dC : Nat → ClassId) (dI : Nat → Nat → Nat) (kk : Nat → ClassId) (ad : Nat → Nat) (sz : Nat) (ws : va_W) (G : Nat → Nat → Int32) (P : Nat → Nat → Option Nat) (U : Nat → Nat → Int64) (V : Nat → Nat → Nat → Int32) (X : Nat → Nat → Nat → Int64) (O : Nat → Nat → Nat → Option Nat) (kd : Nat → Nat) (ln : Nat → Nat) (cnt : Nat) (this : Nat) (p0 : Nat) (p1 : Int32) (p2 : Nat) (hk_this : kd this = 10) (hk_p0 : kd p0 = 6) (hk_p2 : kd p2 = 11) (hW : LW ws ad kk kd ln G P U V X O) (hT : TYP kd P O (V 0) cnt) (c_G203 : Nat → Int32) (c_V0 : Nat → Nat → Int32) (c_V1 : Nat → Nat → Int32) (hr : f_X9_addEntry G P U V X O kd ln cnt this p0 p1 p2 = some (c_G203, c_V0, c_V1)) : Met l yX9_addEntry vmX9_addEntry ({ frames := 5, cells := 0, slots := 0, locals := 166 } : Room) (va_Pc [.ref (ad this), .ref (ad p0), .int p1, .ref (ad p2)] (fun U => U.heap.size = sz ∧ va_P (dC, dI) vwCl ws U.heap ∧ va_K (dC, dI) vwCl (cT kk) U ∧ va_D (fun _ => True) ws)) (va_Qv (fun w => LW w ad kk kd ln (va_up G 203 c_G203) P U (va_up (va_up V 0 c_V0) 1 c_V1) X O ∧ TYP kd P O c_V0 cnt) (fun w t => va_P (dC, dI) vwCl w t.heap ∧ va_K (dC, dI) vwCl (cT kk) t ∧ va_D (va_A ws sz) w) (va_A ws sz)) 0 0 (va_A ws sz) := by
  refine Met.ofW (cc := cX9_addEntry) (maxL := 5) (ret := none) (by decide) rfl ?_
  intro p e s m args below meth c s₁ B hml hv
  obtain ⟨rfl, hsz, hP, hK, hD0⟩ := hv
  have hx := B.exec
  have hb := B.bytes
  have hrt := B.returns
  have hts := atoms_spec (ws := vmX9_addEntry) B.pre
  have hown : s.vm.findClass RX9 = some m.cls := findClass_of_methodNamed B.named
  subst hsz
  have hD := hD0.self (sz := s.heap.size)
  generalize hAe : va_A ws s.heap.size = A at hD ⊢
  have hA : ∀ q : Nat, s.heap.size ≤ q → A q := fun q h => by rw [← hAe]; exact Or.inr h
  have hS : va_S A s.heap s.heap [] := va_S.rf
  have hl := lv_entry ([.ref (ad this), .ref (ad p0), .int p1, .ref (ad p2)]) (n := 5) (Nat.le_of_ble_eq_true rfl)
  rw [lg_entry_eq]
  generalize (lg_sl ([.ref (ad this), .ref (ad p0), .int p1, .ref (ad p2)]) ++ List.replicate (5 - (lg_sl ([.ref (ad this), .ref (ad p0), .int p1, .ref (ad p2)])).length) Slot.unset).toArray = ls at hl ⊢
  exact bm_X9_addEntry this p0 p1 p2 hk_this hk_p0 hk_p2 c_G203 c_V0 c_V1 hr hx hb hml hown hts hA hK hW hT hP hD hS hl (fun pc ls c_G203z c_V0z c_V1z ws H locs he hd hW hT hP hD hS => by cases he; exact W.vret hx hb hrt (fun t ht hW9 => ⟨⟨ws, rfl, ⟨hW, hT⟩, by rw [ht]; exact hP, va_K.moved hW9.alike hK, hD⟩, hS.F ht⟩) hS.2.2 hd)
set_option maxHeartbeats 4000000 in
set_option maxRecDepth 100000 in
theorem bm_X9_apply {p : Program} {l : Launch} {e : Env} {s : State} {m : MethodId} {args : Array Value} {below : List Frame} {meth : Method} {c : Code} {Q : State → Prop} {A : Nat → Prop} {dC : Nat → ClassId} {dI : Nat → Nat → Nat} {kk : Nat → ClassId} {ad : Nat → Nat} {ws : va_W} {G : Nat → Nat → Int32} {P : Nat → Nat → Option Nat} {U : Nat → Nat → Int64} {V : Nat → Nat → Nat → Int32} {X : Nat → Nat → Nat → Int64} {O : Nat → Nat → Nat → Option Nat} {kd : Nat → Nat} {ln : Nat → Nat} {cnt : Nat} {H : Heap} {locs : List Loc} {ls : Array Slot} (this : Nat) (p0 : Nat) (hk_this : kd this = 10) (hk_p0 : kd p0 = 2) (r : Int32) (c_G183 : Nat → Int32) (c_P181 : Nat → Option Nat) (c_P182 : Nat → Option Nat) (c_V0 : Nat → Nat → Int32) (hr : f_X9_apply G P U V X O kd ln cnt this p0 = some (r, c_G183, c_P181, c_P182, c_V0)) (hx : p.tables.exec = Jvm.exec) (hb : c.code = cX9_apply) (hml : c.maxLocals = 5) (hown : s.vm.findClass RX9 = some m.cls) (hts : ∀ w ∈ vmX9_apply, w.before args s = true) (hA : ∀ q : Nat, s.heap.size ≤ q → A q) (hK : va_K (dC, dI) vwCl (cT kk) s) (hW : LW ws ad kk kd ln G P U V X O) (hT : TYP kd P O (V 0) cnt) (hP : va_P (dC, dI) vwCl ws H) (hD : va_D A ws) (hS : va_S A s.heap H locs) (hl : lv_has ls 5 [(0, .ref (ad this)), (1, .ref (ad p0))])
    (K : ∀ (pc : Nat) (ls : Array Slot) (rz : Int32) (c_G183z : Nat → Int32) (c_P181z : Nat → Option Nat) (c_P182z : Nat → Option Nat) (c_V0z : Nat → Nat → Int32) (ws : va_W) (H : Heap) (locs : List Loc), some (rz, c_G183z, c_P181z, c_P182z, c_V0z) = some (r, c_G183, c_P181, c_P182, c_V0) → is01 rz → decode cX9_apply pc = .ok (.ireturn, 1) → LW ws ad kk kd ln (va_up G 183 c_G183z) (va_up (va_up P 181 c_P181z) 182 c_P182z) U (va_up V 0 c_V0z) X O → TYP kd (va_up (va_up P 181 c_P181z) 182 c_P182z) O c_V0z cnt → va_P (dC, dI) vwCl ws H → va_D A ws → va_S A s.heap H locs → W p l e ({ frames := 4, cells := 0, slots := 0, locals := 120 } : Room) s m args below meth c H locs 0 0 Q (F0 m pc ls [.int rz])) : W p l e ({ frames := 4, cells := 0, slots := 0, locals := 120 } : Room) s m args below meth c H locs 0 0 Q (F0 m 0 ls []) := by
  unfold f_X9_apply at hr
  refine lv_iconst (v := 0) hx hb dX9_apply_0 (by decide +kernel) ?_
  refine lv_istore_n (lv' := [(2, .int 0), (0, .ref (ad this)), (1, .ref (ad p0))]) hx hb dX9_apply_1 rfl hl (by decide) rfl (fun ls hl => ?_)
  refine lv_iconst (v := 0) hx hb dX9_apply_2 (by decide +kernel) ?_
  refine lv_istore_n (lv' := [(3, .int 0), (2, .int 0), (0, .ref (ad this)), (1, .ref (ad p0))]) hx hb dX9_apply_3 rfl hl (by decide) rfl (fun ls hl => ?_)
  refine lv_iconst (v := 0) hx hb dX9_apply_4 (by decide +kernel) ?_
  refine lv_istore (lv' := [(4, .int 0), (3, .int 0), (2, .int 0), (0, .ref (ad this)), (1, .ref (ad p0))]) hx hb dX9_apply_5 hl (by decide) rfl (fun ls hl => ?_)
  replace hr := jnS hr
  obtain ⟨k113, hk113, hr⟩ := hr
  have Jk113 : ∀ (x113_2 : Int32) (x113_3 : Int32) (c113_V0 : Nat → Nat → Int32) (ws : va_W) (H : Heap) (locs : List Loc) (ls : Array Slot), k113 x113_2 x113_3 c113_V0 = some (r, c_G183, c_P181, c_P182, c_V0) → LW ws ad kk kd ln G P U (va_up V 0 c113_V0) X O → TYP kd P O c113_V0 cnt → va_P (dC, dI) vwCl ws H → va_D A ws → va_S A s.heap H locs → lv_has ls 5 [(0, .ref (ad this)), (2, .int x113_2), (3, .int x113_3)] → W p l e ({ frames := 4, cells := 0, slots := 0, locals := 120 } : Room) s m args below meth c H locs 0 0 Q (F0 m 113 ls []) := by
    intro x113_2 x113_3 c113_V0 ws H locs ls hr hW hT hP hD hS hl
    rw [hk113] at hr
    refine lv_iload_n hx hb dX9_apply_113 rfl (lv_at hl 1 rfl) ?_
    replace hr := jnS hr
    obtain ⟨j142, hj142, hr⟩ := hr
    have Jj142 : ∀ (c142_G183 : Nat → Int32) (c142_P181 : Nat → Option Nat) (c142_P182 : Nat → Option Nat) (ws : va_W) (H : Heap) (locs : List Loc) (ls : Array Slot), j142 c142_G183 c142_P181 c142_P182 = some (r, c_G183, c_P181, c_P182, c_V0) → LW ws ad kk kd ln (va_up G 183 c142_G183) (va_up (va_up P 181 c142_P181) 182 c142_P182) U (va_up V 0 c113_V0) X O → TYP kd (va_up (va_up P 181 c142_P181) 182 c142_P182) O c113_V0 cnt → va_P (dC, dI) vwCl ws H → va_D A ws → va_S A s.heap H locs → lv_has ls 5 [(2, .int x113_2)] → W p l e ({ frames := 4, cells := 0, slots := 0, locals := 120 } : Room) s m args below meth c H locs 0 0 Q (F0 m 142 ls []) := by
      intro c142_G183 c142_P181 c142_P182 ws H locs ls hr hW hT hP hD hS hl
      rw [hj142] at hr
      refine lv_iload_n hx hb dX9_apply_142 rfl (lv_at hl 0 rfl) ?_
      replace hr := iteS hr
      obtain ⟨hz143, hr⟩ := hr
      exact K 143 ls _ _ _ _ _ ws H _ hr hz143 dX9_apply_143 hW hT hP hD hS
    refine lv_if_eq (tgt := 142) hx hb dX9_apply_114 (by decide) (fun c114 => ?_) (fun c114 => ?_)
    · replace hr := iteT c114 hr
      have eG : G = (va_up G 183 (G 183)) := by
        funext k
        by_cases h183 : k = 183
        · subst h183; rfl
        · simp only [va_up, h183, if_false]
      rw [eG] at hW
      clear eG
      have eP : P = (va_up (va_up P 181 (P 181)) 182 (P 182)) := by
        funext k
        by_cases h181 : k = 181
        · subst h181; rfl
        by_cases h182 : k = 182
        · subst h182; rfl
        · simp only [va_up, h181, h182, if_false]
      rw [eP] at hW
      rw [eP] at hT
      clear eP
      exact Jj142 (G 183) (P 181) (P 182) ws H _ ls hr hW hT hP hD hS (lv_sub hl [1] rfl)
    · replace hr := iteF c114 hr
      refine lv_aload_n hx hb dX9_apply_117 rfl (lv_at hl 0 rfl) ?_
      obtain ⟨i1, hi1⟩ := hW.o9 hk_this
      replace hr := nnS hr
      obtain ⟨a118, hn118, hr⟩ := hr
      have hk_a118 : kd a118 = 100 := hT.1 181 _ _ hn118
      refine va_get (D := (dC, dI)) (ci := 9) (v := .ref (ad a118)) (C := RX9) (T := TX9) (N := 8) hx hb hts inX9 hown hK hP i1 hi1 rfl 1 (by decide) (hts (.fieldLink RX9 18 "SpellTurner$Turner" "now" "[B") ic_280) (fun _ h9 => h9) (congrArg (fun o => some (va_re ad o)) hn118) dX9_apply_118 ?_
      refine lv_astore (lv' := [(4, .ref (ad a118)), (0, .ref (ad this)), (2, .int x113_2), (3, .int x113_3)]) hx hb dX9_apply_121 hl (by decide) rfl (fun ls hl => ?_)
      refine lv_aload_n hx hb dX9_apply_123 rfl (lv_at hl 1 rfl) ?_
      refine lv_aload_n hx hb dX9_apply_124 rfl (lv_at hl 1 rfl) ?_
      obtain ⟨i2, hi2⟩ := hW.o9 hk_this
      replace hr := nnS hr
      obtain ⟨a125, hn125, hr⟩ := hr
      have hk_a125 : kd a125 = 100 := hT.1 182 _ _ hn125
      refine va_get (D := (dC, dI)) (ci := 9) (v := .ref (ad a125)) (C := RX9) (T := TX9) (N := 8) hx hb hts inX9 hown hK hP i2 hi2 rfl 2 (by decide) (hts (.fieldLink RX9 22 "SpellTurner$Turner" "next" "[B") ic_281) (fun _ h9 => h9) (congrArg (fun o => some (va_re ad o)) hn125) dX9_apply_125 ?_
      obtain ⟨i3, hi3⟩ := hW.o9 hk_this
      refine va_put (D := (dC, dI)) (ci := 9) (v := .ref (ad a125)) (ty := (.array .byte)) (C := RX9) (T := TX9) (N := 8) hx hb hts inX9 tyX9 tyX9_ok nmX9 hown hK hP hD hS i3 hi3 rfl 1 (by decide) (hts (.fieldLink RX9 18 "SpellTurner$Turner" "now" "[B") ic_280) (fun _ h9 => h9) rfl (by decide +kernel) rfl rfl (Nat.le_of_ble_eq_true rfl) dX9_apply_128 (fun H locs hP2 hD2 hS => ?_)
      obtain ⟨m128, w4, em128, hP, hD, hW⟩ : ∃ (z : Nat → Option Nat) (w : va_W), z = (va_up (P 181) this (some a125)) ∧ va_P (dC, dI) vwCl w H ∧ va_D A w ∧ LW w ad kk kd ln G (va_up P 181 z) U (va_up V 0 c113_V0) X O := ⟨_, _, rfl, hP2, hD2, hW.setP hD hi3 (by rw [hk_this]; decide) 181 (some a125) (by rw [hk_this]; rfl)⟩
      replace hT : TYP kd (va_up P 181 m128) O c113_V0 cnt := by rw [em128]; exact hT.setP 181 this a125 hk_a125
      replace hr := vlS hr m128 em128
      clear em128
      refine lv_aload_n hx hb dX9_apply_131 rfl (lv_at hl 1 rfl) ?_
      refine lv_aload hx hb dX9_apply_132 (lv_at hl 0 rfl) ?_
      obtain ⟨i5, hi5⟩ := hW.o9 hk_this
      refine va_put (D := (dC, dI)) (ci := 9) (v := .ref (ad a118)) (ty := (.array .byte)) (C := RX9) (T := TX9) (N := 8) hx hb hts inX9 tyX9 tyX9_ok nmX9 hown hK hP hD hS i5 hi5 rfl 2 (by decide) (hts (.fieldLink RX9 22 "SpellTurner$Turner" "next" "[B") ic_281) (fun _ h9 => h9) rfl (by decide +kernel) rfl rfl (Nat.le_of_ble_eq_true rfl) dX9_apply_134 (fun H locs hP2 hD2 hS => ?_)
      obtain ⟨m134, w6, em134, hP, hD, hW⟩ : ∃ (z : Nat → Option Nat) (w : va_W), z = (va_up (P 182) this (some a118)) ∧ va_P (dC, dI) vwCl w H ∧ va_D A w ∧ LW w ad kk kd ln G (va_up (va_up P 181 m128) 182 z) U (va_up V 0 c113_V0) X O := ⟨_, _, rfl, hP2, hD2, hW.setP hD hi5 (by rw [hk_this]; decide) 182 (some a118) (by rw [hk_this]; rfl)⟩
      replace hT : TYP kd (va_up (va_up P 181 m128) 182 m134) O c113_V0 cnt := by rw [em134]; exact hT.setP 182 this a118 hk_a118
      replace hr := vlS hr m134 em134
      clear em134
      refine lv_aload_n hx hb dX9_apply_137 rfl (lv_at hl 1 rfl) ?_
      refine lv_iload_n hx hb dX9_apply_138 rfl (lv_at hl 3 rfl) ?_
      obtain ⟨i7, hi7⟩ := hW.o9 hk_this
      refine va_put (D := (dC, dI)) (ci := 9) (v := .int x113_3) (ty := .int) (C := RX9) (T := TX9) (N := 8) hx hb hts inX9 tyX9 tyX9_ok nmX9 hown hK hP hD hS i7 hi7 rfl 3 (by decide) (hts (.fieldLink RX9 25 "SpellTurner$Turner" "length" "I") ic_282) (fun _ h9 => h9) rfl (by decide +kernel) rfl rfl (Nat.le_of_ble_eq_true rfl) dX9_apply_139 (fun H locs hP2 hD2 hS => ?_)
      obtain ⟨m139, w8, em139, hP, hD, hW⟩ : ∃ (z : Nat → Int32) (w : va_W), z = (va_up (G 183) this x113_3) ∧ va_P (dC, dI) vwCl w H ∧ va_D A w ∧ LW w ad kk kd ln (va_up G 183 z) (va_up (va_up P 181 m128) 182 m134) U (va_up V 0 c113_V0) X O := ⟨_, _, rfl, hP2, hD2, hW.setG hD hi7 (by rw [hk_this]; decide) 183 x113_3 (by rw [hk_this]; rfl)⟩
      replace hr := vlS hr m139 em139
      clear em139
      exact Jj142 m139 m128 m134 w8 H _ ls hr hW hT hP hD hS (lv_sub hl [2] rfl)
  have lp7 : ∀ (n7 : Nat), ∀ (y7_2 : Int32) (y7_3 : Int32) (y7_4 : Int32) (d7_V0 : Nat → Nat → Int32) (ws : va_W) (H : Heap) (locs : List Loc) (ls : Array Slot), L_X9_apply_7 G P U V X O kd ln cnt this p0 k113 n7 y7_2 y7_3 y7_4 d7_V0 = some (r, c_G183, c_P181, c_P182, c_V0) → LW ws ad kk kd ln G P U (va_up V 0 d7_V0) X O → TYP kd P O d7_V0 cnt → va_P (dC, dI) vwCl ws H → va_D A ws → va_S A s.heap H locs → lv_has ls 5 [(0, .ref (ad this)), (1, .ref (ad p0)), (2, .int y7_2), (3, .int y7_3), (4, .int y7_4)] → W p l e ({ frames := 4, cells := 0, slots := 0, locals := 120 } : Room) s m args below meth c H locs 0 0 Q (F0 m 7 ls []) := by
    intro n7
    induction n7 with
    | zero => intro y7_2 y7_3 y7_4 d7_V0 ws H locs ls hr hW hT hP hD hS hl; exact nomatch (show none = some (r, c_G183, c_P181, c_P182, c_V0) from hr)
    | succ n7 ih7 =>
      intro y7_2 y7_3 y7_4 d7_V0 ws H locs ls hr hW hT hP hD hS hl
      replace hr : B_X9_apply_7 G P U V X O kd ln cnt this p0 k113 (L_X9_apply_7 G P U V X O kd ln cnt this p0 k113 n7) y7_2 y7_3 y7_4 d7_V0 = some (r, c_G183, c_P181, c_P182, c_V0) := hr
      unfold B_X9_apply_7 at hr
      refine lv_iload hx hb dX9_apply_7 (lv_at hl 4 rfl) ?_
      refine lv_aload_n hx hb dX9_apply_9 rfl (lv_at hl 0 rfl) ?_
      obtain ⟨i9, hi9⟩ := hW.o9 hk_this
      refine va_get (D := (dC, dI)) (ci := 9) (v := .int ((G 183) this)) (C := RX9) (T := TX9) (N := 8) hx hb hts inX9 hown hK hP i9 hi9 rfl 3 (by decide) (hts (.fieldLink RX9 25 "SpellTurner$Turner" "length" "I") ic_282) (fun _ h9 => h9) rfl dX9_apply_10 ?_
      refine lv_icmp_ge (tgt := 113) hx hb dX9_apply_13 (by decide) (fun c13 => ?_) (fun c13 => ?_)
      · replace hr := iteT c13 hr
        exact Jk113 y7_2 y7_3 d7_V0 ws H _ ls hr hW hT hP hD hS (lv_sub hl [0, 2, 3] rfl)
      · replace hr := iteF c13 hr
        refine lv_iload_n hx hb dX9_apply_16 rfl (lv_at hl 3 rfl) ?_
        refine lv_bipush (v := 24) hx hb dX9_apply_17 (by decide +kernel) ?_
        refine lv_icmp_gt (tgt := 113) hx hb dX9_apply_19 (by decide) (fun c19 => ?_) (fun c19 => ?_)
        · replace hr := iteT c19 hr
          exact Jk113 y7_2 y7_3 d7_V0 ws H _ ls hr hW hT hP hD hS (lv_sub hl [0, 2, 3] rfl)
        · replace hr := iteF c19 hr
          refine lv_aload_n hx hb dX9_apply_22 rfl (lv_at hl 1 rfl) ?_
          refine lv_aload_n hx hb dX9_apply_23 rfl (lv_at hl 0 rfl) ?_
          obtain ⟨i10, hi10⟩ := hW.o9 hk_this
          replace hr := nnS hr
          obtain ⟨a24, hn24, hr⟩ := hr
          have hk_a24 : kd a24 = 100 := hT.1 181 _ _ hn24
          refine va_get (D := (dC, dI)) (ci := 9) (v := .ref (ad a24)) (C := RX9) (T := TX9) (N := 8) hx hb hts inX9 hown hK hP i10 hi10 rfl 1 (by decide) (hts (.fieldLink RX9 18 "SpellTurner$Turner" "now" "[B") ic_280) (fun _ h9 => h9) (congrArg (fun o => some (va_re ad o)) hn24) dX9_apply_24 ?_
          refine lv_iload hx hb dX9_apply_27 (lv_at hl 4 rfl) ?_
          refine lv_aload_n hx hb dX9_apply_29 rfl (lv_at hl 0 rfl) ?_
          obtain ⟨i11, hi11⟩ := hW.o9 hk_this
          refine va_get (D := (dC, dI)) (ci := 9) (v := .int ((G 183) this)) (C := RX9) (T := TX9) (N := 8) hx hb hts inX9 hown hK hP i11 hi11 rfl 3 (by decide) (hts (.fieldLink RX9 25 "SpellTurner$Turner" "length" "I") ic_282) (fun _ h9 => h9) rfl dX9_apply_30 ?_
          refine lv_aload_n hx hb dX9_apply_33 rfl (lv_at hl 0 rfl) ?_
          obtain ⟨i12, hi12⟩ := hW.o9 hk_this
          replace hr := nnS hr
          obtain ⟨a34, hn34, hr⟩ := hr
          have hk_a34 : kd a34 = 100 := hT.1 182 _ _ hn34
          refine va_get (D := (dC, dI)) (ci := 9) (v := .ref (ad a34)) (C := RX9) (T := TX9) (N := 8) hx hb hts inX9 hown hK hP i12 hi12 rfl 2 (by decide) (hts (.fieldLink RX9 22 "SpellTurner$Turner" "next" "[B") ic_281) (fun _ h9 => h9) (congrArg (fun o => some (va_re ad o)) hn34) dX9_apply_34 ?_
          refine lv_iload_n hx hb dX9_apply_37 rfl (lv_at hl 3 rfl) ?_
          replace hr := b1S hr
          obtain ⟨r38z, hc38, hr⟩ := hr
          have hFc := fr_all hD hS hA
          obtain ⟨i13, hi13⟩ := hW.o1 hk_p0
          refine va_calli (va_runV (As := [.ref (ad a24), .int y7_4, .int ((G 183) this), .ref (ad a34), .int y7_3]) (rest := []) ⟨hx, hb, hml, hown, hts⟩ (m_X1_standsAt l dC dI kk ad H.size ws G P U (va_up V 0 d7_V0) X O kd ln cnt p0 a24 y7_4 ((G 183) this) a34 y7_3 hk_p0 hk_a24 hk_a34 hW hT r38z hc38) (cwV 5 hts gc_RX9_X1_standsAt_154 rfl rfl rfl (by decide +kernel) ⟨Nat.le_of_ble_eq_true rfl, Nat.le_of_ble_eq_true rfl⟩) ⟨fun a U g mk q => by obtain ⟨q0, q1, qP, qK, qD⟩ := q; exact ⟨q0, q1, qP, va_K.moved (u := U) (U := U.calling g mk a) (Vm.Alike.refl U.vm) qK, qD⟩, va_recv hK hP (ci := 1) (q0 := i13) rfl hi13, fun U hU hW => ⟨rfl, by rw [hU], by rw [hU]; exact hP, va_K.moved hW.alike hK, hD.weaken (fun _ _ _ _ => trivial)⟩⟩ rfl rfl hl.1 rfl (lv_room (Nat.le_of_ble_eq_true rfl)) dX9_apply_38 ⟨Nat.le_of_ble_eq_true rfl, Nat.le_of_ble_eq_true rfl⟩) hS (fun q _ h => hFc q h) hFc (fun r38 w14 t H1 locs ht hvm hw hB hz1 hk1 hS => ?_)
          obtain ⟨hw0, hW, hT⟩ := hw
          replace hw0 : r38 = r38z := hw0
          subst hw0
          obtain ⟨hP1, hK1, hD1⟩ := hB
          rw [ht] at hP1
          obtain ⟨hP, hD⟩ := jn_all (w1 := w14) hFc hP1 hD1
          replace hP : va_P (dC, dI) vwCl w14 H1 := hP
          replace hD : va_D A w14 := hD
          clear hFc hP1 hK1 hD1 hk1 hz1 ht hvm
          generalize H1 = H at hP hS ⊢
          replace hr := jnS hr
          obtain ⟨j107, hj107, hr⟩ := hr
          have Jj107 : ∀ (x107_2 : Int32) (x107_3 : Int32) (x107_4 : Int32) (c107_V0 : Nat → Nat → Int32) (ws : va_W) (H : Heap) (locs : List Loc) (ls : Array Slot), j107 x107_2 x107_3 x107_4 c107_V0 = some (r, c_G183, c_P181, c_P182, c_V0) → LW ws ad kk kd ln G P U (va_up V 0 c107_V0) X O → TYP kd P O c107_V0 cnt → va_P (dC, dI) vwCl ws H → va_D A ws → va_S A s.heap H locs → lv_has ls 5 [(0, .ref (ad this)), (1, .ref (ad p0)), (2, .int x107_2), (3, .int x107_3), (4, .int x107_4)] → W p l e ({ frames := 4, cells := 0, slots := 0, locals := 120 } : Room) s m args below meth c H locs 0 0 Q (F0 m 107 ls []) := by
            intro x107_2 x107_3 x107_4 c107_V0 ws H locs ls hr hW hT hP hD hS hl
            rw [hj107] at hr
            refine lv_iinc (v := (x107_4 + 1)) (lv' := [(4, .int (x107_4 + 1)), (0, .ref (ad this)), (1, .ref (ad p0)), (2, .int x107_2), (3, .int x107_3)]) hx hb dX9_apply_107 hl (k := 4) rfl rfl (by decide) rfl (fun ls hl => ?_)
            refine lv_goto (tgt := 7) hx hb dX9_apply_110 (by decide) ?_
            exact ih7 x107_2 x107_3 (x107_4 + 1) c107_V0 ws H _ ls hr hW hT hP hD hS (lv_sub hl [1, 2, 3, 4, 0] rfl)
          refine lv_if_eq (tgt := 91) hx hb dX9_apply_41 (by decide) (fun c41 => ?_) (fun c41 => ?_)
          · replace hr := iteT c41 hr
            refine lv_aload_n hx hb dX9_apply_91 rfl (lv_at hl 0 rfl) ?_
            obtain ⟨i15, hi15⟩ := hW.o9 hk_this
            replace hr := nnS hr
            obtain ⟨a92, hn92, hr⟩ := hr
            have hk_a92 : kd a92 = 100 := hT.1 182 _ _ hn92
            refine va_get (D := (dC, dI)) (ci := 9) (v := .ref (ad a92)) (C := RX9) (T := TX9) (N := 8) hx hb hts inX9 hown hK hP i15 hi15 rfl 2 (by decide) (hts (.fieldLink RX9 22 "SpellTurner$Turner" "next" "[B") ic_281) (fun _ h9 => h9) (congrArg (fun o => some (va_re ad o)) hn92) dX9_apply_92 ?_
            refine lv_iload_n hx hb dX9_apply_95 rfl (lv_at hl 3 rfl) ?_
            refine lv_aload_n hx hb dX9_apply_96 rfl (lv_at hl 0 rfl) ?_
            obtain ⟨i16, hi16⟩ := hW.o9 hk_this
            replace hr := nnS hr
            obtain ⟨a97, hn97, hr⟩ := hr
            have hk_a97 : kd a97 = 100 := hT.1 181 _ _ hn97
            refine va_get (D := (dC, dI)) (ci := 9) (v := .ref (ad a97)) (C := RX9) (T := TX9) (N := 8) hx hb hts inX9 hown hK hP i16 hi16 rfl 1 (by decide) (hts (.fieldLink RX9 18 "SpellTurner$Turner" "now" "[B") ic_280) (fun _ h9 => h9) (congrArg (fun o => some (va_re ad o)) hn97) dX9_apply_97 ?_
            refine lv_iload hx hb dX9_apply_100 (lv_at hl 4 rfl) ?_
            obtain ⟨i17, hi17⟩ := hW.v0 hk_a97
            replace hr := iteS hr
            obtain ⟨hi102, hr⟩ := hr
            refine va_bald (f := (d7_V0 a97)) hx hb hK hP i17 0 hi17 rfl (inbV hi102) dX9_apply_102 ?_
            obtain ⟨i18, hi18⟩ := hW.v0 hk_a92
            replace hr := iteS hr
            obtain ⟨hi103, hr⟩ := hr
            refine va_bast (f := (d7_V0 a92)) hx hb hK hP hD hS i18 0 hi18 rfl (inbV hi103) dX9_apply_103 (fun H locs hP2 hD2 hS => ?_)
            obtain ⟨m103, w19, em103, hP, hD, hW⟩ : ∃ (z : Nat → Nat → Int32) (w : va_W), z = (va_up d7_V0 a92 (upd (d7_V0 a92) (Int32.toNatClampNeg y7_3) (vp_nar .byte ((d7_V0 a97) (Int32.toNatClampNeg y7_4))))) ∧ va_P (dC, dI) vwCl w H ∧ va_D A w ∧ LW w ad kk kd ln G P U (va_up (va_up V 0 d7_V0) 0 z) X O := ⟨_, _, rfl, hP2, hD2, hW.setV hD hi18 (by rw [hk_a92]; decide) 0 (upd (d7_V0 a92) (Int32.toNatClampNeg y7_3) (vp_nar .byte ((d7_V0 a97) (Int32.toNatClampNeg y7_4)))) (by rw [hk_a92]; rfl)⟩
            replace hT : TYP kd P O m103 cnt := by rw [em103]; exact hT.setB a92 _ (fit_upd (hT.2.2.1 a92) _ _)
            replace hr := vlS hr m103 em103
            clear em103
            refine lv_iinc (v := (y7_3 + 1)) (lv' := [(3, .int (y7_3 + 1)), (0, .ref (ad this)), (1, .ref (ad p0)), (2, .int y7_2), (4, .int y7_4)]) hx hb dX9_apply_104 hl (k := 3) rfl rfl (by decide) rfl (fun ls hl => ?_)
            have eV : (va_up (va_up V 0 d7_V0) 0 m103) = (va_up V 0 m103) := by
              funext k
              by_cases h0 : k = 0
              · subst h0; rfl
              · simp only [va_up, h0, if_false]
            rw [eV] at hW
            clear eV
            exact Jj107 y7_2 (y7_3 + 1) y7_4 m103 w19 H _ ls hr hW hT hP hD hS (lv_sub hl [1, 2, 3, 0, 4] rfl)
          · replace hr := iteF c41 hr
            refine lv_aload_n hx hb dX9_apply_44 rfl (lv_at hl 1 rfl) ?_
            obtain ⟨i20, hi20⟩ := hW.o1 hk_p0
            replace hr := nnS hr
            obtain ⟨a45, hn45, hr⟩ := hr
            have hk_a45 : kd a45 = 100 := hT.1 21 _ _ hn45
            refine va_get (D := (dC, dI)) (ci := 1) (v := .ref (ad a45)) (C := RX1) (T := TX1) (N := 6) hx hb hts inX1 hown hK hP i20 hi20 rfl 1 (by decide) (hts (.fieldLink RX9 160 "SpellTurner$Law" "second" "[B") ic_287) (fun _ h9 => h9) (congrArg (fun o => some (va_re ad o)) hn45) dX9_apply_45 ?_
            refine lv_iconst (v := 0) hx hb dX9_apply_48 (by decide +kernel) ?_
            refine lv_aload_n hx hb dX9_apply_49 rfl (lv_at hl 0 rfl) ?_
            obtain ⟨i21, hi21⟩ := hW.o9 hk_this
            replace hr := nnS hr
            obtain ⟨a50, hn50, hr⟩ := hr
            have hk_a50 : kd a50 = 100 := hT.1 182 _ _ hn50
            refine va_get (D := (dC, dI)) (ci := 9) (v := .ref (ad a50)) (C := RX9) (T := TX9) (N := 8) hx hb hts inX9 hown hK hP i21 hi21 rfl 2 (by decide) (hts (.fieldLink RX9 22 "SpellTurner$Turner" "next" "[B") ic_281) (fun _ h9 => h9) (congrArg (fun o => some (va_re ad o)) hn50) dX9_apply_50 ?_
            refine lv_iload_n hx hb dX9_apply_53 rfl (lv_at hl 3 rfl) ?_
            refine lv_aload_n hx hb dX9_apply_54 rfl (lv_at hl 1 rfl) ?_
            obtain ⟨i22, hi22⟩ := hW.o1 hk_p0
            replace hr := nnS hr
            obtain ⟨a55, hn55, hr⟩ := hr
            have hk_a55 : kd a55 = 100 := hT.1 21 _ _ hn55
            refine va_get (D := (dC, dI)) (ci := 1) (v := .ref (ad a55)) (C := RX1) (T := TX1) (N := 6) hx hb hts inX1 hown hK hP i22 hi22 rfl 1 (by decide) (hts (.fieldLink RX9 160 "SpellTurner$Law" "second" "[B") ic_287) (fun _ h9 => h9) (congrArg (fun o => some (va_re ad o)) hn55) dX9_apply_55 ?_
            obtain ⟨i23, hi23⟩ := hW.v0 hk_a55
            refine va_alen (v := (Int32.ofNat (ln a55))) hx hb hK hP i23 0 hi23 rfl rfl dX9_apply_58 ?_
            replace hr := iteS hr
            obtain ⟨hi59, hr⟩ := hr
            obtain ⟨i24, hi24⟩ := hW.v0 hk_a45
            obtain ⟨i25, hi25⟩ := hW.v0 hk_a50
            refine va_copyi (f := (d7_V0 a45)) (g := (d7_V0 a50)) hx hb (by rw [hml]; exact hl.1.symm) hown (hts (.methodLink RX9 134 arraycopyName) ic_288) (hts (.native arraycopyName) ic_16) (hts (.static arraycopyName) ic_17) (hts (.initialized "java/lang/System") ic_18) hK hP hD hS i24 i25 0 0 hi24 hi25 rfl rfl rfl (cpbS hi59).1 (cpbS hi59).2.1 (cpbS hi59).2.2.1 (cpbS hi59).2.2.2.1 (cpbS hi59).2.2.2.2 (fun _ _ => hT.2.2.1 _ _) (Nat.le_of_ble_eq_true rfl) (Nat.le_of_ble_eq_true rfl) dX9_apply_59 (fun H locs hP2 hD2 hS => ?_)
            obtain ⟨m59, w26, em59, hP, hD, hW⟩ : ∃ (z : Nat → Nat → Int32) (w : va_W), z = (va_up d7_V0 a50 (va_cpy (d7_V0 a45) (d7_V0 a50) (Int32.toNatClampNeg 0) (Int32.toNatClampNeg y7_3) (Int32.toNatClampNeg (Int32.ofNat (ln a55))))) ∧ va_P (dC, dI) vwCl w H ∧ va_D A w ∧ LW w ad kk kd ln G P U (va_up (va_up V 0 d7_V0) 0 z) X O := ⟨_, _, rfl, hP2, hD2, hW.setV hD hi25 (by rw [hk_a50]; decide) 0 (va_cpy (d7_V0 a45) (d7_V0 a50) (Int32.toNatClampNeg 0) (Int32.toNatClampNeg y7_3) (Int32.toNatClampNeg (Int32.ofNat (ln a55)))) (by rw [hk_a50]; rfl)⟩
            replace hT : TYP kd P O m59 cnt := by rw [em59]; exact hT.setB a50 _ (fit_cpy (hT.2.2.1 a45) (hT.2.2.1 a50) _ _ _)
            replace hr := vlS hr m59 em59
            clear em59
            refine lv_iload_n hx hb dX9_apply_62 rfl (lv_at hl 3 rfl) ?_
            refine lv_aload_n hx hb dX9_apply_63 rfl (lv_at hl 1 rfl) ?_
            obtain ⟨i27, hi27⟩ := hW.o1 hk_p0
            replace hr := nnS hr
            obtain ⟨a64, hn64, hr⟩ := hr
            have hk_a64 : kd a64 = 100 := hT.1 21 _ _ hn64
            refine va_get (D := (dC, dI)) (ci := 1) (v := .ref (ad a64)) (C := RX1) (T := TX1) (N := 6) hx hb hts inX1 hown hK hP i27 hi27 rfl 1 (by decide) (hts (.fieldLink RX9 160 "SpellTurner$Law" "second" "[B") ic_287) (fun _ h9 => h9) (congrArg (fun o => some (va_re ad o)) hn64) dX9_apply_64 ?_
            obtain ⟨i28, hi28⟩ := hW.v0 hk_a64
            refine va_alen (v := (Int32.ofNat (ln a64))) hx hb hK hP i28 0 hi28 rfl rfl dX9_apply_67 ?_
            refine lv_iadd hx hb dX9_apply_68 ?_
            refine lv_topi (fun x69 ex69 => ?_)
            replace hr := vlS hr x69 ex69
            clear ex69
            refine lv_istore_n (lv' := [(3, .int x69), (0, .ref (ad this)), (1, .ref (ad p0)), (2, .int y7_2), (4, .int y7_4)]) hx hb dX9_apply_69 rfl hl (by decide) rfl (fun ls hl => ?_)
            refine lv_iload hx hb dX9_apply_70 (lv_at hl 4 rfl) ?_
            refine lv_aload_n hx hb dX9_apply_72 rfl (lv_at hl 2 rfl) ?_
            obtain ⟨i29, hi29⟩ := hW.o1 hk_p0
            replace hr := nnS hr
            obtain ⟨a73, hn73, hr⟩ := hr
            have hk_a73 : kd a73 = 100 := hT.1 20 _ _ hn73
            refine va_get (D := (dC, dI)) (ci := 1) (v := .ref (ad a73)) (C := RX1) (T := TX1) (N := 6) hx hb hts inX1 hown hK hP i29 hi29 rfl 0 (by decide) (hts (.fieldLink RX9 163 "SpellTurner$Law" "first" "[B") ic_289) (fun _ h9 => h9) (congrArg (fun o => some (va_re ad o)) hn73) dX9_apply_73 ?_
            obtain ⟨i30, hi30⟩ := hW.v0 hk_a73
            refine va_alen (v := (Int32.ofNat (ln a73))) hx hb hK hP i30 0 hi30 rfl rfl dX9_apply_76 ?_
            refine lv_iconst (v := 1) hx hb dX9_apply_77 (by decide +kernel) ?_
            refine va_mmax hx hb (by rw [hml]; exact hl.1.symm) hown (hts (.methodLink RX9 88 Lib.Math.max.name) ic_290) (hts (.static Lib.Math.max.name) ic_291) (hts (.initialized "java/lang/Math") ic_198) (hts (.code Lib.Math.max.name Lib.Math.max.code 2 (some .int)) ic_292) (Nat.le_of_ble_eq_true rfl) (Nat.le_of_ble_eq_true rfl) (Nat.le_of_ble_eq_true rfl) (Nat.le_of_ble_eq_true rfl) dX9_apply_78 ?_
            refine lv_iconst (v := 1) hx hb dX9_apply_81 (by decide +kernel) ?_
            refine lv_isub hx hb dX9_apply_82 ?_
            refine lv_iadd hx hb dX9_apply_83 ?_
            refine lv_topi (fun x84 ex84 => ?_)
            replace hr := vlS hr x84 ex84
            clear ex84
            refine lv_istore (lv' := [(4, .int x84), (3, .int x69), (0, .ref (ad this)), (1, .ref (ad p0)), (2, .int y7_2)]) hx hb dX9_apply_84 hl (by decide) rfl (fun ls hl => ?_)
            refine lv_iconst (v := 1) hx hb dX9_apply_86 (by decide +kernel) ?_
            refine lv_istore_n (lv' := [(2, .int 1), (4, .int x84), (3, .int x69), (0, .ref (ad this)), (1, .ref (ad p0))]) hx hb dX9_apply_87 rfl hl (by decide) rfl (fun ls hl => ?_)
            refine lv_goto (tgt := 107) hx hb dX9_apply_88 (by decide) ?_
            have eV : (va_up (va_up V 0 d7_V0) 0 m59) = (va_up V 0 m59) := by
              funext k
              by_cases h0 : k = 0
              · subst h0; rfl
              · simp only [va_up, h0, if_false]
            rw [eV] at hW
            clear eV
            exact Jj107 1 x69 x84 m59 w26 H _ ls hr hW hT hP hD hS (lv_sub hl [3, 4, 0, 2, 1] rfl)
  have eV : V = (va_up V 0 (V 0)) := by
    funext k
    by_cases h0 : k = 0
    · subst h0; rfl
    · simp only [va_up, h0, if_false]
  rw [eV] at hW
  clear eV
  exact lp7 NN 0 0 0 (V 0) ws H _ ls hr hW hT hP hD hS (lv_sub hl [3, 4, 2, 1, 0] rfl)
set_option maxHeartbeats 4000000 in
set_option maxRecDepth 100000 in
theorem m_X9_apply (l : Launch) (dC : Nat → ClassId) (dI : Nat → Nat → Nat) (kk : Nat → ClassId) (ad : Nat → Nat) (sz : Nat) (ws : va_W) (G : Nat → Nat → Int32) (P : Nat → Nat → Option Nat) (U : Nat → Nat → Int64) (V : Nat → Nat → Nat → Int32) (X : Nat → Nat → Nat → Int64) (O : Nat → Nat → Nat → Option Nat) (kd : Nat → Nat) (ln : Nat → Nat) (cnt : Nat) (this : Nat) (p0 : Nat) (hk_this : kd this = 10) (hk_p0 : kd p0 = 2) (hW : LW ws ad kk kd ln G P U V X O) (hT : TYP kd P O (V 0) cnt) (r : Int32) (c_G183 : Nat → Int32) (c_P181 : Nat → Option Nat) (c_P182 : Nat → Option Nat) (c_V0 : Nat → Nat → Int32) (hr : f_X9_apply G P U V X O kd ln cnt this p0 = some (r, c_G183, c_P181, c_P182, c_V0)) : Met l yX9_apply vmX9_apply ({ frames := 4, cells := 0, slots := 0, locals := 120 } : Room) (va_Pc [.ref (ad this), .ref (ad p0)] (fun U => U.heap.size = sz ∧ va_P (dC, dI) vwCl ws U.heap ∧ va_K (dC, dI) vwCl (cT kk) U ∧ va_D (fun _ => True) ws)) (va_Qi (fun (rz : Int32) (w : va_W) => rz = r ∧ LW w ad kk kd ln (va_up G 183 c_G183) (va_up (va_up P 181 c_P181) 182 c_P182) U (va_up V 0 c_V0) X O ∧ TYP kd (va_up (va_up P 181 c_P181) 182 c_P182) O c_V0 cnt) (fun w t => va_P (dC, dI) vwCl w t.heap ∧ va_K (dC, dI) vwCl (cT kk) t ∧ va_D (va_A ws sz) w) (va_A ws sz)) 0 0 (va_A ws sz) := by
  refine Met.ofW (cc := cX9_apply) (maxL := 5) (ret := (some .boolean)) (by decide) rfl ?_
  intro p e s m args below meth c s₁ B hml hv
  obtain ⟨rfl, hsz, hP, hK, hD0⟩ := hv
  have hx := B.exec
  have hb := B.bytes
  have hrt := B.returns
  have hts := atoms_spec (ws := vmX9_apply) B.pre
  have hown : s.vm.findClass RX9 = some m.cls := findClass_of_methodNamed B.named
  subst hsz
  have hD := hD0.self (sz := s.heap.size)
  generalize hAe : va_A ws s.heap.size = A at hD ⊢
  have hA : ∀ q : Nat, s.heap.size ≤ q → A q := fun q h => by rw [← hAe]; exact Or.inr h
  have hS : va_S A s.heap s.heap [] := va_S.rf
  have hl := lv_entry ([.ref (ad this), .ref (ad p0)]) (n := 5) (Nat.le_of_ble_eq_true rfl)
  rw [lg_entry_eq]
  generalize (lg_sl ([.ref (ad this), .ref (ad p0)]) ++ List.replicate (5 - (lg_sl ([.ref (ad this), .ref (ad p0)])).length) Slot.unset).toArray = ls at hl ⊢
  exact bm_X9_apply this p0 hk_this hk_p0 r c_G183 c_P181 c_P182 c_V0 hr hx hb hml hown hts hA hK hW hT hP hD hS hl (fun pc ls rz c_G183z c_P181z c_P182z c_V0z ws H locs he hz hd hW hT hP hD hS => by cases he; exact W.zret (v := r) hx hb hrt (z_nb hz) (fun t ht hW9 => ⟨⟨r, ws, rfl, ⟨rfl, hW, hT⟩, by rw [ht]; exact hP, va_K.moved hW9.alike hK, hD⟩, hS.F ht⟩) hS.2.2 hd)
set_option maxHeartbeats 4000000 in
set_option maxRecDepth 100000 in
theorem bm_X9_runLaws {p : Program} {l : Launch} {e : Env} {s : State} {m : MethodId} {args : Array Value} {below : List Frame} {meth : Method} {c : Code} {Q : State → Prop} {A : Nat → Prop} {dC : Nat → ClassId} {dI : Nat → Nat → Nat} {kk : Nat → ClassId} {ad : Nat → Nat} {ws : va_W} {G : Nat → Nat → Int32} {P : Nat → Nat → Option Nat} {U : Nat → Nat → Int64} {V : Nat → Nat → Nat → Int32} {X : Nat → Nat → Nat → Int64} {O : Nat → Nat → Nat → Option Nat} {kd : Nat → Nat} {ln : Nat → Nat} {cnt : Nat} {H : Heap} {locs : List Loc} {ls : Array Slot} (this : Nat) (p0 : Nat) (p1 : Nat) (p2 : Int32) (p3 : Int32) (hk_this : kd this = 10) (hk_p0 : kd p0 = 6) (hk_p1 : kd p1 = 100) (r : Int32) (c_G183 : Nat → Int32) (c_P181 : Nat → Option Nat) (c_P182 : Nat → Option Nat) (c_U184 : Nat → Int64) (c_V0 : Nat → Nat → Int32) (hr : f_X9_runLaws G P U V X O kd ln cnt this p0 p1 p2 p3 = some (r, c_G183, c_P181, c_P182, c_U184, c_V0)) (hx : p.tables.exec = Jvm.exec) (hb : c.code = cX9_runLaws) (hml : c.maxLocals = 7) (hown : s.vm.findClass RX9 = some m.cls) (hts : ∀ w ∈ vmX9_runLaws, w.before args s = true) (hA : ∀ q : Nat, s.heap.size ≤ q → A q) (hK : va_K (dC, dI) vwCl (cT kk) s) (hW : LW ws ad kk kd ln G P U V X O) (hT : TYP kd P O (V 0) cnt) (hP : va_P (dC, dI) vwCl ws H) (hD : va_D A ws) (hS : va_S A s.heap H locs) (hl : lv_has ls 7 [(0, .ref (ad this)), (1, .ref (ad p0)), (2, .ref (ad p1)), (3, .int p2), (4, .int p3)])
    (K : ∀ (pc : Nat) (ls : Array Slot) (rz : Int32) (c_G183z : Nat → Int32) (c_P181z : Nat → Option Nat) (c_P182z : Nat → Option Nat) (c_U184z : Nat → Int64) (c_V0z : Nat → Nat → Int32) (ws : va_W) (H : Heap) (locs : List Loc), some (rz, c_G183z, c_P181z, c_P182z, c_U184z, c_V0z) = some (r, c_G183, c_P181, c_P182, c_U184, c_V0) → is01 rz → decode cX9_runLaws pc = .ok (.ireturn, 1) → LW ws ad kk kd ln (va_up G 183 c_G183z) (va_up (va_up P 181 c_P181z) 182 c_P182z) (va_up U 184 c_U184z) (va_up V 0 c_V0z) X O → TYP kd (va_up (va_up P 181 c_P181z) 182 c_P182z) O c_V0z cnt → va_P (dC, dI) vwCl ws H → va_D A ws → va_S A s.heap H locs → W p l e ({ frames := 5, cells := 0, slots := 0, locals := 144 } : Room) s m args below meth c H locs 0 0 Q (F0 m pc ls [.int rz])) : W p l e ({ frames := 5, cells := 0, slots := 0, locals := 144 } : Room) s m args below meth c H locs 0 0 Q (F0 m 0 ls []) := by
  unfold f_X9_runLaws at hr
  refine lv_aload_n hx hb dX9_runLaws_0 rfl (lv_at hl 0 rfl) ?_
  refine lv_lconst (v := 0) hx hb dX9_runLaws_1 (by decide +kernel) ?_
  obtain ⟨i1, hi1⟩ := hW.o9 hk_this
  refine va_put (D := (dC, dI)) (ci := 9) (v := .long 0) (ty := .long) (C := RX9) (T := TX9) (N := 8) hx hb hts inX9 tyX9 tyX9_ok nmX9 hown hK hP hD hS i1 hi1 rfl 4 (by decide) (hts (.fieldLink RX9 29 "SpellTurner$Turner" "used" "J") ic_294) (fun _ h9 => h9) rfl (by decide +kernel) rfl rfl (Nat.le_of_ble_eq_true rfl) dX9_runLaws_2 (fun H locs hP2 hD2 hS => ?_)
  obtain ⟨m2, w2, em2, hP, hD, hW⟩ : ∃ (z : Nat → Int64) (w : va_W), z = (va_up (U 184) this 0) ∧ va_P (dC, dI) vwCl w H ∧ va_D A w ∧ LW w ad kk kd ln G P (va_up U 184 z) V X O := ⟨_, _, rfl, hP2, hD2, hW.setU hD hi1 (by rw [hk_this]; decide) 184 0 (by rw [hk_this]; rfl)⟩
  replace hr := vlS hr m2 em2
  clear em2
  refine lv_aload_n hx hb dX9_runLaws_5 rfl (lv_at hl 0 rfl) ?_
  refine lv_iload hx hb dX9_runLaws_6 (lv_at hl 4 rfl) ?_
  refine lv_bipush (v := 24) hx hb dX9_runLaws_8 (by decide +kernel) ?_
  refine va_mmin hx hb (by rw [hml]; exact hl.1.symm) hown (hts (.methodLink RX9 140 Lib.Math.min.name) ic_295) (hts (.static Lib.Math.min.name) ic_197) (hts (.initialized "java/lang/Math") ic_198) (hts (.code Lib.Math.min.name Lib.Math.min.code 2 (some .int)) ic_199) (Nat.le_of_ble_eq_true rfl) (Nat.le_of_ble_eq_true rfl) (Nat.le_of_ble_eq_true rfl) (Nat.le_of_ble_eq_true rfl) dX9_runLaws_10 ?_
  refine lv_topi (fun x13 ex13 => ?_)
  replace hr := vlS hr x13 ex13
  clear ex13
  obtain ⟨i3, hi3⟩ := hW.o9 hk_this
  refine va_put (D := (dC, dI)) (ci := 9) (v := .int x13) (ty := .int) (C := RX9) (T := TX9) (N := 8) hx hb hts inX9 tyX9 tyX9_ok nmX9 hown hK hP hD hS i3 hi3 rfl 3 (by decide) (hts (.fieldLink RX9 25 "SpellTurner$Turner" "length" "I") ic_282) (fun _ h9 => h9) rfl (by decide +kernel) rfl rfl (Nat.le_of_ble_eq_true rfl) dX9_runLaws_13 (fun H locs hP2 hD2 hS => ?_)
  obtain ⟨m13, w4, em13, hP, hD, hW⟩ : ∃ (z : Nat → Int32) (w : va_W), z = (va_up (G 183) this x13) ∧ va_P (dC, dI) vwCl w H ∧ va_D A w ∧ LW w ad kk kd ln (va_up G 183 z) P (va_up U 184 m2) V X O := ⟨_, _, rfl, hP2, hD2, hW.setG hD hi3 (by rw [hk_this]; decide) 183 x13 (by rw [hk_this]; rfl)⟩
  replace hr := vlS hr m13 em13
  clear em13
  refine lv_aload_n hx hb dX9_runLaws_16 rfl (lv_at hl 2 rfl) ?_
  refine lv_iload_n hx hb dX9_runLaws_17 rfl (lv_at hl 3 rfl) ?_
  refine lv_aload_n hx hb dX9_runLaws_18 rfl (lv_at hl 0 rfl) ?_
  obtain ⟨i5, hi5⟩ := hW.o9 hk_this
  replace hr := nnS hr
  obtain ⟨a19, hn19, hr⟩ := hr
  have hk_a19 : kd a19 = 100 := hT.1 181 _ _ hn19
  refine va_get (D := (dC, dI)) (ci := 9) (v := .ref (ad a19)) (C := RX9) (T := TX9) (N := 8) hx hb hts inX9 hown hK hP i5 hi5 rfl 1 (by decide) (hts (.fieldLink RX9 18 "SpellTurner$Turner" "now" "[B") ic_280) (fun _ h9 => h9) (congrArg (fun o => some (va_re ad o)) hn19) dX9_runLaws_19 ?_
  refine lv_iconst (v := 0) hx hb dX9_runLaws_22 (by decide +kernel) ?_
  refine lv_aload_n hx hb dX9_runLaws_23 rfl (lv_at hl 0 rfl) ?_
  obtain ⟨i6, hi6⟩ := hW.o9 hk_this
  refine va_get (D := (dC, dI)) (ci := 9) (v := .int (m13 this)) (C := RX9) (T := TX9) (N := 8) hx hb hts inX9 hown hK hP i6 hi6 rfl 3 (by decide) (hts (.fieldLink RX9 25 "SpellTurner$Turner" "length" "I") ic_282) (fun _ h9 => h9) rfl dX9_runLaws_24 ?_
  replace hr := iteS hr
  obtain ⟨hi27, hr⟩ := hr
  obtain ⟨i7, hi7⟩ := hW.v0 hk_p1
  obtain ⟨i8, hi8⟩ := hW.v0 hk_a19
  refine va_copyi (f := ((V 0) p1)) (g := ((V 0) a19)) hx hb (by rw [hml]; exact hl.1.symm) hown (hts (.methodLink RX9 134 arraycopyName) ic_288) (hts (.native arraycopyName) ic_16) (hts (.static arraycopyName) ic_17) (hts (.initialized "java/lang/System") ic_18) hK hP hD hS i7 i8 0 0 hi7 hi8 rfl rfl rfl (cpbS hi27).1 (cpbS hi27).2.1 (cpbS hi27).2.2.1 (cpbS hi27).2.2.2.1 (cpbS hi27).2.2.2.2 (fun _ _ => hT.2.2.1 _ _) (Nat.le_of_ble_eq_true rfl) (Nat.le_of_ble_eq_true rfl) dX9_runLaws_27 (fun H locs hP2 hD2 hS => ?_)
  obtain ⟨m27, w9, em27, hP, hD, hW⟩ : ∃ (z : Nat → Nat → Int32) (w : va_W), z = (va_up (V 0) a19 (va_cpy ((V 0) p1) ((V 0) a19) (Int32.toNatClampNeg p2) (Int32.toNatClampNeg 0) (Int32.toNatClampNeg (m13 this)))) ∧ va_P (dC, dI) vwCl w H ∧ va_D A w ∧ LW w ad kk kd ln (va_up G 183 m13) P (va_up U 184 m2) (va_up V 0 z) X O := ⟨_, _, rfl, hP2, hD2, hW.setV hD hi8 (by rw [hk_a19]; decide) 0 (va_cpy ((V 0) p1) ((V 0) a19) (Int32.toNatClampNeg p2) (Int32.toNatClampNeg 0) (Int32.toNatClampNeg (m13 this))) (by rw [hk_a19]; rfl)⟩
  replace hT : TYP kd P O m27 cnt := by rw [em27]; exact hT.setB a19 _ (fit_cpy (hT.2.2.1 p1) (hT.2.2.1 a19) _ _ _)
  replace hr := vlS hr m27 em27
  clear em27
  refine lv_iconst (v := 0) hx hb dX9_runLaws_30 (by decide +kernel) ?_
  refine lv_istore (lv' := [(5, .int 0), (0, .ref (ad this)), (1, .ref (ad p0)), (2, .ref (ad p1)), (3, .int p2), (4, .int p3)]) hx hb dX9_runLaws_31 hl (by decide) rfl (fun ls hl => ?_)
  replace hr := jnS hr
  obtain ⟨k93, hk93, hr⟩ := hr
  have Jk93 : ∀ (c93_G183 : Nat → Int32) (c93_P181 : Nat → Option Nat) (c93_P182 : Nat → Option Nat) (c93_U184 : Nat → Int64) (c93_V0 : Nat → Nat → Int32) (ws : va_W) (H : Heap) (locs : List Loc) (ls : Array Slot), k93 c93_G183 c93_P181 c93_P182 c93_U184 c93_V0 = some (r, c_G183, c_P181, c_P182, c_U184, c_V0) → LW ws ad kk kd ln (va_up G 183 c93_G183) (va_up (va_up P 181 c93_P181) 182 c93_P182) (va_up U 184 c93_U184) (va_up V 0 c93_V0) X O → TYP kd (va_up (va_up P 181 c93_P181) 182 c93_P182) O c93_V0 cnt → va_P (dC, dI) vwCl ws H → va_D A ws → va_S A s.heap H locs → lv_has ls 7 [(0, .ref (ad this))] → W p l e ({ frames := 5, cells := 0, slots := 0, locals := 144 } : Room) s m args below meth c H locs 0 0 Q (F0 m 93 ls []) := by
    intro c93_G183 c93_P181 c93_P182 c93_U184 c93_V0 ws H locs ls hr hW hT hP hD hS hl
    rw [hk93] at hr
    refine lv_aload_n hx hb dX9_runLaws_93 rfl (lv_at hl 0 rfl) ?_
    obtain ⟨i10, hi10⟩ := hW.o9 hk_this
    refine va_get (D := (dC, dI)) (ci := 9) (v := .int (c93_G183 this)) (C := RX9) (T := TX9) (N := 8) hx hb hts inX9 hown hK hP i10 hi10 rfl 3 (by decide) (hts (.fieldLink RX9 25 "SpellTurner$Turner" "length" "I") ic_282) (fun _ h9 => h9) rfl dX9_runLaws_94 ?_
    refine lv_bipush (v := 24) hx hb dX9_runLaws_97 (by decide +kernel) ?_
    replace hr := jnS hr
    obtain ⟨j107, hj107, hr⟩ := hr
    have Jj107 : ∀ (t107_0 : Int32) (ws : va_W) (H : Heap) (locs : List Loc) (ls : Array Slot), j107 t107_0 = some (r, c_G183, c_P181, c_P182, c_U184, c_V0) → LW ws ad kk kd ln (va_up G 183 c93_G183) (va_up (va_up P 181 c93_P181) 182 c93_P182) (va_up U 184 c93_U184) (va_up V 0 c93_V0) X O → TYP kd (va_up (va_up P 181 c93_P181) 182 c93_P182) O c93_V0 cnt → va_P (dC, dI) vwCl ws H → va_D A ws → va_S A s.heap H locs → lv_has ls 7 [] → W p l e ({ frames := 5, cells := 0, slots := 0, locals := 144 } : Room) s m args below meth c H locs 0 0 Q (F0 m 107 ls [.int t107_0]) := by
      intro t107_0 ws H locs ls hr hW hT hP hD hS hl
      rw [hj107] at hr
      replace hr := iteS hr
      obtain ⟨hz107, hr⟩ := hr
      exact K 107 ls _ _ _ _ _ _ ws H _ hr hz107 dX9_runLaws_107 hW hT hP hD hS
    refine lv_icmp_gt (tgt := 106) hx hb dX9_runLaws_99 (by decide) (fun c99 => ?_) (fun c99 => ?_)
    · replace hr := iteT c99 hr
      refine lv_iconst (v := 0) hx hb dX9_runLaws_106 (by decide +kernel) ?_
      exact Jj107 0 ws H _ ls hr hW hT hP hD hS (lv_sub hl [] rfl)
    · replace hr := iteF c99 hr
      refine lv_iconst (v := 1) hx hb dX9_runLaws_102 (by decide +kernel) ?_
      refine lv_goto (tgt := 107) hx hb dX9_runLaws_103 (by decide) ?_
      exact Jj107 1 ws H _ ls hr hW hT hP hD hS (lv_sub hl [] rfl)
  have lp33 : ∀ (n33 : Nat), ∀ (y33_5 : Int32) (d33_G183 : Nat → Int32) (d33_P181 : Nat → Option Nat) (d33_P182 : Nat → Option Nat) (d33_U184 : Nat → Int64) (d33_V0 : Nat → Nat → Int32) (ws : va_W) (H : Heap) (locs : List Loc) (ls : Array Slot), L_X9_runLaws_33 G P U V X O kd ln cnt this p0 k93 n33 y33_5 d33_G183 d33_P181 d33_P182 d33_U184 d33_V0 = some (r, c_G183, c_P181, c_P182, c_U184, c_V0) → LW ws ad kk kd ln (va_up G 183 d33_G183) (va_up (va_up P 181 d33_P181) 182 d33_P182) (va_up U 184 d33_U184) (va_up V 0 d33_V0) X O → TYP kd (va_up (va_up P 181 d33_P181) 182 d33_P182) O d33_V0 cnt → va_P (dC, dI) vwCl ws H → va_D A ws → va_S A s.heap H locs → lv_has ls 7 [(0, .ref (ad this)), (1, .ref (ad p0)), (5, .int y33_5)] → W p l e ({ frames := 5, cells := 0, slots := 0, locals := 144 } : Room) s m args below meth c H locs 0 0 Q (F0 m 33 ls []) := by
    intro n33
    induction n33 with
    | zero => intro y33_5 d33_G183 d33_P181 d33_P182 d33_U184 d33_V0 ws H locs ls hr hW hT hP hD hS hl; exact nomatch (show none = some (r, c_G183, c_P181, c_P182, c_U184, c_V0) from hr)
    | succ n33 ih33 =>
      intro y33_5 d33_G183 d33_P181 d33_P182 d33_U184 d33_V0 ws H locs ls hr hW hT hP hD hS hl
      replace hr : B_X9_runLaws_33 G P U V X O kd ln cnt this p0 k93 (L_X9_runLaws_33 G P U V X O kd ln cnt this p0 k93 n33) y33_5 d33_G183 d33_P181 d33_P182 d33_U184 d33_V0 = some (r, c_G183, c_P181, c_P182, c_U184, c_V0) := hr
      unfold B_X9_runLaws_33 at hr
      refine lv_iload hx hb dX9_runLaws_33 (lv_at hl 2 rfl) ?_
      refine lv_aload_n hx hb dX9_runLaws_35 rfl (lv_at hl 1 rfl) ?_
      obtain ⟨i11, hi11⟩ := hW.o5 hk_p0
      refine va_get (D := (dC, dI)) (ci := 5) (v := .int ((G 102) p0)) (C := RX5) (T := TX5) (N := 11) hx hb hts inX5 hown hK hP i11 hi11 rfl 2 (by decide) (hts (.fieldLink RX9 143 "SpellTurner$Reform" "lawCount" "I") ic_296) (fun _ h9 => h9) rfl dX9_runLaws_36 ?_
      refine lv_icmp_ge (tgt := 93) hx hb dX9_runLaws_39 (by decide) (fun c39 => ?_) (fun c39 => ?_)
      · replace hr := iteT c39 hr
        exact Jk93 d33_G183 d33_P181 d33_P182 d33_U184 d33_V0 ws H _ ls hr hW hT hP hD hS (lv_sub hl [0] rfl)
      · replace hr := iteF c39 hr
        refine lv_aload_n hx hb dX9_runLaws_42 rfl (lv_at hl 0 rfl) ?_
        obtain ⟨i12, hi12⟩ := hW.o9 hk_this
        refine va_get (D := (dC, dI)) (ci := 9) (v := .int (d33_G183 this)) (C := RX9) (T := TX9) (N := 8) hx hb hts inX9 hown hK hP i12 hi12 rfl 3 (by decide) (hts (.fieldLink RX9 25 "SpellTurner$Turner" "length" "I") ic_282) (fun _ h9 => h9) rfl dX9_runLaws_43 ?_
        refine lv_bipush (v := 24) hx hb dX9_runLaws_46 (by decide +kernel) ?_
        refine lv_icmp_gt (tgt := 93) hx hb dX9_runLaws_48 (by decide) (fun c48 => ?_) (fun c48 => ?_)
        · replace hr := iteT c48 hr
          exact Jk93 d33_G183 d33_P181 d33_P182 d33_U184 d33_V0 ws H _ ls hr hW hT hP hD hS (lv_sub hl [0] rfl)
        · replace hr := iteF c48 hr
          refine lv_aload_n hx hb dX9_runLaws_51 rfl (lv_at hl 1 rfl) ?_
          obtain ⟨i13, hi13⟩ := hW.o5 hk_p0
          replace hr := nnS hr
          obtain ⟨a52, hn52, hr⟩ := hr
          have hk_a52 : kd a52 = 300 := hT.1 101 _ _ hn52
          refine va_get (D := (dC, dI)) (ci := 5) (v := .ref (ad a52)) (C := RX5) (T := TX5) (N := 11) hx hb hts inX5 hown hK hP i13 hi13 rfl 1 (by decide) (hts (.fieldLink RX9 146 "SpellTurner$Reform" "laws" "[LSpellTurner$Law;") ic_297) (fun _ h9 => h9) (congrArg (fun o => some (va_re ad o)) hn52) dX9_runLaws_52 ?_
          refine lv_iload hx hb dX9_runLaws_55 (lv_at hl 2 rfl) ?_
          obtain ⟨i14, hi14⟩ := hW.q0 hk_a52
          replace hr := iteS hr
          obtain ⟨hi57, hr⟩ := hr
          refine va_aldq (C := RX1) (f := fun i => ((O 0) a52 i).map ad) hx hb hK hP i14 4 hi14 rfl (inbV hi57) dX9_runLaws_57 ?_
          refine lv_tope (ad := ad) (o := ((O 0) a52 (Int32.toNatClampNeg y33_5))) (fun o57 eo57 => ?_)
          have hk_o57 : ∀ b, o57 = some b → kd b = 2 := fun b hq => hT.2.1 0 _ _ b (eo57.symm.trans hq)
          replace hr := vlS hr o57 eo57
          clear eo57
          refine lq_astore (lv' := [(6, va_re ad o57), (0, .ref (ad this)), (1, .ref (ad p0)), (5, .int y33_5)]) hx hb dX9_runLaws_58 hl (by decide) rfl (fun ls hl => ?_)
          refine lq_aload hx hb dX9_runLaws_60 (lv_at hl 0 rfl) ?_
          replace hr := jnS hr
          obtain ⟨j87, hj87, hr⟩ := hr
          have Jj87 : ∀ (c87_G183 : Nat → Int32) (c87_P181 : Nat → Option Nat) (c87_P182 : Nat → Option Nat) (c87_U184 : Nat → Int64) (c87_V0 : Nat → Nat → Int32) (ws : va_W) (H : Heap) (locs : List Loc) (ls : Array Slot), j87 c87_G183 c87_P181 c87_P182 c87_U184 c87_V0 = some (r, c_G183, c_P181, c_P182, c_U184, c_V0) → LW ws ad kk kd ln (va_up G 183 c87_G183) (va_up (va_up P 181 c87_P181) 182 c87_P182) (va_up U 184 c87_U184) (va_up V 0 c87_V0) X O → TYP kd (va_up (va_up P 181 c87_P181) 182 c87_P182) O c87_V0 cnt → va_P (dC, dI) vwCl ws H → va_D A ws → va_S A s.heap H locs → lv_has ls 7 [(0, .ref (ad this)), (1, .ref (ad p0)), (5, .int y33_5)] → W p l e ({ frames := 5, cells := 0, slots := 0, locals := 144 } : Room) s m args below meth c H locs 0 0 Q (F0 m 87 ls []) := by
            intro c87_G183 c87_P181 c87_P182 c87_U184 c87_V0 ws H locs ls hr hW hT hP hD hS hl
            rw [hj87] at hr
            refine lv_iinc (v := (y33_5 + 1)) (lv' := [(5, .int (y33_5 + 1)), (0, .ref (ad this)), (1, .ref (ad p0))]) hx hb dX9_runLaws_87 hl (k := 2) rfl rfl (by decide) rfl (fun ls hl => ?_)
            refine lv_goto (tgt := 33) hx hb dX9_runLaws_90 (by decide) ?_
            exact ih33 (y33_5 + 1) c87_G183 c87_P181 c87_P182 c87_U184 c87_V0 ws H _ ls hr hW hT hP hD hS (lv_sub hl [1, 2, 0] rfl)
          refine lq_ifnull (tgt := 87) hx hb dX9_runLaws_62 (by decide) (fun c62 => ?_) (fun b62 c62 => ?_)
          · subst c62
            replace hr := ocN hr
            replace hl : lv_has ls 7 [(6, .null), (0, .ref (ad this)), (1, .ref (ad p0)), (5, .int y33_5)] := hl
            exact Jj87 d33_G183 d33_P181 d33_P182 d33_U184 d33_V0 ws H _ ls hr hW hT hP hD hS (lv_sub hl [1, 2, 3] rfl)
          · subst c62
            replace hr := ocS hr
            replace hl : lv_has ls 7 [(6, .ref (ad b62)), (0, .ref (ad this)), (1, .ref (ad p0)), (5, .int y33_5)] := hl
            have hk_b62 := hk_o57 b62 rfl
            refine lv_aload_n hx hb dX9_runLaws_65 rfl (lv_at hl 1 rfl) ?_
            refine lv_aload hx hb dX9_runLaws_66 (lv_at hl 0 rfl) ?_
            replace hr := b5S hr
            obtain ⟨r68z, c68_G183, c68_P181, c68_P182, c68_V0, hc68, hr⟩ := hr
            have hFc := fr_all hD hS hA
            obtain ⟨i15, hi15⟩ := hW.o9 hk_this
            refine va_calli (va_runV (As := [.ref (ad b62)]) (rest := []) ⟨hx, hb, hml, hown, hts⟩ (m_X9_apply l dC dI kk ad H.size ws (va_up G 183 d33_G183) (va_up (va_up P 181 d33_P181) 182 d33_P182) (va_up U 184 d33_U184) (va_up V 0 d33_V0) X O kd ln cnt this b62 hk_this hk_b62 hW hT r68z c68_G183 c68_P181 c68_P182 c68_V0 hc68) (cwV 1 hts gc_RX9_X9_apply_150 rfl rfl rfl (by decide +kernel) ⟨Nat.le_of_ble_eq_true rfl, Nat.le_of_ble_eq_true rfl⟩) ⟨fun a U g mk q => by obtain ⟨q0, q1, qP, qK, qD⟩ := q; exact ⟨q0, q1, qP, va_K.moved (u := U) (U := U.calling g mk a) (Vm.Alike.refl U.vm) qK, qD⟩, va_recv hK hP (ci := 9) (q0 := i15) rfl hi15, fun U hU hW => ⟨rfl, by rw [hU], by rw [hU]; exact hP, va_K.moved hW.alike hK, hD.weaken (fun _ _ _ _ => trivial)⟩⟩ rfl rfl hl.1 rfl (lv_room (Nat.le_of_ble_eq_true rfl)) dX9_runLaws_68 ⟨Nat.le_of_ble_eq_true rfl, Nat.le_of_ble_eq_true rfl⟩) hS (fun q _ h => hFc q h) hFc (fun r68 w16 t H1 locs ht hvm hw hB hz1 hk1 hS => ?_)
            obtain ⟨hw0, hW, hT⟩ := hw
            replace hw0 : r68 = r68z := hw0
            subst hw0
            obtain ⟨hP1, hK1, hD1⟩ := hB
            rw [ht] at hP1
            obtain ⟨hP, hD⟩ := jn_all (w1 := w16) hFc hP1 hD1
            replace hP : va_P (dC, dI) vwCl w16 H1 := hP
            replace hD : va_D A w16 := hD
            clear hFc hP1 hK1 hD1 hk1 hz1 ht hvm
            generalize H1 = H at hP hS ⊢
            refine lv_if_eq (tgt := 87) hx hb dX9_runLaws_71 (by decide) (fun c71 => ?_) (fun c71 => ?_)
            · replace hr := iteT c71 hr
              have eG : (va_up (va_up G 183 d33_G183) 183 c68_G183) = (va_up G 183 c68_G183) := by
                funext k
                by_cases h183 : k = 183
                · subst h183; rfl
                · simp only [va_up, h183, if_false]
              rw [eG] at hW
              clear eG
              have eP : (va_up (va_up (va_up (va_up P 181 d33_P181) 182 d33_P182) 181 c68_P181) 182 c68_P182) = (va_up (va_up P 181 c68_P181) 182 c68_P182) := by
                funext k
                by_cases h181 : k = 181
                · subst h181; rfl
                by_cases h182 : k = 182
                · subst h182; rfl
                · simp only [va_up, h181, h182, if_false]
              rw [eP] at hW
              rw [eP] at hT
              clear eP
              have eV : (va_up (va_up V 0 d33_V0) 0 c68_V0) = (va_up V 0 c68_V0) := by
                funext k
                by_cases h0 : k = 0
                · subst h0; rfl
                · simp only [va_up, h0, if_false]
              rw [eV] at hW
              clear eV
              exact Jj87 c68_G183 c68_P181 c68_P182 d33_U184 c68_V0 w16 H _ ls hr hW hT hP hD hS (lv_sub hl [1, 2, 3] rfl)
            · replace hr := iteF c71 hr
              refine lv_aload_n hx hb dX9_runLaws_74 rfl (lv_at hl 1 rfl) ?_
              refine lv_dup hx hb dX9_runLaws_75 rfl ?_
              obtain ⟨i17, hi17⟩ := hW.o9 hk_this
              refine va_get (D := (dC, dI)) (ci := 9) (v := .long (d33_U184 this)) (C := RX9) (T := TX9) (N := 8) hx hb hts inX9 hown hK hP i17 hi17 rfl 4 (by decide) (hts (.fieldLink RX9 29 "SpellTurner$Turner" "used" "J") ic_294) (fun _ h9 => h9) rfl dX9_runLaws_76 ?_
              refine lv_lconst (v := 1) hx hb dX9_runLaws_79 (by decide +kernel) ?_
              refine lv_iload hx hb dX9_runLaws_80 (lv_at hl 3 rfl) ?_
              refine lv_lshl (v := ((1 : Int64) <<< ((Int32.toInt64 y33_5) &&& 63))) hx hb dX9_runLaws_82 rfl ?_
              refine lv_lor hx hb dX9_runLaws_83 ?_
              refine lv_topl (fun x84 ex84 => ?_)
              replace hr := vlS hr x84 ex84
              clear ex84
              obtain ⟨i18, hi18⟩ := hW.o9 hk_this
              refine va_put (D := (dC, dI)) (ci := 9) (v := .long x84) (ty := .long) (C := RX9) (T := TX9) (N := 8) hx hb hts inX9 tyX9 tyX9_ok nmX9 hown hK hP hD hS i18 hi18 rfl 4 (by decide) (hts (.fieldLink RX9 29 "SpellTurner$Turner" "used" "J") ic_294) (fun _ h9 => h9) rfl (by decide +kernel) rfl rfl (Nat.le_of_ble_eq_true rfl) dX9_runLaws_84 (fun H locs hP2 hD2 hS => ?_)
              obtain ⟨m84, w19, em84, hP, hD, hW⟩ : ∃ (z : Nat → Int64) (w : va_W), z = (va_up d33_U184 this x84) ∧ va_P (dC, dI) vwCl w H ∧ va_D A w ∧ LW w ad kk kd ln (va_up (va_up G 183 d33_G183) 183 c68_G183) (va_up (va_up (va_up (va_up P 181 d33_P181) 182 d33_P182) 181 c68_P181) 182 c68_P182) (va_up (va_up U 184 d33_U184) 184 z) (va_up (va_up V 0 d33_V0) 0 c68_V0) X O := ⟨_, _, rfl, hP2, hD2, hW.setU hD hi18 (by rw [hk_this]; decide) 184 x84 (by rw [hk_this]; rfl)⟩
              replace hr := vlS hr m84 em84
              clear em84
              have eG : (va_up (va_up G 183 d33_G183) 183 c68_G183) = (va_up G 183 c68_G183) := by
                funext k
                by_cases h183 : k = 183
                · subst h183; rfl
                · simp only [va_up, h183, if_false]
              rw [eG] at hW
              clear eG
              have eP : (va_up (va_up (va_up (va_up P 181 d33_P181) 182 d33_P182) 181 c68_P181) 182 c68_P182) = (va_up (va_up P 181 c68_P181) 182 c68_P182) := by
                funext k
                by_cases h181 : k = 181
                · subst h181; rfl
                by_cases h182 : k = 182
                · subst h182; rfl
                · simp only [va_up, h181, h182, if_false]
              rw [eP] at hW
              rw [eP] at hT
              clear eP
              have eU : (va_up (va_up U 184 d33_U184) 184 m84) = (va_up U 184 m84) := by
                funext k
                by_cases h184 : k = 184
                · subst h184; rfl
                · simp only [va_up, h184, if_false]
              rw [eU] at hW
              clear eU
              have eV : (va_up (va_up V 0 d33_V0) 0 c68_V0) = (va_up V 0 c68_V0) := by
                funext k
                by_cases h0 : k = 0
                · subst h0; rfl
                · simp only [va_up, h0, if_false]
              rw [eV] at hW
              clear eV
              exact Jj87 c68_G183 c68_P181 c68_P182 m84 c68_V0 w19 H _ ls hr hW hT hP hD hS (lv_sub hl [1, 2, 3] rfl)
  have eP : P = (va_up (va_up P 181 (P 181)) 182 (P 182)) := by
    funext k
    by_cases h181 : k = 181
    · subst h181; rfl
    by_cases h182 : k = 182
    · subst h182; rfl
    · simp only [va_up, h181, h182, if_false]
  rw [eP] at hW
  rw [eP] at hT
  clear eP
  exact lp33 NN 0 m13 (P 181) (P 182) m2 m27 w9 H _ ls hr hW hT hP hD hS (lv_sub hl [1, 2, 0] rfl)
set_option maxHeartbeats 4000000 in
set_option maxRecDepth 100000 in
theorem m_X9_runLaws (l : Launch) (dC : Nat → ClassId) (dI : Nat → Nat → Nat) (kk : Nat → ClassId) (ad : Nat → Nat) (sz : Nat) (ws : va_W) (G : Nat → Nat → Int32) (P : Nat → Nat → Option Nat) (U : Nat → Nat → Int64) (V : Nat → Nat → Nat → Int32) (X : Nat → Nat → Nat → Int64) (O : Nat → Nat → Nat → Option Nat) (kd : Nat → Nat) (ln : Nat → Nat) (cnt : Nat) (this : Nat) (p0 : Nat) (p1 : Nat) (p2 : Int32) (p3 : Int32) (hk_this : kd this = 10) (hk_p0 : kd p0 = 6) (hk_p1 : kd p1 = 100) (hW : LW ws ad kk kd ln G P U V X O) (hT : TYP kd P O (V 0) cnt) (r : Int32) (c_G183 : Nat → Int32) (c_P181 : Nat → Option Nat) (c_P182 : Nat → Option Nat) (c_U184 : Nat → Int64) (c_V0 : Nat → Nat → Int32) (hr : f_X9_runLaws G P U V X O kd ln cnt this p0 p1 p2 p3 = some (r, c_G183, c_P181, c_P182, c_U184, c_V0)) : Met l yX9_runLaws vmX9_runLaws ({ frames := 5, cells := 0, slots := 0, locals := 144 } : Room) (va_Pc [.ref (ad this), .ref (ad p0), .ref (ad p1), .int p2, .int p3] (fun U => U.heap.size = sz ∧ va_P (dC, dI) vwCl ws U.heap ∧ va_K (dC, dI) vwCl (cT kk) U ∧ va_D (fun _ => True) ws)) (va_Qi (fun (rz : Int32) (w : va_W) => rz = r ∧ LW w ad kk kd ln (va_up G 183 c_G183) (va_up (va_up P 181 c_P181) 182 c_P182) (va_up U 184 c_U184) (va_up V 0 c_V0) X O ∧ TYP kd (va_up (va_up P 181 c_P181) 182 c_P182) O c_V0 cnt) (fun w t => va_P (dC, dI) vwCl w t.heap ∧ va_K (dC, dI) vwCl (cT kk) t ∧ va_D (va_A ws sz) w) (va_A ws sz)) 0 0 (va_A ws sz) := by
  refine Met.ofW (cc := cX9_runLaws) (maxL := 7) (ret := (some .boolean)) (by decide) rfl ?_
  intro p e s m args below meth c s₁ B hml hv
  obtain ⟨rfl, hsz, hP, hK, hD0⟩ := hv
  have hx := B.exec
  have hb := B.bytes
  have hrt := B.returns
  have hts := atoms_spec (ws := vmX9_runLaws) B.pre
  have hown : s.vm.findClass RX9 = some m.cls := findClass_of_methodNamed B.named
  subst hsz
  have hD := hD0.self (sz := s.heap.size)
  generalize hAe : va_A ws s.heap.size = A at hD ⊢
  have hA : ∀ q : Nat, s.heap.size ≤ q → A q := fun q h => by rw [← hAe]; exact Or.inr h
  have hS : va_S A s.heap s.heap [] := va_S.rf
  have hl := lv_entry ([.ref (ad this), .ref (ad p0), .ref (ad p1), .int p2, .int p3]) (n := 7) (Nat.le_of_ble_eq_true rfl)
  rw [lg_entry_eq]
  generalize (lg_sl ([.ref (ad this), .ref (ad p0), .ref (ad p1), .int p2, .int p3]) ++ List.replicate (7 - (lg_sl ([.ref (ad this), .ref (ad p0), .ref (ad p1), .int p2, .int p3])).length) Slot.unset).toArray = ls at hl ⊢
  exact bm_X9_runLaws this p0 p1 p2 p3 hk_this hk_p0 hk_p1 r c_G183 c_P181 c_P182 c_U184 c_V0 hr hx hb hml hown hts hA hK hW hT hP hD hS hl (fun pc ls rz c_G183z c_P181z c_P182z c_U184z c_V0z ws H locs he hz hd hW hT hP hD hS => by cases he; exact W.zret (v := r) hx hb hrt (z_nb hz) (fun t ht hW9 => ⟨⟨r, ws, rfl, ⟨rfl, hW, hT⟩, by rw [ht]; exact hP, va_K.moved hW9.alike hK, hD⟩, hS.F ht⟩) hS.2.2 hd)
set_option maxHeartbeats 4000000 in
set_option maxRecDepth 100000 in
theorem bm_X9_turnParting {p : Program} {l : Launch} {e : Env} {s : State} {m : MethodId} {args : Array Value} {below : List Frame} {meth : Method} {c : Code} {Q : State → Prop} {A : Nat → Prop} {dC : Nat → ClassId} {dI : Nat → Nat → Nat} {kk : Nat → ClassId} {ad : Nat → Nat} {ws : va_W} {G : Nat → Nat → Int32} {P : Nat → Nat → Option Nat} {U : Nat → Nat → Int64} {V : Nat → Nat → Nat → Int32} {X : Nat → Nat → Nat → Int64} {O : Nat → Nat → Nat → Option Nat} {kd : Nat → Nat} {ln : Nat → Nat} {cnt : Nat} {H : Heap} {locs : List Loc} {ls : Array Slot} (this : Nat) (p0 : Nat) (p1 : Int32) (p2 : Nat) (hk_this : kd this = 10) (hk_p0 : kd p0 = 6) (hk_p2 : kd p2 = 11) (r : Int64) (c_G203 : Nat → Int32) (c_V0 : Nat → Nat → Int32) (c_V1 : Nat → Nat → Int32) (hr : f_X9_turnParting G P U V X O kd ln cnt this p0 p1 p2 = some (r, c_G203, c_V0, c_V1)) (hx : p.tables.exec = Jvm.exec) (hb : c.code = cX9_turnParting) (hml : c.maxLocals = 10) (hown : s.vm.findClass RX9 = some m.cls) (hts : ∀ w ∈ vmX9_turnParting, w.before args s = true) (hA : ∀ q : Nat, s.heap.size ≤ q → A q) (hK : va_K (dC, dI) vwCl (cT kk) s) (hW : LW ws ad kk kd ln G P U V X O) (hT : TYP kd P O (V 0) cnt) (hP : va_P (dC, dI) vwCl ws H) (hD : va_D A ws) (hS : va_S A s.heap H locs) (hl : lv_has ls 10 [(0, .ref (ad this)), (1, .ref (ad p0)), (2, .int p1), (3, .ref (ad p2))])
    (K : ∀ (pc : Nat) (ls : Array Slot) (rz : Int64) (c_G203z : Nat → Int32) (c_V0z : Nat → Nat → Int32) (c_V1z : Nat → Nat → Int32) (ws : va_W) (H : Heap) (locs : List Loc), some (rz, c_G203z, c_V0z, c_V1z) = some (r, c_G203, c_V0, c_V1) → decode cX9_turnParting pc = .ok (.lreturn, 1) → LW ws ad kk kd ln (va_up G 203 c_G203z) P U (va_up (va_up V 0 c_V0z) 1 c_V1z) X O → TYP kd P O c_V0z cnt → va_P (dC, dI) vwCl ws H → va_D A ws → va_S A s.heap H locs → W p l e ({ frames := 5, cells := 0, slots := 0, locals := 166 } : Room) s m args below meth c H locs 0 0 Q (F0 m pc ls [.long rz])) : W p l e ({ frames := 5, cells := 0, slots := 0, locals := 166 } : Room) s m args below meth c H locs 0 0 Q (F0 m 0 ls []) := by
  unfold f_X9_turnParting at hr
  refine lv_aload_n hx hb dX9_turnParting_0 rfl (lv_at hl 1 rfl) ?_
  obtain ⟨i1, hi1⟩ := hW.o5 hk_p0
  replace hr := nnS hr
  obtain ⟨a1, hn1, hr⟩ := hr
  have hk_a1 : kd a1 = 11 := hT.1 108 _ _ hn1
  refine va_get (D := (dC, dI)) (ci := 5) (v := .ref (ad a1)) (C := RX5) (T := TX5) (N := 11) hx hb hts inX5 hown hK hP i1 hi1 rfl 8 (by decide) (hts (.fieldLink RX9 78 "SpellTurner$Reform" "turnedParts" "LSpellTurner$WordRow;") ic_303) (fun _ h9 => h9) (congrArg (fun o => some (va_re ad o)) hn1) dX9_turnParting_1 ?_
  refine lv_astore (lv' := [(4, .ref (ad a1)), (0, .ref (ad this)), (1, .ref (ad p0)), (2, .int p1), (3, .ref (ad p2))]) hx hb dX9_turnParting_4 hl (by decide) rfl (fun ls hl => ?_)
  refine lv_lconst (v := 0) hx hb dX9_turnParting_6 (by decide +kernel) ?_
  refine lv_lstore (lv' := [(5, .long 0), (4, .ref (ad a1)), (0, .ref (ad this)), (1, .ref (ad p0)), (2, .int p1), (3, .ref (ad p2))]) hx hb dX9_turnParting_7 hl (by decide) rfl (fun ls hl => ?_)
  refine lv_iconst (v := 0) hx hb dX9_turnParting_9 (by decide +kernel) ?_
  refine lv_istore (lv' := [(7, .int 0), (5, .long 0), (4, .ref (ad a1)), (0, .ref (ad this)), (1, .ref (ad p0)), (2, .int p1), (3, .ref (ad p2))]) hx hb dX9_turnParting_10 hl (by decide) rfl (fun ls hl => ?_)
  refine lv_iconst (v := 0) hx hb dX9_turnParting_12 (by decide +kernel) ?_
  refine lv_istore (lv' := [(8, .int 0), (7, .int 0), (5, .long 0), (4, .ref (ad a1)), (0, .ref (ad this)), (1, .ref (ad p0)), (2, .int p1), (3, .ref (ad p2))]) hx hb dX9_turnParting_13 hl (by decide) rfl (fun ls hl => ?_)
  replace hr := jnS hr
  obtain ⟨k149, hk149, hr⟩ := hr
  have Jk149 : ∀ (x149_5 : Int64) (x149_7 : Int32) (c149_V0 : Nat → Nat → Int32) (ws : va_W) (H : Heap) (locs : List Loc) (ls : Array Slot), k149 x149_5 x149_7 c149_V0 = some (r, c_G203, c_V0, c_V1) → LW ws ad kk kd ln G P U (va_up V 0 c149_V0) X O → TYP kd P O c149_V0 cnt → va_P (dC, dI) vwCl ws H → va_D A ws → va_S A s.heap H locs → lv_has ls 10 [(0, .ref (ad this)), (3, .ref (ad p2)), (5, .long x149_5), (7, .int x149_7)] → W p l e ({ frames := 5, cells := 0, slots := 0, locals := 166 } : Room) s m args below meth c H locs 0 0 Q (F0 m 149 ls []) := by
    intro x149_5 x149_7 c149_V0 ws H locs ls hr hW hT hP hD hS hl
    rw [hk149] at hr
    refine lv_iload hx hb dX9_turnParting_149 (lv_at hl 3 rfl) ?_
    refine lv_bipush (v := 24) hx hb dX9_turnParting_151 (by decide +kernel) ?_
    replace hr := jnS hr
    obtain ⟨j167, hj167, hr⟩ := hr
    have Jj167 : ∀ (c167_G203 : Nat → Int32) (c167_V0 : Nat → Nat → Int32) (c167_V1 : Nat → Nat → Int32) (ws : va_W) (H : Heap) (locs : List Loc) (ls : Array Slot), j167 c167_G203 c167_V0 c167_V1 = some (r, c_G203, c_V0, c_V1) → LW ws ad kk kd ln (va_up G 203 c167_G203) P U (va_up (va_up V 0 c167_V0) 1 c167_V1) X O → TYP kd P O c167_V0 cnt → va_P (dC, dI) vwCl ws H → va_D A ws → va_S A s.heap H locs → lv_has ls 10 [(5, .long x149_5)] → W p l e ({ frames := 5, cells := 0, slots := 0, locals := 166 } : Room) s m args below meth c H locs 0 0 Q (F0 m 167 ls []) := by
      intro c167_G203 c167_V0 c167_V1 ws H locs ls hr hW hT hP hD hS hl
      rw [hj167] at hr
      refine lv_lload hx hb dX9_turnParting_167 (lv_at hl 0 rfl) ?_
      exact K 169 ls _ _ _ _ ws H _ hr dX9_turnParting_169 hW hT hP hD hS
    refine lv_icmp_gt (tgt := 167) hx hb dX9_turnParting_153 (by decide) (fun c153 => ?_) (fun c153 => ?_)
    · replace hr := iteT c153 hr
      have eG : G = (va_up G 203 (G 203)) := by
        funext k
        by_cases h203 : k = 203
        · subst h203; rfl
        · simp only [va_up, h203, if_false]
      rw [eG] at hW
      clear eG
      have eV : (va_up V 0 c149_V0) = (va_up (va_up V 0 c149_V0) 1 (V 1)) := by
        funext k
        by_cases h0 : k = 0
        · subst h0; rfl
        by_cases h1 : k = 1
        · subst h1; rfl
        · simp only [va_up, h0, h1, if_false]
      rw [eV] at hW
      clear eV
      exact Jj167 (G 203) c149_V0 (V 1) ws H _ ls hr hW hT hP hD hS (lv_sub hl [2] rfl)
    · replace hr := iteF c153 hr
      refine lv_aload_n hx hb dX9_turnParting_156 rfl (lv_at hl 1 rfl) ?_
      refine lv_aload_n hx hb dX9_turnParting_157 rfl (lv_at hl 0 rfl) ?_
      obtain ⟨i2, hi2⟩ := hW.o9 hk_this
      replace hr := nnS hr
      obtain ⟨a158, hn158, hr⟩ := hr
      have hk_a158 : kd a158 = 100 := hT.1 185 _ _ hn158
      refine va_get (D := (dC, dI)) (ci := 9) (v := .ref (ad a158)) (C := RX9) (T := TX9) (N := 8) hx hb hts inX9 hown hK hP i2 hi2 rfl 5 (by decide) (hts (.fieldLink RX9 33 "SpellTurner$Turner" "whole" "[B") ic_304) (fun _ h9 => h9) (congrArg (fun o => some (va_re ad o)) hn158) dX9_turnParting_158 ?_
      refine lv_iconst (v := 0) hx hb dX9_turnParting_161 (by decide +kernel) ?_
      refine lv_iload hx hb dX9_turnParting_162 (lv_at hl 3 rfl) ?_
      replace hr := b3S hr
      obtain ⟨c164_G203, c164_V0, c164_V1, hc164, hr⟩ := hr
      have hFc := fr_all hD hS hA
      obtain ⟨i3, hi3⟩ := hW.o10 hk_p2
      refine va_callv (va_runV (As := [.ref (ad a158), .int 0, .int x149_7]) (rest := []) ⟨hx, hb, hml, hown, hts⟩ (m_X10_addForm l dC dI kk ad H.size ws G P U (va_up V 0 c149_V0) X O kd ln cnt p2 a158 0 x149_7 hk_p2 hk_a158 hW hT c164_G203 c164_V0 c164_V1 hc164) (cwV 3 hts gc_RX9_X10_addForm_85 rfl rfl rfl (by decide +kernel) ⟨Nat.le_of_ble_eq_true rfl, Nat.le_of_ble_eq_true rfl⟩) ⟨fun a U g mk q => by obtain ⟨q0, q1, qP, qK, qD⟩ := q; exact ⟨q0, q1, qP, va_K.moved (u := U) (U := U.calling g mk a) (Vm.Alike.refl U.vm) qK, qD⟩, va_recv hK hP (ci := 10) (q0 := i3) rfl hi3, fun U hU hW => ⟨rfl, by rw [hU], by rw [hU]; exact hP, va_K.moved hW.alike hK, hD.weaken (fun _ _ _ _ => trivial)⟩⟩ rfl rfl hl.1 rfl (lv_room (Nat.le_of_ble_eq_true rfl)) dX9_turnParting_164 ⟨Nat.le_of_ble_eq_true rfl, Nat.le_of_ble_eq_true rfl⟩) hS (fun q _ h => hFc q h) hFc (fun w4 t H1 locs ht hvm hw hB hz1 hk1 hS => ?_)
      obtain ⟨hW, hT⟩ := hw
      obtain ⟨hP1, hK1, hD1⟩ := hB
      rw [ht] at hP1
      obtain ⟨hP, hD⟩ := jn_all (w1 := w4) hFc hP1 hD1
      replace hP : va_P (dC, dI) vwCl w4 H1 := hP
      replace hD : va_D A w4 := hD
      clear hFc hP1 hK1 hD1 hk1 hz1 ht hvm
      generalize H1 = H at hP hS ⊢
      have eV : (va_up (va_up (va_up V 0 c149_V0) 0 c164_V0) 1 c164_V1) = (va_up (va_up V 0 c164_V0) 1 c164_V1) := by
        funext k
        by_cases h0 : k = 0
        · subst h0; rfl
        by_cases h1 : k = 1
        · subst h1; rfl
        · simp only [va_up, h0, h1, if_false]
      rw [eV] at hW
      clear eV
      exact Jj167 c164_G203 c164_V0 c164_V1 w4 H _ ls hr hW hT hP hD hS (lv_sub hl [2] rfl)
  replace hr := jnS hr
  obtain ⟨k56, hk56, hr⟩ := hr
  have Jk56 : ∀ (x56_5 : Int64) (c56_V0 : Nat → Nat → Int32) (ws : va_W) (H : Heap) (locs : List Loc) (ls : Array Slot), k56 x56_5 c56_V0 = some (r, c_G203, c_V0, c_V1) → LW ws ad kk kd ln G P U (va_up V 0 c56_V0) X O → TYP kd P O c56_V0 cnt → va_P (dC, dI) vwCl ws H → va_D A ws → va_S A s.heap H locs → lv_has ls 10 [(5, .long x56_5)] → W p l e ({ frames := 5, cells := 0, slots := 0, locals := 166 } : Room) s m args below meth c H locs 0 0 Q (F0 m 56 ls []) := by
    intro x56_5 c56_V0 ws H locs ls hr hW hT hP hD hS hl
    rw [hk56] at hr
    refine lv_lload hx hb dX9_turnParting_56 (lv_at hl 0 rfl) ?_
    have eG : G = (va_up G 203 (G 203)) := by
      funext k
      by_cases h203 : k = 203
      · subst h203; rfl
      · simp only [va_up, h203, if_false]
    rw [eG] at hW
    clear eG
    have eV : (va_up V 0 c56_V0) = (va_up (va_up V 0 c56_V0) 1 (V 1)) := by
      funext k
      by_cases h0 : k = 0
      · subst h0; rfl
      by_cases h1 : k = 1
      · subst h1; rfl
      · simp only [va_up, h0, h1, if_false]
    rw [eV] at hW
    clear eV
    exact K 58 ls _ _ _ _ ws H _ hr dX9_turnParting_58 hW hT hP hD hS
  have lp15 : ∀ (n15 : Nat), ∀ (y15_5 : Int64) (y15_7 : Int32) (y15_8 : Int32) (d15_V0 : Nat → Nat → Int32) (ws : va_W) (H : Heap) (locs : List Loc) (ls : Array Slot), L_X9_turnParting_15 G P U V X O kd ln cnt this p0 p1 a1 k149 k56 n15 y15_5 y15_7 y15_8 d15_V0 = some (r, c_G203, c_V0, c_V1) → LW ws ad kk kd ln G P U (va_up V 0 d15_V0) X O → TYP kd P O d15_V0 cnt → va_P (dC, dI) vwCl ws H → va_D A ws → va_S A s.heap H locs → lv_has ls 10 [(0, .ref (ad this)), (1, .ref (ad p0)), (2, .int p1), (3, .ref (ad p2)), (4, .ref (ad a1)), (5, .long y15_5), (7, .int y15_7), (8, .int y15_8)] → W p l e ({ frames := 5, cells := 0, slots := 0, locals := 166 } : Room) s m args below meth c H locs 0 0 Q (F0 m 15 ls []) := by
    intro n15
    induction n15 with
    | zero => intro y15_5 y15_7 y15_8 d15_V0 ws H locs ls hr hW hT hP hD hS hl; exact nomatch (show none = some (r, c_G203, c_V0, c_V1) from hr)
    | succ n15 ih15 =>
      intro y15_5 y15_7 y15_8 d15_V0 ws H locs ls hr hW hT hP hD hS hl
      replace hr : B_X9_turnParting_15 G P U V X O kd ln cnt this p0 p1 a1 k149 k56 (L_X9_turnParting_15 G P U V X O kd ln cnt this p0 p1 a1 k149 k56 n15) y15_5 y15_7 y15_8 d15_V0 = some (r, c_G203, c_V0, c_V1) := hr
      unfold B_X9_turnParting_15 at hr
      refine lv_iload hx hb dX9_turnParting_15 (lv_at hl 7 rfl) ?_
      refine lv_aload_n hx hb dX9_turnParting_17 rfl (lv_at hl 0 rfl) ?_
      obtain ⟨i5, hi5⟩ := hW.o9 hk_this
      replace hr := nnS hr
      obtain ⟨a18, hn18, hr⟩ := hr
      have hk_a18 : kd a18 = 4 := hT.1 180 _ _ hn18
      refine va_get (D := (dC, dI)) (ci := 9) (v := .ref (ad a18)) (C := RX9) (T := TX9) (N := 8) hx hb hts inX9 hown hK hP i5 hi5 rfl 0 (by decide) (hts (.fieldLink RX9 12 "SpellTurner$Turner" "partings" "LSpellTurner$Partings;") ic_305) (fun _ h9 => h9) (congrArg (fun o => some (va_re ad o)) hn18) dX9_turnParting_18 ?_
      obtain ⟨i6, hi6⟩ := hW.o3 hk_a18
      replace hr := nnS hr
      obtain ⟨a21, hn21, hr⟩ := hr
      have hk_a21 : kd a21 = 102 := hT.1 61 _ _ hn21
      refine va_get (D := (dC, dI)) (ci := 3) (v := .ref (ad a21)) (C := RX3) (T := TX3) (N := 7) hx hb hts inX3 hown hK hP i6 hi6 rfl 1 (by decide) (hts (.fieldLink RX9 128 "SpellTurner$Partings" "sizes" "[I") ic_306) (fun _ h9 => h9) (congrArg (fun o => some (va_re ad o)) hn21) dX9_turnParting_21 ?_
      refine lv_iload_n hx hb dX9_turnParting_24 rfl (lv_at hl 2 rfl) ?_
      obtain ⟨i7, hi7⟩ := hW.v2 hk_a21
      replace hr := iteS hr
      obtain ⟨hi25, hr⟩ := hr
      refine va_iald (f := ((V 2) a21)) hx hb hK hP i7 1 hi7 rfl (inbV hi25) dX9_turnParting_25 ?_
      refine lv_icmp_ge (tgt := 149) hx hb dX9_turnParting_26 (by decide) (fun c26 => ?_) (fun c26 => ?_)
      · replace hr := iteT c26 hr
        exact Jk149 y15_5 y15_7 d15_V0 ws H _ ls hr hW hT hP hD hS (lv_sub hl [0, 3, 5, 6] rfl)
      · replace hr := iteF c26 hr
        refine lv_aload_n hx hb dX9_turnParting_29 rfl (lv_at hl 0 rfl) ?_
        obtain ⟨i8, hi8⟩ := hW.o9 hk_this
        replace hr := nnS hr
        obtain ⟨a30, hn30, hr⟩ := hr
        have hk_a30 : kd a30 = 4 := hT.1 180 _ _ hn30
        refine va_get (D := (dC, dI)) (ci := 9) (v := .ref (ad a30)) (C := RX9) (T := TX9) (N := 8) hx hb hts inX9 hown hK hP i8 hi8 rfl 0 (by decide) (hts (.fieldLink RX9 12 "SpellTurner$Turner" "partings" "LSpellTurner$Partings;") ic_305) (fun _ h9 => h9) (congrArg (fun o => some (va_re ad o)) hn30) dX9_turnParting_30 ?_
        refine lv_iload_n hx hb dX9_turnParting_33 rfl (lv_at hl 2 rfl) ?_
        refine lv_iload hx hb dX9_turnParting_34 (lv_at hl 7 rfl) ?_
        replace hr := b1S hr
        obtain ⟨r36z, hc36, hr⟩ := hr
        have hFc := fr_all hD hS hA
        obtain ⟨i9, hi9⟩ := hW.o3 hk_a30
        refine va_calli (va_runV (As := [.int p1, .int y15_8]) (rest := []) ⟨hx, hb, hml, hown, hts⟩ (m_X3_pick l dC dI kk ad H.size ws G P U (va_up V 0 d15_V0) X O kd ln cnt a30 p1 y15_8 hk_a30 hW hT r36z hc36) (cwV 2 hts gc_RX9_X3_pick_131 rfl rfl rfl (by decide +kernel) ⟨Nat.le_of_ble_eq_true rfl, Nat.le_of_ble_eq_true rfl⟩) ⟨fun a U g mk q => by obtain ⟨q0, q1, qP, qK, qD⟩ := q; exact ⟨q0, q1, qP, va_K.moved (u := U) (U := U.calling g mk a) (Vm.Alike.refl U.vm) qK, qD⟩, va_recv hK hP (ci := 3) (q0 := i9) rfl hi9, fun U hU hW => ⟨rfl, by rw [hU], by rw [hU]; exact hP, va_K.moved hW.alike hK, hD.weaken (fun _ _ _ _ => trivial)⟩⟩ rfl rfl hl.1 rfl (lv_room (Nat.le_of_ble_eq_true rfl)) dX9_turnParting_36 ⟨Nat.le_of_ble_eq_true rfl, Nat.le_of_ble_eq_true rfl⟩) hS (fun q _ h => hFc q h) hFc (fun r36 w10 t H1 locs ht hvm hw hB hz1 hk1 hS => ?_)
        obtain ⟨hw0, hW, hT⟩ := hw
        replace hw0 : r36 = r36z := hw0
        subst hw0
        obtain ⟨hP1, hK1, hD1⟩ := hB
        rw [ht] at hP1
        obtain ⟨hP, hD⟩ := jn_all (w1 := w10) hFc hP1 hD1
        replace hP : va_P (dC, dI) vwCl w10 H1 := hP
        replace hD : va_D A w10 := hD
        clear hFc hP1 hK1 hD1 hk1 hz1 ht hvm
        generalize H1 = H at hP hS ⊢
        refine lv_istore (lv' := [(9, .int r36), (0, .ref (ad this)), (1, .ref (ad p0)), (2, .int p1), (3, .ref (ad p2)), (4, .ref (ad a1)), (5, .long y15_5), (7, .int y15_7), (8, .int y15_8)]) hx hb dX9_turnParting_39 hl (by decide) rfl (fun ls hl => ?_)
        refine lv_iload hx hb dX9_turnParting_41 (lv_at hl 0 rfl) ?_
        refine lv_if_lt (tgt := 56) hx hb dX9_turnParting_43 (by decide) (fun c43 => ?_) (fun c43 => ?_)
        · replace hr := iteT c43 hr
          exact Jk56 y15_5 d15_V0 w10 H _ ls hr hW hT hP hD hS (lv_sub hl [6] rfl)
        · replace hr := iteF c43 hr
          refine lv_iload hx hb dX9_turnParting_46 (lv_at hl 0 rfl) ?_
          refine lv_aload hx hb dX9_turnParting_48 (lv_at hl 5 rfl) ?_
          obtain ⟨i11, hi11⟩ := hW.o10 hk_a1
          refine va_get (D := (dC, dI)) (ci := 10) (v := .int ((G 203) a1)) (C := RX10) (T := TX10) (N := 4) hx hb hts inX10 hown hK hP i11 hi11 rfl 3 (by decide) (hts (.fieldLink RX9 53 "SpellTurner$WordRow" "count" "I") ic_270) (fun _ h9 => h9) rfl dX9_turnParting_50 ?_
          refine lv_icmp_lt (tgt := 59) hx hb dX9_turnParting_53 (by decide) (fun c53 => ?_) (fun c53 => ?_)
          · replace hr := iteT c53 hr
            refine lv_lload hx hb dX9_turnParting_59 (lv_at hl 6 rfl) ?_
            refine lv_aload_n hx hb dX9_turnParting_61 rfl (lv_at hl 2 rfl) ?_
            obtain ⟨i12, hi12⟩ := hW.o5 hk_p0
            replace hr := nnS hr
            obtain ⟨a62, hn62, hr⟩ := hr
            have hk_a62 : kd a62 = 200 := hT.1 110 _ _ hn62
            refine va_get (D := (dC, dI)) (ci := 5) (v := .ref (ad a62)) (C := RX5) (T := TX5) (N := 11) hx hb hts inX5 hown hK hP i12 hi12 rfl 10 (by decide) (hts (.fieldLink RX9 74 "SpellTurner$Reform" "partUses" "[J") ic_308) (fun _ h9 => h9) (congrArg (fun o => some (va_re ad o)) hn62) dX9_turnParting_62 ?_
            refine lv_iload hx hb dX9_turnParting_65 (lv_at hl 0 rfl) ?_
            obtain ⟨i13, hi13⟩ := hW.x0 hk_a62
            replace hr := iteS hr
            obtain ⟨hi67, hr⟩ := hr
            refine va_lald (f := ((X 0) a62)) hx hb hK hP i13 3 hi13 rfl (inbV hi67) dX9_turnParting_67 ?_
            refine lv_lor hx hb dX9_turnParting_68 ?_
            refine lv_topl (fun x69 ex69 => ?_)
            replace hr := vlS hr x69 ex69
            clear ex69
            refine lv_lstore (lv' := [(5, .long x69), (9, .int r36), (0, .ref (ad this)), (1, .ref (ad p0)), (2, .int p1), (3, .ref (ad p2)), (4, .ref (ad a1)), (7, .int y15_7), (8, .int y15_8)]) hx hb dX9_turnParting_69 hl (by decide) rfl (fun ls hl => ?_)
            refine lv_aload_n hx hb dX9_turnParting_71 rfl (lv_at hl 3 rfl) ?_
            obtain ⟨i14, hi14⟩ := hW.o5 hk_p0
            replace hr := nnS hr
            obtain ⟨a72, hn72, hr⟩ := hr
            have hk_a72 : kd a72 = 111 := hT.1 109 _ _ hn72
            refine va_get (D := (dC, dI)) (ci := 5) (v := .ref (ad a72)) (C := RX5) (T := TX5) (N := 11) hx hb hts inX5 hown hK hP i14 hi14 rfl 9 (by decide) (hts (.fieldLink RX9 70 "SpellTurner$Reform" "partHolds" "[Z") ic_309) (fun _ h9 => h9) (congrArg (fun o => some (va_re ad o)) hn72) dX9_turnParting_72 ?_
            refine lv_iload hx hb dX9_turnParting_75 (lv_at hl 1 rfl) ?_
            obtain ⟨i15, hi15⟩ := hW.v11 hk_a72
            replace hr := iteS hr
            obtain ⟨hi77, hr⟩ := hr
            refine va_zald (f := ((V 11) a72)) hx hb hK hP i15 2 hi15 rfl (inbV hi77) dX9_turnParting_77 ?_
            refine lv_if_ne (tgt := 84) hx hb dX9_turnParting_78 (by decide) (fun c78 => ?_) (fun c78 => ?_)
            · replace hr := iteF c78 hr
              refine lv_iload hx hb dX9_turnParting_84 (lv_at hl 7 rfl) ?_
              refine lv_aload hx hb dX9_turnParting_86 (lv_at hl 6 rfl) ?_
              obtain ⟨i16, hi16⟩ := hW.o10 hk_a1
              replace hr := nnS hr
              obtain ⟨a88, hn88, hr⟩ := hr
              have hk_a88 : kd a88 = 101 := hT.1 202 _ _ hn88
              refine va_get (D := (dC, dI)) (ci := 10) (v := .ref (ad a88)) (C := RX10) (T := TX10) (N := 4) hx hb hts inX10 hown hK hP i16 hi16 rfl 2 (by decide) (hts (.fieldLink RX9 62 "SpellTurner$WordRow" "lengths" "[I") ic_273) (fun _ h9 => h9) (congrArg (fun o => some (va_re ad o)) hn88) dX9_turnParting_88 ?_
              refine lv_iload hx hb dX9_turnParting_91 (lv_at hl 1 rfl) ?_
              obtain ⟨i17, hi17⟩ := hW.v1 hk_a88
              replace hr := iteS hr
              obtain ⟨hi93, hr⟩ := hr
              refine va_iald (f := ((V 1) a88)) hx hb hK hP i17 1 hi17 rfl (inbV hi93) dX9_turnParting_93 ?_
              refine lv_iadd hx hb dX9_turnParting_94 ?_
              refine lv_bipush (v := 24) hx hb dX9_turnParting_95 (by decide +kernel) ?_
              replace hr := jnS hr
              obtain ⟨j130, hj130, hr⟩ := hr
              have Jj130 : ∀ (c130_V0 : Nat → Nat → Int32) (ws : va_W) (H : Heap) (locs : List Loc) (ls : Array Slot), j130 c130_V0 = some (r, c_G203, c_V0, c_V1) → LW ws ad kk kd ln G P U (va_up V 0 c130_V0) X O → TYP kd P O c130_V0 cnt → va_P (dC, dI) vwCl ws H → va_D A ws → va_S A s.heap H locs → lv_has ls 10 [(0, .ref (ad this)), (1, .ref (ad p0)), (2, .int p1), (3, .ref (ad p2)), (4, .ref (ad a1)), (5, .long x69), (7, .int y15_7), (8, .int y15_8), (9, .int r36)] → W p l e ({ frames := 5, cells := 0, slots := 0, locals := 166 } : Room) s m args below meth c H locs 0 0 Q (F0 m 130 ls []) := by
                intro c130_V0 ws H locs ls hr hW hT hP hD hS hl
                rw [hj130] at hr
                refine lv_iload hx hb dX9_turnParting_130 (lv_at hl 6 rfl) ?_
                refine lv_aload hx hb dX9_turnParting_132 (lv_at hl 4 rfl) ?_
                obtain ⟨i18, hi18⟩ := hW.o10 hk_a1
                replace hr := nnS hr
                obtain ⟨a134, hn134, hr⟩ := hr
                have hk_a134 : kd a134 = 101 := hT.1 202 _ _ hn134
                refine va_get (D := (dC, dI)) (ci := 10) (v := .ref (ad a134)) (C := RX10) (T := TX10) (N := 4) hx hb hts inX10 hown hK hP i18 hi18 rfl 2 (by decide) (hts (.fieldLink RX9 62 "SpellTurner$WordRow" "lengths" "[I") ic_273) (fun _ h9 => h9) (congrArg (fun o => some (va_re ad o)) hn134) dX9_turnParting_134 ?_
                refine lv_iload hx hb dX9_turnParting_137 (lv_at hl 8 rfl) ?_
                obtain ⟨i19, hi19⟩ := hW.v1 hk_a134
                replace hr := iteS hr
                obtain ⟨hi139, hr⟩ := hr
                refine va_iald (f := ((V 1) a134)) hx hb hK hP i19 1 hi19 rfl (inbV hi139) dX9_turnParting_139 ?_
                refine lv_iadd hx hb dX9_turnParting_140 ?_
                refine lv_topi (fun x141 ex141 => ?_)
                replace hr := vlS hr x141 ex141
                clear ex141
                refine lv_istore (lv' := [(7, .int x141), (0, .ref (ad this)), (1, .ref (ad p0)), (2, .int p1), (3, .ref (ad p2)), (4, .ref (ad a1)), (5, .long x69), (8, .int y15_8), (9, .int r36)]) hx hb dX9_turnParting_141 hl (by decide) rfl (fun ls hl => ?_)
                refine lv_iinc (v := (y15_8 + 1)) (lv' := [(8, .int (y15_8 + 1)), (7, .int x141), (0, .ref (ad this)), (1, .ref (ad p0)), (2, .int p1), (3, .ref (ad p2)), (4, .ref (ad a1)), (5, .long x69), (9, .int r36)]) hx hb dX9_turnParting_143 hl (k := 7) rfl rfl (by decide) rfl (fun ls hl => ?_)
                refine lv_goto (tgt := 15) hx hb dX9_turnParting_146 (by decide) ?_
                exact ih15 x69 x141 (y15_8 + 1) c130_V0 ws H _ ls hr hW hT hP hD hS (lv_sub hl [2, 3, 4, 5, 6, 7, 1, 0] rfl)
              refine lv_icmp_gt (tgt := 130) hx hb dX9_turnParting_97 (by decide) (fun c97 => ?_) (fun c97 => ?_)
              · replace hr := iteT c97 hr
                exact Jj130 d15_V0 w10 H _ ls hr hW hT hP hD hS (lv_sub hl [2, 3, 4, 5, 6, 0, 7, 8, 1] rfl)
              · replace hr := iteF c97 hr
                refine lv_aload hx hb dX9_turnParting_100 (lv_at hl 6 rfl) ?_
                obtain ⟨i20, hi20⟩ := hW.o10 hk_a1
                replace hr := nnS hr
                obtain ⟨a102, hn102, hr⟩ := hr
                have hk_a102 : kd a102 = 100 := hT.1 201 _ _ hn102
                refine va_get (D := (dC, dI)) (ci := 10) (v := .ref (ad a102)) (C := RX10) (T := TX10) (N := 4) hx hb hts inX10 hown hK hP i20 hi20 rfl 1 (by decide) (hts (.fieldLink RX9 56 "SpellTurner$WordRow" "letters" "[B") ic_271) (fun _ h9 => h9) (congrArg (fun o => some (va_re ad o)) hn102) dX9_turnParting_102 ?_
                refine lv_iload hx hb dX9_turnParting_105 (lv_at hl 1 rfl) ?_
                refine lv_aload hx hb dX9_turnParting_107 (lv_at hl 6 rfl) ?_
                obtain ⟨i21, hi21⟩ := hW.o10 hk_a1
                refine va_get (D := (dC, dI)) (ci := 10) (v := .int ((G 200) a1)) (C := RX10) (T := TX10) (N := 4) hx hb hts inX10 hown hK hP i21 hi21 rfl 0 (by decide) (hts (.fieldLink RX9 59 "SpellTurner$WordRow" "width" "I") ic_272) (fun _ h9 => h9) rfl dX9_turnParting_109 ?_
                refine lv_imul hx hb dX9_turnParting_112 ?_
                refine lv_aload_n hx hb dX9_turnParting_113 rfl (lv_at hl 2 rfl) ?_
                obtain ⟨i22, hi22⟩ := hW.o9 hk_this
                replace hr := nnS hr
                obtain ⟨a114, hn114, hr⟩ := hr
                have hk_a114 : kd a114 = 100 := hT.1 185 _ _ hn114
                refine va_get (D := (dC, dI)) (ci := 9) (v := .ref (ad a114)) (C := RX9) (T := TX9) (N := 8) hx hb hts inX9 hown hK hP i22 hi22 rfl 5 (by decide) (hts (.fieldLink RX9 33 "SpellTurner$Turner" "whole" "[B") ic_304) (fun _ h9 => h9) (congrArg (fun o => some (va_re ad o)) hn114) dX9_turnParting_114 ?_
                refine lv_iload hx hb dX9_turnParting_117 (lv_at hl 7 rfl) ?_
                refine lv_aload hx hb dX9_turnParting_119 (lv_at hl 6 rfl) ?_
                obtain ⟨i23, hi23⟩ := hW.o10 hk_a1
                replace hr := nnS hr
                obtain ⟨a121, hn121, hr⟩ := hr
                have hk_a121 : kd a121 = 101 := hT.1 202 _ _ hn121
                refine va_get (D := (dC, dI)) (ci := 10) (v := .ref (ad a121)) (C := RX10) (T := TX10) (N := 4) hx hb hts inX10 hown hK hP i23 hi23 rfl 2 (by decide) (hts (.fieldLink RX9 62 "SpellTurner$WordRow" "lengths" "[I") ic_273) (fun _ h9 => h9) (congrArg (fun o => some (va_re ad o)) hn121) dX9_turnParting_121 ?_
                refine lv_iload hx hb dX9_turnParting_124 (lv_at hl 1 rfl) ?_
                obtain ⟨i24, hi24⟩ := hW.v1 hk_a121
                replace hr := iteS hr
                obtain ⟨hi126, hr⟩ := hr
                refine va_iald (f := ((V 1) a121)) hx hb hK hP i24 1 hi24 rfl (inbV hi126) dX9_turnParting_126 ?_
                replace hr := iteS hr
                obtain ⟨hi127, hr⟩ := hr
                obtain ⟨i25, hi25⟩ := hW.v0 hk_a102
                obtain ⟨i26, hi26⟩ := hW.v0 hk_a114
                refine va_copyi (f := (d15_V0 a102)) (g := (d15_V0 a114)) hx hb (by rw [hml]; exact hl.1.symm) hown (hts (.methodLink RX9 134 arraycopyName) ic_288) (hts (.native arraycopyName) ic_16) (hts (.static arraycopyName) ic_17) (hts (.initialized "java/lang/System") ic_18) hK hP hD hS i25 i26 0 0 hi25 hi26 rfl rfl rfl (cpbS hi127).1 (cpbS hi127).2.1 (cpbS hi127).2.2.1 (cpbS hi127).2.2.2.1 (cpbS hi127).2.2.2.2 (fun _ _ => hT.2.2.1 _ _) (Nat.le_of_ble_eq_true rfl) (Nat.le_of_ble_eq_true rfl) dX9_turnParting_127 (fun H locs hP2 hD2 hS => ?_)
                obtain ⟨m127, w27, em127, hP, hD, hW⟩ : ∃ (z : Nat → Nat → Int32) (w : va_W), z = (va_up d15_V0 a114 (va_cpy (d15_V0 a102) (d15_V0 a114) (Int32.toNatClampNeg (r36 * ((G 200) a1))) (Int32.toNatClampNeg y15_7) (Int32.toNatClampNeg (((V 1) a121) (Int32.toNatClampNeg r36))))) ∧ va_P (dC, dI) vwCl w H ∧ va_D A w ∧ LW w ad kk kd ln G P U (va_up (va_up V 0 d15_V0) 0 z) X O := ⟨_, _, rfl, hP2, hD2, hW.setV hD hi26 (by rw [hk_a114]; decide) 0 (va_cpy (d15_V0 a102) (d15_V0 a114) (Int32.toNatClampNeg (r36 * ((G 200) a1))) (Int32.toNatClampNeg y15_7) (Int32.toNatClampNeg (((V 1) a121) (Int32.toNatClampNeg r36)))) (by rw [hk_a114]; rfl)⟩
                replace hT : TYP kd P O m127 cnt := by rw [em127]; exact hT.setB a114 _ (fit_cpy (hT.2.2.1 a102) (hT.2.2.1 a114) _ _ _)
                replace hr := vlS hr m127 em127
                clear em127
                have eV : (va_up (va_up V 0 d15_V0) 0 m127) = (va_up V 0 m127) := by
                  funext k
                  by_cases h0 : k = 0
                  · subst h0; rfl
                  · simp only [va_up, h0, if_false]
                rw [eV] at hW
                clear eV
                exact Jj130 m127 w27 H _ ls hr hW hT hP hD hS (lv_sub hl [2, 3, 4, 5, 6, 0, 7, 8, 1] rfl)
            · replace hr := iteT c78 hr
              refine lv_lload hx hb dX9_turnParting_81 (lv_at hl 0 rfl) ?_
              have eG : G = (va_up G 203 (G 203)) := by
                funext k
                by_cases h203 : k = 203
                · subst h203; rfl
                · simp only [va_up, h203, if_false]
              rw [eG] at hW
              clear eG
              have eV : (va_up V 0 d15_V0) = (va_up (va_up V 0 d15_V0) 1 (V 1)) := by
                funext k
                by_cases h0 : k = 0
                · subst h0; rfl
                by_cases h1 : k = 1
                · subst h1; rfl
                · simp only [va_up, h0, h1, if_false]
              rw [eV] at hW
              clear eV
              exact K 83 ls _ _ _ _ w10 H _ hr dX9_turnParting_83 hW hT hP hD hS
          · replace hr := iteF c53 hr
            exact Jk56 y15_5 d15_V0 w10 H _ ls hr hW hT hP hD hS (lv_sub hl [6] rfl)
  have eV : V = (va_up V 0 (V 0)) := by
    funext k
    by_cases h0 : k = 0
    · subst h0; rfl
    · simp only [va_up, h0, if_false]
  rw [eV] at hW
  clear eV
  exact lp15 NN 0 0 0 (V 0) ws H _ ls hr hW hT hP hD hS (lv_sub hl [4, 5, 6, 7, 3, 2, 1, 0] rfl)
set_option maxHeartbeats 4000000 in
set_option maxRecDepth 100000 in
theorem m_X9_turnParting (l : Launch) (dC : Nat → ClassId) (dI : Nat → Nat → Nat) (kk : Nat → ClassId) (ad : Nat → Nat) (sz : Nat) (ws : va_W) (G : Nat → Nat → Int32) (P : Nat → Nat → Option Nat) (U : Nat → Nat → Int64) (V : Nat → Nat → Nat → Int32) (X : Nat → Nat → Nat → Int64) (O : Nat → Nat → Nat → Option Nat) (kd : Nat → Nat) (ln : Nat → Nat) (cnt : Nat) (this : Nat) (p0 : Nat) (p1 : Int32) (p2 : Nat) (hk_this : kd this = 10) (hk_p0 : kd p0 = 6) (hk_p2 : kd p2 = 11) (hW : LW ws ad kk kd ln G P U V X O) (hT : TYP kd P O (V 0) cnt) (r : Int64) (c_G203 : Nat → Int32) (c_V0 : Nat → Nat → Int32) (c_V1 : Nat → Nat → Int32) (hr : f_X9_turnParting G P U V X O kd ln cnt this p0 p1 p2 = some (r, c_G203, c_V0, c_V1)) : Met l yX9_turnParting vmX9_turnParting ({ frames := 5, cells := 0, slots := 0, locals := 166 } : Room) (va_Pc [.ref (ad this), .ref (ad p0), .int p1, .ref (ad p2)] (fun U => U.heap.size = sz ∧ va_P (dC, dI) vwCl ws U.heap ∧ va_K (dC, dI) vwCl (cT kk) U ∧ va_D (fun _ => True) ws)) (va_Ql (fun (rz : Int64) (w : va_W) => rz = r ∧ LW w ad kk kd ln (va_up G 203 c_G203) P U (va_up (va_up V 0 c_V0) 1 c_V1) X O ∧ TYP kd P O c_V0 cnt) (fun w t => va_P (dC, dI) vwCl w t.heap ∧ va_K (dC, dI) vwCl (cT kk) t ∧ va_D (va_A ws sz) w) (va_A ws sz)) 0 0 (va_A ws sz) := by
  refine Met.ofW (cc := cX9_turnParting) (maxL := 10) (ret := (some .long)) (by decide) rfl ?_
  intro p e s m args below meth c s₁ B hml hv
  obtain ⟨rfl, hsz, hP, hK, hD0⟩ := hv
  have hx := B.exec
  have hb := B.bytes
  have hrt := B.returns
  have hts := atoms_spec (ws := vmX9_turnParting) B.pre
  have hown : s.vm.findClass RX9 = some m.cls := findClass_of_methodNamed B.named
  subst hsz
  have hD := hD0.self (sz := s.heap.size)
  generalize hAe : va_A ws s.heap.size = A at hD ⊢
  have hA : ∀ q : Nat, s.heap.size ≤ q → A q := fun q h => by rw [← hAe]; exact Or.inr h
  have hS : va_S A s.heap s.heap [] := va_S.rf
  have hl := lv_entry ([.ref (ad this), .ref (ad p0), .int p1, .ref (ad p2)]) (n := 10) (Nat.le_of_ble_eq_true rfl)
  rw [lg_entry_eq]
  generalize (lg_sl ([.ref (ad this), .ref (ad p0), .int p1, .ref (ad p2)]) ++ List.replicate (10 - (lg_sl ([.ref (ad this), .ref (ad p0), .int p1, .ref (ad p2)])).length) Slot.unset).toArray = ls at hl ⊢
  exact bm_X9_turnParting this p0 p1 p2 hk_this hk_p0 hk_p2 r c_G203 c_V0 c_V1 hr hx hb hml hown hts hA hK hW hT hP hD hS hl (fun pc ls rz c_G203z c_V0z c_V1z ws H locs he hd hW hT hP hD hS => by cases he; exact W.lret (v := r) hx hb hrt (fun t ht hW9 => ⟨⟨r, ws, rfl, ⟨rfl, hW, hT⟩, by rw [ht]; exact hP, va_K.moved hW9.alike hK, hD⟩, hS.F ht⟩) hS.2.2 hd)
set_option maxHeartbeats 4000000 in
set_option maxRecDepth 100000 in
theorem bm_X9_turnWord {p : Program} {l : Launch} {e : Env} {s : State} {m : MethodId} {args : Array Value} {below : List Frame} {meth : Method} {c : Code} {Q : State → Prop} {A : Nat → Prop} {dC : Nat → ClassId} {dI : Nat → Nat → Nat} {kk : Nat → ClassId} {ad : Nat → Nat} {ws : va_W} {G : Nat → Nat → Int32} {P : Nat → Nat → Option Nat} {U : Nat → Nat → Int64} {V : Nat → Nat → Nat → Int32} {X : Nat → Nat → Nat → Int64} {O : Nat → Nat → Nat → Option Nat} {kd : Nat → Nat} {ln : Nat → Nat} {cnt : Nat} {H : Heap} {locs : List Loc} {ls : Array Slot} (this : Nat) (p0 : Nat) (p1 : Nat) (p2 : Int32) (p3 : Nat) (hk_this : kd this = 10) (hk_p0 : kd p0 = 6) (hk_p1 : kd p1 = 11) (hk_p3 : kd p3 = 11) (r : Int64) (c_G60 : Nat → Int32) (c_G183 : Nat → Int32) (c_G203 : Nat → Int32) (c_P66 : Nat → Option Nat) (c_P181 : Nat → Option Nat) (c_P182 : Nat → Option Nat) (c_U184 : Nat → Int64) (c_V0 : Nat → Nat → Int32) (c_V1 : Nat → Nat → Int32) (c_V2 : Nat → Nat → Int32) (c_V12 : Nat → Nat → Int32) (hr : f_X9_turnWord G P U V X O kd ln cnt this p0 p1 p2 p3 = some (r, c_G60, c_G183, c_G203, c_P66, c_P181, c_P182, c_U184, c_V0, c_V1, c_V2, c_V12)) (hx : p.tables.exec = Jvm.exec) (hb : c.code = cX9_turnWord) (hml : c.maxLocals = 11) (hown : s.vm.findClass RX9 = some m.cls) (hts : ∀ w ∈ vmX9_turnWord, w.before args s = true) (hA : ∀ q : Nat, s.heap.size ≤ q → A q) (hK : va_K (dC, dI) vwCl (cT kk) s) (hW : LW ws ad kk kd ln G P U V X O) (hT : TYP kd P O (V 0) cnt) (hP : va_P (dC, dI) vwCl ws H) (hD : va_D A ws) (hS : va_S A s.heap H locs) (hl : lv_has ls 11 [(0, .ref (ad this)), (1, .ref (ad p0)), (2, .ref (ad p1)), (3, .int p2), (4, .ref (ad p3))])
    (K : ∀ (pc : Nat) (ls : Array Slot) (rz : Int64) (c_G60z : Nat → Int32) (c_G183z : Nat → Int32) (c_G203z : Nat → Int32) (c_P66z : Nat → Option Nat) (c_P181z : Nat → Option Nat) (c_P182z : Nat → Option Nat) (c_U184z : Nat → Int64) (c_V0z : Nat → Nat → Int32) (c_V1z : Nat → Nat → Int32) (c_V2z : Nat → Nat → Int32) (c_V12z : Nat → Nat → Int32) (ws : va_W) (H : Heap) (locs : List Loc), some (rz, c_G60z, c_G183z, c_G203z, c_P66z, c_P181z, c_P182z, c_U184z, c_V0z, c_V1z, c_V2z, c_V12z) = some (r, c_G60, c_G183, c_G203, c_P66, c_P181, c_P182, c_U184, c_V0, c_V1, c_V2, c_V12) → decode cX9_turnWord pc = .ok (.lreturn, 1) → LW ws ad kk kd ln (va_up (va_up (va_up G 60 c_G60z) 183 c_G183z) 203 c_G203z) (va_up (va_up (va_up P 66 c_P66z) 181 c_P181z) 182 c_P182z) (va_up U 184 c_U184z) (va_up (va_up (va_up (va_up V 0 c_V0z) 1 c_V1z) 2 c_V2z) 12 c_V12z) X O → TYP kd (va_up (va_up (va_up P 66 c_P66z) 181 c_P181z) 182 c_P182z) O c_V0z cnt → va_P (dC, dI) vwCl ws H → va_D A ws → va_S A s.heap H locs → W p l e ({ frames := 46, cells := 0, slots := 0, locals := 1191 } : Room) s m args below meth c H locs 0 0 Q (F0 m pc ls [.long rz])) : W p l e ({ frames := 46, cells := 0, slots := 0, locals := 1191 } : Room) s m args below meth c H locs 0 0 Q (F0 m 0 ls []) := by
  unfold f_X9_turnWord at hr
  refine lv_iload_n hx hb dX9_turnWord_0 rfl (lv_at hl 3 rfl) ?_
  refine lv_aload_n hx hb dX9_turnWord_1 rfl (lv_at hl 2 rfl) ?_
  obtain ⟨i1, hi1⟩ := hW.o10 hk_p1
  refine va_get (D := (dC, dI)) (ci := 10) (v := .int ((G 200) p1)) (C := RX10) (T := TX10) (N := 4) hx hb hts inX10 hown hK hP i1 hi1 rfl 0 (by decide) (hts (.fieldLink RX9 59 "SpellTurner$WordRow" "width" "I") ic_272) (fun _ h9 => h9) rfl dX9_turnWord_2 ?_
  refine lv_imul hx hb dX9_turnWord_5 ?_
  refine lv_topi (fun x6 ex6 => ?_)
  replace hr := vlS hr x6 ex6
  clear ex6
  refine lv_istore (lv' := [(5, .int x6), (0, .ref (ad this)), (1, .ref (ad p0)), (2, .ref (ad p1)), (3, .int p2), (4, .ref (ad p3))]) hx hb dX9_turnWord_6 hl (by decide) rfl (fun ls hl => ?_)
  refine lv_aload_n hx hb dX9_turnWord_8 rfl (lv_at hl 3 rfl) ?_
  obtain ⟨i2, hi2⟩ := hW.o10 hk_p1
  replace hr := nnS hr
  obtain ⟨a9, hn9, hr⟩ := hr
  have hk_a9 : kd a9 = 101 := hT.1 202 _ _ hn9
  refine va_get (D := (dC, dI)) (ci := 10) (v := .ref (ad a9)) (C := RX10) (T := TX10) (N := 4) hx hb hts inX10 hown hK hP i2 hi2 rfl 2 (by decide) (hts (.fieldLink RX9 62 "SpellTurner$WordRow" "lengths" "[I") ic_273) (fun _ h9 => h9) (congrArg (fun o => some (va_re ad o)) hn9) dX9_turnWord_9 ?_
  refine lv_iload_n hx hb dX9_turnWord_12 rfl (lv_at hl 4 rfl) ?_
  obtain ⟨i3, hi3⟩ := hW.v1 hk_a9
  replace hr := iteS hr
  obtain ⟨hi13, hr⟩ := hr
  refine va_iald (f := ((V 1) a9)) hx hb hK hP i3 1 hi3 rfl (inbV hi13) dX9_turnWord_13 ?_
  refine lv_topi (fun x14 ex14 => ?_)
  replace hr := vlS hr x14 ex14
  clear ex14
  refine lv_istore (lv' := [(6, .int x14), (5, .int x6), (0, .ref (ad this)), (1, .ref (ad p0)), (2, .ref (ad p1)), (3, .int p2), (4, .ref (ad p3))]) hx hb dX9_turnWord_14 hl (by decide) rfl (fun ls hl => ?_)
  refine lv_aload_n hx hb dX9_turnWord_16 rfl (lv_at hl 3 rfl) ?_
  obtain ⟨i4, hi4⟩ := hW.o5 hk_p0
  replace hr := nnS hr
  obtain ⟨a17, hn17, hr⟩ := hr
  have hk_a17 : kd a17 = 11 := hT.1 104 _ _ hn17
  refine va_get (D := (dC, dI)) (ci := 5) (v := .ref (ad a17)) (C := RX5) (T := TX5) (N := 11) hx hb hts inX5 hown hK hP i4 hi4 rfl 4 (by decide) (hts (.fieldLink RX9 102 "SpellTurner$Reform" "entries" "LSpellTurner$WordRow;") ic_278) (fun _ h9 => h9) (congrArg (fun o => some (va_re ad o)) hn17) dX9_turnWord_17 ?_
  refine lv_aload_n hx hb dX9_turnWord_20 rfl (lv_at hl 4 rfl) ?_
  obtain ⟨i5, hi5⟩ := hW.o10 hk_p1
  replace hr := nnS hr
  obtain ⟨a21, hn21, hr⟩ := hr
  have hk_a21 : kd a21 = 100 := hT.1 201 _ _ hn21
  refine va_get (D := (dC, dI)) (ci := 10) (v := .ref (ad a21)) (C := RX10) (T := TX10) (N := 4) hx hb hts inX10 hown hK hP i5 hi5 rfl 1 (by decide) (hts (.fieldLink RX9 56 "SpellTurner$WordRow" "letters" "[B") ic_271) (fun _ h9 => h9) (congrArg (fun o => some (va_re ad o)) hn21) dX9_turnWord_21 ?_
  refine lv_iload hx hb dX9_turnWord_24 (lv_at hl 1 rfl) ?_
  refine lv_iload hx hb dX9_turnWord_26 (lv_at hl 0 rfl) ?_
  replace hr := b1S hr
  obtain ⟨r28z, hc28, hr⟩ := hr
  have hFc := fr_all hD hS hA
  obtain ⟨i6, hi6⟩ := hW.o10 hk_a17
  refine va_calli (va_runV (As := [.ref (ad a21), .int x6, .int x14]) (rest := []) ⟨hx, hb, hml, hown, hts⟩ (m_X10_find l dC dI kk ad H.size ws G P U V X O kd ln cnt a17 a21 x6 x14 hk_a17 hk_a21 hW hT r28z hc28) (cwV 3 hts gc_RX9_X10_find_105 rfl rfl rfl (by decide +kernel) ⟨Nat.le_of_ble_eq_true rfl, Nat.le_of_ble_eq_true rfl⟩) ⟨fun a U g mk q => by obtain ⟨q0, q1, qP, qK, qD⟩ := q; exact ⟨q0, q1, qP, va_K.moved (u := U) (U := U.calling g mk a) (Vm.Alike.refl U.vm) qK, qD⟩, va_recv hK hP (ci := 10) (q0 := i6) rfl hi6, fun U hU hW => ⟨rfl, by rw [hU], by rw [hU]; exact hP, va_K.moved hW.alike hK, hD.weaken (fun _ _ _ _ => trivial)⟩⟩ rfl rfl hl.1 rfl (lv_room (Nat.le_of_ble_eq_true rfl)) dX9_turnWord_28 ⟨Nat.le_of_ble_eq_true rfl, Nat.le_of_ble_eq_true rfl⟩) hS (fun q _ h => hFc q h) hFc (fun r28 w7 t H1 locs ht hvm hw hB hz1 hk1 hS => ?_)
  obtain ⟨hw0, hW, hT⟩ := hw
  replace hw0 : r28 = r28z := hw0
  subst hw0
  obtain ⟨hP1, hK1, hD1⟩ := hB
  rw [ht] at hP1
  obtain ⟨hP, hD⟩ := jn_all (w1 := w7) hFc hP1 hD1
  replace hP : va_P (dC, dI) vwCl w7 H1 := hP
  replace hD : va_D A w7 := hD
  clear hFc hP1 hK1 hD1 hk1 hz1 ht hvm
  generalize H1 = H at hP hS ⊢
  refine lv_istore (lv' := [(7, .int r28), (6, .int x14), (5, .int x6), (0, .ref (ad this)), (1, .ref (ad p0)), (2, .ref (ad p1)), (3, .int p2), (4, .ref (ad p3))]) hx hb dX9_turnWord_31 hl (by decide) rfl (fun ls hl => ?_)
  refine lv_iload hx hb dX9_turnWord_33 (lv_at hl 0 rfl) ?_
  refine lv_iconst (v := (-1)) hx hb dX9_turnWord_35 (by decide +kernel) ?_
  refine lv_icmp_eq (tgt := 50) hx hb dX9_turnWord_36 (by decide) (fun c36 => ?_) (fun c36 => ?_)
  · replace hr := iteT c36 hr
    refine lv_aload_n hx hb dX9_turnWord_50 rfl (lv_at hl 3 rfl) ?_
    obtain ⟨i8, hi8⟩ := hW.o9 hk_this
    replace hr := nnS hr
    obtain ⟨a51, hn51, hr⟩ := hr
    have hk_a51 : kd a51 = 4 := hT.1 180 _ _ hn51
    refine va_get (D := (dC, dI)) (ci := 9) (v := .ref (ad a51)) (C := RX9) (T := TX9) (N := 8) hx hb hts inX9 hown hK hP i8 hi8 rfl 0 (by decide) (hts (.fieldLink RX9 12 "SpellTurner$Turner" "partings" "LSpellTurner$Partings;") ic_305) (fun _ h9 => h9) (congrArg (fun o => some (va_re ad o)) hn51) dX9_turnWord_51 ?_
    refine lv_aload_n hx hb dX9_turnWord_54 rfl (lv_at hl 4 rfl) ?_
    obtain ⟨i9, hi9⟩ := hW.o5 hk_p0
    replace hr := nnS hr
    obtain ⟨a55, hn55, hr⟩ := hr
    have hk_a55 : kd a55 = 11 := hT.1 103 _ _ hn55
    refine va_get (D := (dC, dI)) (ci := 5) (v := .ref (ad a55)) (C := RX5) (T := TX5) (N := 11) hx hb hts inX5 hown hK hP i9 hi9 rfl 3 (by decide) (hts (.fieldLink RX9 48 "SpellTurner$Reform" "parts" "LSpellTurner$WordRow;") ic_312) (fun _ h9 => h9) (congrArg (fun o => some (va_re ad o)) hn55) dX9_turnWord_55 ?_
    refine lv_aload_n hx hb dX9_turnWord_58 rfl (lv_at hl 5 rfl) ?_
    obtain ⟨i10, hi10⟩ := hW.o10 hk_p1
    replace hr := nnS hr
    obtain ⟨a59, hn59, hr⟩ := hr
    have hk_a59 : kd a59 = 100 := hT.1 201 _ _ hn59
    refine va_get (D := (dC, dI)) (ci := 10) (v := .ref (ad a59)) (C := RX10) (T := TX10) (N := 4) hx hb hts inX10 hown hK hP i10 hi10 rfl 1 (by decide) (hts (.fieldLink RX9 56 "SpellTurner$WordRow" "letters" "[B") ic_271) (fun _ h9 => h9) (congrArg (fun o => some (va_re ad o)) hn59) dX9_turnWord_59 ?_
    refine lv_iload hx hb dX9_turnWord_62 (lv_at hl 2 rfl) ?_
    refine lv_iload hx hb dX9_turnWord_64 (lv_at hl 1 rfl) ?_
    replace hr := b5S hr
    obtain ⟨c66_G60, c66_P66, c66_V0, c66_V2, c66_V12, hc66, hr⟩ := hr
    have hFc := fr_all hD hS hA
    obtain ⟨i11, hi11⟩ := hW.o3 hk_a51
    refine va_callv (va_runV (As := [.ref (ad a55), .ref (ad a59), .int x6, .int x14]) (rest := []) ⟨hx, hb, hml, hown, hts⟩ (m_X3_find l dC dI kk ad H.size w7 G P U V X O kd ln cnt a51 a55 a59 x6 x14 hk_a51 hk_a55 hk_a59 hW hT c66_G60 c66_P66 c66_V0 c66_V2 c66_V12 hc66) (cwV 4 hts gc_RX9_X3_find_113 rfl rfl rfl (by decide +kernel) ⟨Nat.le_of_ble_eq_true rfl, Nat.le_of_ble_eq_true rfl⟩) ⟨fun a U g mk q => by obtain ⟨q0, q1, qP, qK, qD⟩ := q; exact ⟨q0, q1, qP, va_K.moved (u := U) (U := U.calling g mk a) (Vm.Alike.refl U.vm) qK, qD⟩, va_recv hK hP (ci := 3) (q0 := i11) rfl hi11, fun U hU hW => ⟨rfl, by rw [hU], by rw [hU]; exact hP, va_K.moved hW.alike hK, hD.weaken (fun _ _ _ _ => trivial)⟩⟩ rfl rfl hl.1 rfl (lv_room (Nat.le_of_ble_eq_true rfl)) dX9_turnWord_66 ⟨Nat.le_of_ble_eq_true rfl, Nat.le_of_ble_eq_true rfl⟩) hS (fun q _ h => hFc q h) hFc (fun w12 t H1 locs ht hvm hw hB hz1 hk1 hS => ?_)
    obtain ⟨hW, hT⟩ := hw
    obtain ⟨hP1, hK1, hD1⟩ := hB
    rw [ht] at hP1
    obtain ⟨hP, hD⟩ := jn_all (w1 := w12) hFc hP1 hD1
    replace hP : va_P (dC, dI) vwCl w12 H1 := hP
    replace hD : va_D A w12 := hD
    clear hFc hP1 hK1 hD1 hk1 hz1 ht hvm
    generalize H1 = H at hP hS ⊢
    refine lv_aload_n hx hb dX9_turnWord_69 rfl (lv_at hl 3 rfl) ?_
    obtain ⟨i13, hi13⟩ := hW.o9 hk_this
    replace hr := nnS hr
    obtain ⟨a70, hn70, hr⟩ := hr
    have hk_a70 : kd a70 = 4 := hT.1 180 _ _ hn70
    refine va_get (D := (dC, dI)) (ci := 9) (v := .ref (ad a70)) (C := RX9) (T := TX9) (N := 8) hx hb hts inX9 hown hK hP i13 hi13 rfl 0 (by decide) (hts (.fieldLink RX9 12 "SpellTurner$Turner" "partings" "LSpellTurner$Partings;") ic_305) (fun _ h9 => h9) (congrArg (fun o => some (va_re ad o)) hn70) dX9_turnWord_70 ?_
    obtain ⟨i14, hi14⟩ := hW.o3 hk_a70
    refine va_get (D := (dC, dI)) (ci := 3) (v := .int (c66_G60 a70)) (C := RX3) (T := TX3) (N := 7) hx hb hts inX3 hown hK hP i14 hi14 rfl 0 (by decide) (hts (.fieldLink RX9 116 "SpellTurner$Partings" "count" "I") ic_314) (fun _ h9 => h9) rfl dX9_turnWord_73 ?_
    refine lv_if_ne (tgt := 114) hx hb dX9_turnWord_76 (by decide) (fun c76 => ?_) (fun c76 => ?_)
    · replace hr := iteF c76 hr
      refine lv_lconst (v := 0) hx hb dX9_turnWord_114 (by decide +kernel) ?_
      refine lv_lstore (lv' := [(8, .long 0), (7, .int r28), (6, .int x14), (5, .int x6), (0, .ref (ad this)), (1, .ref (ad p0)), (2, .ref (ad p1)), (3, .int p2), (4, .ref (ad p3))]) hx hb dX9_turnWord_115 hl (by decide) rfl (fun ls hl => ?_)
      refine lv_iconst (v := 0) hx hb dX9_turnWord_117 (by decide +kernel) ?_
      refine lv_istore (lv' := [(10, .int 0), (8, .long 0), (7, .int r28), (6, .int x14), (5, .int x6), (0, .ref (ad this)), (1, .ref (ad p0)), (2, .ref (ad p1)), (3, .int p2), (4, .ref (ad p3))]) hx hb dX9_turnWord_118 hl (by decide) rfl (fun ls hl => ?_)
      have lp120 : ∀ (n120 : Nat), ∀ (y120_8 : Int64) (y120_10 : Int32) (d120_G203 : Nat → Int32) (d120_V0 : Nat → Nat → Int32) (d120_V1 : Nat → Nat → Int32) (ws : va_W) (H : Heap) (locs : List Loc) (ls : Array Slot), L_X9_turnWord_120 G P U V X O kd ln cnt this p0 p3 c66_G60 c66_P66 c66_V2 c66_V12 n120 y120_8 y120_10 d120_G203 d120_V0 d120_V1 = some (r, c_G60, c_G183, c_G203, c_P66, c_P181, c_P182, c_U184, c_V0, c_V1, c_V2, c_V12) → LW ws ad kk kd ln (va_up (va_up G 60 c66_G60) 203 d120_G203) (va_up P 66 c66_P66) U (va_up (va_up (va_up (va_up V 0 d120_V0) 1 d120_V1) 2 c66_V2) 12 c66_V12) X O → TYP kd (va_up P 66 c66_P66) O d120_V0 cnt → va_P (dC, dI) vwCl ws H → va_D A ws → va_S A s.heap H locs → lv_has ls 11 [(0, .ref (ad this)), (1, .ref (ad p0)), (4, .ref (ad p3)), (8, .long y120_8), (10, .int y120_10)] → W p l e ({ frames := 46, cells := 0, slots := 0, locals := 1191 } : Room) s m args below meth c H locs 0 0 Q (F0 m 120 ls []) := by
        intro n120
        induction n120 with
        | zero => intro y120_8 y120_10 d120_G203 d120_V0 d120_V1 ws H locs ls hr hW hT hP hD hS hl; exact nomatch (show none = some (r, c_G60, c_G183, c_G203, c_P66, c_P181, c_P182, c_U184, c_V0, c_V1, c_V2, c_V12) from hr)
        | succ n120 ih120 =>
          intro y120_8 y120_10 d120_G203 d120_V0 d120_V1 ws H locs ls hr hW hT hP hD hS hl
          replace hr : B_X9_turnWord_120 G P U V X O kd ln cnt this p0 p3 c66_G60 c66_P66 c66_V2 c66_V12 (L_X9_turnWord_120 G P U V X O kd ln cnt this p0 p3 c66_G60 c66_P66 c66_V2 c66_V12 n120) y120_8 y120_10 d120_G203 d120_V0 d120_V1 = some (r, c_G60, c_G183, c_G203, c_P66, c_P181, c_P182, c_U184, c_V0, c_V1, c_V2, c_V12) := hr
          unfold B_X9_turnWord_120 at hr
          refine lv_iload hx hb dX9_turnWord_120 (lv_at hl 4 rfl) ?_
          refine lv_aload_n hx hb dX9_turnWord_122 rfl (lv_at hl 0 rfl) ?_
          obtain ⟨i15, hi15⟩ := hW.o9 hk_this
          replace hr := nnS hr
          obtain ⟨a123, hn123, hr⟩ := hr
          have hk_a123 : kd a123 = 4 := hT.1 180 _ _ hn123
          refine va_get (D := (dC, dI)) (ci := 9) (v := .ref (ad a123)) (C := RX9) (T := TX9) (N := 8) hx hb hts inX9 hown hK hP i15 hi15 rfl 0 (by decide) (hts (.fieldLink RX9 12 "SpellTurner$Turner" "partings" "LSpellTurner$Partings;") ic_305) (fun _ h9 => h9) (congrArg (fun o => some (va_re ad o)) hn123) dX9_turnWord_123 ?_
          obtain ⟨i16, hi16⟩ := hW.o3 hk_a123
          refine va_get (D := (dC, dI)) (ci := 3) (v := .int (c66_G60 a123)) (C := RX3) (T := TX3) (N := 7) hx hb hts inX3 hown hK hP i16 hi16 rfl 0 (by decide) (hts (.fieldLink RX9 116 "SpellTurner$Partings" "count" "I") ic_314) (fun _ h9 => h9) rfl dX9_turnWord_126 ?_
          refine lv_icmp_ge (tgt := 152) hx hb dX9_turnWord_129 (by decide) (fun c129 => ?_) (fun c129 => ?_)
          · replace hr := iteT c129 hr
            refine lv_lload hx hb dX9_turnWord_152 (lv_at hl 3 rfl) ?_
            have eG : (va_up (va_up G 60 c66_G60) 203 d120_G203) = (va_up (va_up (va_up G 60 c66_G60) 183 (G 183)) 203 d120_G203) := by
              funext k
              by_cases h60 : k = 60
              · subst h60; rfl
              by_cases h183 : k = 183
              · subst h183; rfl
              by_cases h203 : k = 203
              · subst h203; rfl
              · simp only [va_up, h60, h183, h203, if_false]
            rw [eG] at hW
            clear eG
            have eP : (va_up P 66 c66_P66) = (va_up (va_up (va_up P 66 c66_P66) 181 (P 181)) 182 (P 182)) := by
              funext k
              by_cases h66 : k = 66
              · subst h66; rfl
              by_cases h181 : k = 181
              · subst h181; rfl
              by_cases h182 : k = 182
              · subst h182; rfl
              · simp only [va_up, h66, h181, h182, if_false]
            rw [eP] at hW
            rw [eP] at hT
            clear eP
            have eU : U = (va_up U 184 (U 184)) := by
              funext k
              by_cases h184 : k = 184
              · subst h184; rfl
              · simp only [va_up, h184, if_false]
            rw [eU] at hW
            clear eU
            exact K 154 ls _ _ _ _ _ _ _ _ _ _ _ _ ws H _ hr dX9_turnWord_154 hW hT hP hD hS
          · replace hr := iteF c129 hr
            refine lv_lload hx hb dX9_turnWord_132 (lv_at hl 3 rfl) ?_
            refine lv_aload_n hx hb dX9_turnWord_134 rfl (lv_at hl 0 rfl) ?_
            refine lv_aload_n hx hb dX9_turnWord_135 rfl (lv_at hl 1 rfl) ?_
            refine lv_iload hx hb dX9_turnWord_136 (lv_at hl 4 rfl) ?_
            refine lv_aload hx hb dX9_turnWord_138 (lv_at hl 2 rfl) ?_
            replace hr := b4S hr
            obtain ⟨r140z, c140_G203, c140_V0, c140_V1, hc140, hr⟩ := hr
            have hFc := fr_all hD hS hA
            obtain ⟨i17, hi17⟩ := hW.o9 hk_this
            refine va_calll (va_runV (As := [.ref (ad p0), .int y120_10, .ref (ad p3)]) (rest := [.long y120_8]) ⟨hx, hb, hml, hown, hts⟩ (m_X9_turnParting l dC dI kk ad H.size ws (va_up (va_up G 60 c66_G60) 203 d120_G203) (va_up P 66 c66_P66) U (va_up (va_up (va_up (va_up V 0 d120_V0) 1 d120_V1) 2 c66_V2) 12 c66_V12) X O kd ln cnt this p0 y120_10 p3 hk_this hk_p0 hk_p3 hW hT r140z c140_G203 c140_V0 c140_V1 hc140) (cwV 3 hts gc_RX9_X9_turnParting_117 rfl rfl rfl (by decide +kernel) ⟨Nat.le_of_ble_eq_true rfl, Nat.le_of_ble_eq_true rfl⟩) ⟨fun a U g mk q => by obtain ⟨q0, q1, qP, qK, qD⟩ := q; exact ⟨q0, q1, qP, va_K.moved (u := U) (U := U.calling g mk a) (Vm.Alike.refl U.vm) qK, qD⟩, va_recv hK hP (ci := 9) (q0 := i17) rfl hi17, fun U hU hW => ⟨rfl, by rw [hU], by rw [hU]; exact hP, va_K.moved hW.alike hK, hD.weaken (fun _ _ _ _ => trivial)⟩⟩ rfl rfl hl.1 rfl (lv_room (Nat.le_of_ble_eq_true rfl)) dX9_turnWord_140 ⟨Nat.le_of_ble_eq_true rfl, Nat.le_of_ble_eq_true rfl⟩) hS (fun q _ h => hFc q h) hFc (fun r140 w18 t H1 locs ht hvm hw hB hz1 hk1 hS => ?_)
            obtain ⟨hw0, hW, hT⟩ := hw
            replace hw0 : r140 = r140z := hw0
            subst hw0
            obtain ⟨hP1, hK1, hD1⟩ := hB
            rw [ht] at hP1
            obtain ⟨hP, hD⟩ := jn_all (w1 := w18) hFc hP1 hD1
            replace hP : va_P (dC, dI) vwCl w18 H1 := hP
            replace hD : va_D A w18 := hD
            clear hFc hP1 hK1 hD1 hk1 hz1 ht hvm
            generalize H1 = H at hP hS ⊢
            refine lv_lor hx hb dX9_turnWord_143 ?_
            refine lv_topl (fun x144 ex144 => ?_)
            replace hr := vlS hr x144 ex144
            clear ex144
            refine lv_lstore (lv' := [(8, .long x144), (0, .ref (ad this)), (1, .ref (ad p0)), (4, .ref (ad p3)), (10, .int y120_10)]) hx hb dX9_turnWord_144 hl (by decide) rfl (fun ls hl => ?_)
            refine lv_iinc (v := (y120_10 + 1)) (lv' := [(10, .int (y120_10 + 1)), (8, .long x144), (0, .ref (ad this)), (1, .ref (ad p0)), (4, .ref (ad p3))]) hx hb dX9_turnWord_146 hl (k := 4) rfl rfl (by decide) rfl (fun ls hl => ?_)
            refine lv_goto (tgt := 120) hx hb dX9_turnWord_149 (by decide) ?_
            have eG : (va_up (va_up (va_up G 60 c66_G60) 203 d120_G203) 203 c140_G203) = (va_up (va_up G 60 c66_G60) 203 c140_G203) := by
              funext k
              by_cases h60 : k = 60
              · subst h60; rfl
              by_cases h203 : k = 203
              · subst h203; rfl
              · simp only [va_up, h60, h203, if_false]
            rw [eG] at hW
            clear eG
            have eV : (va_up (va_up (va_up (va_up (va_up (va_up V 0 d120_V0) 1 d120_V1) 2 c66_V2) 12 c66_V12) 0 c140_V0) 1 c140_V1) = (va_up (va_up (va_up (va_up V 0 c140_V0) 1 c140_V1) 2 c66_V2) 12 c66_V12) := by
              funext k
              by_cases h0 : k = 0
              · subst h0; rfl
              by_cases h1 : k = 1
              · subst h1; rfl
              by_cases h2 : k = 2
              · subst h2; rfl
              by_cases h12 : k = 12
              · subst h12; rfl
              · simp only [va_up, h0, h1, h2, h12, if_false]
            rw [eV] at hW
            clear eV
            exact ih120 x144 (y120_10 + 1) c140_G203 c140_V0 c140_V1 w18 H _ ls hr hW hT hP hD hS (lv_sub hl [2, 3, 4, 1, 0] rfl)
      have eG : (va_up G 60 c66_G60) = (va_up (va_up G 60 c66_G60) 203 (G 203)) := by
        funext k
        by_cases h60 : k = 60
        · subst h60; rfl
        by_cases h203 : k = 203
        · subst h203; rfl
        · simp only [va_up, h60, h203, if_false]
      rw [eG] at hW
      clear eG
      have eV : (va_up (va_up (va_up V 0 c66_V0) 2 c66_V2) 12 c66_V12) = (va_up (va_up (va_up (va_up V 0 c66_V0) 1 (V 1)) 2 c66_V2) 12 c66_V12) := by
        funext k
        by_cases h0 : k = 0
        · subst h0; rfl
        by_cases h1 : k = 1
        · subst h1; rfl
        by_cases h2 : k = 2
        · subst h2; rfl
        by_cases h12 : k = 12
        · subst h12; rfl
        · simp only [va_up, h0, h1, h2, h12, if_false]
      rw [eV] at hW
      clear eV
      exact lp120 NN 0 0 (G 203) c66_V0 (V 1) w12 H _ ls hr hW hT hP hD hS (lv_sub hl [5, 6, 9, 1, 0] rfl)
    · replace hr := iteT c76 hr
      refine lv_aload_n hx hb dX9_turnWord_79 rfl (lv_at hl 3 rfl) ?_
      refine lv_aload_n hx hb dX9_turnWord_80 rfl (lv_at hl 4 rfl) ?_
      refine lv_aload_n hx hb dX9_turnWord_81 rfl (lv_at hl 5 rfl) ?_
      obtain ⟨i19, hi19⟩ := hW.o10 hk_p1
      replace hr := nnS hr
      obtain ⟨a82, hn82, hr⟩ := hr
      have hk_a82 : kd a82 = 100 := hT.1 201 _ _ hn82
      refine va_get (D := (dC, dI)) (ci := 10) (v := .ref (ad a82)) (C := RX10) (T := TX10) (N := 4) hx hb hts inX10 hown hK hP i19 hi19 rfl 1 (by decide) (hts (.fieldLink RX9 56 "SpellTurner$WordRow" "letters" "[B") ic_271) (fun _ h9 => h9) (congrArg (fun o => some (va_re ad o)) hn82) dX9_turnWord_82 ?_
      refine lv_iload hx hb dX9_turnWord_85 (lv_at hl 2 rfl) ?_
      refine lv_iload hx hb dX9_turnWord_87 (lv_at hl 1 rfl) ?_
      replace hr := b6S hr
      obtain ⟨r89z, c89_G183, c89_P181, c89_P182, c89_U184, c89_V0, hc89, hr⟩ := hr
      have hFc := fr_all hD hS hA
      obtain ⟨i20, hi20⟩ := hW.o9 hk_this
      refine va_calli (va_runV (As := [.ref (ad p0), .ref (ad a82), .int x6, .int x14]) (rest := []) ⟨hx, hb, hml, hown, hts⟩ (m_X9_runLaws l dC dI kk ad H.size w12 (va_up G 60 c66_G60) (va_up P 66 c66_P66) U (va_up (va_up (va_up V 0 c66_V0) 2 c66_V2) 12 c66_V12) X O kd ln cnt this p0 a82 x6 x14 hk_this hk_p0 hk_a82 hW hT r89z c89_G183 c89_P181 c89_P182 c89_U184 c89_V0 hc89) (cwV 4 hts gc_RX9_X9_runLaws_66 rfl rfl rfl (by decide +kernel) ⟨Nat.le_of_ble_eq_true rfl, Nat.le_of_ble_eq_true rfl⟩) ⟨fun a U g mk q => by obtain ⟨q0, q1, qP, qK, qD⟩ := q; exact ⟨q0, q1, qP, va_K.moved (u := U) (U := U.calling g mk a) (Vm.Alike.refl U.vm) qK, qD⟩, va_recv hK hP (ci := 9) (q0 := i20) rfl hi20, fun U hU hW => ⟨rfl, by rw [hU], by rw [hU]; exact hP, va_K.moved hW.alike hK, hD.weaken (fun _ _ _ _ => trivial)⟩⟩ rfl rfl hl.1 rfl (lv_room (Nat.le_of_ble_eq_true rfl)) dX9_turnWord_89 ⟨Nat.le_of_ble_eq_true rfl, Nat.le_of_ble_eq_true rfl⟩) hS (fun q _ h => hFc q h) hFc (fun r89 w21 t H1 locs ht hvm hw hB hz1 hk1 hS => ?_)
      obtain ⟨hw0, hW, hT⟩ := hw
      replace hw0 : r89 = r89z := hw0
      subst hw0
      obtain ⟨hP1, hK1, hD1⟩ := hB
      rw [ht] at hP1
      obtain ⟨hP, hD⟩ := jn_all (w1 := w21) hFc hP1 hD1
      replace hP : va_P (dC, dI) vwCl w21 H1 := hP
      replace hD : va_D A w21 := hD
      clear hFc hP1 hK1 hD1 hk1 hz1 ht hvm
      generalize H1 = H at hP hS ⊢
      replace hr := jnS hr
      obtain ⟨j109, hj109, hr⟩ := hr
      have Jj109 : ∀ (c109_G203 : Nat → Int32) (c109_V0 : Nat → Nat → Int32) (c109_V1 : Nat → Nat → Int32) (ws : va_W) (H : Heap) (locs : List Loc) (ls : Array Slot), j109 c109_G203 c109_V0 c109_V1 = some (r, c_G60, c_G183, c_G203, c_P66, c_P181, c_P182, c_U184, c_V0, c_V1, c_V2, c_V12) → LW ws ad kk kd ln (va_up (va_up (va_up G 60 c66_G60) 183 c89_G183) 203 c109_G203) (va_up (va_up (va_up P 66 c66_P66) 181 c89_P181) 182 c89_P182) (va_up U 184 c89_U184) (va_up (va_up (va_up (va_up V 0 c109_V0) 1 c109_V1) 2 c66_V2) 12 c66_V12) X O → TYP kd (va_up (va_up (va_up P 66 c66_P66) 181 c89_P181) 182 c89_P182) O c109_V0 cnt → va_P (dC, dI) vwCl ws H → va_D A ws → va_S A s.heap H locs → lv_has ls 11 [(0, .ref (ad this))] → W p l e ({ frames := 46, cells := 0, slots := 0, locals := 1191 } : Room) s m args below meth c H locs 0 0 Q (F0 m 109 ls []) := by
        intro c109_G203 c109_V0 c109_V1 ws H locs ls hr hW hT hP hD hS hl
        rw [hj109] at hr
        refine lv_aload_n hx hb dX9_turnWord_109 rfl (lv_at hl 0 rfl) ?_
        obtain ⟨i22, hi22⟩ := hW.o9 hk_this
        refine va_get (D := (dC, dI)) (ci := 9) (v := .long (c89_U184 this)) (C := RX9) (T := TX9) (N := 8) hx hb hts inX9 hown hK hP i22 hi22 rfl 4 (by decide) (hts (.fieldLink RX9 29 "SpellTurner$Turner" "used" "J") ic_294) (fun _ h9 => h9) rfl dX9_turnWord_110 ?_
        exact K 113 ls _ _ _ _ _ _ _ _ _ _ _ _ ws H _ hr dX9_turnWord_113 hW hT hP hD hS
      refine lv_if_eq (tgt := 109) hx hb dX9_turnWord_92 (by decide) (fun c92 => ?_) (fun c92 => ?_)
      · replace hr := iteT c92 hr
        have eG : (va_up (va_up G 60 c66_G60) 183 c89_G183) = (va_up (va_up (va_up G 60 c66_G60) 183 c89_G183) 203 (G 203)) := by
          funext k
          by_cases h60 : k = 60
          · subst h60; rfl
          by_cases h183 : k = 183
          · subst h183; rfl
          by_cases h203 : k = 203
          · subst h203; rfl
          · simp only [va_up, h60, h183, h203, if_false]
        rw [eG] at hW
        clear eG
        have eV : (va_up (va_up (va_up (va_up V 0 c66_V0) 2 c66_V2) 12 c66_V12) 0 c89_V0) = (va_up (va_up (va_up (va_up V 0 c89_V0) 1 (V 1)) 2 c66_V2) 12 c66_V12) := by
          funext k
          by_cases h0 : k = 0
          · subst h0; rfl
          by_cases h1 : k = 1
          · subst h1; rfl
          by_cases h2 : k = 2
          · subst h2; rfl
          by_cases h12 : k = 12
          · subst h12; rfl
          · simp only [va_up, h0, h1, h2, h12, if_false]
        rw [eV] at hW
        clear eV
        exact Jj109 (G 203) c89_V0 (V 1) w21 H _ ls hr hW hT hP hD hS (lv_sub hl [3] rfl)
      · replace hr := iteF c92 hr
        refine lv_aload hx hb dX9_turnWord_95 (lv_at hl 7 rfl) ?_
        refine lv_aload_n hx hb dX9_turnWord_97 rfl (lv_at hl 3 rfl) ?_
        obtain ⟨i23, hi23⟩ := hW.o9 hk_this
        replace hr := nnS hr
        obtain ⟨a98, hn98, hr⟩ := hr
        have hk_a98 : kd a98 = 100 := hT.1 181 _ _ hn98
        refine va_get (D := (dC, dI)) (ci := 9) (v := .ref (ad a98)) (C := RX9) (T := TX9) (N := 8) hx hb hts inX9 hown hK hP i23 hi23 rfl 1 (by decide) (hts (.fieldLink RX9 18 "SpellTurner$Turner" "now" "[B") ic_280) (fun _ h9 => h9) (congrArg (fun o => some (va_re ad o)) hn98) dX9_turnWord_98 ?_
        refine lv_iconst (v := 0) hx hb dX9_turnWord_101 (by decide +kernel) ?_
        refine lv_aload_n hx hb dX9_turnWord_102 rfl (lv_at hl 3 rfl) ?_
        obtain ⟨i24, hi24⟩ := hW.o9 hk_this
        refine va_get (D := (dC, dI)) (ci := 9) (v := .int (c89_G183 this)) (C := RX9) (T := TX9) (N := 8) hx hb hts inX9 hown hK hP i24 hi24 rfl 3 (by decide) (hts (.fieldLink RX9 25 "SpellTurner$Turner" "length" "I") ic_282) (fun _ h9 => h9) rfl dX9_turnWord_103 ?_
        replace hr := b3S hr
        obtain ⟨c106_G203, c106_V0, c106_V1, hc106, hr⟩ := hr
        have hFc := fr_all hD hS hA
        obtain ⟨i25, hi25⟩ := hW.o10 hk_p3
        refine va_callv (va_runV (As := [.ref (ad a98), .int 0, .int (c89_G183 this)]) (rest := []) ⟨hx, hb, hml, hown, hts⟩ (m_X10_addForm l dC dI kk ad H.size w21 (va_up (va_up G 60 c66_G60) 183 c89_G183) (va_up (va_up (va_up P 66 c66_P66) 181 c89_P181) 182 c89_P182) (va_up U 184 c89_U184) (va_up (va_up (va_up (va_up V 0 c66_V0) 2 c66_V2) 12 c66_V12) 0 c89_V0) X O kd ln cnt p3 a98 0 (c89_G183 this) hk_p3 hk_a98 hW hT c106_G203 c106_V0 c106_V1 hc106) (cwV 3 hts gc_RX9_X10_addForm_85 rfl rfl rfl (by decide +kernel) ⟨Nat.le_of_ble_eq_true rfl, Nat.le_of_ble_eq_true rfl⟩) ⟨fun a U g mk q => by obtain ⟨q0, q1, qP, qK, qD⟩ := q; exact ⟨q0, q1, qP, va_K.moved (u := U) (U := U.calling g mk a) (Vm.Alike.refl U.vm) qK, qD⟩, va_recv hK hP (ci := 10) (q0 := i25) rfl hi25, fun U hU hW => ⟨rfl, by rw [hU], by rw [hU]; exact hP, va_K.moved hW.alike hK, hD.weaken (fun _ _ _ _ => trivial)⟩⟩ rfl rfl hl.1 rfl (lv_room (Nat.le_of_ble_eq_true rfl)) dX9_turnWord_106 ⟨Nat.le_of_ble_eq_true rfl, Nat.le_of_ble_eq_true rfl⟩) hS (fun q _ h => hFc q h) hFc (fun w26 t H1 locs ht hvm hw hB hz1 hk1 hS => ?_)
        obtain ⟨hW, hT⟩ := hw
        obtain ⟨hP1, hK1, hD1⟩ := hB
        rw [ht] at hP1
        obtain ⟨hP, hD⟩ := jn_all (w1 := w26) hFc hP1 hD1
        replace hP : va_P (dC, dI) vwCl w26 H1 := hP
        replace hD : va_D A w26 := hD
        clear hFc hP1 hK1 hD1 hk1 hz1 ht hvm
        generalize H1 = H at hP hS ⊢
        have eV : (va_up (va_up (va_up (va_up (va_up (va_up V 0 c66_V0) 2 c66_V2) 12 c66_V12) 0 c89_V0) 0 c106_V0) 1 c106_V1) = (va_up (va_up (va_up (va_up V 0 c106_V0) 1 c106_V1) 2 c66_V2) 12 c66_V12) := by
          funext k
          by_cases h0 : k = 0
          · subst h0; rfl
          by_cases h1 : k = 1
          · subst h1; rfl
          by_cases h2 : k = 2
          · subst h2; rfl
          by_cases h12 : k = 12
          · subst h12; rfl
          · simp only [va_up, h0, h1, h2, h12, if_false]
        rw [eV] at hW
        clear eV
        exact Jj109 c106_G203 c106_V0 c106_V1 w26 H _ ls hr hW hT hP hD hS (lv_sub hl [3] rfl)
  · replace hr := iteF c36 hr
    refine lv_aload_n hx hb dX9_turnWord_39 rfl (lv_at hl 3 rfl) ?_
    refine lv_aload_n hx hb dX9_turnWord_40 rfl (lv_at hl 4 rfl) ?_
    refine lv_iload hx hb dX9_turnWord_41 (lv_at hl 0 rfl) ?_
    refine lv_aload hx hb dX9_turnWord_43 (lv_at hl 7 rfl) ?_
    replace hr := b3S hr
    obtain ⟨c45_G203, c45_V0, c45_V1, hc45, hr⟩ := hr
    have hFc := fr_all hD hS hA
    obtain ⟨i27, hi27⟩ := hW.o9 hk_this
    refine va_callv (va_runV (As := [.ref (ad p0), .int r28, .ref (ad p3)]) (rest := []) ⟨hx, hb, hml, hown, hts⟩ (m_X9_addEntry l dC dI kk ad H.size w7 G P U V X O kd ln cnt this p0 r28 p3 hk_this hk_p0 hk_p3 hW hT c45_G203 c45_V0 c45_V1 hc45) (cwV 3 hts gc_RX9_X9_addEntry_109 rfl rfl rfl (by decide +kernel) ⟨Nat.le_of_ble_eq_true rfl, Nat.le_of_ble_eq_true rfl⟩) ⟨fun a U g mk q => by obtain ⟨q0, q1, qP, qK, qD⟩ := q; exact ⟨q0, q1, qP, va_K.moved (u := U) (U := U.calling g mk a) (Vm.Alike.refl U.vm) qK, qD⟩, va_recv hK hP (ci := 9) (q0 := i27) rfl hi27, fun U hU hW => ⟨rfl, by rw [hU], by rw [hU]; exact hP, va_K.moved hW.alike hK, hD.weaken (fun _ _ _ _ => trivial)⟩⟩ rfl rfl hl.1 rfl (lv_room (Nat.le_of_ble_eq_true rfl)) dX9_turnWord_45 ⟨Nat.le_of_ble_eq_true rfl, Nat.le_of_ble_eq_true rfl⟩) hS (fun q _ h => hFc q h) hFc (fun w28 t H1 locs ht hvm hw hB hz1 hk1 hS => ?_)
    obtain ⟨hW, hT⟩ := hw
    obtain ⟨hP1, hK1, hD1⟩ := hB
    rw [ht] at hP1
    obtain ⟨hP, hD⟩ := jn_all (w1 := w28) hFc hP1 hD1
    replace hP : va_P (dC, dI) vwCl w28 H1 := hP
    replace hD : va_D A w28 := hD
    clear hFc hP1 hK1 hD1 hk1 hz1 ht hvm
    generalize H1 = H at hP hS ⊢
    refine lv_lconst (v := 0) hx hb dX9_turnWord_48 (by decide +kernel) ?_
    have eG : (va_up G 203 c45_G203) = (va_up (va_up (va_up G 60 (G 60)) 183 (G 183)) 203 c45_G203) := by
      funext k
      by_cases h60 : k = 60
      · subst h60; rfl
      by_cases h183 : k = 183
      · subst h183; rfl
      by_cases h203 : k = 203
      · subst h203; rfl
      · simp only [va_up, h60, h183, h203, if_false]
    rw [eG] at hW
    clear eG
    have eP : P = (va_up (va_up (va_up P 66 (P 66)) 181 (P 181)) 182 (P 182)) := by
      funext k
      by_cases h66 : k = 66
      · subst h66; rfl
      by_cases h181 : k = 181
      · subst h181; rfl
      by_cases h182 : k = 182
      · subst h182; rfl
      · simp only [va_up, h66, h181, h182, if_false]
    rw [eP] at hW
    rw [eP] at hT
    clear eP
    have eU : U = (va_up U 184 (U 184)) := by
      funext k
      by_cases h184 : k = 184
      · subst h184; rfl
      · simp only [va_up, h184, if_false]
    rw [eU] at hW
    clear eU
    have eV : (va_up (va_up V 0 c45_V0) 1 c45_V1) = (va_up (va_up (va_up (va_up V 0 c45_V0) 1 c45_V1) 2 (V 2)) 12 (V 12)) := by
      funext k
      by_cases h0 : k = 0
      · subst h0; rfl
      by_cases h1 : k = 1
      · subst h1; rfl
      by_cases h2 : k = 2
      · subst h2; rfl
      by_cases h12 : k = 12
      · subst h12; rfl
      · simp only [va_up, h0, h1, h2, h12, if_false]
    rw [eV] at hW
    clear eV
    exact K 49 ls _ _ _ _ _ _ _ _ _ _ _ _ w28 H _ hr dX9_turnWord_49 hW hT hP hD hS
set_option maxHeartbeats 4000000 in
set_option maxRecDepth 100000 in
theorem m_X9_turnWord (l : Launch) (dC : Nat → ClassId) (dI : Nat → Nat → Nat) (kk : Nat → ClassId) (ad : Nat → Nat) (sz : Nat) (ws : va_W) (G : Nat → Nat → Int32) (P : Nat → Nat → Option Nat) (U : Nat → Nat → Int64) (V : Nat → Nat → Nat → Int32) (X : Nat → Nat → Nat → Int64) (O : Nat → Nat → Nat → Option Nat) (kd : Nat → Nat) (ln : Nat → Nat) (cnt : Nat) (this : Nat) (p0 : Nat) (p1 : Nat) (p2 : Int32) (p3 : Nat) (hk_this : kd this = 10) (hk_p0 : kd p0 = 6) (hk_p1 : kd p1 = 11) (hk_p3 : kd p3 = 11) (hW : LW ws ad kk kd ln G P U V X O) (hT : TYP kd P O (V 0) cnt) (r : Int64) (c_G60 : Nat → Int32) (c_G183 : Nat → Int32) (c_G203 : Nat → Int32) (c_P66 : Nat → Option Nat) (c_P181 : Nat → Option Nat) (c_P182 : Nat → Option Nat) (c_U184 : Nat → Int64) (c_V0 : Nat → Nat → Int32) (c_V1 : Nat → Nat → Int32) (c_V2 : Nat → Nat → Int32) (c_V12 : Nat → Nat → Int32) (hr : f_X9_turnWord G P U V X O kd ln cnt this p0 p1 p2 p3 = some (r, c_G60, c_G183, c_G203, c_P66, c_P181, c_P182, c_U184, c_V0, c_V1, c_V2, c_V12)) : Met l yX9_turnWord vmX9_turnWord ({ frames := 46, cells := 0, slots := 0, locals := 1191 } : Room) (va_Pc [.ref (ad this), .ref (ad p0), .ref (ad p1), .int p2, .ref (ad p3)] (fun U => U.heap.size = sz ∧ va_P (dC, dI) vwCl ws U.heap ∧ va_K (dC, dI) vwCl (cT kk) U ∧ va_D (fun _ => True) ws)) (va_Ql (fun (rz : Int64) (w : va_W) => rz = r ∧ LW w ad kk kd ln (va_up (va_up (va_up G 60 c_G60) 183 c_G183) 203 c_G203) (va_up (va_up (va_up P 66 c_P66) 181 c_P181) 182 c_P182) (va_up U 184 c_U184) (va_up (va_up (va_up (va_up V 0 c_V0) 1 c_V1) 2 c_V2) 12 c_V12) X O ∧ TYP kd (va_up (va_up (va_up P 66 c_P66) 181 c_P181) 182 c_P182) O c_V0 cnt) (fun w t => va_P (dC, dI) vwCl w t.heap ∧ va_K (dC, dI) vwCl (cT kk) t ∧ va_D (va_A ws sz) w) (va_A ws sz)) 0 0 (va_A ws sz) := by
  refine Met.ofW (cc := cX9_turnWord) (maxL := 11) (ret := (some .long)) (by decide) rfl ?_
  intro p e s m args below meth c s₁ B hml hv
  obtain ⟨rfl, hsz, hP, hK, hD0⟩ := hv
  have hx := B.exec
  have hb := B.bytes
  have hrt := B.returns
  have hts := atoms_spec (ws := vmX9_turnWord) B.pre
  have hown : s.vm.findClass RX9 = some m.cls := findClass_of_methodNamed B.named
  subst hsz
  have hD := hD0.self (sz := s.heap.size)
  generalize hAe : va_A ws s.heap.size = A at hD ⊢
  have hA : ∀ q : Nat, s.heap.size ≤ q → A q := fun q h => by rw [← hAe]; exact Or.inr h
  have hS : va_S A s.heap s.heap [] := va_S.rf
  have hl := lv_entry ([.ref (ad this), .ref (ad p0), .ref (ad p1), .int p2, .ref (ad p3)]) (n := 11) (Nat.le_of_ble_eq_true rfl)
  rw [lg_entry_eq]
  generalize (lg_sl ([.ref (ad this), .ref (ad p0), .ref (ad p1), .int p2, .ref (ad p3)]) ++ List.replicate (11 - (lg_sl ([.ref (ad this), .ref (ad p0), .ref (ad p1), .int p2, .ref (ad p3)])).length) Slot.unset).toArray = ls at hl ⊢
  exact bm_X9_turnWord this p0 p1 p2 p3 hk_this hk_p0 hk_p1 hk_p3 r c_G60 c_G183 c_G203 c_P66 c_P181 c_P182 c_U184 c_V0 c_V1 c_V2 c_V12 hr hx hb hml hown hts hA hK hW hT hP hD hS hl (fun pc ls rz c_G60z c_G183z c_G203z c_P66z c_P181z c_P182z c_U184z c_V0z c_V1z c_V2z c_V12z ws H locs he hd hW hT hP hD hS => by cases he; exact W.lret (v := r) hx hb hrt (fun t ht hW9 => ⟨⟨r, ws, rfl, ⟨rfl, hW, hT⟩, by rw [ht]; exact hP, va_K.moved hW9.alike hK, hD⟩, hS.F ht⟩) hS.2.2 hd)
set_option maxHeartbeats 4000000 in
set_option maxRecDepth 100000 in
theorem bm_X9_turnForms {p : Program} {l : Launch} {e : Env} {s : State} {m : MethodId} {args : Array Value} {below : List Frame} {meth : Method} {c : Code} {Q : State → Prop} {A : Nat → Prop} {dC : Nat → ClassId} {dI : Nat → Nat → Nat} {kk : Nat → ClassId} {ad : Nat → Nat} {ws : va_W} {G : Nat → Nat → Int32} {P : Nat → Nat → Option Nat} {U : Nat → Nat → Int64} {V : Nat → Nat → Nat → Int32} {X : Nat → Nat → Nat → Int64} {O : Nat → Nat → Nat → Option Nat} {kd : Nat → Nat} {ln : Nat → Nat} {cnt : Nat} {H : Heap} {locs : List Loc} {ls : Array Slot} (this : Nat) (p0 : Option Nat) (p1 : Nat) (p2 : Nat) (hk_this : kd this = 10) (hk_p0 : ∀ b, p0 = some b → kd b = 6) (hk_p1 : kd p1 = 11) (hk_p2 : kd p2 = 11) (r : Int64) (c_G60 : Nat → Int32) (c_G183 : Nat → Int32) (c_G203 : Nat → Int32) (c_P66 : Nat → Option Nat) (c_P181 : Nat → Option Nat) (c_P182 : Nat → Option Nat) (c_U184 : Nat → Int64) (c_V0 : Nat → Nat → Int32) (c_V1 : Nat → Nat → Int32) (c_V2 : Nat → Nat → Int32) (c_V12 : Nat → Nat → Int32) (hr : f_X9_turnForms G P U V X O kd ln cnt this p0 p1 p2 = some (r, c_G60, c_G183, c_G203, c_P66, c_P181, c_P182, c_U184, c_V0, c_V1, c_V2, c_V12)) (hx : p.tables.exec = Jvm.exec) (hb : c.code = cX9_turnForms) (hml : c.maxLocals = 7) (hown : s.vm.findClass RX9 = some m.cls) (hts : ∀ w ∈ vmX9_turnForms, w.before args s = true) (hA : ∀ q : Nat, s.heap.size ≤ q → A q) (hK : va_K (dC, dI) vwCl (cT kk) s) (hW : LW ws ad kk kd ln G P U V X O) (hT : TYP kd P O (V 0) cnt) (hP : va_P (dC, dI) vwCl ws H) (hD : va_D A ws) (hS : va_S A s.heap H locs) (hl : lv_has ls 7 [(0, .ref (ad this)), (1, va_re ad p0), (2, .ref (ad p1)), (3, .ref (ad p2))])
    (K : ∀ (pc : Nat) (ls : Array Slot) (rz : Int64) (c_G60z : Nat → Int32) (c_G183z : Nat → Int32) (c_G203z : Nat → Int32) (c_P66z : Nat → Option Nat) (c_P181z : Nat → Option Nat) (c_P182z : Nat → Option Nat) (c_U184z : Nat → Int64) (c_V0z : Nat → Nat → Int32) (c_V1z : Nat → Nat → Int32) (c_V2z : Nat → Nat → Int32) (c_V12z : Nat → Nat → Int32) (ws : va_W) (H : Heap) (locs : List Loc), some (rz, c_G60z, c_G183z, c_G203z, c_P66z, c_P181z, c_P182z, c_U184z, c_V0z, c_V1z, c_V2z, c_V12z) = some (r, c_G60, c_G183, c_G203, c_P66, c_P181, c_P182, c_U184, c_V0, c_V1, c_V2, c_V12) → decode cX9_turnForms pc = .ok (.lreturn, 1) → LW ws ad kk kd ln (va_up (va_up (va_up G 60 c_G60z) 183 c_G183z) 203 c_G203z) (va_up (va_up (va_up P 66 c_P66z) 181 c_P181z) 182 c_P182z) (va_up U 184 c_U184z) (va_up (va_up (va_up (va_up V 0 c_V0z) 1 c_V1z) 2 c_V2z) 12 c_V12z) X O → TYP kd (va_up (va_up (va_up P 66 c_P66z) 181 c_P181z) 182 c_P182z) O c_V0z cnt → va_P (dC, dI) vwCl ws H → va_D A ws → va_S A s.heap H locs → W p l e ({ frames := 47, cells := 0, slots := 0, locals := 1221 } : Room) s m args below meth c H locs 0 0 Q (F0 m pc ls [.long rz])) : W p l e ({ frames := 47, cells := 0, slots := 0, locals := 1221 } : Room) s m args below meth c H locs 0 0 Q (F0 m 0 ls []) := by
  unfold f_X9_turnForms at hr
  refine lv_lconst (v := 0) hx hb dX9_turnForms_0 (by decide +kernel) ?_
  refine lv_lstore (lv' := [(4, .long 0), (0, .ref (ad this)), (1, va_re ad p0), (2, .ref (ad p1)), (3, .ref (ad p2))]) hx hb dX9_turnForms_1 hl (by decide) rfl (fun ls hl => ?_)
  refine lv_iconst (v := 0) hx hb dX9_turnForms_3 (by decide +kernel) ?_
  refine lv_istore (lv' := [(6, .int 0), (4, .long 0), (0, .ref (ad this)), (1, va_re ad p0), (2, .ref (ad p1)), (3, .ref (ad p2))]) hx hb dX9_turnForms_4 hl (by decide) rfl (fun ls hl => ?_)
  replace hr := jnS hr
  obtain ⟨k39, hk39, hr⟩ := hr
  have Jk39 : ∀ (x39_4 : Int64) (c39_G60 : Nat → Int32) (c39_G183 : Nat → Int32) (c39_G203 : Nat → Int32) (c39_P66 : Nat → Option Nat) (c39_P181 : Nat → Option Nat) (c39_P182 : Nat → Option Nat) (c39_U184 : Nat → Int64) (c39_V0 : Nat → Nat → Int32) (c39_V1 : Nat → Nat → Int32) (c39_V2 : Nat → Nat → Int32) (c39_V12 : Nat → Nat → Int32) (ws : va_W) (H : Heap) (locs : List Loc) (ls : Array Slot), k39 x39_4 c39_G60 c39_G183 c39_G203 c39_P66 c39_P181 c39_P182 c39_U184 c39_V0 c39_V1 c39_V2 c39_V12 = some (r, c_G60, c_G183, c_G203, c_P66, c_P181, c_P182, c_U184, c_V0, c_V1, c_V2, c_V12) → LW ws ad kk kd ln (va_up (va_up (va_up G 60 c39_G60) 183 c39_G183) 203 c39_G203) (va_up (va_up (va_up P 66 c39_P66) 181 c39_P181) 182 c39_P182) (va_up U 184 c39_U184) (va_up (va_up (va_up (va_up V 0 c39_V0) 1 c39_V1) 2 c39_V2) 12 c39_V12) X O → TYP kd (va_up (va_up (va_up P 66 c39_P66) 181 c39_P181) 182 c39_P182) O c39_V0 cnt → va_P (dC, dI) vwCl ws H → va_D A ws → va_S A s.heap H locs → lv_has ls 7 [(4, .long x39_4)] → W p l e ({ frames := 47, cells := 0, slots := 0, locals := 1221 } : Room) s m args below meth c H locs 0 0 Q (F0 m 39 ls []) := by
    intro x39_4 c39_G60 c39_G183 c39_G203 c39_P66 c39_P181 c39_P182 c39_U184 c39_V0 c39_V1 c39_V2 c39_V12 ws H locs ls hr hW hT hP hD hS hl
    rw [hk39] at hr
    refine lv_lload hx hb dX9_turnForms_39 (lv_at hl 0 rfl) ?_
    exact K 41 ls _ _ _ _ _ _ _ _ _ _ _ _ ws H _ hr dX9_turnForms_41 hW hT hP hD hS
  have lp6 : ∀ (n6 : Nat), ∀ (y6_4 : Int64) (y6_6 : Int32) (d6_G60 : Nat → Int32) (d6_G183 : Nat → Int32) (d6_G203 : Nat → Int32) (d6_P66 : Nat → Option Nat) (d6_P181 : Nat → Option Nat) (d6_P182 : Nat → Option Nat) (d6_U184 : Nat → Int64) (d6_V0 : Nat → Nat → Int32) (d6_V1 : Nat → Nat → Int32) (d6_V2 : Nat → Nat → Int32) (d6_V12 : Nat → Nat → Int32) (ws : va_W) (H : Heap) (locs : List Loc) (ls : Array Slot), L_X9_turnForms_6 G P U V X O kd ln cnt this p0 p1 p2 k39 n6 y6_4 y6_6 d6_G60 d6_G183 d6_G203 d6_P66 d6_P181 d6_P182 d6_U184 d6_V0 d6_V1 d6_V2 d6_V12 = some (r, c_G60, c_G183, c_G203, c_P66, c_P181, c_P182, c_U184, c_V0, c_V1, c_V2, c_V12) → LW ws ad kk kd ln (va_up (va_up (va_up G 60 d6_G60) 183 d6_G183) 203 d6_G203) (va_up (va_up (va_up P 66 d6_P66) 181 d6_P181) 182 d6_P182) (va_up U 184 d6_U184) (va_up (va_up (va_up (va_up V 0 d6_V0) 1 d6_V1) 2 d6_V2) 12 d6_V12) X O → TYP kd (va_up (va_up (va_up P 66 d6_P66) 181 d6_P181) 182 d6_P182) O d6_V0 cnt → va_P (dC, dI) vwCl ws H → va_D A ws → va_S A s.heap H locs → lv_has ls 7 [(0, .ref (ad this)), (1, va_re ad p0), (2, .ref (ad p1)), (3, .ref (ad p2)), (4, .long y6_4), (6, .int y6_6)] → W p l e ({ frames := 47, cells := 0, slots := 0, locals := 1221 } : Room) s m args below meth c H locs 0 0 Q (F0 m 6 ls []) := by
    intro n6
    induction n6 with
    | zero => intro y6_4 y6_6 d6_G60 d6_G183 d6_G203 d6_P66 d6_P181 d6_P182 d6_U184 d6_V0 d6_V1 d6_V2 d6_V12 ws H locs ls hr hW hT hP hD hS hl; exact nomatch (show none = some (r, c_G60, c_G183, c_G203, c_P66, c_P181, c_P182, c_U184, c_V0, c_V1, c_V2, c_V12) from hr)
    | succ n6 ih6 =>
      intro y6_4 y6_6 d6_G60 d6_G183 d6_G203 d6_P66 d6_P181 d6_P182 d6_U184 d6_V0 d6_V1 d6_V2 d6_V12 ws H locs ls hr hW hT hP hD hS hl
      replace hr : B_X9_turnForms_6 G P U V X O kd ln cnt this p0 p1 p2 k39 (L_X9_turnForms_6 G P U V X O kd ln cnt this p0 p1 p2 k39 n6) y6_4 y6_6 d6_G60 d6_G183 d6_G203 d6_P66 d6_P181 d6_P182 d6_U184 d6_V0 d6_V1 d6_V2 d6_V12 = some (r, c_G60, c_G183, c_G203, c_P66, c_P181, c_P182, c_U184, c_V0, c_V1, c_V2, c_V12) := hr
      unfold B_X9_turnForms_6 at hr
      refine lq_aload_n hx hb dX9_turnForms_6 rfl (lv_at hl 1 rfl) ?_
      refine lq_ifnull (tgt := 39) hx hb dX9_turnForms_7 (by decide) (fun c7 => ?_) (fun b7 c7 => ?_)
      · subst c7
        replace hr := ocN hr
        replace hl : lv_has ls 7 [(0, .ref (ad this)), (1, .null), (2, .ref (ad p1)), (3, .ref (ad p2)), (4, .long y6_4), (6, .int y6_6)] := hl
        exact Jk39 y6_4 d6_G60 d6_G183 d6_G203 d6_P66 d6_P181 d6_P182 d6_U184 d6_V0 d6_V1 d6_V2 d6_V12 ws H _ ls hr hW hT hP hD hS (lv_sub hl [4] rfl)
      · subst c7
        replace hr := ocS hr
        replace hl : lv_has ls 7 [(0, .ref (ad this)), (1, .ref (ad b7)), (2, .ref (ad p1)), (3, .ref (ad p2)), (4, .long y6_4), (6, .int y6_6)] := hl
        have hk_b7 := hk_p0 b7 rfl
        refine lv_iload hx hb dX9_turnForms_10 (lv_at hl 5 rfl) ?_
        refine lv_aload_n hx hb dX9_turnForms_12 rfl (lv_at hl 2 rfl) ?_
        obtain ⟨i1, hi1⟩ := hW.o10 hk_p1
        refine va_get (D := (dC, dI)) (ci := 10) (v := .int (d6_G203 p1)) (C := RX10) (T := TX10) (N := 4) hx hb hts inX10 hown hK hP i1 hi1 rfl 3 (by decide) (hts (.fieldLink RX9 53 "SpellTurner$WordRow" "count" "I") ic_270) (fun _ h9 => h9) rfl dX9_turnForms_13 ?_
        refine lv_icmp_ge (tgt := 39) hx hb dX9_turnForms_16 (by decide) (fun c16 => ?_) (fun c16 => ?_)
        · replace hr := iteT c16 hr
          exact Jk39 y6_4 d6_G60 d6_G183 d6_G203 d6_P66 d6_P181 d6_P182 d6_U184 d6_V0 d6_V1 d6_V2 d6_V12 ws H _ ls hr hW hT hP hD hS (lv_sub hl [4] rfl)
        · replace hr := iteF c16 hr
          refine lv_lload hx hb dX9_turnForms_19 (lv_at hl 4 rfl) ?_
          refine lv_aload_n hx hb dX9_turnForms_21 rfl (lv_at hl 0 rfl) ?_
          refine lv_aload_n hx hb dX9_turnForms_22 rfl (lv_at hl 1 rfl) ?_
          refine lv_aload_n hx hb dX9_turnForms_23 rfl (lv_at hl 2 rfl) ?_
          refine lv_iload hx hb dX9_turnForms_24 (lv_at hl 5 rfl) ?_
          refine lv_aload_n hx hb dX9_turnForms_26 rfl (lv_at hl 3 rfl) ?_
          replace hr := b12S hr
          obtain ⟨r27z, c27_G60, c27_G183, c27_G203, c27_P66, c27_P181, c27_P182, c27_U184, c27_V0, c27_V1, c27_V2, c27_V12, hc27, hr⟩ := hr
          have hFc := fr_all hD hS hA
          obtain ⟨i2, hi2⟩ := hW.o9 hk_this
          refine va_calll (va_runV (As := [.ref (ad b7), .ref (ad p1), .int y6_6, .ref (ad p2)]) (rest := [.long y6_4]) ⟨hx, hb, hml, hown, hts⟩ (m_X9_turnWord l dC dI kk ad H.size ws (va_up (va_up (va_up G 60 d6_G60) 183 d6_G183) 203 d6_G203) (va_up (va_up (va_up P 66 d6_P66) 181 d6_P181) 182 d6_P182) (va_up U 184 d6_U184) (va_up (va_up (va_up (va_up V 0 d6_V0) 1 d6_V1) 2 d6_V2) 12 d6_V12) X O kd ln cnt this b7 p1 y6_6 p2 hk_this hk_b7 hk_p1 hk_p2 hW hT r27z c27_G60 c27_G183 c27_G203 c27_P66 c27_P181 c27_P182 c27_U184 c27_V0 c27_V1 c27_V2 c27_V12 hc27) (cwV 4 hts gc_RX9_X9_turnWord_98 rfl rfl rfl (by decide +kernel) ⟨Nat.le_of_ble_eq_true rfl, Nat.le_of_ble_eq_true rfl⟩) ⟨fun a U g mk q => by obtain ⟨q0, q1, qP, qK, qD⟩ := q; exact ⟨q0, q1, qP, va_K.moved (u := U) (U := U.calling g mk a) (Vm.Alike.refl U.vm) qK, qD⟩, va_recv hK hP (ci := 9) (q0 := i2) rfl hi2, fun U hU hW => ⟨rfl, by rw [hU], by rw [hU]; exact hP, va_K.moved hW.alike hK, hD.weaken (fun _ _ _ _ => trivial)⟩⟩ rfl rfl hl.1 rfl (lv_room (Nat.le_of_ble_eq_true rfl)) dX9_turnForms_27 ⟨Nat.le_of_ble_eq_true rfl, Nat.le_of_ble_eq_true rfl⟩) hS (fun q _ h => hFc q h) hFc (fun r27 w3 t H1 locs ht hvm hw hB hz1 hk1 hS => ?_)
          obtain ⟨hw0, hW, hT⟩ := hw
          replace hw0 : r27 = r27z := hw0
          subst hw0
          obtain ⟨hP1, hK1, hD1⟩ := hB
          rw [ht] at hP1
          obtain ⟨hP, hD⟩ := jn_all (w1 := w3) hFc hP1 hD1
          replace hP : va_P (dC, dI) vwCl w3 H1 := hP
          replace hD : va_D A w3 := hD
          clear hFc hP1 hK1 hD1 hk1 hz1 ht hvm
          generalize H1 = H at hP hS ⊢
          refine lv_lor hx hb dX9_turnForms_30 ?_
          refine lv_topl (fun x31 ex31 => ?_)
          replace hr := vlS hr x31 ex31
          clear ex31
          refine lv_lstore (lv' := [(4, .long x31), (0, .ref (ad this)), (1, .ref (ad b7)), (2, .ref (ad p1)), (3, .ref (ad p2)), (6, .int y6_6)]) hx hb dX9_turnForms_31 hl (by decide) rfl (fun ls hl => ?_)
          refine lv_iinc (v := (y6_6 + 1)) (lv' := [(6, .int (y6_6 + 1)), (4, .long x31), (0, .ref (ad this)), (1, .ref (ad b7)), (2, .ref (ad p1)), (3, .ref (ad p2))]) hx hb dX9_turnForms_33 hl (k := 5) rfl rfl (by decide) rfl (fun ls hl => ?_)
          refine lv_goto (tgt := 6) hx hb dX9_turnForms_36 (by decide) ?_
          have eG : (va_up (va_up (va_up (va_up (va_up (va_up G 60 d6_G60) 183 d6_G183) 203 d6_G203) 60 c27_G60) 183 c27_G183) 203 c27_G203) = (va_up (va_up (va_up G 60 c27_G60) 183 c27_G183) 203 c27_G203) := by
            funext k
            by_cases h60 : k = 60
            · subst h60; rfl
            by_cases h183 : k = 183
            · subst h183; rfl
            by_cases h203 : k = 203
            · subst h203; rfl
            · simp only [va_up, h60, h183, h203, if_false]
          rw [eG] at hW
          clear eG
          have eP : (va_up (va_up (va_up (va_up (va_up (va_up P 66 d6_P66) 181 d6_P181) 182 d6_P182) 66 c27_P66) 181 c27_P181) 182 c27_P182) = (va_up (va_up (va_up P 66 c27_P66) 181 c27_P181) 182 c27_P182) := by
            funext k
            by_cases h66 : k = 66
            · subst h66; rfl
            by_cases h181 : k = 181
            · subst h181; rfl
            by_cases h182 : k = 182
            · subst h182; rfl
            · simp only [va_up, h66, h181, h182, if_false]
          rw [eP] at hW
          rw [eP] at hT
          clear eP
          have eU : (va_up (va_up U 184 d6_U184) 184 c27_U184) = (va_up U 184 c27_U184) := by
            funext k
            by_cases h184 : k = 184
            · subst h184; rfl
            · simp only [va_up, h184, if_false]
          rw [eU] at hW
          clear eU
          have eV : (va_up (va_up (va_up (va_up (va_up (va_up (va_up (va_up V 0 d6_V0) 1 d6_V1) 2 d6_V2) 12 d6_V12) 0 c27_V0) 1 c27_V1) 2 c27_V2) 12 c27_V12) = (va_up (va_up (va_up (va_up V 0 c27_V0) 1 c27_V1) 2 c27_V2) 12 c27_V12) := by
            funext k
            by_cases h0 : k = 0
            · subst h0; rfl
            by_cases h1 : k = 1
            · subst h1; rfl
            by_cases h2 : k = 2
            · subst h2; rfl
            by_cases h12 : k = 12
            · subst h12; rfl
            · simp only [va_up, h0, h1, h2, h12, if_false]
          rw [eV] at hW
          clear eV
          exact ih6 x31 (y6_6 + 1) c27_G60 c27_G183 c27_G203 c27_P66 c27_P181 c27_P182 c27_U184 c27_V0 c27_V1 c27_V2 c27_V12 w3 H _ ls hr hW hT hP hD hS (lv_sub hl [2, 3, 4, 5, 1, 0] rfl)
  have eG : G = (va_up (va_up (va_up G 60 (G 60)) 183 (G 183)) 203 (G 203)) := by
    funext k
    by_cases h60 : k = 60
    · subst h60; rfl
    by_cases h183 : k = 183
    · subst h183; rfl
    by_cases h203 : k = 203
    · subst h203; rfl
    · simp only [va_up, h60, h183, h203, if_false]
  rw [eG] at hW
  clear eG
  have eP : P = (va_up (va_up (va_up P 66 (P 66)) 181 (P 181)) 182 (P 182)) := by
    funext k
    by_cases h66 : k = 66
    · subst h66; rfl
    by_cases h181 : k = 181
    · subst h181; rfl
    by_cases h182 : k = 182
    · subst h182; rfl
    · simp only [va_up, h66, h181, h182, if_false]
  rw [eP] at hW
  rw [eP] at hT
  clear eP
  have eU : U = (va_up U 184 (U 184)) := by
    funext k
    by_cases h184 : k = 184
    · subst h184; rfl
    · simp only [va_up, h184, if_false]
  rw [eU] at hW
  clear eU
  have eV : V = (va_up (va_up (va_up (va_up V 0 (V 0)) 1 (V 1)) 2 (V 2)) 12 (V 12)) := by
    funext k
    by_cases h0 : k = 0
    · subst h0; rfl
    by_cases h1 : k = 1
    · subst h1; rfl
    by_cases h2 : k = 2
    · subst h2; rfl
    by_cases h12 : k = 12
    · subst h12; rfl
    · simp only [va_up, h0, h1, h2, h12, if_false]
  rw [eV] at hW
  clear eV
  exact lp6 NN 0 0 (G 60) (G 183) (G 203) (P 66) (P 181) (P 182) (U 184) (V 0) (V 1) (V 2) (V 12) ws H _ ls hr hW hT hP hD hS (lv_sub hl [2, 3, 4, 5, 1, 0] rfl)
set_option maxHeartbeats 4000000 in
set_option maxRecDepth 100000 in
theorem m_X9_turnForms (l : Launch) (dC : Nat → ClassId) (dI : Nat → Nat → Nat) (kk : Nat → ClassId) (ad : Nat → Nat) (sz : Nat) (ws : va_W) (G : Nat → Nat → Int32) (P : Nat → Nat → Option Nat) (U : Nat → Nat → Int64) (V : Nat → Nat → Nat → Int32) (X : Nat → Nat → Nat → Int64) (O : Nat → Nat → Nat → Option Nat) (kd : Nat → Nat) (ln : Nat → Nat) (cnt : Nat) (this : Nat) (p0 : Option Nat) (p1 : Nat) (p2 : Nat) (hk_this : kd this = 10) (hk_p0 : ∀ b, p0 = some b → kd b = 6) (hk_p1 : kd p1 = 11) (hk_p2 : kd p2 = 11) (hW : LW ws ad kk kd ln G P U V X O) (hT : TYP kd P O (V 0) cnt) (r : Int64) (c_G60 : Nat → Int32) (c_G183 : Nat → Int32) (c_G203 : Nat → Int32) (c_P66 : Nat → Option Nat) (c_P181 : Nat → Option Nat) (c_P182 : Nat → Option Nat) (c_U184 : Nat → Int64) (c_V0 : Nat → Nat → Int32) (c_V1 : Nat → Nat → Int32) (c_V2 : Nat → Nat → Int32) (c_V12 : Nat → Nat → Int32) (hr : f_X9_turnForms G P U V X O kd ln cnt this p0 p1 p2 = some (r, c_G60, c_G183, c_G203, c_P66, c_P181, c_P182, c_U184, c_V0, c_V1, c_V2, c_V12)) : Met l yX9_turnForms vmX9_turnForms ({ frames := 47, cells := 0, slots := 0, locals := 1221 } : Room) (va_Pc [.ref (ad this), va_re ad p0, .ref (ad p1), .ref (ad p2)] (fun U => U.heap.size = sz ∧ va_P (dC, dI) vwCl ws U.heap ∧ va_K (dC, dI) vwCl (cT kk) U ∧ va_D (fun _ => True) ws)) (va_Ql (fun (rz : Int64) (w : va_W) => rz = r ∧ LW w ad kk kd ln (va_up (va_up (va_up G 60 c_G60) 183 c_G183) 203 c_G203) (va_up (va_up (va_up P 66 c_P66) 181 c_P181) 182 c_P182) (va_up U 184 c_U184) (va_up (va_up (va_up (va_up V 0 c_V0) 1 c_V1) 2 c_V2) 12 c_V12) X O ∧ TYP kd (va_up (va_up (va_up P 66 c_P66) 181 c_P181) 182 c_P182) O c_V0 cnt) (fun w t => va_P (dC, dI) vwCl w t.heap ∧ va_K (dC, dI) vwCl (cT kk) t ∧ va_D (va_A ws sz) w) (va_A ws sz)) 0 0 (va_A ws sz) := by
  refine Met.ofW (cc := cX9_turnForms) (maxL := 7) (ret := (some .long)) (by decide) rfl ?_
  intro p e s m args below meth c s₁ B hml hv
  obtain ⟨rfl, hsz, hP, hK, hD0⟩ := hv
  have hx := B.exec
  have hb := B.bytes
  have hrt := B.returns
  have hts := atoms_spec (ws := vmX9_turnForms) B.pre
  have hown : s.vm.findClass RX9 = some m.cls := findClass_of_methodNamed B.named
  subst hsz
  have hD := hD0.self (sz := s.heap.size)
  generalize hAe : va_A ws s.heap.size = A at hD ⊢
  have hA : ∀ q : Nat, s.heap.size ≤ q → A q := fun q h => by rw [← hAe]; exact Or.inr h
  have hS : va_S A s.heap s.heap [] := va_S.rf
  cases p0 with
  | none =>
    have hl := lv_entry ([.ref (ad this), va_re ad none, .ref (ad p1), .ref (ad p2)]) (n := 7) (Nat.le_of_ble_eq_true rfl)
    rw [lg_entry_eq]
    generalize (lg_sl ([.ref (ad this), va_re ad none, .ref (ad p1), .ref (ad p2)]) ++ List.replicate (7 - (lg_sl ([.ref (ad this), va_re ad none, .ref (ad p1), .ref (ad p2)])).length) Slot.unset).toArray = ls at hl ⊢
    exact bm_X9_turnForms this none p1 p2 hk_this hk_p0 hk_p1 hk_p2 r c_G60 c_G183 c_G203 c_P66 c_P181 c_P182 c_U184 c_V0 c_V1 c_V2 c_V12 hr hx hb hml hown hts hA hK hW hT hP hD hS hl (fun pc ls rz c_G60z c_G183z c_G203z c_P66z c_P181z c_P182z c_U184z c_V0z c_V1z c_V2z c_V12z ws H locs he hd hW hT hP hD hS => by cases he; exact W.lret (v := r) hx hb hrt (fun t ht hW9 => ⟨⟨r, ws, rfl, ⟨rfl, hW, hT⟩, by rw [ht]; exact hP, va_K.moved hW9.alike hK, hD⟩, hS.F ht⟩) hS.2.2 hd)
  | some px =>
    have hl := lv_entry ([.ref (ad this), va_re ad (some px), .ref (ad p1), .ref (ad p2)]) (n := 7) (Nat.le_of_ble_eq_true rfl)
    rw [lg_entry_eq]
    generalize (lg_sl ([.ref (ad this), va_re ad (some px), .ref (ad p1), .ref (ad p2)]) ++ List.replicate (7 - (lg_sl ([.ref (ad this), va_re ad (some px), .ref (ad p1), .ref (ad p2)])).length) Slot.unset).toArray = ls at hl ⊢
    exact bm_X9_turnForms this (some px) p1 p2 hk_this hk_p0 hk_p1 hk_p2 r c_G60 c_G183 c_G203 c_P66 c_P181 c_P182 c_U184 c_V0 c_V1 c_V2 c_V12 hr hx hb hml hown hts hA hK hW hT hP hD hS hl (fun pc ls rz c_G60z c_G183z c_G203z c_P66z c_P181z c_P182z c_U184z c_V0z c_V1z c_V2z c_V12z ws H locs he hd hW hT hP hD hS => by cases he; exact W.lret (v := r) hx hb hrt (fun t ht hW9 => ⟨⟨r, ws, rfl, ⟨rfl, hW, hT⟩, by rw [ht]; exact hP, va_K.moved hW9.alike hK, hD⟩, hS.F ht⟩) hS.2.2 hd)
set_option maxHeartbeats 4000000 in
set_option maxRecDepth 100000 in
theorem bm_X9_through {p : Program} {l : Launch} {e : Env} {s : State} {m : MethodId} {args : Array Value} {below : List Frame} {meth : Method} {c : Code} {Q : State → Prop} {A : Nat → Prop} {dC : Nat → ClassId} {dI : Nat → Nat → Nat} {kk : Nat → ClassId} {ad : Nat → Nat} {ws : va_W} {G : Nat → Nat → Int32} {P : Nat → Nat → Option Nat} {U : Nat → Nat → Int64} {V : Nat → Nat → Nat → Int32} {X : Nat → Nat → Nat → Int64} {O : Nat → Nat → Nat → Option Nat} {kd : Nat → Nat} {ln : Nat → Nat} {cnt : Nat} {H : Heap} {locs : List Loc} {ls : Array Slot} (this : Nat) (p0 : Nat) (p1 : Int32) (p2 : Int32) (p3 : Nat) (p4 : Int32) (p5 : Int32) (hk_this : kd this = 10) (hk_p0 : kd p0 = 302) (hk_p3 : kd p3 = 100) (r : Nat) (c_G60 : Nat → Int32) (c_G183 : Nat → Int32) (c_G203 : Nat → Int32) (c_P66 : Nat → Option Nat) (c_P181 : Nat → Option Nat) (c_P182 : Nat → Option Nat) (c_P186 : Nat → Option Nat) (c_P187 : Nat → Option Nat) (c_U184 : Nat → Int64) (c_V0 : Nat → Nat → Int32) (c_V1 : Nat → Nat → Int32) (c_V2 : Nat → Nat → Int32) (c_V12 : Nat → Nat → Int32) (hr : f_X9_through G P U V X O kd ln cnt this p0 p1 p2 p3 p4 p5 = some (r, c_G60, c_G183, c_G203, c_P66, c_P181, c_P182, c_P186, c_P187, c_U184, c_V0, c_V1, c_V2, c_V12)) (hx : p.tables.exec = Jvm.exec) (hb : c.code = cX9_through) (hml : c.maxLocals = 9) (hown : s.vm.findClass RX9 = some m.cls) (hts : ∀ w ∈ vmX9_through, w.before args s = true) (hA : ∀ q : Nat, s.heap.size ≤ q → A q) (hK : va_K (dC, dI) vwCl (cT kk) s) (hW : LW ws ad kk kd ln G P U V X O) (hT : TYP kd P O (V 0) cnt) (hP : va_P (dC, dI) vwCl ws H) (hD : va_D A ws) (hS : va_S A s.heap H locs) (hl : lv_has ls 9 [(0, .ref (ad this)), (1, .ref (ad p0)), (2, .int p1), (3, .int p2), (4, .ref (ad p3)), (5, .int p4), (6, .int p5)])
    (K : ∀ (pc : Nat) (ls : Array Slot) (rz : Nat) (c_G60z : Nat → Int32) (c_G183z : Nat → Int32) (c_G203z : Nat → Int32) (c_P66z : Nat → Option Nat) (c_P181z : Nat → Option Nat) (c_P182z : Nat → Option Nat) (c_P186z : Nat → Option Nat) (c_P187z : Nat → Option Nat) (c_U184z : Nat → Int64) (c_V0z : Nat → Nat → Int32) (c_V1z : Nat → Nat → Int32) (c_V2z : Nat → Nat → Int32) (c_V12z : Nat → Nat → Int32) (ws : va_W) (H : Heap) (locs : List Loc), some (rz, c_G60z, c_G183z, c_G203z, c_P66z, c_P181z, c_P182z, c_P186z, c_P187z, c_U184z, c_V0z, c_V1z, c_V2z, c_V12z) = some (r, c_G60, c_G183, c_G203, c_P66, c_P181, c_P182, c_P186, c_P187, c_U184, c_V0, c_V1, c_V2, c_V12) → kd rz = 11 → decode cX9_through pc = .ok (.areturn, 1) → LW ws ad kk kd ln (va_up (va_up (va_up G 60 c_G60z) 183 c_G183z) 203 c_G203z) (va_up (va_up (va_up (va_up (va_up P 66 c_P66z) 181 c_P181z) 182 c_P182z) 186 c_P186z) 187 c_P187z) (va_up U 184 c_U184z) (va_up (va_up (va_up (va_up V 0 c_V0z) 1 c_V1z) 2 c_V2z) 12 c_V12z) X O → TYP kd (va_up (va_up (va_up (va_up (va_up P 66 c_P66z) 181 c_P181z) 182 c_P182z) 186 c_P186z) 187 c_P187z) O c_V0z cnt → va_P (dC, dI) vwCl ws H → va_D A ws → va_S A s.heap H locs → W p l e ({ frames := 48, cells := 0, slots := 0, locals := 1247 } : Room) s m args below meth c H locs 0 0 Q (F0 m pc ls [.ref (ad rz)])) : W p l e ({ frames := 48, cells := 0, slots := 0, locals := 1247 } : Room) s m args below meth c H locs 0 0 Q (F0 m 0 ls []) := by
  unfold f_X9_through at hr
  refine lv_aload_n hx hb dX9_through_0 rfl (lv_at hl 0 rfl) ?_
  obtain ⟨i1, hi1⟩ := hW.o9 hk_this
  replace hr := nnS hr
  obtain ⟨a1, hn1, hr⟩ := hr
  have hk_a1 : kd a1 = 11 := hT.1 187 _ _ hn1
  refine va_get (D := (dC, dI)) (ci := 9) (v := .ref (ad a1)) (C := RX9) (T := TX9) (N := 8) hx hb hts inX9 hown hK hP i1 hi1 rfl 7 (by decide) (hts (.fieldLink RX9 45 "SpellTurner$Turner" "behind" "LSpellTurner$WordRow;") ic_329) (fun _ h9 => h9) (congrArg (fun o => some (va_re ad o)) hn1) dX9_through_1 ?_
  refine lv_iconst (v := 0) hx hb dX9_through_4 (by decide +kernel) ?_
  obtain ⟨i2, hi2⟩ := hW.o10 hk_a1
  refine va_put (D := (dC, dI)) (ci := 10) (v := .int 0) (ty := .int) (C := RX10) (T := TX10) (N := 4) hx hb hts inX10 tyX10 tyX10_ok nmX10 hown hK hP hD hS i2 hi2 rfl 3 (by decide) (hts (.fieldLink RX9 53 "SpellTurner$WordRow" "count" "I") ic_270) (fun _ h9 => h9) rfl (by decide +kernel) rfl rfl (Nat.le_of_ble_eq_true rfl) dX9_through_5 (fun H locs hP2 hD2 hS => ?_)
  obtain ⟨m5, w3, em5, hP, hD, hW⟩ : ∃ (z : Nat → Int32) (w : va_W), z = (va_up (G 203) a1 0) ∧ va_P (dC, dI) vwCl w H ∧ va_D A w ∧ LW w ad kk kd ln (va_up G 203 z) P U V X O := ⟨_, _, rfl, hP2, hD2, hW.setG hD hi2 (by rw [hk_a1]; decide) 203 0 (by rw [hk_a1]; rfl)⟩
  replace hr := vlS hr m5 em5
  clear em5
  refine lv_aload_n hx hb dX9_through_8 rfl (lv_at hl 0 rfl) ?_
  obtain ⟨i4, hi4⟩ := hW.o9 hk_this
  replace hr := nnS hr
  obtain ⟨a9, hn9, hr⟩ := hr
  have hk_a9 : kd a9 = 11 := hT.1 187 _ _ hn9
  refine va_get (D := (dC, dI)) (ci := 9) (v := .ref (ad a9)) (C := RX9) (T := TX9) (N := 8) hx hb hts inX9 hown hK hP i4 hi4 rfl 7 (by decide) (hts (.fieldLink RX9 45 "SpellTurner$Turner" "behind" "LSpellTurner$WordRow;") ic_329) (fun _ h9 => h9) (congrArg (fun o => some (va_re ad o)) hn9) dX9_through_9 ?_
  refine lv_aload hx hb dX9_through_12 (lv_at hl 4 rfl) ?_
  refine lv_iload hx hb dX9_through_14 (lv_at hl 5 rfl) ?_
  refine lv_iload hx hb dX9_through_16 (lv_at hl 6 rfl) ?_
  replace hr := b3S hr
  obtain ⟨c18_G203, c18_V0, c18_V1, hc18, hr⟩ := hr
  have hFc := fr_all hD hS hA
  obtain ⟨i5, hi5⟩ := hW.o10 hk_a9
  refine va_callv (va_runV (As := [.ref (ad p3), .int p4, .int p5]) (rest := []) ⟨hx, hb, hml, hown, hts⟩ (m_X10_addForm l dC dI kk ad H.size w3 (va_up G 203 m5) P U V X O kd ln cnt a9 p3 p4 p5 hk_a9 hk_p3 hW hT c18_G203 c18_V0 c18_V1 hc18) (cwV 3 hts gc_RX9_X10_addForm_85 rfl rfl rfl (by decide +kernel) ⟨Nat.le_of_ble_eq_true rfl, Nat.le_of_ble_eq_true rfl⟩) ⟨fun a U g mk q => by obtain ⟨q0, q1, qP, qK, qD⟩ := q; exact ⟨q0, q1, qP, va_K.moved (u := U) (U := U.calling g mk a) (Vm.Alike.refl U.vm) qK, qD⟩, va_recv hK hP (ci := 10) (q0 := i5) rfl hi5, fun U hU hW => ⟨rfl, by rw [hU], by rw [hU]; exact hP, va_K.moved hW.alike hK, hD.weaken (fun _ _ _ _ => trivial)⟩⟩ rfl rfl hl.1 rfl (lv_room (Nat.le_of_ble_eq_true rfl)) dX9_through_18 ⟨Nat.le_of_ble_eq_true rfl, Nat.le_of_ble_eq_true rfl⟩) hS (fun q _ h => hFc q h) hFc (fun w6 t H1 locs ht hvm hw hB hz1 hk1 hS => ?_)
  obtain ⟨hW, hT⟩ := hw
  obtain ⟨hP1, hK1, hD1⟩ := hB
  rw [ht] at hP1
  obtain ⟨hP, hD⟩ := jn_all (w1 := w6) hFc hP1 hD1
  replace hP : va_P (dC, dI) vwCl w6 H1 := hP
  replace hD : va_D A w6 := hD
  clear hFc hP1 hK1 hD1 hk1 hz1 ht hvm
  generalize H1 = H at hP hS ⊢
  refine lv_iload_n hx hb dX9_through_21 rfl (lv_at hl 2 rfl) ?_
  refine lv_iconst (v := 0) hx hb dX9_through_22 (by decide +kernel) ?_
  refine va_mmax hx hb (by rw [hml]; exact hl.1.symm) hown (hts (.methodLink RX9 88 Lib.Math.max.name) ic_290) (hts (.static Lib.Math.max.name) ic_291) (hts (.initialized "java/lang/Math") ic_198) (hts (.code Lib.Math.max.name Lib.Math.max.code 2 (some .int)) ic_292) (Nat.le_of_ble_eq_true rfl) (Nat.le_of_ble_eq_true rfl) (Nat.le_of_ble_eq_true rfl) (Nat.le_of_ble_eq_true rfl) dX9_through_23 ?_
  refine lv_topi (fun x26 ex26 => ?_)
  replace hr := vlS hr x26 ex26
  clear ex26
  refine lv_istore (lv' := [(7, .int x26), (0, .ref (ad this)), (1, .ref (ad p0)), (2, .int p1), (3, .int p2), (4, .ref (ad p3)), (5, .int p4), (6, .int p5)]) hx hb dX9_through_26 hl (by decide) rfl (fun ls hl => ?_)
  replace hr := jnS hr
  obtain ⟨k92, hk92, hr⟩ := hr
  have Jk92 : ∀ (c92_G60 : Nat → Int32) (c92_G183 : Nat → Int32) (c92_G203 : Nat → Int32) (c92_P66 : Nat → Option Nat) (c92_P181 : Nat → Option Nat) (c92_P182 : Nat → Option Nat) (c92_P186 : Nat → Option Nat) (c92_P187 : Nat → Option Nat) (c92_U184 : Nat → Int64) (c92_V0 : Nat → Nat → Int32) (c92_V1 : Nat → Nat → Int32) (c92_V2 : Nat → Nat → Int32) (c92_V12 : Nat → Nat → Int32) (ws : va_W) (H : Heap) (locs : List Loc) (ls : Array Slot), k92 c92_G60 c92_G183 c92_G203 c92_P66 c92_P181 c92_P182 c92_P186 c92_P187 c92_U184 c92_V0 c92_V1 c92_V2 c92_V12 = some (r, c_G60, c_G183, c_G203, c_P66, c_P181, c_P182, c_P186, c_P187, c_U184, c_V0, c_V1, c_V2, c_V12) → LW ws ad kk kd ln (va_up (va_up (va_up G 60 c92_G60) 183 c92_G183) 203 c92_G203) (va_up (va_up (va_up (va_up (va_up P 66 c92_P66) 181 c92_P181) 182 c92_P182) 186 c92_P186) 187 c92_P187) (va_up U 184 c92_U184) (va_up (va_up (va_up (va_up V 0 c92_V0) 1 c92_V1) 2 c92_V2) 12 c92_V12) X O → TYP kd (va_up (va_up (va_up (va_up (va_up P 66 c92_P66) 181 c92_P181) 182 c92_P182) 186 c92_P186) 187 c92_P187) O c92_V0 cnt → va_P (dC, dI) vwCl ws H → va_D A ws → va_S A s.heap H locs → lv_has ls 9 [(0, .ref (ad this))] → W p l e ({ frames := 48, cells := 0, slots := 0, locals := 1247 } : Room) s m args below meth c H locs 0 0 Q (F0 m 92 ls []) := by
    intro c92_G60 c92_G183 c92_G203 c92_P66 c92_P181 c92_P182 c92_P186 c92_P187 c92_U184 c92_V0 c92_V1 c92_V2 c92_V12 ws H locs ls hr hW hT hP hD hS hl
    rw [hk92] at hr
    refine lv_aload_n hx hb dX9_through_92 rfl (lv_at hl 0 rfl) ?_
    obtain ⟨i7, hi7⟩ := hW.o9 hk_this
    replace hr := nnS hr
    obtain ⟨a93, hn93, hr⟩ := hr
    have hk_a93 : kd a93 = 11 := hT.1 187 _ _ hn93
    refine va_get (D := (dC, dI)) (ci := 9) (v := .ref (ad a93)) (C := RX9) (T := TX9) (N := 8) hx hb hts inX9 hown hK hP i7 hi7 rfl 7 (by decide) (hts (.fieldLink RX9 45 "SpellTurner$Turner" "behind" "LSpellTurner$WordRow;") ic_329) (fun _ h9 => h9) (congrArg (fun o => some (va_re ad o)) hn93) dX9_through_93 ?_
    exact K 96 ls _ _ _ _ _ _ _ _ _ _ _ _ _ _ ws H _ hr hk_a93 dX9_through_96 hW hT hP hD hS
  have lp28 : ∀ (n28 : Nat), ∀ (y28_7 : Int32) (d28_G60 : Nat → Int32) (d28_G183 : Nat → Int32) (d28_G203 : Nat → Int32) (d28_P66 : Nat → Option Nat) (d28_P181 : Nat → Option Nat) (d28_P182 : Nat → Option Nat) (d28_P186 : Nat → Option Nat) (d28_P187 : Nat → Option Nat) (d28_U184 : Nat → Int64) (d28_V0 : Nat → Nat → Int32) (d28_V1 : Nat → Nat → Int32) (d28_V2 : Nat → Nat → Int32) (d28_V12 : Nat → Nat → Int32) (ws : va_W) (H : Heap) (locs : List Loc) (ls : Array Slot), L_X9_through_28 G P U V X O kd ln cnt this p0 p2 k92 n28 y28_7 d28_G60 d28_G183 d28_G203 d28_P66 d28_P181 d28_P182 d28_P186 d28_P187 d28_U184 d28_V0 d28_V1 d28_V2 d28_V12 = some (r, c_G60, c_G183, c_G203, c_P66, c_P181, c_P182, c_P186, c_P187, c_U184, c_V0, c_V1, c_V2, c_V12) → LW ws ad kk kd ln (va_up (va_up (va_up G 60 d28_G60) 183 d28_G183) 203 d28_G203) (va_up (va_up (va_up (va_up (va_up P 66 d28_P66) 181 d28_P181) 182 d28_P182) 186 d28_P186) 187 d28_P187) (va_up U 184 d28_U184) (va_up (va_up (va_up (va_up V 0 d28_V0) 1 d28_V1) 2 d28_V2) 12 d28_V12) X O → TYP kd (va_up (va_up (va_up (va_up (va_up P 66 d28_P66) 181 d28_P181) 182 d28_P182) 186 d28_P186) 187 d28_P187) O d28_V0 cnt → va_P (dC, dI) vwCl ws H → va_D A ws → va_S A s.heap H locs → lv_has ls 9 [(0, .ref (ad this)), (1, .ref (ad p0)), (3, .int p2), (7, .int y28_7)] → W p l e ({ frames := 48, cells := 0, slots := 0, locals := 1247 } : Room) s m args below meth c H locs 0 0 Q (F0 m 28 ls []) := by
    intro n28
    induction n28 with
    | zero => intro y28_7 d28_G60 d28_G183 d28_G203 d28_P66 d28_P181 d28_P182 d28_P186 d28_P187 d28_U184 d28_V0 d28_V1 d28_V2 d28_V12 ws H locs ls hr hW hT hP hD hS hl; exact nomatch (show none = some (r, c_G60, c_G183, c_G203, c_P66, c_P181, c_P182, c_P186, c_P187, c_U184, c_V0, c_V1, c_V2, c_V12) from hr)
    | succ n28 ih28 =>
      intro y28_7 d28_G60 d28_G183 d28_G203 d28_P66 d28_P181 d28_P182 d28_P186 d28_P187 d28_U184 d28_V0 d28_V1 d28_V2 d28_V12 ws H locs ls hr hW hT hP hD hS hl
      replace hr : B_X9_through_28 G P U V X O kd ln cnt this p0 p2 k92 (L_X9_through_28 G P U V X O kd ln cnt this p0 p2 k92 n28) y28_7 d28_G60 d28_G183 d28_G203 d28_P66 d28_P181 d28_P182 d28_P186 d28_P187 d28_U184 d28_V0 d28_V1 d28_V2 d28_V12 = some (r, c_G60, c_G183, c_G203, c_P66, c_P181, c_P182, c_P186, c_P187, c_U184, c_V0, c_V1, c_V2, c_V12) := hr
      unfold B_X9_through_28 at hr
      refine lv_iload hx hb dX9_through_28 (lv_at hl 3 rfl) ?_
      refine lv_iload_n hx hb dX9_through_30 rfl (lv_at hl 2 rfl) ?_
      refine lv_icmp_ge (tgt := 92) hx hb dX9_through_31 (by decide) (fun c31 => ?_) (fun c31 => ?_)
      · replace hr := iteT c31 hr
        exact Jk92 d28_G60 d28_G183 d28_G203 d28_P66 d28_P181 d28_P182 d28_P186 d28_P187 d28_U184 d28_V0 d28_V1 d28_V2 d28_V12 ws H _ ls hr hW hT hP hD hS (lv_sub hl [0] rfl)
      · replace hr := iteF c31 hr
        refine lv_iload hx hb dX9_through_34 (lv_at hl 3 rfl) ?_
        refine lv_aload_n hx hb dX9_through_36 rfl (lv_at hl 1 rfl) ?_
        obtain ⟨i8, hi8⟩ := hW.q2 hk_p0
        refine va_alen (v := (Int32.ofNat (ln p0))) hx hb hK hP i8 6 hi8 rfl rfl dX9_through_37 ?_
        refine lv_icmp_ge (tgt := 92) hx hb dX9_through_38 (by decide) (fun c38 => ?_) (fun c38 => ?_)
        · replace hr := iteT c38 hr
          exact Jk92 d28_G60 d28_G183 d28_G203 d28_P66 d28_P181 d28_P182 d28_P186 d28_P187 d28_U184 d28_V0 d28_V1 d28_V2 d28_V12 ws H _ ls hr hW hT hP hD hS (lv_sub hl [0] rfl)
        · replace hr := iteF c38 hr
          refine lv_aload_n hx hb dX9_through_41 rfl (lv_at hl 0 rfl) ?_
          obtain ⟨i9, hi9⟩ := hW.o9 hk_this
          replace hr := nnS hr
          obtain ⟨a42, hn42, hr⟩ := hr
          have hk_a42 : kd a42 = 11 := hT.1 186 _ _ hn42
          refine va_get (D := (dC, dI)) (ci := 9) (v := .ref (ad a42)) (C := RX9) (T := TX9) (N := 8) hx hb hts inX9 hown hK hP i9 hi9 rfl 6 (by decide) (hts (.fieldLink RX9 41 "SpellTurner$Turner" "ahead" "LSpellTurner$WordRow;") ic_330) (fun _ h9 => h9) (congrArg (fun o => some (va_re ad o)) hn42) dX9_through_42 ?_
          refine lv_astore (lv' := [(8, .ref (ad a42)), (0, .ref (ad this)), (1, .ref (ad p0)), (3, .int p2), (7, .int y28_7)]) hx hb dX9_through_45 hl (by decide) rfl (fun ls hl => ?_)
          refine lv_aload_n hx hb dX9_through_47 rfl (lv_at hl 1 rfl) ?_
          refine lv_aload_n hx hb dX9_through_48 rfl (lv_at hl 1 rfl) ?_
          obtain ⟨i10, hi10⟩ := hW.o9 hk_this
          replace hr := nnS hr
          obtain ⟨a49, hn49, hr⟩ := hr
          have hk_a49 : kd a49 = 11 := hT.1 187 _ _ hn49
          refine va_get (D := (dC, dI)) (ci := 9) (v := .ref (ad a49)) (C := RX9) (T := TX9) (N := 8) hx hb hts inX9 hown hK hP i10 hi10 rfl 7 (by decide) (hts (.fieldLink RX9 45 "SpellTurner$Turner" "behind" "LSpellTurner$WordRow;") ic_329) (fun _ h9 => h9) (congrArg (fun o => some (va_re ad o)) hn49) dX9_through_49 ?_
          obtain ⟨i11, hi11⟩ := hW.o9 hk_this
          refine va_put (D := (dC, dI)) (ci := 9) (v := .ref (ad a49)) (ty := (.object "SpellTurner$WordRow")) (C := RX9) (T := TX9) (N := 8) hx hb hts inX9 tyX9 tyX9_ok nmX9 hown hK hP hD hS i11 hi11 rfl 6 (by decide) (hts (.fieldLink RX9 41 "SpellTurner$Turner" "ahead" "LSpellTurner$WordRow;") ic_330) (fun _ h9 => h9) rfl (by decide +kernel) rfl rfl (Nat.le_of_ble_eq_true rfl) dX9_through_52 (fun H locs hP2 hD2 hS => ?_)
          obtain ⟨m52, w12, em52, hP, hD, hW⟩ : ∃ (z : Nat → Option Nat) (w : va_W), z = (va_up d28_P186 this (some a49)) ∧ va_P (dC, dI) vwCl w H ∧ va_D A w ∧ LW w ad kk kd ln (va_up (va_up (va_up G 60 d28_G60) 183 d28_G183) 203 d28_G203) (va_up (va_up (va_up (va_up (va_up (va_up P 66 d28_P66) 181 d28_P181) 182 d28_P182) 186 d28_P186) 187 d28_P187) 186 z) (va_up U 184 d28_U184) (va_up (va_up (va_up (va_up V 0 d28_V0) 1 d28_V1) 2 d28_V2) 12 d28_V12) X O := ⟨_, _, rfl, hP2, hD2, hW.setP hD hi11 (by rw [hk_this]; decide) 186 (some a49) (by rw [hk_this]; rfl)⟩
          replace hT : TYP kd (va_up (va_up (va_up (va_up (va_up (va_up P 66 d28_P66) 181 d28_P181) 182 d28_P182) 186 d28_P186) 187 d28_P187) 186 m52) O d28_V0 cnt := by rw [em52]; exact hT.setP 186 this a49 hk_a49
          replace hr := vlS hr m52 em52
          clear em52
          refine lv_aload_n hx hb dX9_through_55 rfl (lv_at hl 1 rfl) ?_
          refine lv_aload hx hb dX9_through_56 (lv_at hl 0 rfl) ?_
          obtain ⟨i13, hi13⟩ := hW.o9 hk_this
          refine va_put (D := (dC, dI)) (ci := 9) (v := .ref (ad a42)) (ty := (.object "SpellTurner$WordRow")) (C := RX9) (T := TX9) (N := 8) hx hb hts inX9 tyX9 tyX9_ok nmX9 hown hK hP hD hS i13 hi13 rfl 7 (by decide) (hts (.fieldLink RX9 45 "SpellTurner$Turner" "behind" "LSpellTurner$WordRow;") ic_329) (fun _ h9 => h9) rfl (by decide +kernel) rfl rfl (Nat.le_of_ble_eq_true rfl) dX9_through_58 (fun H locs hP2 hD2 hS => ?_)
          obtain ⟨m58, w14, em58, hP, hD, hW⟩ : ∃ (z : Nat → Option Nat) (w : va_W), z = (va_up d28_P187 this (some a42)) ∧ va_P (dC, dI) vwCl w H ∧ va_D A w ∧ LW w ad kk kd ln (va_up (va_up (va_up G 60 d28_G60) 183 d28_G183) 203 d28_G203) (va_up (va_up (va_up (va_up (va_up (va_up (va_up P 66 d28_P66) 181 d28_P181) 182 d28_P182) 186 d28_P186) 187 d28_P187) 186 m52) 187 z) (va_up U 184 d28_U184) (va_up (va_up (va_up (va_up V 0 d28_V0) 1 d28_V1) 2 d28_V2) 12 d28_V12) X O := ⟨_, _, rfl, hP2, hD2, hW.setP hD hi13 (by rw [hk_this]; decide) 187 (some a42) (by rw [hk_this]; rfl)⟩
          replace hT : TYP kd (va_up (va_up (va_up (va_up (va_up (va_up (va_up P 66 d28_P66) 181 d28_P181) 182 d28_P182) 186 d28_P186) 187 d28_P187) 186 m52) 187 m58) O d28_V0 cnt := by rw [em58]; exact hT.setP 187 this a42 hk_a42
          replace hr := vlS hr m58 em58
          clear em58
          refine lv_aload_n hx hb dX9_through_61 rfl (lv_at hl 1 rfl) ?_
          obtain ⟨i15, hi15⟩ := hW.o9 hk_this
          replace hr := nnS hr
          obtain ⟨a62, hn62, hr⟩ := hr
          have hk_a62 : kd a62 = 11 := hT.1 187 _ _ hn62
          refine va_get (D := (dC, dI)) (ci := 9) (v := .ref (ad a62)) (C := RX9) (T := TX9) (N := 8) hx hb hts inX9 hown hK hP i15 hi15 rfl 7 (by decide) (hts (.fieldLink RX9 45 "SpellTurner$Turner" "behind" "LSpellTurner$WordRow;") ic_329) (fun _ h9 => h9) (congrArg (fun o => some (va_re ad o)) hn62) dX9_through_62 ?_
          refine lv_iconst (v := 0) hx hb dX9_through_65 (by decide +kernel) ?_
          obtain ⟨i16, hi16⟩ := hW.o10 hk_a62
          refine va_put (D := (dC, dI)) (ci := 10) (v := .int 0) (ty := .int) (C := RX10) (T := TX10) (N := 4) hx hb hts inX10 tyX10 tyX10_ok nmX10 hown hK hP hD hS i16 hi16 rfl 3 (by decide) (hts (.fieldLink RX9 53 "SpellTurner$WordRow" "count" "I") ic_270) (fun _ h9 => h9) rfl (by decide +kernel) rfl rfl (Nat.le_of_ble_eq_true rfl) dX9_through_66 (fun H locs hP2 hD2 hS => ?_)
          obtain ⟨m66, w17, em66, hP, hD, hW⟩ : ∃ (z : Nat → Int32) (w : va_W), z = (va_up d28_G203 a62 0) ∧ va_P (dC, dI) vwCl w H ∧ va_D A w ∧ LW w ad kk kd ln (va_up (va_up (va_up (va_up G 60 d28_G60) 183 d28_G183) 203 d28_G203) 203 z) (va_up (va_up (va_up (va_up (va_up (va_up (va_up P 66 d28_P66) 181 d28_P181) 182 d28_P182) 186 d28_P186) 187 d28_P187) 186 m52) 187 m58) (va_up U 184 d28_U184) (va_up (va_up (va_up (va_up V 0 d28_V0) 1 d28_V1) 2 d28_V2) 12 d28_V12) X O := ⟨_, _, rfl, hP2, hD2, hW.setG hD hi16 (by rw [hk_a62]; decide) 203 0 (by rw [hk_a62]; rfl)⟩
          replace hr := vlS hr m66 em66
          clear em66
          refine lv_aload_n hx hb dX9_through_69 rfl (lv_at hl 1 rfl) ?_
          refine lv_aload_n hx hb dX9_through_70 rfl (lv_at hl 2 rfl) ?_
          refine lv_iload hx hb dX9_through_71 (lv_at hl 4 rfl) ?_
          obtain ⟨i18, hi18⟩ := hW.q2 hk_p0
          replace hr := iteS hr
          obtain ⟨hi73, hr⟩ := hr
          refine va_aldq (C := RX5) (f := fun i => ((O 2) p0 i).map ad) hx hb hK hP i18 6 hi18 rfl (inbV hi73) dX9_through_73 ?_
          refine lv_tope (ad := ad) (o := ((O 2) p0 (Int32.toNatClampNeg y28_7))) (fun o73 eo73 => ?_)
          have hk_o73 : ∀ b, o73 = some b → kd b = 6 := fun b hq => hT.2.1 2 _ _ b (eo73.symm.trans hq)
          replace hr := vlS hr o73 eo73
          clear eo73
          refine lv_aload_n hx hb dX9_through_74 rfl (lv_at hl 1 rfl) ?_
          obtain ⟨i19, hi19⟩ := hW.o9 hk_this
          replace hr := nnS hr
          obtain ⟨a75, hn75, hr⟩ := hr
          have hk_a75 : kd a75 = 11 := hT.1 186 _ _ hn75
          refine va_get (D := (dC, dI)) (ci := 9) (v := .ref (ad a75)) (C := RX9) (T := TX9) (N := 8) hx hb hts inX9 hown hK hP i19 hi19 rfl 6 (by decide) (hts (.fieldLink RX9 41 "SpellTurner$Turner" "ahead" "LSpellTurner$WordRow;") ic_330) (fun _ h9 => h9) (congrArg (fun o => some (va_re ad o)) hn75) dX9_through_75 ?_
          refine lv_aload_n hx hb dX9_through_78 rfl (lv_at hl 1 rfl) ?_
          obtain ⟨i20, hi20⟩ := hW.o9 hk_this
          replace hr := nnS hr
          obtain ⟨a79, hn79, hr⟩ := hr
          have hk_a79 : kd a79 = 11 := hT.1 187 _ _ hn79
          refine va_get (D := (dC, dI)) (ci := 9) (v := .ref (ad a79)) (C := RX9) (T := TX9) (N := 8) hx hb hts inX9 hown hK hP i20 hi20 rfl 7 (by decide) (hts (.fieldLink RX9 45 "SpellTurner$Turner" "behind" "LSpellTurner$WordRow;") ic_329) (fun _ h9 => h9) (congrArg (fun o => some (va_re ad o)) hn79) dX9_through_79 ?_
          replace hr := b12S hr
          obtain ⟨r82z, c82_G60, c82_G183, c82_G203, c82_P66, c82_P181, c82_P182, c82_U184, c82_V0, c82_V1, c82_V2, c82_V12, hc82, hr⟩ := hr
          have hFc := fr_all hD hS hA
          obtain ⟨i21, hi21⟩ := hW.o9 hk_this
          refine va_calll (va_runV (As := [va_re ad o73, .ref (ad a75), .ref (ad a79)]) (rest := []) ⟨hx, hb, hml, hown, hts⟩ (m_X9_turnForms l dC dI kk ad H.size w17 (va_up (va_up (va_up (va_up G 60 d28_G60) 183 d28_G183) 203 d28_G203) 203 m66) (va_up (va_up (va_up (va_up (va_up (va_up (va_up P 66 d28_P66) 181 d28_P181) 182 d28_P182) 186 d28_P186) 187 d28_P187) 186 m52) 187 m58) (va_up U 184 d28_U184) (va_up (va_up (va_up (va_up V 0 d28_V0) 1 d28_V1) 2 d28_V2) 12 d28_V12) X O kd ln cnt this o73 a75 a79 hk_this hk_o73 hk_a75 hk_a79 hW hT r82z c82_G60 c82_G183 c82_G203 c82_P66 c82_P181 c82_P182 c82_U184 c82_V0 c82_V1 c82_V2 c82_V12 hc82) (cwV 3 hts gc_RX9_X9_turnForms_94 rfl rfl rfl (by decide +kernel) ⟨Nat.le_of_ble_eq_true rfl, Nat.le_of_ble_eq_true rfl⟩) ⟨fun a U g mk q => by obtain ⟨q0, q1, qP, qK, qD⟩ := q; exact ⟨q0, q1, qP, va_K.moved (u := U) (U := U.calling g mk a) (Vm.Alike.refl U.vm) qK, qD⟩, va_recv hK hP (ci := 9) (q0 := i21) rfl hi21, fun U hU hW => ⟨rfl, by rw [hU], by rw [hU]; exact hP, va_K.moved hW.alike hK, hD.weaken (fun _ _ _ _ => trivial)⟩⟩ rfl rfl hl.1 rfl (lv_room (Nat.le_of_ble_eq_true rfl)) dX9_through_82 ⟨Nat.le_of_ble_eq_true rfl, Nat.le_of_ble_eq_true rfl⟩) hS (fun q _ h => hFc q h) hFc (fun r82 w22 t H1 locs ht hvm hw hB hz1 hk1 hS => ?_)
          obtain ⟨hw0, hW, hT⟩ := hw
          replace hw0 : r82 = r82z := hw0
          subst hw0
          obtain ⟨hP1, hK1, hD1⟩ := hB
          rw [ht] at hP1
          obtain ⟨hP, hD⟩ := jn_all (w1 := w22) hFc hP1 hD1
          replace hP : va_P (dC, dI) vwCl w22 H1 := hP
          replace hD : va_D A w22 := hD
          clear hFc hP1 hK1 hD1 hk1 hz1 ht hvm
          generalize H1 = H at hP hS ⊢
          refine lv_pop2_2 hx hb dX9_through_85 rfl ?_
          refine lv_iinc (v := (y28_7 + 1)) (lv' := [(7, .int (y28_7 + 1)), (8, .ref (ad a42)), (0, .ref (ad this)), (1, .ref (ad p0)), (3, .int p2)]) hx hb dX9_through_86 hl (k := 4) rfl rfl (by decide) rfl (fun ls hl => ?_)
          refine lv_goto (tgt := 28) hx hb dX9_through_89 (by decide) ?_
          have eG : (va_up (va_up (va_up (va_up (va_up (va_up (va_up G 60 d28_G60) 183 d28_G183) 203 d28_G203) 203 m66) 60 c82_G60) 183 c82_G183) 203 c82_G203) = (va_up (va_up (va_up G 60 c82_G60) 183 c82_G183) 203 c82_G203) := by
            funext k
            by_cases h60 : k = 60
            · subst h60; rfl
            by_cases h183 : k = 183
            · subst h183; rfl
            by_cases h203 : k = 203
            · subst h203; rfl
            · simp only [va_up, h60, h183, h203, if_false]
          rw [eG] at hW
          clear eG
          have eP : (va_up (va_up (va_up (va_up (va_up (va_up (va_up (va_up (va_up (va_up P 66 d28_P66) 181 d28_P181) 182 d28_P182) 186 d28_P186) 187 d28_P187) 186 m52) 187 m58) 66 c82_P66) 181 c82_P181) 182 c82_P182) = (va_up (va_up (va_up (va_up (va_up P 66 c82_P66) 181 c82_P181) 182 c82_P182) 186 m52) 187 m58) := by
            funext k
            by_cases h66 : k = 66
            · subst h66; rfl
            by_cases h181 : k = 181
            · subst h181; rfl
            by_cases h182 : k = 182
            · subst h182; rfl
            by_cases h186 : k = 186
            · subst h186; rfl
            by_cases h187 : k = 187
            · subst h187; rfl
            · simp only [va_up, h66, h181, h182, h186, h187, if_false]
          rw [eP] at hW
          rw [eP] at hT
          clear eP
          have eU : (va_up (va_up U 184 d28_U184) 184 c82_U184) = (va_up U 184 c82_U184) := by
            funext k
            by_cases h184 : k = 184
            · subst h184; rfl
            · simp only [va_up, h184, if_false]
          rw [eU] at hW
          clear eU
          have eV : (va_up (va_up (va_up (va_up (va_up (va_up (va_up (va_up V 0 d28_V0) 1 d28_V1) 2 d28_V2) 12 d28_V12) 0 c82_V0) 1 c82_V1) 2 c82_V2) 12 c82_V12) = (va_up (va_up (va_up (va_up V 0 c82_V0) 1 c82_V1) 2 c82_V2) 12 c82_V12) := by
            funext k
            by_cases h0 : k = 0
            · subst h0; rfl
            by_cases h1 : k = 1
            · subst h1; rfl
            by_cases h2 : k = 2
            · subst h2; rfl
            by_cases h12 : k = 12
            · subst h12; rfl
            · simp only [va_up, h0, h1, h2, h12, if_false]
          rw [eV] at hW
          clear eV
          exact ih28 (y28_7 + 1) c82_G60 c82_G183 c82_G203 c82_P66 c82_P181 c82_P182 m52 m58 c82_U184 c82_V0 c82_V1 c82_V2 c82_V12 w22 H _ ls hr hW hT hP hD hS (lv_sub hl [2, 3, 4, 0] rfl)
  have eG : (va_up (va_up G 203 m5) 203 c18_G203) = (va_up (va_up (va_up G 60 (G 60)) 183 (G 183)) 203 c18_G203) := by
    funext k
    by_cases h60 : k = 60
    · subst h60; rfl
    by_cases h183 : k = 183
    · subst h183; rfl
    by_cases h203 : k = 203
    · subst h203; rfl
    · simp only [va_up, h60, h183, h203, if_false]
  rw [eG] at hW
  clear eG
  have eP : P = (va_up (va_up (va_up (va_up (va_up P 66 (P 66)) 181 (P 181)) 182 (P 182)) 186 (P 186)) 187 (P 187)) := by
    funext k
    by_cases h66 : k = 66
    · subst h66; rfl
    by_cases h181 : k = 181
    · subst h181; rfl
    by_cases h182 : k = 182
    · subst h182; rfl
    by_cases h186 : k = 186
    · subst h186; rfl
    by_cases h187 : k = 187
    · subst h187; rfl
    · simp only [va_up, h66, h181, h182, h186, h187, if_false]
  rw [eP] at hW
  rw [eP] at hT
  clear eP
  have eU : U = (va_up U 184 (U 184)) := by
    funext k
    by_cases h184 : k = 184
    · subst h184; rfl
    · simp only [va_up, h184, if_false]
  rw [eU] at hW
  clear eU
  have eV : (va_up (va_up V 0 c18_V0) 1 c18_V1) = (va_up (va_up (va_up (va_up V 0 c18_V0) 1 c18_V1) 2 (V 2)) 12 (V 12)) := by
    funext k
    by_cases h0 : k = 0
    · subst h0; rfl
    by_cases h1 : k = 1
    · subst h1; rfl
    by_cases h2 : k = 2
    · subst h2; rfl
    by_cases h12 : k = 12
    · subst h12; rfl
    · simp only [va_up, h0, h1, h2, h12, if_false]
  rw [eV] at hW
  clear eV
  exact lp28 NN x26 (G 60) (G 183) c18_G203 (P 66) (P 181) (P 182) (P 186) (P 187) (U 184) c18_V0 c18_V1 (V 2) (V 12) w6 H _ ls hr hW hT hP hD hS (lv_sub hl [1, 2, 4, 0] rfl)
set_option maxHeartbeats 4000000 in
set_option maxRecDepth 100000 in
theorem m_X9_through (l : Launch) (dC : Nat → ClassId) (dI : Nat → Nat → Nat) (kk : Nat → ClassId) (ad : Nat → Nat) (sz : Nat) (ws : va_W) (G : Nat → Nat → Int32) (P : Nat → Nat → Option Nat) (U : Nat → Nat → Int64) (V : Nat → Nat → Nat → Int32) (X : Nat → Nat → Nat → Int64) (O : Nat → Nat → Nat → Option Nat) (kd : Nat → Nat) (ln : Nat → Nat) (cnt : Nat) (this : Nat) (p0 : Nat) (p1 : Int32) (p2 : Int32) (p3 : Nat) (p4 : Int32) (p5 : Int32) (hk_this : kd this = 10) (hk_p0 : kd p0 = 302) (hk_p3 : kd p3 = 100) (hW : LW ws ad kk kd ln G P U V X O) (hT : TYP kd P O (V 0) cnt) (r : Nat) (c_G60 : Nat → Int32) (c_G183 : Nat → Int32) (c_G203 : Nat → Int32) (c_P66 : Nat → Option Nat) (c_P181 : Nat → Option Nat) (c_P182 : Nat → Option Nat) (c_P186 : Nat → Option Nat) (c_P187 : Nat → Option Nat) (c_U184 : Nat → Int64) (c_V0 : Nat → Nat → Int32) (c_V1 : Nat → Nat → Int32) (c_V2 : Nat → Nat → Int32) (c_V12 : Nat → Nat → Int32) (hr : f_X9_through G P U V X O kd ln cnt this p0 p1 p2 p3 p4 p5 = some (r, c_G60, c_G183, c_G203, c_P66, c_P181, c_P182, c_P186, c_P187, c_U184, c_V0, c_V1, c_V2, c_V12)) : Met l yX9_through vmX9_through ({ frames := 48, cells := 0, slots := 0, locals := 1247 } : Room) (va_Pc [.ref (ad this), .ref (ad p0), .int p1, .int p2, .ref (ad p3), .int p4, .int p5] (fun U => U.heap.size = sz ∧ va_P (dC, dI) vwCl ws U.heap ∧ va_K (dC, dI) vwCl (cT kk) U ∧ va_D (fun _ => True) ws)) (va_Qe ad (fun (rz : Option Nat) (w : va_W) => rz = some r ∧ LW w ad kk kd ln (va_up (va_up (va_up G 60 c_G60) 183 c_G183) 203 c_G203) (va_up (va_up (va_up (va_up (va_up P 66 c_P66) 181 c_P181) 182 c_P182) 186 c_P186) 187 c_P187) (va_up U 184 c_U184) (va_up (va_up (va_up (va_up V 0 c_V0) 1 c_V1) 2 c_V2) 12 c_V12) X O ∧ TYP kd (va_up (va_up (va_up (va_up (va_up P 66 c_P66) 181 c_P181) 182 c_P182) 186 c_P186) 187 c_P187) O c_V0 cnt ∧ kd r = 11) (fun w t => va_P (dC, dI) vwCl w t.heap ∧ va_K (dC, dI) vwCl (cT kk) t ∧ va_D (va_A ws sz) w) (va_A ws sz)) 0 0 (va_A ws sz) := by
  refine Met.ofW (cc := cX9_through) (maxL := 9) (ret := (some (.object "SpellTurner$WordRow"))) (by decide) rfl ?_
  intro p e s m args below meth c s₁ B hml hv
  obtain ⟨rfl, hsz, hP, hK, hD0⟩ := hv
  have hx := B.exec
  have hb := B.bytes
  have hrt := B.returns
  have hts := atoms_spec (ws := vmX9_through) B.pre
  have hown : s.vm.findClass RX9 = some m.cls := findClass_of_methodNamed B.named
  subst hsz
  have hD := hD0.self (sz := s.heap.size)
  generalize hAe : va_A ws s.heap.size = A at hD ⊢
  have hA : ∀ q : Nat, s.heap.size ≤ q → A q := fun q h => by rw [← hAe]; exact Or.inr h
  have hS : va_S A s.heap s.heap [] := va_S.rf
  have hl := lv_entry ([.ref (ad this), .ref (ad p0), .int p1, .int p2, .ref (ad p3), .int p4, .int p5]) (n := 9) (Nat.le_of_ble_eq_true rfl)
  rw [lg_entry_eq]
  generalize (lg_sl ([.ref (ad this), .ref (ad p0), .int p1, .int p2, .ref (ad p3), .int p4, .int p5]) ++ List.replicate (9 - (lg_sl ([.ref (ad this), .ref (ad p0), .int p1, .int p2, .ref (ad p3), .int p4, .int p5])).length) Slot.unset).toArray = ls at hl ⊢
  exact bm_X9_through this p0 p1 p2 p3 p4 p5 hk_this hk_p0 hk_p3 r c_G60 c_G183 c_G203 c_P66 c_P181 c_P182 c_P186 c_P187 c_U184 c_V0 c_V1 c_V2 c_V12 hr hx hb hml hown hts hA hK hW hT hP hD hS hl (fun pc ls rz c_G60z c_G183z c_G203z c_P66z c_P181z c_P182z c_P186z c_P187z c_U184z c_V0z c_V1z c_V2z c_V12z ws H locs he hkq hd hW hT hP hD hS => by cases he; exact W.aret (v := .ref (ad r)) hx hb hrt (Or.inl ⟨_, rfl⟩) (Or.inr ⟨_, rfl⟩) (fun t ht hW9 => ⟨⟨some r, ws, rfl, ⟨rfl, hW, hT, hkq⟩, by rw [ht]; exact hP, va_K.moved hW9.alike hK, hD⟩, hS.F ht⟩) hS.2.2 hd)
set_option maxHeartbeats 4000000 in
set_option maxRecDepth 100000 in
theorem bm_X9_turnParts {p : Program} {l : Launch} {e : Env} {s : State} {m : MethodId} {args : Array Value} {below : List Frame} {meth : Method} {c : Code} {Q : State → Prop} {A : Nat → Prop} {dC : Nat → ClassId} {dI : Nat → Nat → Nat} {kk : Nat → ClassId} {ad : Nat → Nat} {ws : va_W} {G : Nat → Nat → Int32} {P : Nat → Nat → Option Nat} {U : Nat → Nat → Int64} {V : Nat → Nat → Nat → Int32} {X : Nat → Nat → Nat → Int64} {O : Nat → Nat → Nat → Option Nat} {kd : Nat → Nat} {ln : Nat → Nat} {cnt : Nat} {H : Heap} {locs : List Loc} {ls : Array Slot} (this : Nat) (p0 : Nat) (hk_this : kd this = 10) (hk_p0 : kd p0 = 6) (c_G183 : Nat → Int32) (c_G203 : Nat → Int32) (c_P181 : Nat → Option Nat) (c_P182 : Nat → Option Nat) (c_U184 : Nat → Int64) (c_V0 : Nat → Nat → Int32) (c_V1 : Nat → Nat → Int32) (c_V11 : Nat → Nat → Int32) (c_X0 : Nat → Nat → Int64) (hr : f_X9_turnParts G P U V X O kd ln cnt this p0 = some (c_G183, c_G203, c_P181, c_P182, c_U184, c_V0, c_V1, c_V11, c_X0)) (hx : p.tables.exec = Jvm.exec) (hb : c.code = cX9_turnParts) (hml : c.maxLocals = 5) (hown : s.vm.findClass RX9 = some m.cls) (hts : ∀ w ∈ vmX9_turnParts, w.before args s = true) (hA : ∀ q : Nat, s.heap.size ≤ q → A q) (hK : va_K (dC, dI) vwCl (cT kk) s) (hW : LW ws ad kk kd ln G P U V X O) (hT : TYP kd P O (V 0) cnt) (hP : va_P (dC, dI) vwCl ws H) (hD : va_D A ws) (hS : va_S A s.heap H locs) (hl : lv_has ls 5 [(0, .ref (ad this)), (1, .ref (ad p0))])
    (K : ∀ (pc : Nat) (ls : Array Slot) (c_G183z : Nat → Int32) (c_G203z : Nat → Int32) (c_P181z : Nat → Option Nat) (c_P182z : Nat → Option Nat) (c_U184z : Nat → Int64) (c_V0z : Nat → Nat → Int32) (c_V1z : Nat → Nat → Int32) (c_V11z : Nat → Nat → Int32) (c_X0z : Nat → Nat → Int64) (ws : va_W) (H : Heap) (locs : List Loc), some (c_G183z, c_G203z, c_P181z, c_P182z, c_U184z, c_V0z, c_V1z, c_V11z, c_X0z) = some (c_G183, c_G203, c_P181, c_P182, c_U184, c_V0, c_V1, c_V11, c_X0) → decode cX9_turnParts pc = .ok (.return_, 1) → LW ws ad kk kd ln (va_up (va_up G 183 c_G183z) 203 c_G203z) (va_up (va_up P 181 c_P181z) 182 c_P182z) (va_up U 184 c_U184z) (va_up (va_up (va_up V 0 c_V0z) 1 c_V1z) 11 c_V11z) (va_up X 0 c_X0z) O → TYP kd (va_up (va_up P 181 c_P181z) 182 c_P182z) O c_V0z cnt → va_P (dC, dI) vwCl ws H → va_D A ws → va_S A s.heap H locs → W p l e ({ frames := 6, cells := 0, slots := 0, locals := 170 } : Room) s m args below meth c H locs 0 0 Q (F0 m pc ls [])) : W p l e ({ frames := 6, cells := 0, slots := 0, locals := 170 } : Room) s m args below meth c H locs 0 0 Q (F0 m 0 ls []) := by
  unfold f_X9_turnParts at hr
  refine lv_aload_n hx hb dX9_turnParts_0 rfl (lv_at hl 1 rfl) ?_
  obtain ⟨i1, hi1⟩ := hW.o5 hk_p0
  replace hr := nnS hr
  obtain ⟨a1, hn1, hr⟩ := hr
  have hk_a1 : kd a1 = 11 := hT.1 103 _ _ hn1
  refine va_get (D := (dC, dI)) (ci := 5) (v := .ref (ad a1)) (C := RX5) (T := TX5) (N := 11) hx hb hts inX5 hown hK hP i1 hi1 rfl 3 (by decide) (hts (.fieldLink RX9 48 "SpellTurner$Reform" "parts" "LSpellTurner$WordRow;") ic_312) (fun _ h9 => h9) (congrArg (fun o => some (va_re ad o)) hn1) dX9_turnParts_1 ?_
  refine lv_astore_n (lv' := [(2, .ref (ad a1)), (0, .ref (ad this)), (1, .ref (ad p0))]) hx hb dX9_turnParts_4 rfl hl (by decide) rfl (fun ls hl => ?_)
  refine lv_iconst (v := 0) hx hb dX9_turnParts_5 (by decide +kernel) ?_
  refine lv_istore_n (lv' := [(3, .int 0), (2, .ref (ad a1)), (0, .ref (ad this)), (1, .ref (ad p0))]) hx hb dX9_turnParts_6 rfl hl (by decide) rfl (fun ls hl => ?_)
  have lp7 : ∀ (n7 : Nat), ∀ (y7_3 : Int32) (d7_G183 : Nat → Int32) (d7_G203 : Nat → Int32) (d7_P181 : Nat → Option Nat) (d7_P182 : Nat → Option Nat) (d7_U184 : Nat → Int64) (d7_V0 : Nat → Nat → Int32) (d7_V1 : Nat → Nat → Int32) (d7_V11 : Nat → Nat → Int32) (d7_X0 : Nat → Nat → Int64) (ws : va_W) (H : Heap) (locs : List Loc) (ls : Array Slot), L_X9_turnParts_7 G P U V X O kd ln cnt this p0 a1 n7 y7_3 d7_G183 d7_G203 d7_P181 d7_P182 d7_U184 d7_V0 d7_V1 d7_V11 d7_X0 = some (c_G183, c_G203, c_P181, c_P182, c_U184, c_V0, c_V1, c_V11, c_X0) → LW ws ad kk kd ln (va_up (va_up G 183 d7_G183) 203 d7_G203) (va_up (va_up P 181 d7_P181) 182 d7_P182) (va_up U 184 d7_U184) (va_up (va_up (va_up V 0 d7_V0) 1 d7_V1) 11 d7_V11) (va_up X 0 d7_X0) O → TYP kd (va_up (va_up P 181 d7_P181) 182 d7_P182) O d7_V0 cnt → va_P (dC, dI) vwCl ws H → va_D A ws → va_S A s.heap H locs → lv_has ls 5 [(0, .ref (ad this)), (1, .ref (ad p0)), (2, .ref (ad a1)), (3, .int y7_3)] → W p l e ({ frames := 6, cells := 0, slots := 0, locals := 170 } : Room) s m args below meth c H locs 0 0 Q (F0 m 7 ls []) := by
    intro n7
    induction n7 with
    | zero => intro y7_3 d7_G183 d7_G203 d7_P181 d7_P182 d7_U184 d7_V0 d7_V1 d7_V11 d7_X0 ws H locs ls hr hW hT hP hD hS hl; exact nomatch (show none = some (c_G183, c_G203, c_P181, c_P182, c_U184, c_V0, c_V1, c_V11, c_X0) from hr)
    | succ n7 ih7 =>
      intro y7_3 d7_G183 d7_G203 d7_P181 d7_P182 d7_U184 d7_V0 d7_V1 d7_V11 d7_X0 ws H locs ls hr hW hT hP hD hS hl
      replace hr : B_X9_turnParts_7 G P U V X O kd ln cnt this p0 a1 (L_X9_turnParts_7 G P U V X O kd ln cnt this p0 a1 n7) y7_3 d7_G183 d7_G203 d7_P181 d7_P182 d7_U184 d7_V0 d7_V1 d7_V11 d7_X0 = some (c_G183, c_G203, c_P181, c_P182, c_U184, c_V0, c_V1, c_V11, c_X0) := hr
      unfold B_X9_turnParts_7 at hr
      refine lv_iload_n hx hb dX9_turnParts_7 rfl (lv_at hl 3 rfl) ?_
      refine lv_aload_n hx hb dX9_turnParts_8 rfl (lv_at hl 2 rfl) ?_
      obtain ⟨i2, hi2⟩ := hW.o10 hk_a1
      refine va_get (D := (dC, dI)) (ci := 10) (v := .int (d7_G203 a1)) (C := RX10) (T := TX10) (N := 4) hx hb hts inX10 hown hK hP i2 hi2 rfl 3 (by decide) (hts (.fieldLink RX9 53 "SpellTurner$WordRow" "count" "I") ic_270) (fun _ h9 => h9) rfl dX9_turnParts_9 ?_
      refine lv_icmp_ge (tgt := 87) hx hb dX9_turnParts_12 (by decide) (fun c12 => ?_) (fun c12 => ?_)
      · replace hr := iteT c12 hr
        exact K 87 ls _ _ _ _ _ _ _ _ _ ws H _ hr dX9_turnParts_87 hW hT hP hD hS
      · replace hr := iteF c12 hr
        refine lv_aload_n hx hb dX9_turnParts_15 rfl (lv_at hl 0 rfl) ?_
        refine lv_aload_n hx hb dX9_turnParts_16 rfl (lv_at hl 1 rfl) ?_
        refine lv_aload_n hx hb dX9_turnParts_17 rfl (lv_at hl 2 rfl) ?_
        obtain ⟨i3, hi3⟩ := hW.o10 hk_a1
        replace hr := nnS hr
        obtain ⟨a18, hn18, hr⟩ := hr
        have hk_a18 : kd a18 = 100 := hT.1 201 _ _ hn18
        refine va_get (D := (dC, dI)) (ci := 10) (v := .ref (ad a18)) (C := RX10) (T := TX10) (N := 4) hx hb hts inX10 hown hK hP i3 hi3 rfl 1 (by decide) (hts (.fieldLink RX9 56 "SpellTurner$WordRow" "letters" "[B") ic_271) (fun _ h9 => h9) (congrArg (fun o => some (va_re ad o)) hn18) dX9_turnParts_18 ?_
        refine lv_iload_n hx hb dX9_turnParts_21 rfl (lv_at hl 3 rfl) ?_
        refine lv_aload_n hx hb dX9_turnParts_22 rfl (lv_at hl 2 rfl) ?_
        obtain ⟨i4, hi4⟩ := hW.o10 hk_a1
        refine va_get (D := (dC, dI)) (ci := 10) (v := .int ((G 200) a1)) (C := RX10) (T := TX10) (N := 4) hx hb hts inX10 hown hK hP i4 hi4 rfl 0 (by decide) (hts (.fieldLink RX9 59 "SpellTurner$WordRow" "width" "I") ic_272) (fun _ h9 => h9) rfl dX9_turnParts_23 ?_
        refine lv_imul hx hb dX9_turnParts_26 ?_
        refine lv_aload_n hx hb dX9_turnParts_27 rfl (lv_at hl 2 rfl) ?_
        obtain ⟨i5, hi5⟩ := hW.o10 hk_a1
        replace hr := nnS hr
        obtain ⟨a28, hn28, hr⟩ := hr
        have hk_a28 : kd a28 = 101 := hT.1 202 _ _ hn28
        refine va_get (D := (dC, dI)) (ci := 10) (v := .ref (ad a28)) (C := RX10) (T := TX10) (N := 4) hx hb hts inX10 hown hK hP i5 hi5 rfl 2 (by decide) (hts (.fieldLink RX9 62 "SpellTurner$WordRow" "lengths" "[I") ic_273) (fun _ h9 => h9) (congrArg (fun o => some (va_re ad o)) hn28) dX9_turnParts_28 ?_
        refine lv_iload_n hx hb dX9_turnParts_31 rfl (lv_at hl 3 rfl) ?_
        obtain ⟨i6, hi6⟩ := hW.v1 hk_a28
        replace hr := iteS hr
        obtain ⟨hi32, hr⟩ := hr
        refine va_iald (f := (d7_V1 a28)) hx hb hK hP i6 1 hi6 rfl (inbV hi32) dX9_turnParts_32 ?_
        replace hr := b6S hr
        obtain ⟨r33z, c33_G183, c33_P181, c33_P182, c33_U184, c33_V0, hc33, hr⟩ := hr
        have hFc := fr_all hD hS hA
        obtain ⟨i7, hi7⟩ := hW.o9 hk_this
        refine va_calli (va_runV (As := [.ref (ad p0), .ref (ad a18), .int (y7_3 * ((G 200) a1)), .int ((d7_V1 a28) (Int32.toNatClampNeg y7_3))]) (rest := []) ⟨hx, hb, hml, hown, hts⟩ (m_X9_runLaws l dC dI kk ad H.size ws (va_up (va_up G 183 d7_G183) 203 d7_G203) (va_up (va_up P 181 d7_P181) 182 d7_P182) (va_up U 184 d7_U184) (va_up (va_up (va_up V 0 d7_V0) 1 d7_V1) 11 d7_V11) (va_up X 0 d7_X0) O kd ln cnt this p0 a18 (y7_3 * ((G 200) a1)) ((d7_V1 a28) (Int32.toNatClampNeg y7_3)) hk_this hk_p0 hk_a18 hW hT r33z c33_G183 c33_P181 c33_P182 c33_U184 c33_V0 hc33) (cwV 4 hts gc_RX9_X9_runLaws_66 rfl rfl rfl (by decide +kernel) ⟨Nat.le_of_ble_eq_true rfl, Nat.le_of_ble_eq_true rfl⟩) ⟨fun a U g mk q => by obtain ⟨q0, q1, qP, qK, qD⟩ := q; exact ⟨q0, q1, qP, va_K.moved (u := U) (U := U.calling g mk a) (Vm.Alike.refl U.vm) qK, qD⟩, va_recv hK hP (ci := 9) (q0 := i7) rfl hi7, fun U hU hW => ⟨rfl, by rw [hU], by rw [hU]; exact hP, va_K.moved hW.alike hK, hD.weaken (fun _ _ _ _ => trivial)⟩⟩ rfl rfl hl.1 rfl (lv_room (Nat.le_of_ble_eq_true rfl)) dX9_turnParts_33 ⟨Nat.le_of_ble_eq_true rfl, Nat.le_of_ble_eq_true rfl⟩) hS (fun q _ h => hFc q h) hFc (fun r33 w8 t H1 locs ht hvm hw hB hz1 hk1 hS => ?_)
        obtain ⟨hw0, hW, hT⟩ := hw
        replace hw0 : r33 = r33z := hw0
        subst hw0
        obtain ⟨hP1, hK1, hD1⟩ := hB
        rw [ht] at hP1
        obtain ⟨hP, hD⟩ := jn_all (w1 := w8) hFc hP1 hD1
        replace hP : va_P (dC, dI) vwCl w8 H1 := hP
        replace hD : va_D A w8 := hD
        clear hFc hP1 hK1 hD1 hk1 hz1 ht hvm
        generalize H1 = H at hP hS ⊢
        refine lv_istore (lv' := [(4, .int r33), (0, .ref (ad this)), (1, .ref (ad p0)), (2, .ref (ad a1)), (3, .int y7_3)]) hx hb dX9_turnParts_36 hl (by decide) rfl (fun ls hl => ?_)
        refine lv_aload_n hx hb dX9_turnParts_38 rfl (lv_at hl 2 rfl) ?_
        obtain ⟨i9, hi9⟩ := hW.o5 hk_p0
        replace hr := nnS hr
        obtain ⟨a39, hn39, hr⟩ := hr
        have hk_a39 : kd a39 = 111 := hT.1 109 _ _ hn39
        refine va_get (D := (dC, dI)) (ci := 5) (v := .ref (ad a39)) (C := RX5) (T := TX5) (N := 11) hx hb hts inX5 hown hK hP i9 hi9 rfl 9 (by decide) (hts (.fieldLink RX9 70 "SpellTurner$Reform" "partHolds" "[Z") ic_309) (fun _ h9 => h9) (congrArg (fun o => some (va_re ad o)) hn39) dX9_turnParts_39 ?_
        refine lv_iload_n hx hb dX9_turnParts_42 rfl (lv_at hl 4 rfl) ?_
        refine lv_iload hx hb dX9_turnParts_43 (lv_at hl 0 rfl) ?_
        obtain ⟨i10, hi10⟩ := hW.v11 hk_a39
        replace hr := iteS hr
        obtain ⟨hi45, hr⟩ := hr
        refine va_zast (f := (d7_V11 a39)) hx hb hK hP hD hS i10 2 hi10 rfl (inbV hi45) dX9_turnParts_45 (fun H locs hP2 hD2 hS => ?_)
        obtain ⟨m45, w11, em45, hP, hD, hW⟩ : ∃ (z : Nat → Nat → Int32) (w : va_W), z = (va_up d7_V11 a39 (upd (d7_V11 a39) (Int32.toNatClampNeg y7_3) (vp_nar .boolean r33))) ∧ va_P (dC, dI) vwCl w H ∧ va_D A w ∧ LW w ad kk kd ln (va_up (va_up (va_up G 183 d7_G183) 203 d7_G203) 183 c33_G183) (va_up (va_up (va_up (va_up P 181 d7_P181) 182 d7_P182) 181 c33_P181) 182 c33_P182) (va_up (va_up U 184 d7_U184) 184 c33_U184) (va_up (va_up (va_up (va_up (va_up V 0 d7_V0) 1 d7_V1) 11 d7_V11) 0 c33_V0) 11 z) (va_up X 0 d7_X0) O := ⟨_, _, rfl, hP2, hD2, hW.setV hD hi10 (by rw [hk_a39]; decide) 11 (upd (d7_V11 a39) (Int32.toNatClampNeg y7_3) (vp_nar .boolean r33)) (by rw [hk_a39]; rfl)⟩
        replace hr := vlS hr m45 em45
        clear em45
        refine lv_aload_n hx hb dX9_turnParts_46 rfl (lv_at hl 2 rfl) ?_
        obtain ⟨i12, hi12⟩ := hW.o5 hk_p0
        replace hr := nnS hr
        obtain ⟨a47, hn47, hr⟩ := hr
        have hk_a47 : kd a47 = 200 := hT.1 110 _ _ hn47
        refine va_get (D := (dC, dI)) (ci := 5) (v := .ref (ad a47)) (C := RX5) (T := TX5) (N := 11) hx hb hts inX5 hown hK hP i12 hi12 rfl 10 (by decide) (hts (.fieldLink RX9 74 "SpellTurner$Reform" "partUses" "[J") ic_308) (fun _ h9 => h9) (congrArg (fun o => some (va_re ad o)) hn47) dX9_turnParts_47 ?_
        refine lv_iload_n hx hb dX9_turnParts_50 rfl (lv_at hl 4 rfl) ?_
        refine lv_aload_n hx hb dX9_turnParts_51 rfl (lv_at hl 1 rfl) ?_
        obtain ⟨i13, hi13⟩ := hW.o9 hk_this
        refine va_get (D := (dC, dI)) (ci := 9) (v := .long (c33_U184 this)) (C := RX9) (T := TX9) (N := 8) hx hb hts inX9 hown hK hP i13 hi13 rfl 4 (by decide) (hts (.fieldLink RX9 29 "SpellTurner$Turner" "used" "J") ic_294) (fun _ h9 => h9) rfl dX9_turnParts_52 ?_
        obtain ⟨i14, hi14⟩ := hW.x0 hk_a47
        replace hr := iteS hr
        obtain ⟨hi55, hr⟩ := hr
        refine va_last (f := (d7_X0 a47)) hx hb hK hP hD hS i14 3 hi14 rfl (inbV hi55) dX9_turnParts_55 (fun H locs hP2 hD2 hS => ?_)
        obtain ⟨m55, w15, em55, hP, hD, hW⟩ : ∃ (z : Nat → Nat → Int64) (w : va_W), z = (va_up d7_X0 a47 (vp_updL (d7_X0 a47) (Int32.toNatClampNeg y7_3) (c33_U184 this))) ∧ va_P (dC, dI) vwCl w H ∧ va_D A w ∧ LW w ad kk kd ln (va_up (va_up (va_up G 183 d7_G183) 203 d7_G203) 183 c33_G183) (va_up (va_up (va_up (va_up P 181 d7_P181) 182 d7_P182) 181 c33_P181) 182 c33_P182) (va_up (va_up U 184 d7_U184) 184 c33_U184) (va_up (va_up (va_up (va_up (va_up V 0 d7_V0) 1 d7_V1) 11 d7_V11) 0 c33_V0) 11 m45) (va_up (va_up X 0 d7_X0) 0 z) O := ⟨_, _, rfl, hP2, hD2, hW.setX hD hi14 (by rw [hk_a47]; decide) 0 (vp_updL (d7_X0 a47) (Int32.toNatClampNeg y7_3) (c33_U184 this)) (by rw [hk_a47]; rfl)⟩
        replace hr := vlS hr m55 em55
        clear em55
        refine lv_aload_n hx hb dX9_turnParts_56 rfl (lv_at hl 2 rfl) ?_
        obtain ⟨i16, hi16⟩ := hW.o5 hk_p0
        replace hr := nnS hr
        obtain ⟨a57, hn57, hr⟩ := hr
        have hk_a57 : kd a57 = 11 := hT.1 108 _ _ hn57
        refine va_get (D := (dC, dI)) (ci := 5) (v := .ref (ad a57)) (C := RX5) (T := TX5) (N := 11) hx hb hts inX5 hown hK hP i16 hi16 rfl 8 (by decide) (hts (.fieldLink RX9 78 "SpellTurner$Reform" "turnedParts" "LSpellTurner$WordRow;") ic_303) (fun _ h9 => h9) (congrArg (fun o => some (va_re ad o)) hn57) dX9_turnParts_57 ?_
        refine lv_aload_n hx hb dX9_turnParts_60 rfl (lv_at hl 1 rfl) ?_
        obtain ⟨i17, hi17⟩ := hW.o9 hk_this
        replace hr := nnS hr
        obtain ⟨a61, hn61, hr⟩ := hr
        have hk_a61 : kd a61 = 100 := hT.1 181 _ _ hn61
        refine va_get (D := (dC, dI)) (ci := 9) (v := .ref (ad a61)) (C := RX9) (T := TX9) (N := 8) hx hb hts inX9 hown hK hP i17 hi17 rfl 1 (by decide) (hts (.fieldLink RX9 18 "SpellTurner$Turner" "now" "[B") ic_280) (fun _ h9 => h9) (congrArg (fun o => some (va_re ad o)) hn61) dX9_turnParts_61 ?_
        refine lv_iconst (v := 0) hx hb dX9_turnParts_64 (by decide +kernel) ?_
        refine lv_iload hx hb dX9_turnParts_65 (lv_at hl 0 rfl) ?_
        replace hr := jnS hr
        obtain ⟨j78, hj78, hr⟩ := hr
        have Jj78 : ∀ (t78_0 : Int32) (ws : va_W) (H : Heap) (locs : List Loc) (ls : Array Slot), j78 t78_0 = some (c_G183, c_G203, c_P181, c_P182, c_U184, c_V0, c_V1, c_V11, c_X0) → LW ws ad kk kd ln (va_up (va_up G 183 c33_G183) 203 d7_G203) (va_up (va_up P 181 c33_P181) 182 c33_P182) (va_up U 184 c33_U184) (va_up (va_up (va_up V 0 c33_V0) 1 d7_V1) 11 m45) (va_up X 0 m55) O → TYP kd (va_up (va_up P 181 c33_P181) 182 c33_P182) O c33_V0 cnt → va_P (dC, dI) vwCl ws H → va_D A ws → va_S A s.heap H locs → lv_has ls 5 [(0, .ref (ad this)), (1, .ref (ad p0)), (2, .ref (ad a1)), (3, .int y7_3)] → W p l e ({ frames := 6, cells := 0, slots := 0, locals := 170 } : Room) s m args below meth c H locs 0 0 Q (F0 m 78 ls [.int t78_0, .int 0, .ref (ad a61), .ref (ad a57)]) := by
          intro t78_0 ws H locs ls hr hW hT hP hD hS hl
          rw [hj78] at hr
          replace hr := b3S hr
          obtain ⟨c78_G203, c78_V0, c78_V1, hc78, hr⟩ := hr
          have hFc := fr_all hD hS hA
          obtain ⟨i18, hi18⟩ := hW.o10 hk_a57
          refine va_callv (va_runV (As := [.ref (ad a61), .int 0, .int t78_0]) (rest := []) ⟨hx, hb, hml, hown, hts⟩ (m_X10_add l dC dI kk ad H.size ws (va_up (va_up G 183 c33_G183) 203 d7_G203) (va_up (va_up P 181 c33_P181) 182 c33_P182) (va_up U 184 c33_U184) (va_up (va_up (va_up V 0 c33_V0) 1 d7_V1) 11 m45) (va_up X 0 m55) O kd ln cnt a57 a61 0 t78_0 hk_a57 hk_a61 hW hT c78_G203 c78_V0 c78_V1 hc78) (cwV 3 hts gc_RX9_X10_add_81 rfl rfl rfl (by decide +kernel) ⟨Nat.le_of_ble_eq_true rfl, Nat.le_of_ble_eq_true rfl⟩) ⟨fun a U g mk q => by obtain ⟨q0, q1, qP, qK, qD⟩ := q; exact ⟨q0, q1, qP, va_K.moved (u := U) (U := U.calling g mk a) (Vm.Alike.refl U.vm) qK, qD⟩, va_recv hK hP (ci := 10) (q0 := i18) rfl hi18, fun U hU hW => ⟨rfl, by rw [hU], by rw [hU]; exact hP, va_K.moved hW.alike hK, hD.weaken (fun _ _ _ _ => trivial)⟩⟩ rfl rfl hl.1 rfl (lv_room (Nat.le_of_ble_eq_true rfl)) dX9_turnParts_78 ⟨Nat.le_of_ble_eq_true rfl, Nat.le_of_ble_eq_true rfl⟩) hS (fun q _ h => hFc q h) hFc (fun w19 t H1 locs ht hvm hw hB hz1 hk1 hS => ?_)
          obtain ⟨hW, hT⟩ := hw
          obtain ⟨hP1, hK1, hD1⟩ := hB
          rw [ht] at hP1
          obtain ⟨hP, hD⟩ := jn_all (w1 := w19) hFc hP1 hD1
          replace hP : va_P (dC, dI) vwCl w19 H1 := hP
          replace hD : va_D A w19 := hD
          clear hFc hP1 hK1 hD1 hk1 hz1 ht hvm
          generalize H1 = H at hP hS ⊢
          refine lv_iinc (v := (y7_3 + 1)) (lv' := [(3, .int (y7_3 + 1)), (0, .ref (ad this)), (1, .ref (ad p0)), (2, .ref (ad a1))]) hx hb dX9_turnParts_81 hl (k := 3) rfl rfl (by decide) rfl (fun ls hl => ?_)
          refine lv_goto (tgt := 7) hx hb dX9_turnParts_84 (by decide) ?_
          have eG : (va_up (va_up (va_up G 183 c33_G183) 203 d7_G203) 203 c78_G203) = (va_up (va_up G 183 c33_G183) 203 c78_G203) := by
            funext k
            by_cases h183 : k = 183
            · subst h183; rfl
            by_cases h203 : k = 203
            · subst h203; rfl
            · simp only [va_up, h183, h203, if_false]
          rw [eG] at hW
          clear eG
          have eV : (va_up (va_up (va_up (va_up (va_up V 0 c33_V0) 1 d7_V1) 11 m45) 0 c78_V0) 1 c78_V1) = (va_up (va_up (va_up V 0 c78_V0) 1 c78_V1) 11 m45) := by
            funext k
            by_cases h0 : k = 0
            · subst h0; rfl
            by_cases h1 : k = 1
            · subst h1; rfl
            by_cases h11 : k = 11
            · subst h11; rfl
            · simp only [va_up, h0, h1, h11, if_false]
          rw [eV] at hW
          clear eV
          exact ih7 (y7_3 + 1) c33_G183 c78_G203 c33_P181 c33_P182 c33_U184 c78_V0 c78_V1 m45 m55 w19 H _ ls hr hW hT hP hD hS (lv_sub hl [1, 2, 3, 0] rfl)
        refine lv_if_eq (tgt := 77) hx hb dX9_turnParts_67 (by decide) (fun c67 => ?_) (fun c67 => ?_)
        · replace hr := iteT c67 hr
          refine lv_iconst (v := 0) hx hb dX9_turnParts_77 (by decide +kernel) ?_
          have eG : (va_up (va_up (va_up G 183 d7_G183) 203 d7_G203) 183 c33_G183) = (va_up (va_up G 183 c33_G183) 203 d7_G203) := by
            funext k
            by_cases h183 : k = 183
            · subst h183; rfl
            by_cases h203 : k = 203
            · subst h203; rfl
            · simp only [va_up, h183, h203, if_false]
          rw [eG] at hW
          clear eG
          have eP : (va_up (va_up (va_up (va_up P 181 d7_P181) 182 d7_P182) 181 c33_P181) 182 c33_P182) = (va_up (va_up P 181 c33_P181) 182 c33_P182) := by
            funext k
            by_cases h181 : k = 181
            · subst h181; rfl
            by_cases h182 : k = 182
            · subst h182; rfl
            · simp only [va_up, h181, h182, if_false]
          rw [eP] at hW
          rw [eP] at hT
          clear eP
          have eU : (va_up (va_up U 184 d7_U184) 184 c33_U184) = (va_up U 184 c33_U184) := by
            funext k
            by_cases h184 : k = 184
            · subst h184; rfl
            · simp only [va_up, h184, if_false]
          rw [eU] at hW
          clear eU
          have eV : (va_up (va_up (va_up (va_up (va_up V 0 d7_V0) 1 d7_V1) 11 d7_V11) 0 c33_V0) 11 m45) = (va_up (va_up (va_up V 0 c33_V0) 1 d7_V1) 11 m45) := by
            funext k
            by_cases h0 : k = 0
            · subst h0; rfl
            by_cases h1 : k = 1
            · subst h1; rfl
            by_cases h11 : k = 11
            · subst h11; rfl
            · simp only [va_up, h0, h1, h11, if_false]
          rw [eV] at hW
          clear eV
          have eX : (va_up (va_up X 0 d7_X0) 0 m55) = (va_up X 0 m55) := by
            funext k
            by_cases h0 : k = 0
            · subst h0; rfl
            · simp only [va_up, h0, if_false]
          rw [eX] at hW
          clear eX
          exact Jj78 0 w15 H _ ls hr hW hT hP hD hS (lv_sub hl [1, 2, 3, 4] rfl)
        · replace hr := iteF c67 hr
          refine lv_aload_n hx hb dX9_turnParts_70 rfl (lv_at hl 1 rfl) ?_
          obtain ⟨i20, hi20⟩ := hW.o9 hk_this
          refine va_get (D := (dC, dI)) (ci := 9) (v := .int (c33_G183 this)) (C := RX9) (T := TX9) (N := 8) hx hb hts inX9 hown hK hP i20 hi20 rfl 3 (by decide) (hts (.fieldLink RX9 25 "SpellTurner$Turner" "length" "I") ic_282) (fun _ h9 => h9) rfl dX9_turnParts_71 ?_
          refine lv_goto (tgt := 78) hx hb dX9_turnParts_74 (by decide) ?_
          have eG : (va_up (va_up (va_up G 183 d7_G183) 203 d7_G203) 183 c33_G183) = (va_up (va_up G 183 c33_G183) 203 d7_G203) := by
            funext k
            by_cases h183 : k = 183
            · subst h183; rfl
            by_cases h203 : k = 203
            · subst h203; rfl
            · simp only [va_up, h183, h203, if_false]
          rw [eG] at hW
          clear eG
          have eP : (va_up (va_up (va_up (va_up P 181 d7_P181) 182 d7_P182) 181 c33_P181) 182 c33_P182) = (va_up (va_up P 181 c33_P181) 182 c33_P182) := by
            funext k
            by_cases h181 : k = 181
            · subst h181; rfl
            by_cases h182 : k = 182
            · subst h182; rfl
            · simp only [va_up, h181, h182, if_false]
          rw [eP] at hW
          rw [eP] at hT
          clear eP
          have eU : (va_up (va_up U 184 d7_U184) 184 c33_U184) = (va_up U 184 c33_U184) := by
            funext k
            by_cases h184 : k = 184
            · subst h184; rfl
            · simp only [va_up, h184, if_false]
          rw [eU] at hW
          clear eU
          have eV : (va_up (va_up (va_up (va_up (va_up V 0 d7_V0) 1 d7_V1) 11 d7_V11) 0 c33_V0) 11 m45) = (va_up (va_up (va_up V 0 c33_V0) 1 d7_V1) 11 m45) := by
            funext k
            by_cases h0 : k = 0
            · subst h0; rfl
            by_cases h1 : k = 1
            · subst h1; rfl
            by_cases h11 : k = 11
            · subst h11; rfl
            · simp only [va_up, h0, h1, h11, if_false]
          rw [eV] at hW
          clear eV
          have eX : (va_up (va_up X 0 d7_X0) 0 m55) = (va_up X 0 m55) := by
            funext k
            by_cases h0 : k = 0
            · subst h0; rfl
            · simp only [va_up, h0, if_false]
          rw [eX] at hW
          clear eX
          exact Jj78 (c33_G183 this) w15 H _ ls hr hW hT hP hD hS (lv_sub hl [1, 2, 3, 4] rfl)
  have eG : G = (va_up (va_up G 183 (G 183)) 203 (G 203)) := by
    funext k
    by_cases h183 : k = 183
    · subst h183; rfl
    by_cases h203 : k = 203
    · subst h203; rfl
    · simp only [va_up, h183, h203, if_false]
  rw [eG] at hW
  clear eG
  have eP : P = (va_up (va_up P 181 (P 181)) 182 (P 182)) := by
    funext k
    by_cases h181 : k = 181
    · subst h181; rfl
    by_cases h182 : k = 182
    · subst h182; rfl
    · simp only [va_up, h181, h182, if_false]
  rw [eP] at hW
  rw [eP] at hT
  clear eP
  have eU : U = (va_up U 184 (U 184)) := by
    funext k
    by_cases h184 : k = 184
    · subst h184; rfl
    · simp only [va_up, h184, if_false]
  rw [eU] at hW
  clear eU
  have eV : V = (va_up (va_up (va_up V 0 (V 0)) 1 (V 1)) 11 (V 11)) := by
    funext k
    by_cases h0 : k = 0
    · subst h0; rfl
    by_cases h1 : k = 1
    · subst h1; rfl
    by_cases h11 : k = 11
    · subst h11; rfl
    · simp only [va_up, h0, h1, h11, if_false]
  rw [eV] at hW
  clear eV
  have eX : X = (va_up X 0 (X 0)) := by
    funext k
    by_cases h0 : k = 0
    · subst h0; rfl
    · simp only [va_up, h0, if_false]
  rw [eX] at hW
  clear eX
  exact lp7 NN 0 (G 183) (G 203) (P 181) (P 182) (U 184) (V 0) (V 1) (V 11) (X 0) ws H _ ls hr hW hT hP hD hS (lv_sub hl [2, 3, 1, 0] rfl)
set_option maxHeartbeats 4000000 in
set_option maxRecDepth 100000 in
theorem m_X9_turnParts (l : Launch) (dC : Nat → ClassId) (dI : Nat → Nat → Nat) (kk : Nat → ClassId) (ad : Nat → Nat) (sz : Nat) (ws : va_W) (G : Nat → Nat → Int32) (P : Nat → Nat → Option Nat) (U : Nat → Nat → Int64) (V : Nat → Nat → Nat → Int32) (X : Nat → Nat → Nat → Int64) (O : Nat → Nat → Nat → Option Nat) (kd : Nat → Nat) (ln : Nat → Nat) (cnt : Nat) (this : Nat) (p0 : Nat) (hk_this : kd this = 10) (hk_p0 : kd p0 = 6) (hW : LW ws ad kk kd ln G P U V X O) (hT : TYP kd P O (V 0) cnt) (c_G183 : Nat → Int32) (c_G203 : Nat → Int32) (c_P181 : Nat → Option Nat) (c_P182 : Nat → Option Nat) (c_U184 : Nat → Int64) (c_V0 : Nat → Nat → Int32) (c_V1 : Nat → Nat → Int32) (c_V11 : Nat → Nat → Int32) (c_X0 : Nat → Nat → Int64) (hr : f_X9_turnParts G P U V X O kd ln cnt this p0 = some (c_G183, c_G203, c_P181, c_P182, c_U184, c_V0, c_V1, c_V11, c_X0)) : Met l yX9_turnParts vmX9_turnParts ({ frames := 6, cells := 0, slots := 0, locals := 170 } : Room) (va_Pc [.ref (ad this), .ref (ad p0)] (fun U => U.heap.size = sz ∧ va_P (dC, dI) vwCl ws U.heap ∧ va_K (dC, dI) vwCl (cT kk) U ∧ va_D (fun _ => True) ws)) (va_Qv (fun w => LW w ad kk kd ln (va_up (va_up G 183 c_G183) 203 c_G203) (va_up (va_up P 181 c_P181) 182 c_P182) (va_up U 184 c_U184) (va_up (va_up (va_up V 0 c_V0) 1 c_V1) 11 c_V11) (va_up X 0 c_X0) O ∧ TYP kd (va_up (va_up P 181 c_P181) 182 c_P182) O c_V0 cnt) (fun w t => va_P (dC, dI) vwCl w t.heap ∧ va_K (dC, dI) vwCl (cT kk) t ∧ va_D (va_A ws sz) w) (va_A ws sz)) 0 0 (va_A ws sz) := by
  refine Met.ofW (cc := cX9_turnParts) (maxL := 5) (ret := none) (by decide) rfl ?_
  intro p e s m args below meth c s₁ B hml hv
  obtain ⟨rfl, hsz, hP, hK, hD0⟩ := hv
  have hx := B.exec
  have hb := B.bytes
  have hrt := B.returns
  have hts := atoms_spec (ws := vmX9_turnParts) B.pre
  have hown : s.vm.findClass RX9 = some m.cls := findClass_of_methodNamed B.named
  subst hsz
  have hD := hD0.self (sz := s.heap.size)
  generalize hAe : va_A ws s.heap.size = A at hD ⊢
  have hA : ∀ q : Nat, s.heap.size ≤ q → A q := fun q h => by rw [← hAe]; exact Or.inr h
  have hS : va_S A s.heap s.heap [] := va_S.rf
  have hl := lv_entry ([.ref (ad this), .ref (ad p0)]) (n := 5) (Nat.le_of_ble_eq_true rfl)
  rw [lg_entry_eq]
  generalize (lg_sl ([.ref (ad this), .ref (ad p0)]) ++ List.replicate (5 - (lg_sl ([.ref (ad this), .ref (ad p0)])).length) Slot.unset).toArray = ls at hl ⊢
  exact bm_X9_turnParts this p0 hk_this hk_p0 c_G183 c_G203 c_P181 c_P182 c_U184 c_V0 c_V1 c_V11 c_X0 hr hx hb hml hown hts hA hK hW hT hP hD hS hl (fun pc ls c_G183z c_G203z c_P181z c_P182z c_U184z c_V0z c_V1z c_V11z c_X0z ws H locs he hd hW hT hP hD hS => by cases he; exact W.vret hx hb hrt (fun t ht hW9 => ⟨⟨ws, rfl, ⟨hW, hT⟩, by rw [ht]; exact hP, va_K.moved hW9.alike hK, hD⟩, hS.F ht⟩) hS.2.2 hd)
set_option maxHeartbeats 4000000 in
set_option maxRecDepth 100000 in
theorem bm_X11_turn {p : Program} {l : Launch} {e : Env} {s : State} {m : MethodId} {args : Array Value} {below : List Frame} {meth : Method} {c : Code} {Q : State → Prop} {A : Nat → Prop} {dC : Nat → ClassId} {dI : Nat → Nat → Nat} {kk : Nat → ClassId} {ad : Nat → Nat} {ws : va_W} {G : Nat → Nat → Int32} {P : Nat → Nat → Option Nat} {U : Nat → Nat → Int64} {V : Nat → Nat → Nat → Int32} {X : Nat → Nat → Nat → Int64} {O : Nat → Nat → Nat → Option Nat} {kd : Nat → Nat} {ln : Nat → Nat} {cnt : Nat} {H : Heap} {locs : List Loc} {ls : Array Slot} (this : Nat) (p0 : Int32) (p1 : Int32) (hk_this : kd this = 12) (r : Int32) (c_G60 : Nat → Int32) (c_G141 : Nat → Int32) (c_G183 : Nat → Int32) (c_G203 : Nat → Int32) (c_P66 : Nat → Option Nat) (c_P181 : Nat → Option Nat) (c_P182 : Nat → Option Nat) (c_P186 : Nat → Option Nat) (c_P187 : Nat → Option Nat) (c_U184 : Nat → Int64) (c_V0 : Nat → Nat → Int32) (c_V1 : Nat → Nat → Int32) (c_V2 : Nat → Nat → Int32) (c_V12 : Nat → Nat → Int32) (hr : f_X11_turn G P U V X O kd ln cnt this p0 p1 = some (r, c_G60, c_G141, c_G183, c_G203, c_P66, c_P181, c_P182, c_P186, c_P187, c_U184, c_V0, c_V1, c_V2, c_V12)) (hx : p.tables.exec = Jvm.exec) (hb : c.code = cX11_turn) (hml : c.maxLocals = 4) (hown : s.vm.findClass RX11 = some m.cls) (hts : ∀ w ∈ vmX11_turn, w.before args s = true) (hA : ∀ q : Nat, s.heap.size ≤ q → A q) (hK : va_K (dC, dI) vwCl (cT kk) s) (hW : LW ws ad kk kd ln G P U V X O) (hT : TYP kd P O (V 0) cnt) (hP : va_P (dC, dI) vwCl ws H) (hD : va_D A ws) (hS : va_S A s.heap H locs) (hl : lv_has ls 4 [(0, .ref (ad this)), (1, .int p0), (2, .int p1)])
    (K : ∀ (pc : Nat) (ls : Array Slot) (rz : Int32) (c_G60z : Nat → Int32) (c_G141z : Nat → Int32) (c_G183z : Nat → Int32) (c_G203z : Nat → Int32) (c_P66z : Nat → Option Nat) (c_P181z : Nat → Option Nat) (c_P182z : Nat → Option Nat) (c_P186z : Nat → Option Nat) (c_P187z : Nat → Option Nat) (c_U184z : Nat → Int64) (c_V0z : Nat → Nat → Int32) (c_V1z : Nat → Nat → Int32) (c_V2z : Nat → Nat → Int32) (c_V12z : Nat → Nat → Int32) (ws : va_W) (H : Heap) (locs : List Loc), some (rz, c_G60z, c_G141z, c_G183z, c_G203z, c_P66z, c_P181z, c_P182z, c_P186z, c_P187z, c_U184z, c_V0z, c_V1z, c_V2z, c_V12z) = some (r, c_G60, c_G141, c_G183, c_G203, c_P66, c_P181, c_P182, c_P186, c_P187, c_U184, c_V0, c_V1, c_V2, c_V12) → decode cX11_turn pc = .ok (.ireturn, 1) → LW ws ad kk kd ln (va_up (va_up (va_up (va_up G 60 c_G60z) 141 c_G141z) 183 c_G183z) 203 c_G203z) (va_up (va_up (va_up (va_up (va_up P 66 c_P66z) 181 c_P181z) 182 c_P182z) 186 c_P186z) 187 c_P187z) (va_up U 184 c_U184z) (va_up (va_up (va_up (va_up V 0 c_V0z) 1 c_V1z) 2 c_V2z) 12 c_V12z) X O → TYP kd (va_up (va_up (va_up (va_up (va_up P 66 c_P66z) 181 c_P181z) 182 c_P182z) 186 c_P186z) 187 c_P187z) O c_V0z cnt → va_P (dC, dI) vwCl ws H → va_D A ws → va_S A s.heap H locs → W p l e ({ frames := 49, cells := 0, slots := 0, locals := 1275 } : Room) s m args below meth c H locs 0 0 Q (F0 m pc ls [.int rz])) : W p l e ({ frames := 49, cells := 0, slots := 0, locals := 1275 } : Room) s m args below meth c H locs 0 0 Q (F0 m 0 ls []) := by
  unfold f_X11_turn at hr
  refine lv_aload_n hx hb dX11_turn_0 rfl (lv_at hl 0 rfl) ?_
  obtain ⟨i1, hi1⟩ := hW.o11 hk_this
  replace hr := nnS hr
  obtain ⟨a1, hn1, hr⟩ := hr
  have hk_a1 : kd a1 = 8 := hT.1 220 _ _ hn1
  refine va_get (D := (dC, dI)) (ci := 11) (v := .ref (ad a1)) (C := RX11) (T := TX11) (N := 17) hx hb hts inX11 hown hK hP i1 hi1 rfl 0 (by decide) (hts (.fieldLink RX11 12 "SpellTurner" "tape" "LSpellTurner$Tape;") ic_48) (fun _ h9 => h9) (congrArg (fun o => some (va_re ad o)) hn1) dX11_turn_1 ?_
  replace hr := b2S hr
  obtain ⟨r4z, c4_G141, hc4, hr⟩ := hr
  have hFc := fr_all hD hS hA
  obtain ⟨i2, hi2⟩ := hW.o7 hk_a1
  refine va_calli (va_runV (As := []) (rest := []) ⟨hx, hb, hml, hown, hts⟩ (m_X7_take l dC dI kk ad H.size ws G P U V X O kd ln cnt a1 hk_a1 hW hT r4z c4_G141 hc4) (cwV 0 hts gc_RX11_X7_take_112 rfl rfl rfl (by decide +kernel) ⟨Nat.le_of_ble_eq_true rfl, Nat.le_of_ble_eq_true rfl⟩) ⟨fun a U g mk q => by obtain ⟨q0, q1, qP, qK, qD⟩ := q; exact ⟨q0, q1, qP, va_K.moved (u := U) (U := U.calling g mk a) (Vm.Alike.refl U.vm) qK, qD⟩, va_recv hK hP (ci := 7) (q0 := i2) rfl hi2, fun U hU hW => ⟨rfl, by rw [hU], by rw [hU]; exact hP, va_K.moved hW.alike hK, hD.weaken (fun _ _ _ _ => trivial)⟩⟩ rfl rfl hl.1 rfl (lv_room (Nat.le_of_ble_eq_true rfl)) dX11_turn_4 ⟨Nat.le_of_ble_eq_true rfl, Nat.le_of_ble_eq_true rfl⟩) hS (fun q _ h => hFc q h) hFc (fun r4 w3 t H1 locs ht hvm hw hB hz1 hk1 hS => ?_)
  obtain ⟨hw0, hW, hT⟩ := hw
  replace hw0 : r4 = r4z := hw0
  subst hw0
  obtain ⟨hP1, hK1, hD1⟩ := hB
  rw [ht] at hP1
  obtain ⟨hP, hD⟩ := jn_all (w1 := w3) hFc hP1 hD1
  replace hP : va_P (dC, dI) vwCl w3 H1 := hP
  replace hD : va_D A w3 := hD
  clear hFc hP1 hK1 hD1 hk1 hz1 ht hvm
  generalize H1 = H at hP hS ⊢
  refine lv_istore_n (lv' := [(3, .int r4), (0, .ref (ad this)), (1, .int p0), (2, .int p1)]) hx hb dX11_turn_7 rfl hl (by decide) rfl (fun ls hl => ?_)
  refine lv_aload_n hx hb dX11_turn_8 rfl (lv_at hl 1 rfl) ?_
  refine lv_iload_n hx hb dX11_turn_9 rfl (lv_at hl 2 rfl) ?_
  refine lv_iload_n hx hb dX11_turn_10 rfl (lv_at hl 3 rfl) ?_
  replace hr := b1S hr
  obtain ⟨r11z, hc11, hr⟩ := hr
  have hFc := fr_all hD hS hA
  obtain ⟨i4, hi4⟩ := hW.o11 hk_this
  refine va_calli (va_runV (As := [.int p0, .int p1]) (rest := []) ⟨hx, hb, hml, hown, hts⟩ (m_X11_areStages l dC dI kk ad H.size w3 (va_up G 141 c4_G141) P U V X O kd ln cnt this p0 p1 hk_this hW hT r11z hc11) (cwV 2 hts gc_RX11_X11_areStages_160 rfl rfl rfl (by decide +kernel) ⟨Nat.le_of_ble_eq_true rfl, Nat.le_of_ble_eq_true rfl⟩) ⟨fun a U g mk q => by obtain ⟨q0, q1, qP, qK, qD⟩ := q; exact ⟨q0, q1, qP, va_K.moved (u := U) (U := U.calling g mk a) (Vm.Alike.refl U.vm) qK, qD⟩, va_recv hK hP (ci := 11) (q0 := i4) rfl hi4, fun U hU hW => ⟨rfl, by rw [hU], by rw [hU]; exact hP, va_K.moved hW.alike hK, hD.weaken (fun _ _ _ _ => trivial)⟩⟩ rfl rfl hl.1 rfl (lv_room (Nat.le_of_ble_eq_true rfl)) dX11_turn_11 ⟨Nat.le_of_ble_eq_true rfl, Nat.le_of_ble_eq_true rfl⟩) hS (fun q _ h => hFc q h) hFc (fun r11 w5 t H1 locs ht hvm hw hB hz1 hk1 hS => ?_)
  obtain ⟨hw0, hW, hT⟩ := hw
  replace hw0 : r11 = r11z := hw0
  subst hw0
  obtain ⟨hP1, hK1, hD1⟩ := hB
  rw [ht] at hP1
  obtain ⟨hP, hD⟩ := jn_all (w1 := w5) hFc hP1 hD1
  replace hP : va_P (dC, dI) vwCl w5 H1 := hP
  replace hD : va_D A w5 := hD
  clear hFc hP1 hK1 hD1 hk1 hz1 ht hvm
  generalize H1 = H at hP hS ⊢
  replace hr := jnS hr
  obtain ⟨j28, hj28, hr⟩ := hr
  have Jj28 : ∀ (ws : va_W) (H : Heap) (locs : List Loc) (ls : Array Slot), j28 () = some (r, c_G60, c_G141, c_G183, c_G203, c_P66, c_P181, c_P182, c_P186, c_P187, c_U184, c_V0, c_V1, c_V2, c_V12) → LW ws ad kk kd ln (va_up G 141 c4_G141) P U V X O → TYP kd P O (V 0) cnt → va_P (dC, dI) vwCl ws H → va_D A ws → va_S A s.heap H locs → lv_has ls 4 [] → W p l e ({ frames := 49, cells := 0, slots := 0, locals := 1275 } : Room) s m args below meth c H locs 0 0 Q (F0 m 28 ls []) := by
    intro ws H locs ls hr hW hT hP hD hS hl
    rw [hj28] at hr
    refine lv_bipush (v := (-2)) hx hb dX11_turn_28 (by decide +kernel) ?_
    have eG : (va_up G 141 c4_G141) = (va_up (va_up (va_up (va_up G 60 (G 60)) 141 c4_G141) 183 (G 183)) 203 (G 203)) := by
      funext k
      by_cases h60 : k = 60
      · subst h60; rfl
      by_cases h141 : k = 141
      · subst h141; rfl
      by_cases h183 : k = 183
      · subst h183; rfl
      by_cases h203 : k = 203
      · subst h203; rfl
      · simp only [va_up, h60, h141, h183, h203, if_false]
    rw [eG] at hW
    clear eG
    have eP : P = (va_up (va_up (va_up (va_up (va_up P 66 (P 66)) 181 (P 181)) 182 (P 182)) 186 (P 186)) 187 (P 187)) := by
      funext k
      by_cases h66 : k = 66
      · subst h66; rfl
      by_cases h181 : k = 181
      · subst h181; rfl
      by_cases h182 : k = 182
      · subst h182; rfl
      by_cases h186 : k = 186
      · subst h186; rfl
      by_cases h187 : k = 187
      · subst h187; rfl
      · simp only [va_up, h66, h181, h182, h186, h187, if_false]
    rw [eP] at hW
    rw [eP] at hT
    clear eP
    have eU : U = (va_up U 184 (U 184)) := by
      funext k
      by_cases h184 : k = 184
      · subst h184; rfl
      · simp only [va_up, h184, if_false]
    rw [eU] at hW
    clear eU
    have eV : V = (va_up (va_up (va_up (va_up V 0 (V 0)) 1 (V 1)) 2 (V 2)) 12 (V 12)) := by
      funext k
      by_cases h0 : k = 0
      · subst h0; rfl
      by_cases h1 : k = 1
      · subst h1; rfl
      by_cases h2 : k = 2
      · subst h2; rfl
      by_cases h12 : k = 12
      · subst h12; rfl
      · simp only [va_up, h0, h1, h2, h12, if_false]
    rw [eV] at hW
    clear eV
    exact K 30 ls _ _ _ _ _ _ _ _ _ _ _ _ _ _ _ ws H _ hr dX11_turn_30 hW hT hP hD hS
  refine lv_if_eq (tgt := 28) hx hb dX11_turn_14 (by decide) (fun c14 => ?_) (fun c14 => ?_)
  · replace hr := iteT c14 hr
    exact Jj28 w5 H _ ls hr hW hT hP hD hS (lv_sub hl [] rfl)
  · replace hr := iteF c14 hr
    refine lv_aload_n hx hb dX11_turn_17 rfl (lv_at hl 1 rfl) ?_
    obtain ⟨i6, hi6⟩ := hW.o11 hk_this
    replace hr := nnS hr
    obtain ⟨a18, hn18, hr⟩ := hr
    have hk_a18 : kd a18 = 8 := hT.1 220 _ _ hn18
    refine va_get (D := (dC, dI)) (ci := 11) (v := .ref (ad a18)) (C := RX11) (T := TX11) (N := 17) hx hb hts inX11 hown hK hP i6 hi6 rfl 0 (by decide) (hts (.fieldLink RX11 12 "SpellTurner" "tape" "LSpellTurner$Tape;") ic_48) (fun _ h9 => h9) (congrArg (fun o => some (va_re ad o)) hn18) dX11_turn_18 ?_
    refine lv_iload_n hx hb dX11_turn_21 rfl (lv_at hl 0 rfl) ?_
    replace hr := b1S hr
    obtain ⟨r22z, hc22, hr⟩ := hr
    have hFc := fr_all hD hS hA
    obtain ⟨i7, hi7⟩ := hW.o7 hk_a18
    refine va_calli (va_runV (As := [.int r4]) (rest := []) ⟨hx, hb, hml, hown, hts⟩ (m_X7_isWord l dC dI kk ad H.size w5 (va_up G 141 c4_G141) P U V X O kd ln cnt a18 r4 hk_a18 hW hT r22z hc22) (cwV 1 hts gc_RX11_X7_isWord_164 rfl rfl rfl (by decide +kernel) ⟨Nat.le_of_ble_eq_true rfl, Nat.le_of_ble_eq_true rfl⟩) ⟨fun a U g mk q => by obtain ⟨q0, q1, qP, qK, qD⟩ := q; exact ⟨q0, q1, qP, va_K.moved (u := U) (U := U.calling g mk a) (Vm.Alike.refl U.vm) qK, qD⟩, va_recv hK hP (ci := 7) (q0 := i7) rfl hi7, fun U hU hW => ⟨rfl, by rw [hU], by rw [hU]; exact hP, va_K.moved hW.alike hK, hD.weaken (fun _ _ _ _ => trivial)⟩⟩ rfl rfl hl.1 rfl (lv_room (Nat.le_of_ble_eq_true rfl)) dX11_turn_22 ⟨Nat.le_of_ble_eq_true rfl, Nat.le_of_ble_eq_true rfl⟩) hS (fun q _ h => hFc q h) hFc (fun r22 w8 t H1 locs ht hvm hw hB hz1 hk1 hS => ?_)
    obtain ⟨hw0, hW, hT⟩ := hw
    replace hw0 : r22 = r22z := hw0
    subst hw0
    obtain ⟨hP1, hK1, hD1⟩ := hB
    rw [ht] at hP1
    obtain ⟨hP, hD⟩ := jn_all (w1 := w8) hFc hP1 hD1
    replace hP : va_P (dC, dI) vwCl w8 H1 := hP
    replace hD : va_D A w8 := hD
    clear hFc hP1 hK1 hD1 hk1 hz1 ht hvm
    generalize H1 = H at hP hS ⊢
    refine lv_if_ne (tgt := 31) hx hb dX11_turn_25 (by decide) (fun c25 => ?_) (fun c25 => ?_)
    · replace hr := iteF c25 hr
      refine lv_aload_n hx hb dX11_turn_31 rfl (lv_at hl 1 rfl) ?_
      obtain ⟨i9, hi9⟩ := hW.o11 hk_this
      replace hr := nnS hr
      obtain ⟨a32, hn32, hr⟩ := hr
      have hk_a32 : kd a32 = 11 := hT.1 227 _ _ hn32
      refine va_get (D := (dC, dI)) (ci := 11) (v := .ref (ad a32)) (C := RX11) (T := TX11) (N := 17) hx hb hts inX11 hown hK hP i9 hi9 rfl 7 (by decide) (hts (.fieldLink RX11 53 "SpellTurner" "latestForms" "LSpellTurner$WordRow;") ic_135) (fun _ h9 => h9) (congrArg (fun o => some (va_re ad o)) hn32) dX11_turn_32 ?_
      refine lv_aload_n hx hb dX11_turn_35 rfl (lv_at hl 1 rfl) ?_
      obtain ⟨i10, hi10⟩ := hW.o11 hk_this
      replace hr := nnS hr
      obtain ⟨a36, hn36, hr⟩ := hr
      have hk_a36 : kd a36 = 10 := hT.1 226 _ _ hn36
      refine va_get (D := (dC, dI)) (ci := 11) (v := .ref (ad a36)) (C := RX11) (T := TX11) (N := 17) hx hb hts inX11 hown hK hP i10 hi10 rfl 6 (by decide) (hts (.fieldLink RX11 44 "SpellTurner" "turner" "LSpellTurner$Turner;") ic_340) (fun _ h9 => h9) (congrArg (fun o => some (va_re ad o)) hn36) dX11_turn_36 ?_
      refine lv_aload_n hx hb dX11_turn_39 rfl (lv_at hl 1 rfl) ?_
      obtain ⟨i11, hi11⟩ := hW.o11 hk_this
      replace hr := nnS hr
      obtain ⟨a40, hn40, hr⟩ := hr
      have hk_a40 : kd a40 = 302 := hT.1 221 _ _ hn40
      refine va_get (D := (dC, dI)) (ci := 11) (v := .ref (ad a40)) (C := RX11) (T := TX11) (N := 17) hx hb hts inX11 hown hK hP i11 hi11 rfl 1 (by decide) (hts (.fieldLink RX11 18 "SpellTurner" "reforms" "[LSpellTurner$Reform;") ic_56) (fun _ h9 => h9) (congrArg (fun o => some (va_re ad o)) hn40) dX11_turn_40 ?_
      refine lv_iload_n hx hb dX11_turn_43 rfl (lv_at hl 2 rfl) ?_
      refine lv_iload_n hx hb dX11_turn_44 rfl (lv_at hl 3 rfl) ?_
      refine lv_aload_n hx hb dX11_turn_45 rfl (lv_at hl 1 rfl) ?_
      obtain ⟨i12, hi12⟩ := hW.o11 hk_this
      replace hr := nnS hr
      obtain ⟨a46, hn46, hr⟩ := hr
      have hk_a46 : kd a46 = 8 := hT.1 220 _ _ hn46
      refine va_get (D := (dC, dI)) (ci := 11) (v := .ref (ad a46)) (C := RX11) (T := TX11) (N := 17) hx hb hts inX11 hown hK hP i12 hi12 rfl 0 (by decide) (hts (.fieldLink RX11 12 "SpellTurner" "tape" "LSpellTurner$Tape;") ic_48) (fun _ h9 => h9) (congrArg (fun o => some (va_re ad o)) hn46) dX11_turn_46 ?_
      obtain ⟨i13, hi13⟩ := hW.o7 hk_a46
      replace hr := nnS hr
      obtain ⟨a49, hn49, hr⟩ := hr
      have hk_a49 : kd a49 = 100 := hT.1 140 _ _ hn49
      refine va_get (D := (dC, dI)) (ci := 7) (v := .ref (ad a49)) (C := RX7) (T := TX7) (N := 2) hx hb hts inX7 hown hK hP i13 hi13 rfl 0 (by decide) (hts (.fieldLink RX11 120 "SpellTurner$Tape" "bytes" "[B") ic_107) (fun _ h9 => h9) (congrArg (fun o => some (va_re ad o)) hn49) dX11_turn_49 ?_
      refine lv_iconst (v := 0) hx hb dX11_turn_52 (by decide +kernel) ?_
      refine lv_iload_n hx hb dX11_turn_53 rfl (lv_at hl 0 rfl) ?_
      replace hr := b14S hr
      obtain ⟨r54, c54_G60, c54_G183, c54_G203, c54_P66, c54_P181, c54_P182, c54_P186, c54_P187, c54_U184, c54_V0, c54_V1, c54_V2, c54_V12, hc54, hr⟩ := hr
      have hFc := fr_all hD hS hA
      obtain ⟨i14, hi14⟩ := hW.o9 hk_a36
      refine va_calle (va_runV (As := [.ref (ad a40), .int p0, .int p1, .ref (ad a49), .int 0, .int r4]) (rest := [.ref (ad a32)]) ⟨hx, hb, hml, hown, hts⟩ (m_X9_through l dC dI kk ad H.size w8 (va_up G 141 c4_G141) P U V X O kd ln cnt a36 a40 p0 p1 a49 0 r4 hk_a36 hk_a40 hk_a49 hW hT r54 c54_G60 c54_G183 c54_G203 c54_P66 c54_P181 c54_P182 c54_P186 c54_P187 c54_U184 c54_V0 c54_V1 c54_V2 c54_V12 hc54) (cwV 6 hts gc_RX11_X9_through_168 rfl rfl rfl (by decide +kernel) ⟨Nat.le_of_ble_eq_true rfl, Nat.le_of_ble_eq_true rfl⟩) ⟨fun a U g mk q => by obtain ⟨q0, q1, qP, qK, qD⟩ := q; exact ⟨q0, q1, qP, va_K.moved (u := U) (U := U.calling g mk a) (Vm.Alike.refl U.vm) qK, qD⟩, va_recv hK hP (ci := 9) (q0 := i14) rfl hi14, fun U hU hW => ⟨rfl, by rw [hU], by rw [hU]; exact hP, va_K.moved hW.alike hK, hD.weaken (fun _ _ _ _ => trivial)⟩⟩ rfl rfl hl.1 rfl (lv_room (Nat.le_of_ble_eq_true rfl)) dX11_turn_54 ⟨Nat.le_of_ble_eq_true rfl, Nat.le_of_ble_eq_true rfl⟩) hS (fun q _ h => hFc q h) hFc (fun qo54 w15 t H1 locs ht hvm hw hB hz1 hk1 hS => ?_)
      obtain ⟨hw0, hW, hT, hkr54⟩ := hw
      subst hw0
      obtain ⟨hP1, hK1, hD1⟩ := hB
      rw [ht] at hP1
      obtain ⟨hP, hD⟩ := jn_all (w1 := w15) hFc hP1 hD1
      replace hP : va_P (dC, dI) vwCl w15 H1 := hP
      replace hD : va_D A w15 := hD
      clear hFc hP1 hK1 hD1 hk1 hz1 ht hvm
      generalize H1 = H at hP hS ⊢
      replace hr := b3S hr
      obtain ⟨c57_G203, c57_V0, c57_V1, hc57, hr⟩ := hr
      have hFc := fr_all hD hS hA
      obtain ⟨i16, hi16⟩ := hW.o10 hk_a32
      refine va_callv (va_runV (As := [.ref (ad r54)]) (rest := []) ⟨hx, hb, hml, hown, hts⟩ (m_X10_copy l dC dI kk ad H.size w15 (va_up (va_up (va_up (va_up G 141 c4_G141) 60 c54_G60) 183 c54_G183) 203 c54_G203) (va_up (va_up (va_up (va_up (va_up P 66 c54_P66) 181 c54_P181) 182 c54_P182) 186 c54_P186) 187 c54_P187) (va_up U 184 c54_U184) (va_up (va_up (va_up (va_up V 0 c54_V0) 1 c54_V1) 2 c54_V2) 12 c54_V12) X O kd ln cnt a32 r54 hk_a32 hkr54 hW hT c57_G203 c57_V0 c57_V1 hc57) (cwV 1 hts gc_RX11_X10_copy_172 rfl rfl rfl (by decide +kernel) ⟨Nat.le_of_ble_eq_true rfl, Nat.le_of_ble_eq_true rfl⟩) ⟨fun a U g mk q => by obtain ⟨q0, q1, qP, qK, qD⟩ := q; exact ⟨q0, q1, qP, va_K.moved (u := U) (U := U.calling g mk a) (Vm.Alike.refl U.vm) qK, qD⟩, va_recv hK hP (ci := 10) (q0 := i16) rfl hi16, fun U hU hW => ⟨rfl, by rw [hU], by rw [hU]; exact hP, va_K.moved hW.alike hK, hD.weaken (fun _ _ _ _ => trivial)⟩⟩ rfl rfl hl.1 rfl (lv_room (Nat.le_of_ble_eq_true rfl)) dX11_turn_57 ⟨Nat.le_of_ble_eq_true rfl, Nat.le_of_ble_eq_true rfl⟩) hS (fun q _ h => hFc q h) hFc (fun w17 t H1 locs ht hvm hw hB hz1 hk1 hS => ?_)
      obtain ⟨hW, hT⟩ := hw
      obtain ⟨hP1, hK1, hD1⟩ := hB
      rw [ht] at hP1
      obtain ⟨hP, hD⟩ := jn_all (w1 := w17) hFc hP1 hD1
      replace hP : va_P (dC, dI) vwCl w17 H1 := hP
      replace hD : va_D A w17 := hD
      clear hFc hP1 hK1 hD1 hk1 hz1 ht hvm
      generalize H1 = H at hP hS ⊢
      refine lv_aload_n hx hb dX11_turn_60 rfl (lv_at hl 1 rfl) ?_
      obtain ⟨i18, hi18⟩ := hW.o11 hk_this
      replace hr := nnS hr
      obtain ⟨a61, hn61, hr⟩ := hr
      have hk_a61 : kd a61 = 11 := hT.1 227 _ _ hn61
      refine va_get (D := (dC, dI)) (ci := 11) (v := .ref (ad a61)) (C := RX11) (T := TX11) (N := 17) hx hb hts inX11 hown hK hP i18 hi18 rfl 7 (by decide) (hts (.fieldLink RX11 53 "SpellTurner" "latestForms" "LSpellTurner$WordRow;") ic_135) (fun _ h9 => h9) (congrArg (fun o => some (va_re ad o)) hn61) dX11_turn_61 ?_
      obtain ⟨i19, hi19⟩ := hW.o10 hk_a61
      refine va_get (D := (dC, dI)) (ci := 10) (v := .int (c57_G203 a61)) (C := RX10) (T := TX10) (N := 4) hx hb hts inX10 hown hK hP i19 hi19 rfl 3 (by decide) (hts (.fieldLink RX11 151 "SpellTurner$WordRow" "count" "I") ic_67) (fun _ h9 => h9) rfl dX11_turn_64 ?_
      have eG : (va_up (va_up (va_up (va_up (va_up G 141 c4_G141) 60 c54_G60) 183 c54_G183) 203 c54_G203) 203 c57_G203) = (va_up (va_up (va_up (va_up G 60 c54_G60) 141 c4_G141) 183 c54_G183) 203 c57_G203) := by
        funext k
        by_cases h60 : k = 60
        · subst h60; rfl
        by_cases h141 : k = 141
        · subst h141; rfl
        by_cases h183 : k = 183
        · subst h183; rfl
        by_cases h203 : k = 203
        · subst h203; rfl
        · simp only [va_up, h60, h141, h183, h203, if_false]
      rw [eG] at hW
      clear eG
      have eV : (va_up (va_up (va_up (va_up (va_up (va_up V 0 c54_V0) 1 c54_V1) 2 c54_V2) 12 c54_V12) 0 c57_V0) 1 c57_V1) = (va_up (va_up (va_up (va_up V 0 c57_V0) 1 c57_V1) 2 c54_V2) 12 c54_V12) := by
        funext k
        by_cases h0 : k = 0
        · subst h0; rfl
        by_cases h1 : k = 1
        · subst h1; rfl
        by_cases h2 : k = 2
        · subst h2; rfl
        by_cases h12 : k = 12
        · subst h12; rfl
        · simp only [va_up, h0, h1, h2, h12, if_false]
      rw [eV] at hW
      clear eV
      exact K 67 ls _ _ _ _ _ _ _ _ _ _ _ _ _ _ _ w17 H _ hr dX11_turn_67 hW hT hP hD hS
    · replace hr := iteT c25 hr
      exact Jj28 w8 H _ ls hr hW hT hP hD hS (lv_sub hl [] rfl)
set_option maxHeartbeats 4000000 in
set_option maxRecDepth 100000 in
theorem m_X11_turn (l : Launch) (dC : Nat → ClassId) (dI : Nat → Nat → Nat) (kk : Nat → ClassId) (ad : Nat → Nat) (sz : Nat) (ws : va_W) (G : Nat → Nat → Int32) (P : Nat → Nat → Option Nat) (U : Nat → Nat → Int64) (V : Nat → Nat → Nat → Int32) (X : Nat → Nat → Nat → Int64) (O : Nat → Nat → Nat → Option Nat) (kd : Nat → Nat) (ln : Nat → Nat) (cnt : Nat) (this : Nat) (p0 : Int32) (p1 : Int32) (hk_this : kd this = 12) (hW : LW ws ad kk kd ln G P U V X O) (hT : TYP kd P O (V 0) cnt) (r : Int32) (c_G60 : Nat → Int32) (c_G141 : Nat → Int32) (c_G183 : Nat → Int32) (c_G203 : Nat → Int32) (c_P66 : Nat → Option Nat) (c_P181 : Nat → Option Nat) (c_P182 : Nat → Option Nat) (c_P186 : Nat → Option Nat) (c_P187 : Nat → Option Nat) (c_U184 : Nat → Int64) (c_V0 : Nat → Nat → Int32) (c_V1 : Nat → Nat → Int32) (c_V2 : Nat → Nat → Int32) (c_V12 : Nat → Nat → Int32) (hr : f_X11_turn G P U V X O kd ln cnt this p0 p1 = some (r, c_G60, c_G141, c_G183, c_G203, c_P66, c_P181, c_P182, c_P186, c_P187, c_U184, c_V0, c_V1, c_V2, c_V12)) : Met l yX11_turn vmX11_turn ({ frames := 49, cells := 0, slots := 0, locals := 1275 } : Room) (va_Pc [.ref (ad this), .int p0, .int p1] (fun U => U.heap.size = sz ∧ va_P (dC, dI) vwCl ws U.heap ∧ va_K (dC, dI) vwCl (cT kk) U ∧ va_D (fun _ => True) ws)) (va_Qi (fun (rz : Int32) (w : va_W) => rz = r ∧ LW w ad kk kd ln (va_up (va_up (va_up (va_up G 60 c_G60) 141 c_G141) 183 c_G183) 203 c_G203) (va_up (va_up (va_up (va_up (va_up P 66 c_P66) 181 c_P181) 182 c_P182) 186 c_P186) 187 c_P187) (va_up U 184 c_U184) (va_up (va_up (va_up (va_up V 0 c_V0) 1 c_V1) 2 c_V2) 12 c_V12) X O ∧ TYP kd (va_up (va_up (va_up (va_up (va_up P 66 c_P66) 181 c_P181) 182 c_P182) 186 c_P186) 187 c_P187) O c_V0 cnt) (fun w t => va_P (dC, dI) vwCl w t.heap ∧ va_K (dC, dI) vwCl (cT kk) t ∧ va_D (va_A ws sz) w) (va_A ws sz)) 0 0 (va_A ws sz) := by
  refine Met.ofW (cc := cX11_turn) (maxL := 4) (ret := (some .int)) (by decide) rfl ?_
  intro p e s m args below meth c s₁ B hml hv
  obtain ⟨rfl, hsz, hP, hK, hD0⟩ := hv
  have hx := B.exec
  have hb := B.bytes
  have hrt := B.returns
  have hts := atoms_spec (ws := vmX11_turn) B.pre
  have hown : s.vm.findClass RX11 = some m.cls := findClass_of_methodNamed B.named
  subst hsz
  have hD := hD0.self (sz := s.heap.size)
  generalize hAe : va_A ws s.heap.size = A at hD ⊢
  have hA : ∀ q : Nat, s.heap.size ≤ q → A q := fun q h => by rw [← hAe]; exact Or.inr h
  have hS : va_S A s.heap s.heap [] := va_S.rf
  have hl := lv_entry ([.ref (ad this), .int p0, .int p1]) (n := 4) (Nat.le_of_ble_eq_true rfl)
  rw [lg_entry_eq]
  generalize (lg_sl ([.ref (ad this), .int p0, .int p1]) ++ List.replicate (4 - (lg_sl ([.ref (ad this), .int p0, .int p1])).length) Slot.unset).toArray = ls at hl ⊢
  exact bm_X11_turn this p0 p1 hk_this r c_G60 c_G141 c_G183 c_G203 c_P66 c_P181 c_P182 c_P186 c_P187 c_U184 c_V0 c_V1 c_V2 c_V12 hr hx hb hml hown hts hA hK hW hT hP hD hS hl (fun pc ls rz c_G60z c_G141z c_G183z c_G203z c_P66z c_P181z c_P182z c_P186z c_P187z c_U184z c_V0z c_V1z c_V2z c_V12z ws H locs he hd hW hT hP hD hS => by cases he; exact W.iret (v := r) hx hb hrt (fun t ht hW9 => ⟨⟨r, ws, rfl, ⟨rfl, hW, hT⟩, by rw [ht]; exact hP, va_K.moved hW9.alike hK, hD⟩, hS.F ht⟩) hS.2.2 hd)
